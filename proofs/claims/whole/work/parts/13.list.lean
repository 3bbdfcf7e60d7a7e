def wp_Jx4a65c_size_8abf5 (m0 : Mm) (v0 : Nat) (Φ : Int32 → Mm → Prop) : Prop :=
  mT m0 v0 = 0 ∧ Φ (mI m0 v0 2) m0
abbrev rm_Jx4a65c_size_8abf5 : Room := { frames := 0, cells := 0, slots := 0, locals := 0 }
set_option maxHeartbeats 4000000 in
set_option maxRecDepth 100000 in
theorem c_Jx4a65c_size_8abf5 (l : Launch) (g : Gv) (m0 : Mm) (v0 : Nat) (Φ : Int32 → Mm → Prop) (hw : wp_Jx4a65c_size_8abf5 m0 v0 Φ) : Met l yJx4a65c_size_8abf5 wsJx4a65c_size_8abf5 rm_Jx4a65c_size_8abf5 (PP g [.ref (ad g v0)] m0) (QQ g vI Φ) 0 0 (Ag g) := by
  refine CT_of (by decide +kernel) rfl (Nat.le_of_ble_eq_true rfl) ?_
  intro p e s m below meth c hx hb hr hml hown hts hlk hnm hK hW ls hl
  have hown : s.vm.findClass RJx4a65c = some m.cls := hown
  have hl : lv_has ls 1 [(0, .ref (ad g v0))] := hl
  have i0 : ∀ w ∈ u_ws RJx4a65c TJx4a65c 3, w ∈ wsJx4a65c_size_8abf5 := by decide +kernel
  unfold wp_Jx4a65c_size_8abf5 at hw
  refine lv_aload_n hx hb dJx4a65c_size_8abf5_0 rfl (lv_at hl 0 rfl) ?_
  refine R_getI (C := RJx4a65c) (T := TJx4a65c) (N := 3) hx hb hts i0 hown hK hW 2 hw.1 (by decide) rfl (by decide) (hts (.fieldLink RJx4a65c 48 "java/util/ArrayList" "size" "I") (by decide +kernel)) (fun _ h => h) (fun _ _ _ => rfl) dJx4a65c_size_8abf5_1 ?_
  have hw := hw.2
  exact R_iret hx hb hr hlk hW hw dJx4a65c_size_8abf5_4

def wp_J3_checkIndex_8e157_9 (v0 : Int32) (v1 : Int32) (mm : Mm) (Φ : Int32 → Mm → Prop) : Prop :=
  False
def wp_J3_checkIndex_8e157 (m0 : Mm) (v0 : Int32) (v1 : Int32) (Φ : Int32 → Mm → Prop) : Prop :=
  ((v0 < 0 → wp_J3_checkIndex_8e157_9 v0 v1 m0 Φ) ∧ (¬ v0 < 0 → ((v0 < v1 → Φ v0 m0) ∧ (¬ v0 < v1 → wp_J3_checkIndex_8e157_9 v0 v1 m0 Φ))))
abbrev rm_J3_checkIndex_8e157 : Room := { frames := 0, cells := 0, slots := 0, locals := 0 }
set_option maxHeartbeats 4000000 in
set_option maxRecDepth 100000 in
theorem c_J3_checkIndex_8e157 (l : Launch) (g : Gv) (m0 : Mm) (v0 : Int32) (v1 : Int32) (Φ : Int32 → Mm → Prop) (hw : wp_J3_checkIndex_8e157 m0 v0 v1 Φ) : Met l yJ3_checkIndex_8e157 wsJ3_checkIndex_8e157 rm_J3_checkIndex_8e157 (PP g [.int v0, .int v1, .null] m0) (QQ g vI Φ) 0 0 (Ag g) := by
  refine CT_of (by decide +kernel) rfl (Nat.le_of_ble_eq_true rfl) ?_
  intro p e s m below meth c hx hb hr hml hown hts hlk hnm hK hW ls hl
  have hown : s.vm.findClass RJ3 = some m.cls := hown
  have hl : lv_has ls 3 [(0, .int v0), (1, .int v1), (2, .null)] := hl
  have B9 : ∀ (mm : Mm), wp_J3_checkIndex_8e157_9 v0 v1 mm Φ → WW p l e rm_J3_checkIndex_8e157 s m ([.int v0, .int v1, .null] : List Value).toArray below meth c (MQ below (QQ g vI Φ) ([.int v0, .int v1, .null] : List Value).toArray s 0 0 (Ag g)) g mm 3 0 0 9 [(0, .int v0), (1, .int v1), (2, .null)] [] := by
    intro  mm hw H locs ls hW hl
    unfold wp_J3_checkIndex_8e157_9 at hw
    refine lv_aload_nN hx hb dJ3_checkIndex_8e157_9 rfl (lv_at hl 2 rfl) ?_
    refine lv_iload_n hx hb dJ3_checkIndex_8e157_10 rfl (lv_at hl 0 rfl) ?_
    refine lv_iload_n hx hb dJ3_checkIndex_8e157_11 rfl (lv_at hl 1 rfl) ?_
    exact hw.elim
  unfold wp_J3_checkIndex_8e157 at hw
  refine lv_iload_n hx hb dJ3_checkIndex_8e157_0 rfl (lv_at hl 0 rfl) ?_
  refine lv_if_lt (tgt := 9) hx hb dJ3_checkIndex_8e157_1 (by decide) (fun c1 => ?_) (fun c1 => ?_)
  · have hw := hw.1 c1
    exact B9  m0 hw _ _ _ hW (lv_sub hl [0, 1, 2] rfl)
  · have hw := hw.2 c1
    refine lv_iload_n hx hb dJ3_checkIndex_8e157_4 rfl (lv_at hl 0 rfl) ?_
    refine lv_iload_n hx hb dJ3_checkIndex_8e157_5 rfl (lv_at hl 1 rfl) ?_
    refine lv_icmp_lt (tgt := 16) hx hb dJ3_checkIndex_8e157_6 (by decide) (fun c2 => ?_) (fun c2 => ?_)
    · have hw := hw.1 c2
      refine lv_iload_n hx hb dJ3_checkIndex_8e157_16 rfl (lv_at hl 0 rfl) ?_
      exact R_iret hx hb hr hlk hW hw dJ3_checkIndex_8e157_17
    · have hw := hw.2 c2
      exact B9  m0 hw _ _ _ hW (lv_sub hl [0, 1, 2] rfl)

def wp_J15_checkIndex_7cf53 (m0 : Mm) (v0 : Int32) (v1 : Int32) (Φ : Int32 → Mm → Prop) : Prop :=
  wp_J3_checkIndex_8e157 m0 v0 v1 (fun (r1 : Int32) (m2 : Mm) => Φ r1 m2)
abbrev rm_J15_checkIndex_7cf53 : Room := { frames := 1, cells := 0, slots := 0, locals := 22 }
set_option maxHeartbeats 4000000 in
set_option maxRecDepth 100000 in
theorem c_J15_checkIndex_7cf53 (l : Launch) (g : Gv) (m0 : Mm) (v0 : Int32) (v1 : Int32) (Φ : Int32 → Mm → Prop) (hw : wp_J15_checkIndex_7cf53 m0 v0 v1 Φ) : Met l yJ15_checkIndex_7cf53 wsJ15_checkIndex_7cf53 rm_J15_checkIndex_7cf53 (PP g [.int v0, .int v1] m0) (QQ g vI Φ) 0 0 (Ag g) := by
  refine CT_of (by decide +kernel) rfl (Nat.le_of_ble_eq_true rfl) ?_
  intro p e s m below meth c hx hb hr hml hown hts hlk hnm hK hW ls hl
  have hown : s.vm.findClass RJ15 = some m.cls := hown
  have hl : lv_has ls 2 [(0, .int v0), (1, .int v1)] := hl
  unfold wp_J15_checkIndex_7cf53 at hw
  refine lv_iload_n hx hb dJ15_checkIndex_7cf53_0 rfl (lv_at hl 0 rfl) ?_
  refine lv_iload_n hx hb dJ15_checkIndex_7cf53_1 rfl (lv_at hl 1 rfl) ?_
  refine lv_null hx hb dJ15_checkIndex_7cf53_2 ?_
  refine R_call (va_runS (As := [.int v0, .int v1, .null]) (rest := []) ⟨hx, hb, hml, hown, hts⟩ (c_J3_checkIndex_8e157 l g m0 v0 v1 _ hw) (va_cwS 3 hts gJ15_checkIndex_7cf53_J3_checkIndex_8e157 rfl rfl rfl (by decide +kernel) ⟨by decide, by decide⟩) (PP.pre hK hW) rfl rfl hl.1 rfl (lv_room (Nat.le_of_ble_eq_true rfl)) dJ15_checkIndex_7cf53_3 ⟨by decide, by decide⟩) hW (fun r1 m2 H locs hw hW => ?_)
  refine W.eq (g2 := F0 m 6 ls [.int r1]) rfl ?_
  exact R_iret hx hb hr hlk hW hw dJ15_checkIndex_7cf53_6

def wp_Jx4a65c_elementData_915e3 (m0 : Mm) (v0 : Nat) (v1 : Int32) (Φ : Nat → Mm → Prop) : Prop :=
  mT m0 v0 = 0 ∧ (mP m0 v0 1) ≠ 0 ∧ mT m0 (mP m0 v0 1) = 12 ∧ vp_in v1 (mN m0 (mP m0 v0 1)) ∧ (mP m0 (mP m0 v0 1) v1.toNatClampNeg) ≠ 0 ∧ Φ (mP m0 (mP m0 v0 1) v1.toNatClampNeg) m0
abbrev rm_Jx4a65c_elementData_915e3 : Room := { frames := 0, cells := 0, slots := 0, locals := 0 }
set_option maxHeartbeats 4000000 in
set_option maxRecDepth 100000 in
theorem c_Jx4a65c_elementData_915e3 (l : Launch) (g : Gv) (m0 : Mm) (v0 : Nat) (v1 : Int32) (Φ : Nat → Mm → Prop) (hw : wp_Jx4a65c_elementData_915e3 m0 v0 v1 Φ) : Met l yJx4a65c_elementData_915e3 wsJx4a65c_elementData_915e3 rm_Jx4a65c_elementData_915e3 (PP g [.ref (ad g v0), .int v1] m0) (QQ g (vR g) Φ) 0 0 (Ag g) := by
  refine CT_of (by decide +kernel) rfl (Nat.le_of_ble_eq_true rfl) ?_
  intro p e s m below meth c hx hb hr hml hown hts hlk hnm hK hW ls hl
  have hown : s.vm.findClass RJx4a65c = some m.cls := hown
  have hl : lv_has ls 2 [(0, .ref (ad g v0)), (1, .int v1)] := hl
  have i0 : ∀ w ∈ u_ws RJx4a65c TJx4a65c 3, w ∈ wsJx4a65c_elementData_915e3 := by decide +kernel
  unfold wp_Jx4a65c_elementData_915e3 at hw
  refine lv_aload_n hx hb dJx4a65c_elementData_915e3_0 rfl (lv_at hl 0 rfl) ?_
  refine R_getP (C := RJx4a65c) (T := TJx4a65c) (N := 3) hx hb hts i0 hown hK hW 1 hw.1 (by decide) rfl (by decide) (hts (.fieldLink RJx4a65c 9 "java/util/ArrayList" "elementData" "[Ljava/lang/Object;") (by decide +kernel)) (fun _ h => h) (fun _ _ _ => rfl) hw.2.1 dJx4a65c_elementData_915e3_1 ?_
  have hw := hw.2.2
  refine lv_iload_n hx hb dJx4a65c_elementData_915e3_4 rfl (lv_at hl 1 rfl) ?_
  refine R_aald hx hb hK hW hw.1 hw.2.1 hw.2.2.1 dJx4a65c_elementData_915e3_5 ?_
  have hw := hw.2.2.2
  exact R_aret hx hb hr (Or.inl ⟨_, rfl⟩) hlk hW hw dJx4a65c_elementData_915e3_6

def wp_Jx4a65c_get_915e3 (m0 : Mm) (v0 : Nat) (v1 : Int32) (Φ : Nat → Mm → Prop) : Prop :=
  mT m0 v0 = 0 ∧ wp_J15_checkIndex_7cf53 m0 v1 (mI m0 v0 2) (fun (r1 : Int32) (m2 : Mm) => mT m2 v0 = 0 ∧ wp_Jx4a65c_elementData_915e3 m2 v0 v1 (fun (r3 : Nat) (m4 : Mm) => Φ r3 m4))
abbrev rm_Jx4a65c_get_915e3 : Room := { frames := 2, cells := 0, slots := 0, locals := 43 }
set_option maxHeartbeats 4000000 in
set_option maxRecDepth 100000 in
theorem c_Jx4a65c_get_915e3 (l : Launch) (g : Gv) (m0 : Mm) (v0 : Nat) (v1 : Int32) (Φ : Nat → Mm → Prop) (hw : wp_Jx4a65c_get_915e3 m0 v0 v1 Φ) : Met l yJx4a65c_get_915e3 wsJx4a65c_get_915e3 rm_Jx4a65c_get_915e3 (PP g [.ref (ad g v0), .int v1] m0) (QQ g (vR g) Φ) 0 0 (Ag g) := by
  refine CT_of (by decide +kernel) rfl (Nat.le_of_ble_eq_true rfl) ?_
  intro p e s m below meth c hx hb hr hml hown hts hlk hnm hK hW ls hl
  have hown : s.vm.findClass RJx4a65c = some m.cls := hown
  have hl : lv_has ls 2 [(0, .ref (ad g v0)), (1, .int v1)] := hl
  have i0 : ∀ w ∈ u_ws RJx4a65c TJx4a65c 3, w ∈ wsJx4a65c_get_915e3 := by decide +kernel
  unfold wp_Jx4a65c_get_915e3 at hw
  refine lv_iload_n hx hb dJx4a65c_get_915e3_0 rfl (lv_at hl 1 rfl) ?_
  refine lv_aload_n hx hb dJx4a65c_get_915e3_1 rfl (lv_at hl 0 rfl) ?_
  refine R_getI (C := RJx4a65c) (T := TJx4a65c) (N := 3) hx hb hts i0 hown hK hW 2 hw.1 (by decide) rfl (by decide) (hts (.fieldLink RJx4a65c 48 "java/util/ArrayList" "size" "I") (by decide +kernel)) (fun _ h => h) (fun _ _ _ => rfl) dJx4a65c_get_915e3_2 ?_
  have hw := hw.2
  refine R_call (va_runS (As := [.int v1, .int (mI m0 v0 2)]) (rest := []) ⟨hx, hb, hml, hown, hts⟩ (c_J15_checkIndex_7cf53 l g m0 v1 (mI m0 v0 2) _ hw) (va_cwS 2 hts gJx4a65c_get_915e3_J15_checkIndex_7cf53 rfl rfl rfl (by decide +kernel) ⟨by decide, by decide⟩) (PP.pre hK hW) rfl rfl hl.1 rfl (lv_room (Nat.le_of_ble_eq_true rfl)) dJx4a65c_get_915e3_5 ⟨by decide, by decide⟩) hW (fun r1 m2 H locs hw hW => ?_)
  refine W.eq (g2 := F0 m 8 ls [.int r1]) rfl ?_
  refine lv_pop hx hb dJx4a65c_get_915e3_8 rfl ?_
  refine lv_aload_n hx hb dJx4a65c_get_915e3_9 rfl (lv_at hl 0 rfl) ?_
  refine lv_iload_n hx hb dJx4a65c_get_915e3_10 rfl (lv_at hl 1 rfl) ?_
  refine R_call (va_runV (As := [.int v1]) (rest := []) ⟨hx, hb, hml, hown, hts⟩ (c_Jx4a65c_elementData_915e3 l g m2 v0 v1 _ hw.2) (cwV 1 hts gJx4a65c_get_915e3_Jx4a65c_elementData_915e3 rfl rfl rfl (by decide +kernel) ⟨by decide, by decide⟩) (PP.preV (q := (RJx4a65c, TJx4a65c, 3)) hK hW hw.1 (by decide) rfl) rfl rfl hl.1 rfl (lv_room (Nat.le_of_ble_eq_true rfl)) dJx4a65c_get_915e3_11 ⟨by decide, by decide⟩) hW (fun r3 m4 H locs hw hW => ?_)
  refine W.eq (g2 := F0 m 14 ls [.ref (ad g r3)]) rfl ?_
  exact R_aret hx hb hr (Or.inl ⟨_, rfl⟩) hlk hW hw dJx4a65c_get_915e3_14

def wp_J8_newLength_cabcc_21 (v0 : Int32) (v1 : Int32) (mm : Mm) (Φ : Int32 → Mm → Prop) : Prop :=
  False
def wp_J8_newLength_cabcc (m0 : Mm) (v0 : Int32) (v1 : Int32) (v2 : Int32) (Φ : Int32 → Mm → Prop) : Prop :=
  (((v0 + (if v1 < v2 then v2 else v1)) ≤ (0 : Int32) → wp_J8_newLength_cabcc_21 v0 v1 m0 Φ) ∧ (¬ (v0 + (if v1 < v2 then v2 else v1)) ≤ (0 : Int32) → (((2147483639 : Int32) < (v0 + (if v1 < v2 then v2 else v1)) → wp_J8_newLength_cabcc_21 v0 v1 m0 Φ) ∧ (¬ (2147483639 : Int32) < (v0 + (if v1 < v2 then v2 else v1)) → Φ (v0 + (if v1 < v2 then v2 else v1)) m0))))
abbrev rm_J8_newLength_cabcc : Room := { frames := 1, cells := 0, slots := 0, locals := 30 }
set_option maxHeartbeats 4000000 in
set_option maxRecDepth 100000 in
theorem c_J8_newLength_cabcc (l : Launch) (g : Gv) (m0 : Mm) (v0 : Int32) (v1 : Int32) (v2 : Int32) (Φ : Int32 → Mm → Prop) (hw : wp_J8_newLength_cabcc m0 v0 v1 v2 Φ) : Met l yJ8_newLength_cabcc wsJ8_newLength_cabcc rm_J8_newLength_cabcc (PP g [.int v0, .int v1, .int v2] m0) (QQ g vI Φ) 0 0 (Ag g) := by
  refine CT_of (by decide +kernel) rfl (Nat.le_of_ble_eq_true rfl) ?_
  intro p e s m below meth c hx hb hr hml hown hts hlk hnm hK hW ls hl
  have hown : s.vm.findClass RJ8 = some m.cls := hown
  have hl : lv_has ls 4 [(0, .int v0), (1, .int v1), (2, .int v2)] := hl
  have B21 : ∀ (mm : Mm), wp_J8_newLength_cabcc_21 v0 v1 mm Φ → WW p l e rm_J8_newLength_cabcc s m ([.int v0, .int v1, .int v2] : List Value).toArray below meth c (MQ below (QQ g vI Φ) ([.int v0, .int v1, .int v2] : List Value).toArray s 0 0 (Ag g)) g mm 4 0 0 21 [(0, .int v0), (1, .int v1)] [] := by
    intro  mm hw H locs ls hW hl
    unfold wp_J8_newLength_cabcc_21 at hw
    refine lv_iload_n hx hb dJ8_newLength_cabcc_21 rfl (lv_at hl 0 rfl) ?_
    refine lv_iload_n hx hb dJ8_newLength_cabcc_22 rfl (lv_at hl 1 rfl) ?_
    exact hw.elim
  unfold wp_J8_newLength_cabcc at hw
  refine lv_iload_n hx hb dJ8_newLength_cabcc_0 rfl (lv_at hl 0 rfl) ?_
  refine lv_iload_n hx hb dJ8_newLength_cabcc_1 rfl (lv_at hl 1 rfl) ?_
  refine lv_iload_n hx hb dJ8_newLength_cabcc_2 rfl (lv_at hl 2 rfl) ?_
  refine va_mmax hx hb (by rw [hml]; exact hl.1.symm) hown (hts (.methodLink RJ8 194 Lib.Math.max.name) (by decide +kernel)) (hts (.static Lib.Math.max.name) (by decide +kernel)) (hts (.initialized "java/lang/Math") (by decide +kernel)) (hts (.code Lib.Math.max.name Lib.Math.max.code 2 (some .int)) (by decide +kernel)) (Nat.le_of_ble_eq_true rfl) (Nat.le_of_ble_eq_true rfl) (Nat.le_of_ble_eq_true rfl) (Nat.le_of_ble_eq_true rfl) dJ8_newLength_cabcc_3 ?_
  refine lv_iadd hx hb dJ8_newLength_cabcc_6 ?_
  refine lv_istore_n (lv' := [(3, .int (v0 + (if v1 < v2 then v2 else v1))), (0, .int v0), (1, .int v1), (2, .int v2)]) hx hb dJ8_newLength_cabcc_7 rfl hl (by decide) rfl (fun ls hl => ?_)
  refine lv_iconst (v := (0 : Int32)) hx hb dJ8_newLength_cabcc_8 (by decide) ?_
  refine lv_iload_n hx hb dJ8_newLength_cabcc_9 rfl (lv_at hl 0 rfl) ?_
  refine lv_icmp_ge (tgt := 21) hx hb dJ8_newLength_cabcc_10 (by decide) (fun c1 => ?_) (fun c1 => ?_)
  · have hw := hw.1 c1
    exact B21  m0 hw _ _ _ hW (lv_sub hl [1, 2] rfl)
  · have hw := hw.2 c1
    refine lv_iload_n hx hb dJ8_newLength_cabcc_13 rfl (lv_at hl 0 rfl) ?_
    refine lv_ldc hx hb hown (hts (.constant RJ8 200 (2147483639)) (by decide +kernel)) dJ8_newLength_cabcc_14 ?_
    refine lv_icmp_gt (tgt := 21) hx hb dJ8_newLength_cabcc_16 (by decide) (fun c2 => ?_) (fun c2 => ?_)
    · have hw := hw.1 c2
      exact B21  m0 hw _ _ _ hW (lv_sub hl [1, 2] rfl)
    · have hw := hw.2 c2
      refine lv_iload_n hx hb dJ8_newLength_cabcc_19 rfl (lv_at hl 0 rfl) ?_
      exact R_iret hx hb hr hlk hW hw dJ8_newLength_cabcc_20

def wp_J7_copyOf_6403c_24 (v0 : Nat) (v1 : Int32) (s0 : Nat) (mm : Mm) (Φ : Nat → Mm → Prop) : Prop :=
  mT mm v0 = 12 ∧ mT mm v0 = 12 ∧ v0 ≠ 1 ∧ mT mm s0 = 12 ∧ s0 ≠ 1 ∧ cpok (0 : Int32) (0 : Int32) (if v1 < (nI (mN mm v0)) then v1 else (nI (mN mm v0))) (mN mm v0) (mN mm s0) ∧ (∀ i, i < (if v1 < (nI (mN mm v0)) then v1 else (nI (mN mm v0))).toNatClampNeg → mP mm v0 ((0 : Int32).toNatClampNeg + i) = 0 ∨ mT mm (mP mm v0 ((0 : Int32).toNatClampNeg + i)) = 1) ∧ ∀ m1 : Mm, m1 = rP mm s0 (va_cpy (mP mm v0) (mP mm s0) (0 : Int32).toNatClampNeg (0 : Int32).toNatClampNeg (if v1 < (nI (mN mm v0)) then v1 else (nI (mN mm v0))).toNatClampNeg) → Φ s0 m1
def wp_J7_copyOf_6403c (m0 : Mm) (v0 : Nat) (v1 : Int32) (v2 : Nat) (Φ : Nat → Mm → Prop) : Prop :=
  v2 = 2 ∧ ¬ v1 < 0 ∧ v1.toNatClampNeg ≤ 32 ∧ ∀ m3 : Mm, m3 = nw m0 12 v1.toNatClampNeg → wp_J7_copyOf_6403c_24 v0 v1 (mS m0) m3 Φ
abbrev rm_J7_copyOf_6403c : Room := { frames := 1, cells := 1, slots := 32, locals := 80 }
set_option maxHeartbeats 4000000 in
set_option maxRecDepth 100000 in
theorem c_J7_copyOf_6403c (l : Launch) (g : Gv) (m0 : Mm) (v0 : Nat) (v1 : Int32) (v2 : Nat) (Φ : Nat → Mm → Prop) (hw : wp_J7_copyOf_6403c m0 v0 v1 v2 Φ) : Met l yJ7_copyOf_6403c wsJ7_copyOf_6403c rm_J7_copyOf_6403c (PP g [.ref (ad g v0), .int v1, .ref (ad g v2)] m0) (QQ g (vR g) Φ) 1 32 (Ag g) := by
  refine CT_of (by decide +kernel) rfl (Nat.le_of_ble_eq_true rfl) ?_
  intro p e s m below meth c hx hb hr hml hown hts hlk hnm hK hW ls hl
  have hown : s.vm.findClass RJ7 = some m.cls := hown
  have hl : lv_has ls 4 [(0, .ref (ad g v0)), (1, .int v1), (2, .ref (ad g v2))] := hl
  have B24 : ∀ (s0 : Nat) (mm : Mm), wp_J7_copyOf_6403c_24 v0 v1 s0 mm Φ → WW p l e rm_J7_copyOf_6403c s m ([.ref (ad g v0), .int v1, .ref (ad g v2)] : List Value).toArray below meth c (MQ below (QQ g (vR g) Φ) ([.ref (ad g v0), .int v1, .ref (ad g v2)] : List Value).toArray s 1 32 (Ag g)) g mm 4 1 32 24 [(0, .ref (ad g v0)), (1, .int v1)] [.ref (ad g s0)] := by
    intro s0 mm hw H locs ls hW hl
    unfold wp_J7_copyOf_6403c_24 at hw
    refine lv_astore_n (lv' := [(3, .ref (ad g s0)), (0, .ref (ad g v0)), (1, .int v1)]) hx hb dJ7_copyOf_6403c_24 rfl hl (by decide) rfl (fun ls hl => ?_)
    refine lv_aload_n hx hb dJ7_copyOf_6403c_25 rfl (lv_at hl 1 rfl) ?_
    refine lv_iconst (v := (0 : Int32)) hx hb dJ7_copyOf_6403c_26 (by decide) ?_
    refine lv_aload_n hx hb dJ7_copyOf_6403c_27 rfl (lv_at hl 0 rfl) ?_
    refine lv_iconst (v := (0 : Int32)) hx hb dJ7_copyOf_6403c_28 (by decide) ?_
    refine lv_aload_n hx hb dJ7_copyOf_6403c_29 rfl (lv_at hl 1 rfl) ?_
    refine R_alenO hx hb hK hW hw.1 dJ7_copyOf_6403c_30 ?_
    have hw := hw.2
    refine lv_iload_n hx hb dJ7_copyOf_6403c_31 rfl (lv_at hl 2 rfl) ?_
    refine va_mmin hx hb (by rw [hml]; exact hl.1.symm) hown (hts (.methodLink RJ7 304 Lib.Math.min.name) (by decide +kernel)) (hts (.static Lib.Math.min.name) (by decide +kernel)) (hts (.initialized "java/lang/Math") (by decide +kernel)) (hts (.code Lib.Math.min.name Lib.Math.min.code 2 (some .int)) (by decide +kernel)) (Nat.le_of_ble_eq_true rfl) (Nat.le_of_ble_eq_true rfl) (Nat.le_of_ble_eq_true rfl) (Nat.le_of_ble_eq_true rfl) dJ7_copyOf_6403c_32 ?_
    refine R_copyO hx hb (by rw [hml]; exact hl.1.symm) hown (hts (.methodLink RJ7 150 arraycopyName) (by decide +kernel)) (hts (.native arraycopyName) (by decide +kernel)) (hts (.static arraycopyName) (by decide +kernel)) (hts (.initialized "java/lang/System") (by decide +kernel)) hK hW hw.1 hw.2.1 hw.2.2.1 hw.2.2.2.1 hw.2.2.2.2.1 hw.2.2.2.2.2.1 (Nat.le_of_ble_eq_true rfl) (Nat.le_of_ble_eq_true rfl) dJ7_copyOf_6403c_35 (fun H locs hW => ?_)
    obtain ⟨m1, em1⟩ : ∃ z, z = rP mm s0 (va_cpy (mP mm v0) (mP mm s0) (0 : Int32).toNatClampNeg (0 : Int32).toNatClampNeg (if v1 < (nI (mN mm v0)) then v1 else (nI (mN mm v0))).toNatClampNeg) := ⟨_, rfl⟩
    rw [← em1] at hW
    have hw := hw.2.2.2.2.2.2 m1 em1
    refine lv_aload_n hx hb dJ7_copyOf_6403c_38 rfl (lv_at hl 0 rfl) ?_
    exact R_aret hx hb hr (Or.inr ⟨_, rfl⟩) hlk hW hw dJ7_copyOf_6403c_39
  unfold wp_J7_copyOf_6403c at hw
  refine lv_aload_n hx hb dJ7_copyOf_6403c_0 rfl (lv_at hl 2 rfl) ?_
  refine va_ldcM hx hb hown (hts (.classLink RJ7 110 "[Ljava/lang/Object;") (by decide +kernel)) hK.2.2.2.2.1 dJ7_copyOf_6403c_1 ?_
  obtain ⟨e2, hw⟩ := hw
  subst e2
  refine R_acmpne2 (tgt := 13) hx hb dJ7_copyOf_6403c_3 (by decide) ?_
  refine lv_iload_n hx hb dJ7_copyOf_6403c_6 rfl (lv_at hl 1 rfl) ?_
  refine R_newO hx hb hown (hts (.classLink RJ7 2 "java/lang/Object") (by decide +kernel)) hK hW 32 hw.1 hw.2.1 (by decide) (by decide) (by decide) dJ7_copyOf_6403c_7 (fun H hW => ?_)
  obtain ⟨m3, em3⟩ : ∃ z, z = nw m0 12 v1.toNatClampNeg := ⟨_, rfl⟩
  rw [← em3] at hW
  have hw := hw.2.2 m3 em3
  refine lv_goto (tgt := 24) hx hb dJ7_copyOf_6403c_10 (by decide) ?_
  exact B24 (mS m0) m3 hw _ _ _ hW (lv_sub hl [0, 1] rfl)

def wp_J7_copyOf_1904c (m0 : Mm) (v0 : Nat) (v1 : Int32) (Φ : Nat → Mm → Prop) : Prop :=
  mT m0 v0 = 12 ∧ v0 ≠ 1 ∧ wp_J7_copyOf_6403c m0 v0 v1 2 (fun (r1 : Nat) (m2 : Mm) => Φ r1 m2)
abbrev rm_J7_copyOf_1904c : Room := { frames := 2, cells := 1, slots := 32, locals := 103 }
set_option maxHeartbeats 4000000 in
set_option maxRecDepth 100000 in
theorem c_J7_copyOf_1904c (l : Launch) (g : Gv) (m0 : Mm) (v0 : Nat) (v1 : Int32) (Φ : Nat → Mm → Prop) (hw : wp_J7_copyOf_1904c m0 v0 v1 Φ) : Met l yJ7_copyOf_1904c wsJ7_copyOf_1904c rm_J7_copyOf_1904c (PP g [.ref (ad g v0), .int v1] m0) (QQ g (vR g) Φ) 1 32 (Ag g) := by
  refine CT_of (by decide +kernel) rfl (Nat.le_of_ble_eq_true rfl) ?_
  intro p e s m below meth c hx hb hr hml hown hts hlk hnm hK hW ls hl
  have hown : s.vm.findClass RJ7 = some m.cls := hown
  have hl : lv_has ls 2 [(0, .ref (ad g v0)), (1, .int v1)] := hl
  unfold wp_J7_copyOf_1904c at hw
  refine lv_aload_n hx hb dJ7_copyOf_1904c_0 rfl (lv_at hl 0 rfl) ?_
  refine lv_iload_n hx hb dJ7_copyOf_1904c_1 rfl (lv_at hl 1 rfl) ?_
  refine lv_aload_n hx hb dJ7_copyOf_1904c_2 rfl (lv_at hl 0 rfl) ?_
  refine va_getC (C := "[Ljava/lang/Object;") hx hb (by rw [hml]; exact hl.1.symm) hown (hts (.methodLink RJ7 86 ⟨"java/lang/Object", "getClass", "()Ljava/lang/Class;"⟩) (by decide +kernel)) (va_Dc.use hK.2.2.2.2.2.2.2.2.2.2.2.2) (hts (.selects "[Ljava/lang/Object;" ⟨"java/lang/Object", "getClass", "()Ljava/lang/Class;"⟩ ⟨"java/lang/Object", "getClass", "()Ljava/lang/Class;"⟩) (by decide +kernel)) (hts (.instanceMethod ⟨"java/lang/Object", "getClass", "()Ljava/lang/Class;"⟩) (by decide +kernel)) (hts (.native ⟨"java/lang/Object", "getClass", "()Ljava/lang/Class;"⟩) (by decide +kernel)) hK.2.2.2.2.1 (R_recvO hK hW hw.1 hw.2.1) (Nat.le_of_ble_eq_true rfl) (Nat.le_of_ble_eq_true rfl) dJ7_copyOf_1904c_3 ?_
  have hw := hw.2.2
  refine R_call (va_runS (As := [.ref (ad g v0), .int v1, .ref (ad g 2)]) (rest := []) ⟨hx, hb, hml, hown, hts⟩ (c_J7_copyOf_6403c l g m0 v0 v1 2 _ hw) (va_cwS 3 hts gJ7_copyOf_1904c_J7_copyOf_6403c rfl rfl rfl (by decide +kernel) ⟨by decide, by decide⟩) (PP.pre hK hW) rfl rfl hl.1 rfl (lv_room (Nat.le_of_ble_eq_true rfl)) dJ7_copyOf_1904c_6 ⟨by decide, by decide⟩) hW (fun r1 m2 H locs hw hW => ?_)
  refine W.eq (g2 := F0 m 9 ls [.ref (ad g r1)]) rfl ?_
  exact R_aret hx hb hr (Or.inr ⟨_, rfl⟩) hlk hW hw dJ7_copyOf_1904c_9

def wp_Jx4a65c_grow_92f84_20 (v0 : Nat) (v1 : Int32) (v2 : Int32) (mm : Mm) (Φ : Nat → Mm → Prop) : Prop :=
  wp_J8_newLength_cabcc mm v2 (v1 - v2) (v2 >>> ((1 : Int32) &&& 31)) (fun (r1 : Int32) (m2 : Mm) => mT m2 v0 = 0 ∧ (mP m2 v0 1) ≠ 0 ∧ wp_J7_copyOf_1904c m2 (mP m2 v0 1) r1 (fun (r3 : Nat) (m4 : Mm) => mT m4 v0 = 0 ∧ r3 ≠ 0 ∧ ∀ m5 : Mm, m5 = sP m4 v0 1 r3 → Φ r3 m5))
def wp_Jx4a65c_grow_92f84 (m0 : Mm) (v0 : Nat) (v1 : Int32) (Φ : Nat → Mm → Prop) : Prop :=
  mT m0 v0 = 0 ∧ (mP m0 v0 1) ≠ 0 ∧ mT m0 (mP m0 v0 1) = 12 ∧ ((0 < (nI (mN m0 (mP m0 v0 1))) → wp_Jx4a65c_grow_92f84_20 v0 v1 (nI (mN m0 (mP m0 v0 1))) m0 Φ) ∧ (¬ 0 < (nI (mN m0 (mP m0 v0 1))) → mT m0 v0 = 0 ∧ (mP m0 v0 1) ≠ 0 ∧ ((mP m0 v0 1) = 1 ∨ 8 ≤ (mP m0 v0 1)) ∧ ((mP m0 v0 1) = 1 → ¬ (if (10 : Int32) < v1 then v1 else (10 : Int32)) < 0 ∧ (if (10 : Int32) < v1 then v1 else (10 : Int32)).toNatClampNeg ≤ 32 ∧ ∀ m8 : Mm, m8 = nw m0 12 (if (10 : Int32) < v1 then v1 else (10 : Int32)).toNatClampNeg → mT m8 v0 = 0 ∧ (mS m0) ≠ 0 ∧ ∀ m9 : Mm, m9 = sP m8 v0 1 (mS m0) → Φ (mS m0) m9) ∧ (¬ (mP m0 v0 1) = 1 → wp_Jx4a65c_grow_92f84_20 v0 v1 (nI (mN m0 (mP m0 v0 1))) m0 Φ)))
abbrev rm_Jx4a65c_grow_92f84 : Room := { frames := 3, cells := 1, slots := 32, locals := 124 }
set_option maxHeartbeats 4000000 in
set_option maxRecDepth 100000 in
theorem c_Jx4a65c_grow_92f84 (l : Launch) (g : Gv) (m0 : Mm) (v0 : Nat) (v1 : Int32) (Φ : Nat → Mm → Prop) (hw : wp_Jx4a65c_grow_92f84 m0 v0 v1 Φ) : Met l yJx4a65c_grow_92f84 wsJx4a65c_grow_92f84 rm_Jx4a65c_grow_92f84 (PP g [.ref (ad g v0), .int v1] m0) (QQ g (vR g) Φ) 1 32 (Ag g) := by
  refine CT_of (by decide +kernel) rfl (Nat.le_of_ble_eq_true rfl) ?_
  intro p e s m below meth c hx hb hr hml hown hts hlk hnm hK hW ls hl
  have hown : s.vm.findClass RJx4a65c = some m.cls := hown
  have hl : lv_has ls 4 [(0, .ref (ad g v0)), (1, .int v1)] := hl
  have i0 : ∀ w ∈ u_ws RJx4a65c TJx4a65c 3, w ∈ wsJx4a65c_grow_92f84 := by decide +kernel
  have B20 : ∀ (v2 : Int32) (mm : Mm), wp_Jx4a65c_grow_92f84_20 v0 v1 v2 mm Φ → WW p l e rm_Jx4a65c_grow_92f84 s m ([.ref (ad g v0), .int v1] : List Value).toArray below meth c (MQ below (QQ g (vR g) Φ) ([.ref (ad g v0), .int v1] : List Value).toArray s 1 32 (Ag g)) g mm 4 0 0 20 [(0, .ref (ad g v0)), (1, .int v1), (2, .int v2)] [] := by
    intro v2 mm hw H locs ls hW hl
    unfold wp_Jx4a65c_grow_92f84_20 at hw
    refine lv_iload_n hx hb dJx4a65c_grow_92f84_20 rfl (lv_at hl 2 rfl) ?_
    refine lv_iload_n hx hb dJx4a65c_grow_92f84_21 rfl (lv_at hl 1 rfl) ?_
    refine lv_iload_n hx hb dJx4a65c_grow_92f84_22 rfl (lv_at hl 2 rfl) ?_
    refine lv_isub hx hb dJx4a65c_grow_92f84_23 ?_
    refine lv_iload_n hx hb dJx4a65c_grow_92f84_24 rfl (lv_at hl 2 rfl) ?_
    refine lv_iconst (v := (1 : Int32)) hx hb dJx4a65c_grow_92f84_25 (by decide) ?_
    refine lv_ishr hx hb dJx4a65c_grow_92f84_26 ?_
    refine R_call (va_runS (As := [.int v2, .int (v1 - v2), .int (v2 >>> ((1 : Int32) &&& 31))]) (rest := []) ⟨hx, hb, hml, hown, hts⟩ (c_J8_newLength_cabcc l g mm v2 (v1 - v2) (v2 >>> ((1 : Int32) &&& 31)) _ hw) (va_cwS 3 hts gJx4a65c_grow_92f84_J8_newLength_cabcc rfl rfl rfl (by decide +kernel) ⟨by decide, by decide⟩) (PP.pre hK hW) rfl rfl hl.1 rfl (lv_room (Nat.le_of_ble_eq_true rfl)) dJx4a65c_grow_92f84_27 ⟨by decide, by decide⟩) hW (fun r1 m2 H locs hw hW => ?_)
    refine W.eq (g2 := F0 m 30 ls [.int r1]) rfl ?_
    refine lv_istore_n (lv' := [(3, .int r1), (0, .ref (ad g v0)), (1, .int v1), (2, .int v2)]) hx hb dJx4a65c_grow_92f84_30 rfl hl (by decide) rfl (fun ls hl => ?_)
    refine lv_aload_n hx hb dJx4a65c_grow_92f84_31 rfl (lv_at hl 1 rfl) ?_
    refine lv_aload_n hx hb dJx4a65c_grow_92f84_32 rfl (lv_at hl 1 rfl) ?_
    refine R_getP (C := RJx4a65c) (T := TJx4a65c) (N := 3) hx hb hts i0 hown hK hW 1 hw.1 (by decide) rfl (by decide) (hts (.fieldLink RJx4a65c 9 "java/util/ArrayList" "elementData" "[Ljava/lang/Object;") (by decide +kernel)) (fun _ h => h) (fun _ _ _ => rfl) hw.2.1 dJx4a65c_grow_92f84_33 ?_
    have hw := hw.2.2
    refine lv_iload_n hx hb dJx4a65c_grow_92f84_36 rfl (lv_at hl 0 rfl) ?_
    refine R_call (va_runS (As := [.ref (ad g (mP m2 v0 1)), .int r1]) (rest := [.ref (ad g v0)]) ⟨hx, hb, hml, hown, hts⟩ (c_J7_copyOf_1904c l g m2 (mP m2 v0 1) r1 _ hw) (va_cwS 2 hts gJx4a65c_grow_92f84_J7_copyOf_1904c rfl rfl rfl (by decide +kernel) ⟨by decide, by decide⟩) (PP.pre hK hW) rfl rfl hl.1 rfl (lv_room (Nat.le_of_ble_eq_true rfl)) dJx4a65c_grow_92f84_37 ⟨by decide, by decide⟩) hW (fun r3 m4 H locs hw hW => ?_)
    refine W.eq (g2 := F0 m 40 ls [.ref (ad g r3), .ref (ad g v0)]) rfl ?_
    refine lv_dup_x1 hx hb dJx4a65c_grow_92f84_40 rfl rfl ?_
    refine R_putP (C := RJx4a65c) (T := TJx4a65c) (N := 3) hx hb hts i0 tyJx4a65c tyJx4a65c_ok nmJx4a65c hown hK hW 1 hw.1 (by decide) rfl (by decide) (hts (.fieldLink RJx4a65c 9 "java/util/ArrayList" "elementData" "[Ljava/lang/Object;") (by decide +kernel)) (fun _ h => h) (Or.inl rfl) (Or.inr ⟨_, rfl⟩) hw.2.1 (fun _ _ _ => rfl) (fun _ _ _ => rfl) dJx4a65c_grow_92f84_41 (fun H locs hW => ?_)
    obtain ⟨m5, em5⟩ : ∃ z, z = sP m4 v0 1 r3 := ⟨_, rfl⟩
    rw [← em5] at hW
    have hw := hw.2.2 m5 em5
    exact R_aret hx hb hr (Or.inr ⟨_, rfl⟩) hlk hW hw dJx4a65c_grow_92f84_44
  unfold wp_Jx4a65c_grow_92f84 at hw
  refine lv_aload_n hx hb dJx4a65c_grow_92f84_0 rfl (lv_at hl 0 rfl) ?_
  refine R_getP (C := RJx4a65c) (T := TJx4a65c) (N := 3) hx hb hts i0 hown hK hW 1 hw.1 (by decide) rfl (by decide) (hts (.fieldLink RJx4a65c 9 "java/util/ArrayList" "elementData" "[Ljava/lang/Object;") (by decide +kernel)) (fun _ h => h) (fun _ _ _ => rfl) hw.2.1 dJx4a65c_grow_92f84_1 ?_
  have hw := hw.2.2
  refine R_alenO hx hb hK hW hw.1 dJx4a65c_grow_92f84_4 ?_
  have hw := hw.2
  refine lv_istore_n (lv' := [(2, .int (nI (mN m0 (mP m0 v0 1)))), (0, .ref (ad g v0)), (1, .int v1)]) hx hb dJx4a65c_grow_92f84_5 rfl hl (by decide) rfl (fun ls hl => ?_)
  refine lv_iload_n hx hb dJx4a65c_grow_92f84_6 rfl (lv_at hl 0 rfl) ?_
  refine lv_if_gt (tgt := 20) hx hb dJx4a65c_grow_92f84_7 (by decide) (fun c6 => ?_) (fun c6 => ?_)
  · have hw := hw.1 c6
    exact B20 (nI (mN m0 (mP m0 v0 1))) m0 hw _ _ _ hW (lv_sub hl [1, 2, 0] rfl)
  · have hw := hw.2 c6
    refine lv_aload_n hx hb dJx4a65c_grow_92f84_10 rfl (lv_at hl 1 rfl) ?_
    refine R_getP (C := RJx4a65c) (T := TJx4a65c) (N := 3) hx hb hts i0 hown hK hW 1 hw.1 (by decide) rfl (by decide) (hts (.fieldLink RJx4a65c 9 "java/util/ArrayList" "elementData" "[Ljava/lang/Object;") (by decide +kernel)) (fun _ h => h) (fun _ _ _ => rfl) hw.2.1 dJx4a65c_grow_92f84_11 ?_
    have hw := hw.2.2
    refine va_gets hx hb hK.2.2.2.1.1 hW.2 hown (hts (.fieldLink RJx4a65c 39 "java/util/ArrayList" "DEFAULTCAPACITY_EMPTY_ELEMENTDATA" "[Ljava/lang/Object;") (by decide +kernel)) (fun _ h => h) dJx4a65c_grow_92f84_14 ?_
    refine R_acmpeq1 (tgt := 45) hx hb hK hw.1 dJx4a65c_grow_92f84_17 (by decide) (fun c7 => ?_) (fun c7 => ?_)
    · have hw := hw.2.1 c7
      refine lv_aload_n hx hb dJx4a65c_grow_92f84_45 rfl (lv_at hl 1 rfl) ?_
      refine lv_bipush (v := (10 : Int32)) hx hb dJx4a65c_grow_92f84_46 (by decide) ?_
      refine lv_iload_n hx hb dJx4a65c_grow_92f84_48 rfl (lv_at hl 2 rfl) ?_
      refine va_mmax hx hb (by rw [hml]; exact hl.1.symm) hown (hts (.methodLink RJx4a65c 79 Lib.Math.max.name) (by decide +kernel)) (hts (.static Lib.Math.max.name) (by decide +kernel)) (hts (.initialized "java/lang/Math") (by decide +kernel)) (hts (.code Lib.Math.max.name Lib.Math.max.code 2 (some .int)) (by decide +kernel)) (Nat.le_of_ble_eq_true rfl) (Nat.le_of_ble_eq_true rfl) (Nat.le_of_ble_eq_true rfl) (Nat.le_of_ble_eq_true rfl) dJx4a65c_grow_92f84_49 ?_
      refine R_newO hx hb hown (hts (.classLink RJx4a65c 7 "java/lang/Object") (by decide +kernel)) hK hW 32 hw.1 hw.2.1 (by decide) (by decide) (by decide) dJx4a65c_grow_92f84_52 (fun H hW => ?_)
      obtain ⟨m8, em8⟩ : ∃ z, z = nw m0 12 (if (10 : Int32) < v1 then v1 else (10 : Int32)).toNatClampNeg := ⟨_, rfl⟩
      rw [← em8] at hW
      have hw := hw.2.2 m8 em8
      refine lv_dup_x1 hx hb dJx4a65c_grow_92f84_55 rfl rfl ?_
      refine R_putP (C := RJx4a65c) (T := TJx4a65c) (N := 3) hx hb hts i0 tyJx4a65c tyJx4a65c_ok nmJx4a65c hown hK hW 1 hw.1 (by decide) rfl (by decide) (hts (.fieldLink RJx4a65c 9 "java/util/ArrayList" "elementData" "[Ljava/lang/Object;") (by decide +kernel)) (fun _ h => h) (Or.inl rfl) (Or.inr ⟨_, rfl⟩) hw.2.1 (fun _ _ _ => rfl) (fun _ _ _ => rfl) dJx4a65c_grow_92f84_56 (fun H locs hW => ?_)
      obtain ⟨m9, em9⟩ : ∃ z, z = sP m8 v0 1 (mS m0) := ⟨_, rfl⟩
      rw [← em9] at hW
      have hw := hw.2.2 m9 em9
      exact R_aret hx hb hr (Or.inr ⟨_, rfl⟩) hlk hW hw dJx4a65c_grow_92f84_59
    · have hw := hw.2.2 c7
      exact B20 (nI (mN m0 (mP m0 v0 1))) m0 hw _ _ _ hW (lv_sub hl [1, 2, 0] rfl)

def wp_Jx4a65c_grow_d5877 (m0 : Mm) (v0 : Nat) (Φ : Nat → Mm → Prop) : Prop :=
  mT m0 v0 = 0 ∧ mT m0 v0 = 0 ∧ wp_Jx4a65c_grow_92f84 m0 v0 ((mI m0 v0 2) + (1 : Int32)) (fun (r1 : Nat) (m2 : Mm) => Φ r1 m2)
abbrev rm_Jx4a65c_grow_d5877 : Room := { frames := 4, cells := 1, slots := 32, locals := 147 }
set_option maxHeartbeats 4000000 in
set_option maxRecDepth 100000 in
theorem c_Jx4a65c_grow_d5877 (l : Launch) (g : Gv) (m0 : Mm) (v0 : Nat) (Φ : Nat → Mm → Prop) (hw : wp_Jx4a65c_grow_d5877 m0 v0 Φ) : Met l yJx4a65c_grow_d5877 wsJx4a65c_grow_d5877 rm_Jx4a65c_grow_d5877 (PP g [.ref (ad g v0)] m0) (QQ g (vR g) Φ) 1 32 (Ag g) := by
  refine CT_of (by decide +kernel) rfl (Nat.le_of_ble_eq_true rfl) ?_
  intro p e s m below meth c hx hb hr hml hown hts hlk hnm hK hW ls hl
  have hown : s.vm.findClass RJx4a65c = some m.cls := hown
  have hl : lv_has ls 1 [(0, .ref (ad g v0))] := hl
  have i0 : ∀ w ∈ u_ws RJx4a65c TJx4a65c 3, w ∈ wsJx4a65c_grow_d5877 := by decide +kernel
  unfold wp_Jx4a65c_grow_d5877 at hw
  refine lv_aload_n hx hb dJx4a65c_grow_d5877_0 rfl (lv_at hl 0 rfl) ?_
  refine lv_aload_n hx hb dJx4a65c_grow_d5877_1 rfl (lv_at hl 0 rfl) ?_
  refine R_getI (C := RJx4a65c) (T := TJx4a65c) (N := 3) hx hb hts i0 hown hK hW 2 hw.1 (by decide) rfl (by decide) (hts (.fieldLink RJx4a65c 48 "java/util/ArrayList" "size" "I") (by decide +kernel)) (fun _ h => h) (fun _ _ _ => rfl) dJx4a65c_grow_d5877_2 ?_
  have hw := hw.2
  refine lv_iconst (v := (1 : Int32)) hx hb dJx4a65c_grow_d5877_5 (by decide) ?_
  refine lv_iadd hx hb dJx4a65c_grow_d5877_6 ?_
  refine R_call (va_runV (As := [.int ((mI m0 v0 2) + (1 : Int32))]) (rest := []) ⟨hx, hb, hml, hown, hts⟩ (c_Jx4a65c_grow_92f84 l g m0 v0 ((mI m0 v0 2) + (1 : Int32)) _ hw.2) (cwV 1 hts gJx4a65c_grow_d5877_Jx4a65c_grow_92f84 rfl rfl rfl (by decide +kernel) ⟨by decide, by decide⟩) (PP.preV (q := (RJx4a65c, TJx4a65c, 3)) hK hW hw.1 (by decide) rfl) rfl rfl hl.1 rfl (lv_room (Nat.le_of_ble_eq_true rfl)) dJx4a65c_grow_d5877_7 ⟨by decide, by decide⟩) hW (fun r1 m2 H locs hw hW => ?_)
  refine W.eq (g2 := F0 m 10 ls [.ref (ad g r1)]) rfl ?_
  exact R_aret hx hb hr (Or.inr ⟨_, rfl⟩) hlk hW hw dJx4a65c_grow_d5877_10

def wp_Jx4a65c_add_72be8_11 (v0 : Nat) (v1 : Nat) (v2 : Nat) (v3 : Int32) (mm : Mm) (Φ : Unit → Mm → Prop) : Prop :=
  mT mm v2 = 12 ∧ vp_in v3 (mN mm v2) ∧ mT mm v1 = 1 ∧ ∀ m1 : Mm, m1 = sP mm v2 v3.toNatClampNeg v1 → mT m1 v0 = 0 ∧ ∀ m2 : Mm, m2 = sI m1 v0 2 (v3 + (1 : Int32)) → Φ () m2
def wp_Jx4a65c_add_72be8 (m0 : Mm) (v0 : Nat) (v1 : Nat) (a2 : Nat) (v3 : Int32) (Φ : Unit → Mm → Prop) : Prop :=
  mT m0 a2 = 12 ∧ ((¬ v3 = (nI (mN m0 a2)) → wp_Jx4a65c_add_72be8_11 v0 v1 a2 v3 m0 Φ) ∧ (v3 = (nI (mN m0 a2)) → mT m0 v0 = 0 ∧ wp_Jx4a65c_grow_d5877 m0 v0 (fun (r4 : Nat) (m5 : Mm) => wp_Jx4a65c_add_72be8_11 v0 v1 r4 v3 m5 Φ)))
abbrev rm_Jx4a65c_add_72be8 : Room := { frames := 5, cells := 1, slots := 32, locals := 167 }
set_option maxHeartbeats 4000000 in
set_option maxRecDepth 100000 in
theorem c_Jx4a65c_add_72be8 (l : Launch) (g : Gv) (m0 : Mm) (v0 : Nat) (v1 : Nat) (a2 : Nat) (v3 : Int32) (Φ : Unit → Mm → Prop) (hw : wp_Jx4a65c_add_72be8 m0 v0 v1 a2 v3 Φ) : Met l yJx4a65c_add_72be8 wsJx4a65c_add_72be8 rm_Jx4a65c_add_72be8 (PP g [.ref (ad g v0), .ref (ad g v1), .ref (ad g a2), .int v3] m0) (QQ g vV Φ) 1 32 (Ag g) := by
  refine CT_of (by decide +kernel) rfl (Nat.le_of_ble_eq_true rfl) ?_
  intro p e s m below meth c hx hb hr hml hown hts hlk hnm hK hW ls hl
  have hown : s.vm.findClass RJx4a65c = some m.cls := hown
  have hl : lv_has ls 4 [(0, .ref (ad g v0)), (1, .ref (ad g v1)), (2, .ref (ad g a2)), (3, .int v3)] := hl
  have i0 : ∀ w ∈ u_ws RJx4a65c TJx4a65c 3, w ∈ wsJx4a65c_add_72be8 := by decide +kernel
  have B11 : ∀ (v2 : Nat) (mm : Mm), wp_Jx4a65c_add_72be8_11 v0 v1 v2 v3 mm Φ → WW p l e rm_Jx4a65c_add_72be8 s m ([.ref (ad g v0), .ref (ad g v1), .ref (ad g a2), .int v3] : List Value).toArray below meth c (MQ below (QQ g vV Φ) ([.ref (ad g v0), .ref (ad g v1), .ref (ad g a2), .int v3] : List Value).toArray s 1 32 (Ag g)) g mm 4 1 32 11 [(0, .ref (ad g v0)), (1, .ref (ad g v1)), (2, .ref (ad g v2)), (3, .int v3)] [] := by
    intro v2 mm hw H locs ls hW hl
    unfold wp_Jx4a65c_add_72be8_11 at hw
    refine lv_aload_n hx hb dJx4a65c_add_72be8_11 rfl (lv_at hl 2 rfl) ?_
    refine lv_iload_n hx hb dJx4a65c_add_72be8_12 rfl (lv_at hl 3 rfl) ?_
    refine lv_aload_n hx hb dJx4a65c_add_72be8_13 rfl (lv_at hl 1 rfl) ?_
    refine R_aast hx hb hK hW hw.1 hw.2.1 hw.2.2.1 dJx4a65c_add_72be8_14 (fun H locs hW => ?_)
    obtain ⟨m1, em1⟩ : ∃ z, z = sP mm v2 v3.toNatClampNeg v1 := ⟨_, rfl⟩
    rw [← em1] at hW
    have hw := hw.2.2.2 m1 em1
    refine lv_aload_n hx hb dJx4a65c_add_72be8_15 rfl (lv_at hl 0 rfl) ?_
    refine lv_iload_n hx hb dJx4a65c_add_72be8_16 rfl (lv_at hl 3 rfl) ?_
    refine lv_iconst (v := (1 : Int32)) hx hb dJx4a65c_add_72be8_17 (by decide) ?_
    refine lv_iadd hx hb dJx4a65c_add_72be8_18 ?_
    refine R_putI (C := RJx4a65c) (T := TJx4a65c) (N := 3) hx hb hts i0 tyJx4a65c tyJx4a65c_ok nmJx4a65c hown hK hW 2 hw.1 (by decide) rfl (by decide) (hts (.fieldLink RJx4a65c 48 "java/util/ArrayList" "size" "I") (by decide +kernel)) (fun _ h => h) (Or.inl rfl) rfl (fun _ _ _ => rfl) (fun _ _ _ => rfl) dJx4a65c_add_72be8_19 (fun H locs hW => ?_)
    obtain ⟨m2, em2⟩ : ∃ z, z = sI m1 v0 2 (v3 + (1 : Int32)) := ⟨_, rfl⟩
    rw [← em2] at hW
    have hw := hw.2 m2 em2
    exact R_vret hx hb hr hlk hW hw dJx4a65c_add_72be8_22
  unfold wp_Jx4a65c_add_72be8 at hw
  refine lv_iload_n hx hb dJx4a65c_add_72be8_0 rfl (lv_at hl 3 rfl) ?_
  refine lv_aload_n hx hb dJx4a65c_add_72be8_1 rfl (lv_at hl 2 rfl) ?_
  refine R_alenO hx hb hK hW hw.1 dJx4a65c_add_72be8_2 ?_
  have hw := hw.2
  refine lv_icmp_ne (tgt := 11) hx hb dJx4a65c_add_72be8_3 (by decide) (fun c3 => ?_) (fun c3 => ?_)
  · have hw := hw.1 c3
    refine W.widen (k := 1) (n := 32) (by decide) (by decide) ?_
    exact B11 a2 m0 hw _ _ _ hW (lv_sub hl [0, 1, 2, 3] rfl)
  · have hw := hw.2 c3
    refine lv_aload_n hx hb dJx4a65c_add_72be8_6 rfl (lv_at hl 0 rfl) ?_
    refine R_call (va_runV (As := []) (rest := []) ⟨hx, hb, hml, hown, hts⟩ (c_Jx4a65c_grow_d5877 l g m0 v0 _ hw.2) (cwV 0 hts gJx4a65c_add_72be8_Jx4a65c_grow_d5877 rfl rfl rfl (by decide +kernel) ⟨by decide, by decide⟩) (PP.preV (q := (RJx4a65c, TJx4a65c, 3)) hK hW hw.1 (by decide) rfl) rfl rfl hl.1 rfl (lv_room (Nat.le_of_ble_eq_true rfl)) dJx4a65c_add_72be8_7 ⟨by decide, by decide⟩) hW (fun r4 m5 H locs hw hW => ?_)
    refine W.eq (g2 := F0 m 10 ls [.ref (ad g r4)]) rfl ?_
    refine lv_astore_n (lv' := [(2, .ref (ad g r4)), (0, .ref (ad g v0)), (1, .ref (ad g v1)), (3, .int v3)]) hx hb dJx4a65c_add_72be8_10 rfl hl (by decide) rfl (fun ls hl => ?_)
    exact B11 r4 m5 hw _ _ _ hW (lv_sub hl [1, 2, 0, 3] rfl)

def wp_Jx4a65c_add_9ea2d (m0 : Mm) (v0 : Nat) (v1 : Nat) (Φ : Int32 → Mm → Prop) : Prop :=
  mT m0 v0 = 0 ∧ mT m0 v0 = 0 ∧ ∀ m1 : Mm, m1 = sI m0 v0 0 ((mI m0 v0 0) + (1 : Int32)) → mT m1 v0 = 0 ∧ (mP m1 v0 1) ≠ 0 ∧ mT m1 v0 = 0 ∧ mT m1 v0 = 0 ∧ wp_Jx4a65c_add_72be8 m1 v0 v1 (mP m1 v0 1) (mI m1 v0 2) (fun (_ : Unit) (m3 : Mm) => Φ (1 : Int32) m3)
abbrev rm_Jx4a65c_add_9ea2d : Room := { frames := 6, cells := 1, slots := 32, locals := 190 }
set_option maxHeartbeats 4000000 in
set_option maxRecDepth 100000 in
theorem c_Jx4a65c_add_9ea2d (l : Launch) (g : Gv) (m0 : Mm) (v0 : Nat) (v1 : Nat) (Φ : Int32 → Mm → Prop) (hw : wp_Jx4a65c_add_9ea2d m0 v0 v1 Φ) : Met l yJx4a65c_add_9ea2d wsJx4a65c_add_9ea2d rm_Jx4a65c_add_9ea2d (PP g [.ref (ad g v0), .ref (ad g v1)] m0) (QQ g vI Φ) 1 32 (Ag g) := by
  refine CT_of (by decide +kernel) rfl (Nat.le_of_ble_eq_true rfl) ?_
  intro p e s m below meth c hx hb hr hml hown hts hlk hnm hK hW ls hl
  have hown : s.vm.findClass RJx4a65c = some m.cls := hown
  have hl : lv_has ls 2 [(0, .ref (ad g v0)), (1, .ref (ad g v1))] := hl
  have i0 : ∀ w ∈ u_ws RJx4a65c TJx4a65c 3, w ∈ wsJx4a65c_add_9ea2d := by decide +kernel
  unfold wp_Jx4a65c_add_9ea2d at hw
  refine lv_aload_n hx hb dJx4a65c_add_9ea2d_0 rfl (lv_at hl 0 rfl) ?_
  refine lv_dup hx hb dJx4a65c_add_9ea2d_1 rfl ?_
  refine R_getI (C := RJx4a65c) (T := TJx4a65c) (N := 3) hx hb hts i0 hown hK hW 0 hw.1 (by decide) rfl (by decide) (hts (.fieldLink RJx4a65c 63 "java/util/ArrayList" "modCount" "I") (by decide +kernel)) (u_same (hts (.sameField "java/util/ArrayList" "java/util/AbstractList" "modCount" "I") (by decide +kernel))) (fun _ _ _ => rfl) dJx4a65c_add_9ea2d_2 ?_
  have hw := hw.2
  refine lv_iconst (v := (1 : Int32)) hx hb dJx4a65c_add_9ea2d_5 (by decide) ?_
  refine lv_iadd hx hb dJx4a65c_add_9ea2d_6 ?_
  refine R_putI (C := RJx4a65c) (T := TJx4a65c) (N := 3) hx hb hts i0 tyJx4a65c tyJx4a65c_ok nmJx4a65c hown hK hW 0 hw.1 (by decide) rfl (by decide) (hts (.fieldLink RJx4a65c 63 "java/util/ArrayList" "modCount" "I") (by decide +kernel)) (u_same (hts (.sameField "java/util/ArrayList" "java/util/AbstractList" "modCount" "I") (by decide +kernel))) (Or.inl rfl) rfl (fun _ _ _ => rfl) (fun _ _ _ => rfl) dJx4a65c_add_9ea2d_7 (fun H locs hW => ?_)
  obtain ⟨m1, em1⟩ : ∃ z, z = sI m0 v0 0 ((mI m0 v0 0) + (1 : Int32)) := ⟨_, rfl⟩
  rw [← em1] at hW
  have hw := hw.2 m1 em1
  refine lv_aload_n hx hb dJx4a65c_add_9ea2d_10 rfl (lv_at hl 0 rfl) ?_
  refine lv_aload_n hx hb dJx4a65c_add_9ea2d_11 rfl (lv_at hl 1 rfl) ?_
  refine lv_aload_n hx hb dJx4a65c_add_9ea2d_12 rfl (lv_at hl 0 rfl) ?_
  refine R_getP (C := RJx4a65c) (T := TJx4a65c) (N := 3) hx hb hts i0 hown hK hW 1 hw.1 (by decide) rfl (by decide) (hts (.fieldLink RJx4a65c 9 "java/util/ArrayList" "elementData" "[Ljava/lang/Object;") (by decide +kernel)) (fun _ h => h) (fun _ _ _ => rfl) hw.2.1 dJx4a65c_add_9ea2d_13 ?_
  have hw := hw.2.2
  refine lv_aload_n hx hb dJx4a65c_add_9ea2d_16 rfl (lv_at hl 0 rfl) ?_
  refine R_getI (C := RJx4a65c) (T := TJx4a65c) (N := 3) hx hb hts i0 hown hK hW 2 hw.1 (by decide) rfl (by decide) (hts (.fieldLink RJx4a65c 48 "java/util/ArrayList" "size" "I") (by decide +kernel)) (fun _ h => h) (fun _ _ _ => rfl) dJx4a65c_add_9ea2d_17 ?_
  have hw := hw.2
  refine R_call (va_runV (As := [.ref (ad g v1), .ref (ad g (mP m1 v0 1)), .int (mI m1 v0 2)]) (rest := []) ⟨hx, hb, hml, hown, hts⟩ (c_Jx4a65c_add_72be8 l g m1 v0 v1 (mP m1 v0 1) (mI m1 v0 2) _ hw.2) (cwV 3 hts gJx4a65c_add_9ea2d_Jx4a65c_add_72be8 rfl rfl rfl (by decide +kernel) ⟨by decide, by decide⟩) (PP.preV (q := (RJx4a65c, TJx4a65c, 3)) hK hW hw.1 (by decide) rfl) rfl rfl hl.1 rfl (lv_room (Nat.le_of_ble_eq_true rfl)) dJx4a65c_add_9ea2d_20 ⟨by decide, by decide⟩) hW (fun _ m3 H locs hw hW => ?_)
  refine W.eq (g2 := F0 m 23 ls []) rfl ?_
  refine lv_iconst (v := (1 : Int32)) hx hb dJx4a65c_add_9ea2d_23 (by decide) ?_
  exact R_zret hx hb hr hlk hW (Or.inr rfl) hw dJx4a65c_add_9ea2d_24

def wp_Jx4a65c_rangeCheckForAdd_d00df_12 (v0 : Nat) (v1 : Int32) (mm : Mm) (Φ : Unit → Mm → Prop) : Prop :=
  False
def wp_Jx4a65c_rangeCheckForAdd_d00df (m0 : Mm) (v0 : Nat) (v1 : Int32) (Φ : Unit → Mm → Prop) : Prop :=
  mT m0 v0 = 0 ∧ (((mI m0 v0 2) < v1 → wp_Jx4a65c_rangeCheckForAdd_d00df_12 v0 v1 m0 Φ) ∧ (¬ (mI m0 v0 2) < v1 → ((0 ≤ v1 → Φ () m0) ∧ (¬ 0 ≤ v1 → wp_Jx4a65c_rangeCheckForAdd_d00df_12 v0 v1 m0 Φ))))
abbrev rm_Jx4a65c_rangeCheckForAdd_d00df : Room := { frames := 0, cells := 0, slots := 0, locals := 0 }
set_option maxHeartbeats 4000000 in
set_option maxRecDepth 100000 in
theorem c_Jx4a65c_rangeCheckForAdd_d00df (l : Launch) (g : Gv) (m0 : Mm) (v0 : Nat) (v1 : Int32) (Φ : Unit → Mm → Prop) (hw : wp_Jx4a65c_rangeCheckForAdd_d00df m0 v0 v1 Φ) : Met l yJx4a65c_rangeCheckForAdd_d00df wsJx4a65c_rangeCheckForAdd_d00df rm_Jx4a65c_rangeCheckForAdd_d00df (PP g [.ref (ad g v0), .int v1] m0) (QQ g vV Φ) 0 0 (Ag g) := by
  refine CT_of (by decide +kernel) rfl (Nat.le_of_ble_eq_true rfl) ?_
  intro p e s m below meth c hx hb hr hml hown hts hlk hnm hK hW ls hl
  have hown : s.vm.findClass RJx4a65c = some m.cls := hown
  have hl : lv_has ls 2 [(0, .ref (ad g v0)), (1, .int v1)] := hl
  have i0 : ∀ w ∈ u_ws RJx4a65c TJx4a65c 3, w ∈ wsJx4a65c_rangeCheckForAdd_d00df := by decide +kernel
  have B12 : ∀ (mm : Mm), wp_Jx4a65c_rangeCheckForAdd_d00df_12 v0 v1 mm Φ → WW p l e rm_Jx4a65c_rangeCheckForAdd_d00df s m ([.ref (ad g v0), .int v1] : List Value).toArray below meth c (MQ below (QQ g vV Φ) ([.ref (ad g v0), .int v1] : List Value).toArray s 0 0 (Ag g)) g mm 2 0 0 12 [(0, .ref (ad g v0)), (1, .int v1)] [] := by
    intro  mm hw H locs ls hW hl
    unfold wp_Jx4a65c_rangeCheckForAdd_d00df_12 at hw
    exact hw.elim
  unfold wp_Jx4a65c_rangeCheckForAdd_d00df at hw
  refine lv_iload_n hx hb dJx4a65c_rangeCheckForAdd_d00df_0 rfl (lv_at hl 1 rfl) ?_
  refine lv_aload_n hx hb dJx4a65c_rangeCheckForAdd_d00df_1 rfl (lv_at hl 0 rfl) ?_
  refine R_getI (C := RJx4a65c) (T := TJx4a65c) (N := 3) hx hb hts i0 hown hK hW 2 hw.1 (by decide) rfl (by decide) (hts (.fieldLink RJx4a65c 48 "java/util/ArrayList" "size" "I") (by decide +kernel)) (fun _ h => h) (fun _ _ _ => rfl) dJx4a65c_rangeCheckForAdd_d00df_2 ?_
  have hw := hw.2
  refine lv_icmp_gt (tgt := 12) hx hb dJx4a65c_rangeCheckForAdd_d00df_5 (by decide) (fun c1 => ?_) (fun c1 => ?_)
  · have hw := hw.1 c1
    exact B12  m0 hw _ _ _ hW (lv_sub hl [0, 1] rfl)
  · have hw := hw.2 c1
    refine lv_iload_n hx hb dJx4a65c_rangeCheckForAdd_d00df_8 rfl (lv_at hl 1 rfl) ?_
    refine lv_if_ge (tgt := 25) hx hb dJx4a65c_rangeCheckForAdd_d00df_9 (by decide) (fun c2 => ?_) (fun c2 => ?_)
    · have hw := hw.1 c2
      exact R_vret hx hb hr hlk hW hw dJx4a65c_rangeCheckForAdd_d00df_25
    · have hw := hw.2 c2
      exact B12  m0 hw _ _ _ hW (lv_sub hl [0, 1] rfl)

def wp_Jx4a65c_add_7a177_38 (v0 : Nat) (v1 : Int32) (v2 : Nat) (v3 : Int32) (v4 : Nat) (mm : Mm) (Φ : Unit → Mm → Prop) : Prop :=
  mT mm v4 = 12 ∧ v4 ≠ 1 ∧ mT mm v4 = 12 ∧ v4 ≠ 1 ∧ cpok v1 (v1 + (1 : Int32)) (v3 - v1) (mN mm v4) (mN mm v4) ∧ (∀ i, i < (v3 - v1).toNatClampNeg → mP mm v4 (v1.toNatClampNeg + i) = 0 ∨ mT mm (mP mm v4 (v1.toNatClampNeg + i)) = 1) ∧ ∀ m1 : Mm, m1 = rP mm v4 (va_cpy (mP mm v4) (mP mm v4) v1.toNatClampNeg (v1 + (1 : Int32)).toNatClampNeg (v3 - v1).toNatClampNeg) → mT m1 v4 = 12 ∧ vp_in v1 (mN m1 v4) ∧ mT m1 v2 = 1 ∧ ∀ m2 : Mm, m2 = sP m1 v4 v1.toNatClampNeg v2 → mT m2 v0 = 0 ∧ ∀ m3 : Mm, m3 = sI m2 v0 2 (v3 + (1 : Int32)) → Φ () m3
def wp_Jx4a65c_add_7a177 (m0 : Mm) (v0 : Nat) (v1 : Int32) (v2 : Nat) (Φ : Unit → Mm → Prop) : Prop :=
  mT m0 v0 = 0 ∧ wp_Jx4a65c_rangeCheckForAdd_d00df m0 v0 v1 (fun (_ : Unit) (m5 : Mm) => mT m5 v0 = 0 ∧ mT m5 v0 = 0 ∧ ∀ m6 : Mm, m6 = sI m5 v0 0 ((mI m5 v0 0) + (1 : Int32)) → mT m6 v0 = 0 ∧ mT m6 v0 = 0 ∧ (mP m6 v0 1) ≠ 0 ∧ mT m6 (mP m6 v0 1) = 12 ∧ ((¬ (mI m6 v0 2) = (nI (mN m6 (mP m6 v0 1))) → wp_Jx4a65c_add_7a177_38 v0 v1 v2 (mI m6 v0 2) (mP m6 v0 1) m6 Φ) ∧ ((mI m6 v0 2) = (nI (mN m6 (mP m6 v0 1))) → mT m6 v0 = 0 ∧ wp_Jx4a65c_grow_d5877 m6 v0 (fun (r8 : Nat) (m9 : Mm) => wp_Jx4a65c_add_7a177_38 v0 v1 v2 (mI m6 v0 2) r8 m9 Φ))))
abbrev rm_Jx4a65c_add_7a177 : Room := { frames := 5, cells := 1, slots := 32, locals := 167 }
set_option maxHeartbeats 4000000 in
set_option maxRecDepth 100000 in
theorem c_Jx4a65c_add_7a177 (l : Launch) (g : Gv) (m0 : Mm) (v0 : Nat) (v1 : Int32) (v2 : Nat) (Φ : Unit → Mm → Prop) (hw : wp_Jx4a65c_add_7a177 m0 v0 v1 v2 Φ) : Met l yJx4a65c_add_7a177 wsJx4a65c_add_7a177 rm_Jx4a65c_add_7a177 (PP g [.ref (ad g v0), .int v1, .ref (ad g v2)] m0) (QQ g vV Φ) 1 32 (Ag g) := by
  refine CT_of (by decide +kernel) rfl (Nat.le_of_ble_eq_true rfl) ?_
  intro p e s m below meth c hx hb hr hml hown hts hlk hnm hK hW ls hl
  have hown : s.vm.findClass RJx4a65c = some m.cls := hown
  have hl : lv_has ls 5 [(0, .ref (ad g v0)), (1, .int v1), (2, .ref (ad g v2))] := hl
  have i0 : ∀ w ∈ u_ws RJx4a65c TJx4a65c 3, w ∈ wsJx4a65c_add_7a177 := by decide +kernel
  have B38 : ∀ (v3 : Int32) (v4 : Nat) (mm : Mm), wp_Jx4a65c_add_7a177_38 v0 v1 v2 v3 v4 mm Φ → WW p l e rm_Jx4a65c_add_7a177 s m ([.ref (ad g v0), .int v1, .ref (ad g v2)] : List Value).toArray below meth c (MQ below (QQ g vV Φ) ([.ref (ad g v0), .int v1, .ref (ad g v2)] : List Value).toArray s 1 32 (Ag g)) g mm 5 1 32 38 [(0, .ref (ad g v0)), (1, .int v1), (2, .ref (ad g v2)), (3, .int v3), (4, .ref (ad g v4))] [] := by
    intro v3 v4 mm hw H locs ls hW hl
    unfold wp_Jx4a65c_add_7a177_38 at hw
    refine lv_aload hx hb dJx4a65c_add_7a177_38 (lv_at hl 4 rfl) ?_
    refine lv_iload_n hx hb dJx4a65c_add_7a177_40 rfl (lv_at hl 1 rfl) ?_
    refine lv_aload hx hb dJx4a65c_add_7a177_41 (lv_at hl 4 rfl) ?_
    refine lv_iload_n hx hb dJx4a65c_add_7a177_43 rfl (lv_at hl 1 rfl) ?_
    refine lv_iconst (v := (1 : Int32)) hx hb dJx4a65c_add_7a177_44 (by decide) ?_
    refine lv_iadd hx hb dJx4a65c_add_7a177_45 ?_
    refine lv_iload_n hx hb dJx4a65c_add_7a177_46 rfl (lv_at hl 3 rfl) ?_
    refine lv_iload_n hx hb dJx4a65c_add_7a177_47 rfl (lv_at hl 1 rfl) ?_
    refine lv_isub hx hb dJx4a65c_add_7a177_48 ?_
    refine R_copyO hx hb (by rw [hml]; exact hl.1.symm) hown (hts (.methodLink RJx4a65c 112 arraycopyName) (by decide +kernel)) (hts (.native arraycopyName) (by decide +kernel)) (hts (.static arraycopyName) (by decide +kernel)) (hts (.initialized "java/lang/System") (by decide +kernel)) hK hW hw.1 hw.2.1 hw.2.2.1 hw.2.2.2.1 hw.2.2.2.2.1 hw.2.2.2.2.2.1 (Nat.le_of_ble_eq_true rfl) (Nat.le_of_ble_eq_true rfl) dJx4a65c_add_7a177_49 (fun H locs hW => ?_)
    obtain ⟨m1, em1⟩ : ∃ z, z = rP mm v4 (va_cpy (mP mm v4) (mP mm v4) v1.toNatClampNeg (v1 + (1 : Int32)).toNatClampNeg (v3 - v1).toNatClampNeg) := ⟨_, rfl⟩
    rw [← em1] at hW
    have hw := hw.2.2.2.2.2.2 m1 em1
    refine lv_aload hx hb dJx4a65c_add_7a177_52 (lv_at hl 4 rfl) ?_
    refine lv_iload_n hx hb dJx4a65c_add_7a177_54 rfl (lv_at hl 1 rfl) ?_
    refine lv_aload_n hx hb dJx4a65c_add_7a177_55 rfl (lv_at hl 2 rfl) ?_
    refine R_aast hx hb hK hW hw.1 hw.2.1 hw.2.2.1 dJx4a65c_add_7a177_56 (fun H locs hW => ?_)
    obtain ⟨m2, em2⟩ : ∃ z, z = sP m1 v4 v1.toNatClampNeg v2 := ⟨_, rfl⟩
    rw [← em2] at hW
    have hw := hw.2.2.2 m2 em2
    refine lv_aload_n hx hb dJx4a65c_add_7a177_57 rfl (lv_at hl 0 rfl) ?_
    refine lv_iload_n hx hb dJx4a65c_add_7a177_58 rfl (lv_at hl 3 rfl) ?_
    refine lv_iconst (v := (1 : Int32)) hx hb dJx4a65c_add_7a177_59 (by decide) ?_
    refine lv_iadd hx hb dJx4a65c_add_7a177_60 ?_
    refine R_putI (C := RJx4a65c) (T := TJx4a65c) (N := 3) hx hb hts i0 tyJx4a65c tyJx4a65c_ok nmJx4a65c hown hK hW 2 hw.1 (by decide) rfl (by decide) (hts (.fieldLink RJx4a65c 48 "java/util/ArrayList" "size" "I") (by decide +kernel)) (fun _ h => h) (Or.inl rfl) rfl (fun _ _ _ => rfl) (fun _ _ _ => rfl) dJx4a65c_add_7a177_61 (fun H locs hW => ?_)
    obtain ⟨m3, em3⟩ : ∃ z, z = sI m2 v0 2 (v3 + (1 : Int32)) := ⟨_, rfl⟩
    rw [← em3] at hW
    have hw := hw.2 m3 em3
    exact R_vret hx hb hr hlk hW hw dJx4a65c_add_7a177_64
  unfold wp_Jx4a65c_add_7a177 at hw
  refine lv_aload_n hx hb dJx4a65c_add_7a177_0 rfl (lv_at hl 0 rfl) ?_
  refine lv_iload_n hx hb dJx4a65c_add_7a177_1 rfl (lv_at hl 1 rfl) ?_
  refine R_call (va_runV (As := [.int v1]) (rest := []) ⟨hx, hb, hml, hown, hts⟩ (c_Jx4a65c_rangeCheckForAdd_d00df l g m0 v0 v1 _ hw.2) (cwV 1 hts gJx4a65c_add_7a177_Jx4a65c_rangeCheckForAdd_d00df rfl rfl rfl (by decide +kernel) ⟨by decide, by decide⟩) (PP.preV (q := (RJx4a65c, TJx4a65c, 3)) hK hW hw.1 (by decide) rfl) rfl rfl hl.1 rfl (lv_room (Nat.le_of_ble_eq_true rfl)) dJx4a65c_add_7a177_2 ⟨by decide, by decide⟩) hW (fun _ m5 H locs hw hW => ?_)
  refine W.eq (g2 := F0 m 5 ls []) rfl ?_
  refine lv_aload_n hx hb dJx4a65c_add_7a177_5 rfl (lv_at hl 0 rfl) ?_
  refine lv_dup hx hb dJx4a65c_add_7a177_6 rfl ?_
  refine R_getI (C := RJx4a65c) (T := TJx4a65c) (N := 3) hx hb hts i0 hown hK hW 0 hw.1 (by decide) rfl (by decide) (hts (.fieldLink RJx4a65c 63 "java/util/ArrayList" "modCount" "I") (by decide +kernel)) (u_same (hts (.sameField "java/util/ArrayList" "java/util/AbstractList" "modCount" "I") (by decide +kernel))) (fun _ _ _ => rfl) dJx4a65c_add_7a177_7 ?_
  have hw := hw.2
  refine lv_iconst (v := (1 : Int32)) hx hb dJx4a65c_add_7a177_10 (by decide) ?_
  refine lv_iadd hx hb dJx4a65c_add_7a177_11 ?_
  refine R_putI (C := RJx4a65c) (T := TJx4a65c) (N := 3) hx hb hts i0 tyJx4a65c tyJx4a65c_ok nmJx4a65c hown hK hW 0 hw.1 (by decide) rfl (by decide) (hts (.fieldLink RJx4a65c 63 "java/util/ArrayList" "modCount" "I") (by decide +kernel)) (u_same (hts (.sameField "java/util/ArrayList" "java/util/AbstractList" "modCount" "I") (by decide +kernel))) (Or.inl rfl) rfl (fun _ _ _ => rfl) (fun _ _ _ => rfl) dJx4a65c_add_7a177_12 (fun H locs hW => ?_)
  obtain ⟨m6, em6⟩ : ∃ z, z = sI m5 v0 0 ((mI m5 v0 0) + (1 : Int32)) := ⟨_, rfl⟩
  rw [← em6] at hW
  have hw := hw.2 m6 em6
  refine lv_aload_n hx hb dJx4a65c_add_7a177_15 rfl (lv_at hl 0 rfl) ?_
  refine R_getI (C := RJx4a65c) (T := TJx4a65c) (N := 3) hx hb hts i0 hown hK hW 2 hw.1 (by decide) rfl (by decide) (hts (.fieldLink RJx4a65c 48 "java/util/ArrayList" "size" "I") (by decide +kernel)) (fun _ h => h) (fun _ _ _ => rfl) dJx4a65c_add_7a177_16 ?_
  have hw := hw.2
  refine lv_dup hx hb dJx4a65c_add_7a177_19 rfl ?_
  refine lv_istore_n (lv' := [(3, .int (mI m6 v0 2)), (0, .ref (ad g v0)), (1, .int v1), (2, .ref (ad g v2))]) hx hb dJx4a65c_add_7a177_20 rfl hl (by decide) rfl (fun ls hl => ?_)
  refine lv_aload_n hx hb dJx4a65c_add_7a177_21 rfl (lv_at hl 1 rfl) ?_
  refine R_getP (C := RJx4a65c) (T := TJx4a65c) (N := 3) hx hb hts i0 hown hK hW 1 hw.1 (by decide) rfl (by decide) (hts (.fieldLink RJx4a65c 9 "java/util/ArrayList" "elementData" "[Ljava/lang/Object;") (by decide +kernel)) (fun _ h => h) (fun _ _ _ => rfl) hw.2.1 dJx4a65c_add_7a177_22 ?_
  have hw := hw.2.2
  refine lv_dup hx hb dJx4a65c_add_7a177_25 rfl ?_
  refine lv_astore (lv' := [(4, .ref (ad g (mP m6 v0 1))), (3, .int (mI m6 v0 2)), (0, .ref (ad g v0)), (1, .int v1), (2, .ref (ad g v2))]) hx hb dJx4a65c_add_7a177_26 hl (by decide) rfl (fun ls hl => ?_)
  refine R_alenO hx hb hK hW hw.1 dJx4a65c_add_7a177_28 ?_
  have hw := hw.2
  refine lv_icmp_ne (tgt := 38) hx hb dJx4a65c_add_7a177_29 (by decide) (fun c7 => ?_) (fun c7 => ?_)
  · have hw := hw.1 c7
    refine W.widen (k := 1) (n := 32) (by decide) (by decide) ?_
    exact B38 (mI m6 v0 2) (mP m6 v0 1) m6 hw _ _ _ hW (lv_sub hl [2, 3, 4, 1, 0] rfl)
  · have hw := hw.2 c7
    refine lv_aload_n hx hb dJx4a65c_add_7a177_32 rfl (lv_at hl 2 rfl) ?_
    refine R_call (va_runV (As := []) (rest := []) ⟨hx, hb, hml, hown, hts⟩ (c_Jx4a65c_grow_d5877 l g m6 v0 _ hw.2) (cwV 0 hts gJx4a65c_add_7a177_Jx4a65c_grow_d5877 rfl rfl rfl (by decide +kernel) ⟨by decide, by decide⟩) (PP.preV (q := (RJx4a65c, TJx4a65c, 3)) hK hW hw.1 (by decide) rfl) rfl rfl hl.1 rfl (lv_room (Nat.le_of_ble_eq_true rfl)) dJx4a65c_add_7a177_33 ⟨by decide, by decide⟩) hW (fun r8 m9 H locs hw hW => ?_)
    refine W.eq (g2 := F0 m 36 ls [.ref (ad g r8)]) rfl ?_
    refine lv_astore (lv' := [(4, .ref (ad g r8)), (3, .int (mI m6 v0 2)), (0, .ref (ad g v0)), (1, .int v1), (2, .ref (ad g v2))]) hx hb dJx4a65c_add_7a177_36 hl (by decide) rfl (fun ls hl => ?_)
    exact B38 (mI m6 v0 2) r8 m9 hw _ _ _ hW (lv_sub hl [2, 3, 4, 1, 0] rfl)
