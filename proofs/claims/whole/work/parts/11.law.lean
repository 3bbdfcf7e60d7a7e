def wp_X1_number (m0 : Mm) (v0 : Nat) (v1 : Int32) (Φ : Int32 → Mm → Prop) : Prop :=
  ((v1 < 0 → Φ (-1 : Int32) m0) ∧ (¬ v1 < 0 → (((6 : Int32) ≤ v1 → Φ (-1 : Int32) m0) ∧ (¬ (6 : Int32) ≤ v1 → mT m0 v0 = 2 ∧ (mP m0 v0 1) ≠ 0 ∧ mT m0 (mP m0 v0 1) = 9 ∧ vp_in v1 (mN m0 (mP m0 v0 1)) ∧ Φ (mI m0 (mP m0 v0 1) v1.toNatClampNeg) m0))))
abbrev rm_X1_number : Room := { frames := 0, cells := 0, slots := 0, locals := 0 }
set_option maxHeartbeats 4000000 in
set_option maxRecDepth 100000 in
theorem c_X1_number (l : Launch) (g : Gv) (m0 : Mm) (v0 : Nat) (v1 : Int32) (Φ : Int32 → Mm → Prop) (hw : wp_X1_number m0 v0 v1 Φ) : Met l yX1_number wsX1_number rm_X1_number (PP g [.ref (ad g v0), .int v1] m0) (QQ g vI Φ) 0 0 (Ag g) := by
  refine CT_of (by decide +kernel) rfl (Nat.le_of_ble_eq_true rfl) ?_
  intro p e s m below meth c hx hb hr hml hown hts hlk hnm hK hW ls hl
  have hown : s.vm.findClass RX1 = some m.cls := hown
  have hl : lv_has ls 2 [(0, .ref (ad g v0)), (1, .int v1)] := hl
  have i2 : ∀ w ∈ u_ws RX1 TX1 5, w ∈ wsX1_number := by decide +kernel
  unfold wp_X1_number at hw
  refine lv_iload_n hx hb dX1_number_0 rfl (lv_at hl 1 rfl) ?_
  refine lv_if_lt (tgt := 19) hx hb dX1_number_1 (by decide) (fun c1 => ?_) (fun c1 => ?_)
  · have hw := hw.1 c1
    refine lv_iconst (v := (-1 : Int32)) hx hb dX1_number_19 (by decide) ?_
    exact R_iret hx hb hr hlk hW hw dX1_number_20
  · have hw := hw.2 c1
    refine lv_iload_n hx hb dX1_number_4 rfl (lv_at hl 1 rfl) ?_
    refine lv_bipush (v := (6 : Int32)) hx hb dX1_number_5 (by decide) ?_
    refine lv_icmp_ge (tgt := 19) hx hb dX1_number_7 (by decide) (fun c2 => ?_) (fun c2 => ?_)
    · have hw := hw.1 c2
      refine lv_iconst (v := (-1 : Int32)) hx hb dX1_number_19 (by decide) ?_
      exact R_iret hx hb hr hlk hW hw dX1_number_20
    · have hw := hw.2 c2
      refine lv_aload_n hx hb dX1_number_10 rfl (lv_at hl 0 rfl) ?_
      refine R_getP (C := RX1) (T := TX1) (N := 5) hx hb hts i2 hown hK hW 1 hw.1 (by decide) rfl (by decide) (hts (.fieldLink RX1 20 "BoatLift$Law" "numbers" "[I") (by decide +kernel)) (fun _ h => h) (fun _ _ _ => rfl) hw.2.1 dX1_number_11 ?_
      have hw := hw.2.2
      refine lv_iload_n hx hb dX1_number_14 rfl (lv_at hl 1 rfl) ?_
      refine R_iald hx hb hK hW hw.1 hw.2.1 dX1_number_15 ?_
      have hw := hw.2.2
      refine lv_goto (tgt := 20) hx hb dX1_number_16 (by decide) ?_
      exact R_iret hx hb hr hlk hW hw dX1_number_20

def wp_X1_sign (m0 : Mm) (v0 : Nat) (Φ : Int32 → Mm → Prop) : Prop :=
  mT m0 v0 = 2 ∧ mT m0 v0 = 2 ∧ (((mI m0 v0 3) ≤ (mI m0 v0 4) → Φ (-1 : Int32) m0) ∧ (¬ (mI m0 v0 3) ≤ (mI m0 v0 4) → mT m0 v0 = 2 ∧ (mP m0 v0 0) ≠ 0 ∧ mT m0 v0 = 2 ∧ mT m0 (mP m0 v0 0) = 4 ∧ wp_X3_at m0 (mP m0 v0 0) (mI m0 v0 4) (fun (r2 : Int32) (m3 : Mm) => Φ r2 m3)))
abbrev rm_X1_sign : Room := { frames := 1, cells := 0, slots := 0, locals := 21 }
set_option maxHeartbeats 4000000 in
set_option maxRecDepth 100000 in
theorem c_X1_sign (l : Launch) (g : Gv) (m0 : Mm) (v0 : Nat) (Φ : Int32 → Mm → Prop) (hw : wp_X1_sign m0 v0 Φ) : Met l yX1_sign wsX1_sign rm_X1_sign (PP g [.ref (ad g v0)] m0) (QQ g vI Φ) 0 0 (Ag g) := by
  refine CT_of (by decide +kernel) rfl (Nat.le_of_ble_eq_true rfl) ?_
  intro p e s m below meth c hx hb hr hml hown hts hlk hnm hK hW ls hl
  have hown : s.vm.findClass RX1 = some m.cls := hown
  have hl : lv_has ls 1 [(0, .ref (ad g v0))] := hl
  have i2 : ∀ w ∈ u_ws RX1 TX1 5, w ∈ wsX1_sign := by decide +kernel
  unfold wp_X1_sign at hw
  refine lv_aload_n hx hb dX1_sign_0 rfl (lv_at hl 0 rfl) ?_
  refine R_getI (C := RX1) (T := TX1) (N := 5) hx hb hts i2 hown hK hW 4 hw.1 (by decide) rfl (by decide) (hts (.fieldLink RX1 34 "BoatLift$Law" "place" "I") (by decide +kernel)) (fun _ h => h) (fun _ _ _ => rfl) dX1_sign_1 ?_
  have hw := hw.2
  refine lv_aload_n hx hb dX1_sign_4 rfl (lv_at hl 0 rfl) ?_
  refine R_getI (C := RX1) (T := TX1) (N := 5) hx hb hts i2 hown hK hW 3 hw.1 (by decide) rfl (by decide) (hts (.fieldLink RX1 30 "BoatLift$Law" "size" "I") (by decide +kernel)) (fun _ h => h) (fun _ _ _ => rfl) dX1_sign_5 ?_
  have hw := hw.2
  refine lv_icmp_ge (tgt := 25) hx hb dX1_sign_8 (by decide) (fun c1 => ?_) (fun c1 => ?_)
  · have hw := hw.1 c1
    refine lv_iconst (v := (-1 : Int32)) hx hb dX1_sign_25 (by decide) ?_
    exact R_iret hx hb hr hlk hW hw dX1_sign_26
  · have hw := hw.2 c1
    refine lv_aload_n hx hb dX1_sign_11 rfl (lv_at hl 0 rfl) ?_
    refine R_getP (C := RX1) (T := TX1) (N := 5) hx hb hts i2 hown hK hW 0 hw.1 (by decide) rfl (by decide) (hts (.fieldLink RX1 26 "BoatLift$Law" "tape" "LBoatLift$Tape;") (by decide +kernel)) (fun _ h => h) (fun _ _ _ => rfl) hw.2.1 dX1_sign_12 ?_
    have hw := hw.2.2
    refine lv_aload_n hx hb dX1_sign_15 rfl (lv_at hl 0 rfl) ?_
    refine R_getI (C := RX1) (T := TX1) (N := 5) hx hb hts i2 hown hK hW 4 hw.1 (by decide) rfl (by decide) (hts (.fieldLink RX1 34 "BoatLift$Law" "place" "I") (by decide +kernel)) (fun _ h => h) (fun _ _ _ => rfl) dX1_sign_16 ?_
    have hw := hw.2
    refine R_call (va_runV (As := [.int (mI m0 v0 4)]) (rest := []) ⟨hx, hb, hml, hown, hts⟩ (c_X3_at l g m0 (mP m0 v0 0) (mI m0 v0 4) _ hw.2) (cwV 1 hts gX1_sign_X3_at rfl rfl rfl (by decide +kernel) ⟨by decide, by decide⟩) (PP.preV (q := (RX3, TX3, 2)) hK hW hw.1 (by decide) rfl) rfl rfl hl.1 rfl (lv_room (Nat.le_of_ble_eq_true rfl)) dX1_sign_19 ⟨by decide, by decide⟩) hW (fun r2 m3 H locs hw hW => ?_)
    refine W.eq (g2 := F0 m 22 ls [.int r2]) rfl ?_
    refine lv_goto (tgt := 26) hx hb dX1_sign_22 (by decide) ?_
    exact R_iret hx hb hr hlk hW hw dX1_sign_26

def wp_X1_letterOf_2 (K2 : Int32 → Mm → Prop) (v0 : Int32) (v1 : Int32) (mm : Mm) (Φ : Int32 → Mm → Prop) : Prop :=
  (((6 : Int32) ≤ v1 → Φ (-1 : Int32) mm) ∧ (¬ (6 : Int32) ≤ v1 → vp_in v1 (mN mm 4) ∧ ((¬ (mI mm 4 v1.toNatClampNeg) = v0 → K2 (v1 + (1 : Int32)) mm) ∧ ((mI mm 4 v1.toNatClampNeg) = v0 → Φ v1 mm))))
def wp_X1_letterOf (m0 : Mm) (v0 : Int32) (Φ : Int32 → Mm → Prop) : Prop :=
  ∃ n, LOp (fun K x => wp_X1_letterOf_2  (fun z0 z1 => K (z0, z1)) v0 x.1 x.2 Φ) n ((0 : Int32), m0)
abbrev rm_X1_letterOf : Room := { frames := 0, cells := 0, slots := 0, locals := 0 }
set_option maxHeartbeats 4000000 in
set_option maxRecDepth 100000 in
theorem c_X1_letterOf (l : Launch) (g : Gv) (m0 : Mm) (v0 : Int32) (Φ : Int32 → Mm → Prop) (hw : wp_X1_letterOf m0 v0 Φ) : Met l yX1_letterOf wsX1_letterOf rm_X1_letterOf (PP g [.int v0] m0) (QQ g vI Φ) 0 0 (Ag g) := by
  refine CT_of (by decide +kernel) rfl (Nat.le_of_ble_eq_true rfl) ?_
  intro p e s m below meth c hx hb hr hml hown hts hlk hnm hK hW ls hl
  have hown : s.vm.findClass RX1 = some m.cls := hown
  have hl : lv_has ls 2 [(0, .int v0)] := hl
  have L2 : ∀ (n : Nat) (v1 : Int32) (mm : Mm), LOp (fun K x => wp_X1_letterOf_2  (fun z0 z1 => K (z0, z1)) v0 x.1 x.2 Φ) n (v1, mm) → WW p l e rm_X1_letterOf s m ([.int v0] : List Value).toArray below meth c (MQ below (QQ g vI Φ) ([.int v0] : List Value).toArray s 0 0 (Ag g)) g mm 2 0 0 2 [(0, .int v0), (1, .int v1)] [] := by
    intro  n
    induction n with
    | zero => intro v1 mm hw; exact hw.elim
    | succ n ih2 =>
      obtain ⟨K2, eK2⟩ : ∃ K : Int32 → Mm → Prop, K = fun v1 mm => LOp (fun K x => wp_X1_letterOf_2  (fun z0 z1 => K (z0, z1)) v0 x.1 x.2 Φ) n (v1, mm) := ⟨_, rfl⟩
      have ih2 : ∀ (v1 : Int32) (mm : Mm), K2 v1 mm → WW p l e rm_X1_letterOf s m ([.int v0] : List Value).toArray below meth c (MQ below (QQ g vI Φ) ([.int v0] : List Value).toArray s 0 0 (Ag g)) g mm 2 0 0 2 [(0, .int v0), (1, .int v1)] [] := by rw [eK2]; exact ih2
      intro v1 mm hw H locs ls hW hl
      have hw : wp_X1_letterOf_2 K2 v0 v1 mm Φ := by rw [eK2]; exact hw
      unfold wp_X1_letterOf_2 at hw
      refine lv_iload_n hx hb dX1_letterOf_2 rfl (lv_at hl 1 rfl) ?_
      refine lv_bipush (v := (6 : Int32)) hx hb dX1_letterOf_3 (by decide) ?_
      refine lv_icmp_ge (tgt := 25) hx hb dX1_letterOf_5 (by decide) (fun c1 => ?_) (fun c1 => ?_)
      · have hw := hw.1 c1
        refine lv_iconst (v := (-1 : Int32)) hx hb dX1_letterOf_25 (by decide) ?_
        exact R_iret hx hb hr hlk hW hw dX1_letterOf_26
      · have hw := hw.2 c1
        refine R_gets hx hb hK.2.2.1.2.1 hW hown (hts (.fieldLink RX1 76 "BoatLift$Law" "LETTER" "[I") (by decide +kernel)) dX1_letterOf_8 ?_
        refine lv_iload_n hx hb dX1_letterOf_11 rfl (lv_at hl 1 rfl) ?_
        refine R_sald hx hb hK.2.2.1.2.1 (by decide) (by decide) hW hw.1 dX1_letterOf_12 ?_
        have hw := hw.2
        refine lv_iload_n hx hb dX1_letterOf_13 rfl (lv_at hl 0 rfl) ?_
        refine lv_icmp_ne (tgt := 19) hx hb dX1_letterOf_14 (by decide) (fun c2 => ?_) (fun c2 => ?_)
        · have hw := hw.1 c2
          refine lv_iinc (v := (v1 + (1 : Int32))) (lv' := [(1, .int (v1 + (1 : Int32))), (0, .int v0)]) hx hb dX1_letterOf_19 hl (k := 1) rfl rfl (by decide) rfl (fun ls hl => ?_)
          refine lv_goto (tgt := 2) hx hb dX1_letterOf_22 (by decide) ?_
          exact ih2 (v1 + (1 : Int32)) mm hw _ _ _ hW (lv_sub hl [1, 0] rfl)
        · have hw := hw.2 c2
          refine lv_iload_n hx hb dX1_letterOf_17 rfl (lv_at hl 1 rfl) ?_
          exact R_iret hx hb hr hlk hW hw dX1_letterOf_18
  unfold wp_X1_letterOf at hw
  refine lv_iconst (v := (0 : Int32)) hx hb dX1_letterOf_0 (by decide) ?_
  refine lv_istore_n (lv' := [(1, .int (0 : Int32)), (0, .int v0)]) hx hb dX1_letterOf_1 rfl hl (by decide) rfl (fun ls hl => ?_)
  obtain ⟨n, hw⟩ := hw
  exact L2  n (0 : Int32) m0 hw _ _ _ hW (lv_sub hl [1, 0] rfl)

def wp_X1_isDigit (m0 : Mm) (v0 : Int32) (Φ : Int32 → Mm → Prop) : Prop :=
  ((v0 < (48 : Int32) → Φ (0 : Int32) m0) ∧ (¬ v0 < (48 : Int32) → (((57 : Int32) < v0 → Φ (0 : Int32) m0) ∧ (¬ (57 : Int32) < v0 → Φ (1 : Int32) m0))))
abbrev rm_X1_isDigit : Room := { frames := 0, cells := 0, slots := 0, locals := 0 }
set_option maxHeartbeats 4000000 in
set_option maxRecDepth 100000 in
theorem c_X1_isDigit (l : Launch) (g : Gv) (m0 : Mm) (v0 : Int32) (Φ : Int32 → Mm → Prop) (hw : wp_X1_isDigit m0 v0 Φ) : Met l yX1_isDigit wsX1_isDigit rm_X1_isDigit (PP g [.int v0] m0) (QQ g vI Φ) 0 0 (Ag g) := by
  refine CT_of (by decide +kernel) rfl (Nat.le_of_ble_eq_true rfl) ?_
  intro p e s m below meth c hx hb hr hml hown hts hlk hnm hK hW ls hl
  have hown : s.vm.findClass RX1 = some m.cls := hown
  have hl : lv_has ls 1 [(0, .int v0)] := hl
  unfold wp_X1_isDigit at hw
  refine lv_iload_n hx hb dX1_isDigit_0 rfl (lv_at hl 0 rfl) ?_
  refine lv_bipush (v := (48 : Int32)) hx hb dX1_isDigit_1 (by decide) ?_
  refine lv_icmp_lt (tgt := 16) hx hb dX1_isDigit_3 (by decide) (fun c1 => ?_) (fun c1 => ?_)
  · have hw := hw.1 c1
    refine lv_iconst (v := (0 : Int32)) hx hb dX1_isDigit_16 (by decide) ?_
    exact R_zret hx hb hr hlk hW (Or.inl rfl) hw dX1_isDigit_17
  · have hw := hw.2 c1
    refine lv_iload_n hx hb dX1_isDigit_6 rfl (lv_at hl 0 rfl) ?_
    refine lv_bipush (v := (57 : Int32)) hx hb dX1_isDigit_7 (by decide) ?_
    refine lv_icmp_gt (tgt := 16) hx hb dX1_isDigit_9 (by decide) (fun c2 => ?_) (fun c2 => ?_)
    · have hw := hw.1 c2
      refine lv_iconst (v := (0 : Int32)) hx hb dX1_isDigit_16 (by decide) ?_
      exact R_zret hx hb hr hlk hW (Or.inl rfl) hw dX1_isDigit_17
    · have hw := hw.2 c2
      refine lv_iconst (v := (1 : Int32)) hx hb dX1_isDigit_12 (by decide) ?_
      refine lv_goto (tgt := 17) hx hb dX1_isDigit_13 (by decide) ?_
      exact R_zret hx hb hr hlk hW (Or.inr rfl) hw dX1_isDigit_17

def wp_X1_fault (m0 : Mm) (v0 : Int32) (v1 : Int32) (Φ : Int32 → Mm → Prop) : Prop :=
  Φ (((100 : Int32) * v0) + v1) m0
abbrev rm_X1_fault : Room := { frames := 0, cells := 0, slots := 0, locals := 0 }
set_option maxHeartbeats 4000000 in
set_option maxRecDepth 100000 in
theorem c_X1_fault (l : Launch) (g : Gv) (m0 : Mm) (v0 : Int32) (v1 : Int32) (Φ : Int32 → Mm → Prop) (hw : wp_X1_fault m0 v0 v1 Φ) : Met l yX1_fault wsX1_fault rm_X1_fault (PP g [.int v0, .int v1] m0) (QQ g vI Φ) 0 0 (Ag g) := by
  refine CT_of (by decide +kernel) rfl (Nat.le_of_ble_eq_true rfl) ?_
  intro p e s m below meth c hx hb hr hml hown hts hlk hnm hK hW ls hl
  have hown : s.vm.findClass RX1 = some m.cls := hown
  have hl : lv_has ls 2 [(0, .int v0), (1, .int v1)] := hl
  unfold wp_X1_fault at hw
  refine lv_bipush (v := (100 : Int32)) hx hb dX1_fault_0 (by decide) ?_
  refine lv_iload_n hx hb dX1_fault_2 rfl (lv_at hl 0 rfl) ?_
  refine lv_imul hx hb dX1_fault_3 ?_
  refine lv_iload_n hx hb dX1_fault_4 rfl (lv_at hl 1 rfl) ?_
  refine lv_iadd hx hb dX1_fault_5 ?_
  exact R_iret hx hb hr hlk hW hw dX1_fault_6

def wp_X1_faultOfClause_136 (v2 : Int32) (mm : Mm) (Φ : Int32 → Mm → Prop) : Prop :=
  wp_X1_fault mm (4 : Int32) v2 (fun (r1 : Int32) (m2 : Mm) => Φ r1 m2)
def wp_X1_faultOfClause_104 (v0 : Nat) (v1 : Int32) (v2 : Int32) (v3 : Int32) (mm : Mm) (Φ : Int32 → Mm → Prop) : Prop :=
  mT mm v0 = 2 ∧ ((¬ (mI mm v0 4) = v2 → vp_in v1 (mN mm 5) ∧ ((v3 < (mI mm 5 v1.toNatClampNeg) → wp_X1_faultOfClause_136 v2 mm Φ) ∧ (¬ v3 < (mI mm 5 v1.toNatClampNeg) → vp_in v1 (mN mm 6) ∧ ((v3 ≤ (mI mm 6 v1.toNatClampNeg) → mT mm v0 = 2 ∧ (mP mm v0 2) ≠ 0 ∧ mT mm (mP mm v0 2) = 9 ∧ vp_in v1 (mN mm (mP mm v0 2)) ∧ ∀ m6 : Mm, m6 = sI mm (mP mm v0 2) v1.toNatClampNeg v3 → Φ (0 : Int32) m6) ∧ (¬ v3 ≤ (mI mm 6 v1.toNatClampNeg) → wp_X1_faultOfClause_136 v2 mm Φ))))) ∧ ((mI mm v0 4) = v2 → wp_X1_fault mm (2 : Int32) v2 (fun (r7 : Int32) (m8 : Mm) => Φ r7 m8)))
def wp_X1_faultOfClause_38 (K38 : Int32 → Mm → Prop) (v0 : Nat) (v1 : Int32) (v2 : Int32) (v3 : Int32) (mm : Mm) (Φ : Int32 → Mm → Prop) : Prop :=
  mT mm v0 = 2 ∧ mT mm v0 = 2 ∧ (((mI mm v0 3) ≤ (mI mm v0 4) → wp_X1_faultOfClause_104 v0 v1 v2 v3 mm Φ) ∧ (¬ (mI mm v0 3) ≤ (mI mm v0 4) → mT mm v0 = 2 ∧ wp_X1_sign mm v0 (fun (r10 : Int32) (m11 : Mm) => wp_X1_isDigit m11 r10 (fun (r12 : Int32) (m13 : Mm) => ((r12 = 0 → wp_X1_faultOfClause_104 v0 v1 v2 v3 m13 Φ) ∧ (¬ r12 = 0 → mT m13 v0 = 2 ∧ ((¬ ((mI m13 v0 4) - v2) = (4 : Int32) → mT m13 v0 = 2 ∧ wp_X1_sign m13 v0 (fun (r16 : Int32) (m17 : Mm) => mT m17 v0 = 2 ∧ mT m17 v0 = 2 ∧ ∀ m18 : Mm, m18 = sI m17 v0 4 ((mI m17 v0 4) + (1 : Int32)) → K38 (((v3 * (10 : Int32)) + r16) - (48 : Int32)) m18)) ∧ (((mI m13 v0 4) - v2) = (4 : Int32) → mT m13 v0 = 2 ∧ wp_X1_fault m13 (3 : Int32) (mI m13 v0 4) (fun (r19 : Int32) (m20 : Mm) => Φ r19 m20)))))))))
def wp_X1_faultOfClause (m0 : Mm) (v0 : Nat) (Φ : Int32 → Mm → Prop) : Prop :=
  mT m0 v0 = 2 ∧ wp_X1_sign m0 v0 (fun (r21 : Int32) (m22 : Mm) => wp_X1_letterOf m22 r21 (fun (r23 : Int32) (m24 : Mm) => ((0 ≤ r23 → mT m24 v0 = 2 ∧ mT m24 v0 = 2 ∧ ∀ m26 : Mm, m26 = sI m24 v0 4 ((mI m24 v0 4) + (1 : Int32)) → mT m26 v0 = 2 ∧ ∃ n, LOp (fun K x => wp_X1_faultOfClause_38  (fun z0 z1 => K (z0, z1)) v0 r23 (mI m26 v0 4) x.1 x.2 Φ) n ((0 : Int32), m26)) ∧ (¬ 0 ≤ r23 → mT m24 v0 = 2 ∧ wp_X1_fault m24 (1 : Int32) (mI m24 v0 4) (fun (r27 : Int32) (m28 : Mm) => Φ r27 m28)))))
abbrev rm_X1_faultOfClause : Room := { frames := 2, cells := 0, slots := 0, locals := 41 }
set_option maxHeartbeats 4000000 in
set_option maxRecDepth 100000 in
theorem c_X1_faultOfClause (l : Launch) (g : Gv) (m0 : Mm) (v0 : Nat) (Φ : Int32 → Mm → Prop) (hw : wp_X1_faultOfClause m0 v0 Φ) : Met l yX1_faultOfClause wsX1_faultOfClause rm_X1_faultOfClause (PP g [.ref (ad g v0)] m0) (QQ g vI Φ) 0 0 (Ag g) := by
  refine CT_of (by decide +kernel) rfl (Nat.le_of_ble_eq_true rfl) ?_
  intro p e s m below meth c hx hb hr hml hown hts hlk hnm hK hW ls hl
  have hown : s.vm.findClass RX1 = some m.cls := hown
  have hl : lv_has ls 4 [(0, .ref (ad g v0))] := hl
  have i2 : ∀ w ∈ u_ws RX1 TX1 5, w ∈ wsX1_faultOfClause := by decide +kernel
  have B136 : ∀ (v2 : Int32) (mm : Mm), wp_X1_faultOfClause_136 v2 mm Φ → WW p l e rm_X1_faultOfClause s m ([.ref (ad g v0)] : List Value).toArray below meth c (MQ below (QQ g vI Φ) ([.ref (ad g v0)] : List Value).toArray s 0 0 (Ag g)) g mm 4 0 0 136 [(2, .int v2)] [] := by
    intro v2 mm hw H locs ls hW hl
    unfold wp_X1_faultOfClause_136 at hw
    refine lv_iconst (v := (4 : Int32)) hx hb dX1_faultOfClause_136 (by decide) ?_
    refine lv_iload_n hx hb dX1_faultOfClause_137 rfl (lv_at hl 0 rfl) ?_
    refine R_call (va_runS (As := [.int (4 : Int32), .int v2]) (rest := []) ⟨hx, hb, hml, hown, hts⟩ (c_X1_fault l g mm (4 : Int32) v2 _ hw) (va_cwS 2 hts gX1_faultOfClause_X1_fault rfl rfl rfl (by decide +kernel) ⟨by decide, by decide⟩) (PP.pre hK hW) rfl rfl hl.1 rfl (lv_room (Nat.le_of_ble_eq_true rfl)) dX1_faultOfClause_138 ⟨by decide, by decide⟩) hW (fun r1 m2 H locs hw hW => ?_)
    refine W.eq (g2 := F0 m 141 ls [.int r1]) rfl ?_
    exact R_iret hx hb hr hlk hW hw dX1_faultOfClause_141
  have B104 : ∀ (v1 : Int32) (v2 : Int32) (v3 : Int32) (mm : Mm), wp_X1_faultOfClause_104 v0 v1 v2 v3 mm Φ → WW p l e rm_X1_faultOfClause s m ([.ref (ad g v0)] : List Value).toArray below meth c (MQ below (QQ g vI Φ) ([.ref (ad g v0)] : List Value).toArray s 0 0 (Ag g)) g mm 4 0 0 104 [(0, .ref (ad g v0)), (1, .int v1), (2, .int v2), (3, .int v3)] [] := by
    intro v1 v2 v3 mm hw H locs ls hW hl
    unfold wp_X1_faultOfClause_104 at hw
    refine lv_aload_n hx hb dX1_faultOfClause_104 rfl (lv_at hl 0 rfl) ?_
    refine R_getI (C := RX1) (T := TX1) (N := 5) hx hb hts i2 hown hK hW 4 hw.1 (by decide) rfl (by decide) (hts (.fieldLink RX1 34 "BoatLift$Law" "place" "I") (by decide +kernel)) (fun _ h => h) (fun _ _ _ => rfl) dX1_faultOfClause_105 ?_
    have hw := hw.2
    refine lv_iload_n hx hb dX1_faultOfClause_108 rfl (lv_at hl 2 rfl) ?_
    refine lv_icmp_ne (tgt := 118) hx hb dX1_faultOfClause_109 (by decide) (fun c3 => ?_) (fun c3 => ?_)
    · have hw := hw.1 c3
      refine lv_iload_n hx hb dX1_faultOfClause_118 rfl (lv_at hl 3 rfl) ?_
      refine R_gets hx hb hK.2.2.1.2.2.1 hW hown (hts (.fieldLink RX1 65 "BoatLift$Law" "LEAST" "[I") (by decide +kernel)) dX1_faultOfClause_119 ?_
      refine lv_iload_n hx hb dX1_faultOfClause_122 rfl (lv_at hl 1 rfl) ?_
      refine R_sald hx hb hK.2.2.1.2.2.1 (by decide) (by decide) hW hw.1 dX1_faultOfClause_123 ?_
      have hw := hw.2
      refine lv_icmp_lt (tgt := 136) hx hb dX1_faultOfClause_124 (by decide) (fun c4 => ?_) (fun c4 => ?_)
      · have hw := hw.1 c4
        exact B136 v2 mm hw _ _ _ hW (lv_sub hl [2] rfl)
      · have hw := hw.2 c4
        refine lv_iload_n hx hb dX1_faultOfClause_127 rfl (lv_at hl 3 rfl) ?_
        refine R_gets hx hb hK.2.2.1.2.2.2 hW hown (hts (.fieldLink RX1 68 "BoatLift$Law" "MOST" "[I") (by decide +kernel)) dX1_faultOfClause_128 ?_
        refine lv_iload_n hx hb dX1_faultOfClause_131 rfl (lv_at hl 1 rfl) ?_
        refine R_sald hx hb hK.2.2.1.2.2.2 (by decide) (by decide) hW hw.1 dX1_faultOfClause_132 ?_
        have hw := hw.2
        refine lv_icmp_le (tgt := 142) hx hb dX1_faultOfClause_133 (by decide) (fun c5 => ?_) (fun c5 => ?_)
        · have hw := hw.1 c5
          refine lv_aload_n hx hb dX1_faultOfClause_142 rfl (lv_at hl 0 rfl) ?_
          refine R_getP (C := RX1) (T := TX1) (N := 5) hx hb hts i2 hown hK hW 2 hw.1 (by decide) rfl (by decide) (hts (.fieldLink RX1 23 "BoatLift$Law" "draft" "[I") (by decide +kernel)) (fun _ h => h) (fun _ _ _ => rfl) hw.2.1 dX1_faultOfClause_143 ?_
          have hw := hw.2.2
          refine lv_iload_n hx hb dX1_faultOfClause_146 rfl (lv_at hl 1 rfl) ?_
          refine lv_iload_n hx hb dX1_faultOfClause_147 rfl (lv_at hl 3 rfl) ?_
          refine R_iast hx hb hK hW hw.1 hw.2.1 dX1_faultOfClause_148 (fun H locs hW => ?_)
          obtain ⟨m6, em6⟩ : ∃ z, z = sI mm (mP mm v0 2) v1.toNatClampNeg v3 := ⟨_, rfl⟩
          rw [← em6] at hW
          have hw := hw.2.2 m6 em6
          refine lv_iconst (v := (0 : Int32)) hx hb dX1_faultOfClause_149 (by decide) ?_
          exact R_iret hx hb hr hlk hW hw dX1_faultOfClause_150
        · have hw := hw.2 c5
          exact B136 v2 mm hw _ _ _ hW (lv_sub hl [2] rfl)
    · have hw := hw.2 c3
      refine lv_iconst (v := (2 : Int32)) hx hb dX1_faultOfClause_112 (by decide) ?_
      refine lv_iload_n hx hb dX1_faultOfClause_113 rfl (lv_at hl 2 rfl) ?_
      refine R_call (va_runS (As := [.int (2 : Int32), .int v2]) (rest := []) ⟨hx, hb, hml, hown, hts⟩ (c_X1_fault l g mm (2 : Int32) v2 _ hw) (va_cwS 2 hts gX1_faultOfClause_X1_fault rfl rfl rfl (by decide +kernel) ⟨by decide, by decide⟩) (PP.pre hK hW) rfl rfl hl.1 rfl (lv_room (Nat.le_of_ble_eq_true rfl)) dX1_faultOfClause_114 ⟨by decide, by decide⟩) hW (fun r7 m8 H locs hw hW => ?_)
      refine W.eq (g2 := F0 m 117 ls [.int r7]) rfl ?_
      exact R_iret hx hb hr hlk hW hw dX1_faultOfClause_117
  have L38 : ∀ (v1 : Int32) (v2 : Int32) (n : Nat) (v3 : Int32) (mm : Mm), LOp (fun K x => wp_X1_faultOfClause_38  (fun z0 z1 => K (z0, z1)) v0 v1 v2 x.1 x.2 Φ) n (v3, mm) → WW p l e rm_X1_faultOfClause s m ([.ref (ad g v0)] : List Value).toArray below meth c (MQ below (QQ g vI Φ) ([.ref (ad g v0)] : List Value).toArray s 0 0 (Ag g)) g mm 4 0 0 38 [(0, .ref (ad g v0)), (1, .int v1), (2, .int v2), (3, .int v3)] [] := by
    intro v1 v2 n
    induction n with
    | zero => intro v3 mm hw; exact hw.elim
    | succ n ih38 =>
      obtain ⟨K38, eK38⟩ : ∃ K : Int32 → Mm → Prop, K = fun v3 mm => LOp (fun K x => wp_X1_faultOfClause_38  (fun z0 z1 => K (z0, z1)) v0 v1 v2 x.1 x.2 Φ) n (v3, mm) := ⟨_, rfl⟩
      have ih38 : ∀ (v3 : Int32) (mm : Mm), K38 v3 mm → WW p l e rm_X1_faultOfClause s m ([.ref (ad g v0)] : List Value).toArray below meth c (MQ below (QQ g vI Φ) ([.ref (ad g v0)] : List Value).toArray s 0 0 (Ag g)) g mm 4 0 0 38 [(0, .ref (ad g v0)), (1, .int v1), (2, .int v2), (3, .int v3)] [] := by rw [eK38]; exact ih38
      intro v3 mm hw H locs ls hW hl
      have hw : wp_X1_faultOfClause_38 K38 v0 v1 v2 v3 mm Φ := by rw [eK38]; exact hw
      unfold wp_X1_faultOfClause_38 at hw
      refine lv_aload_n hx hb dX1_faultOfClause_38 rfl (lv_at hl 0 rfl) ?_
      refine R_getI (C := RX1) (T := TX1) (N := 5) hx hb hts i2 hown hK hW 4 hw.1 (by decide) rfl (by decide) (hts (.fieldLink RX1 34 "BoatLift$Law" "place" "I") (by decide +kernel)) (fun _ h => h) (fun _ _ _ => rfl) dX1_faultOfClause_39 ?_
      have hw := hw.2
      refine lv_aload_n hx hb dX1_faultOfClause_42 rfl (lv_at hl 0 rfl) ?_
      refine R_getI (C := RX1) (T := TX1) (N := 5) hx hb hts i2 hown hK hW 3 hw.1 (by decide) rfl (by decide) (hts (.fieldLink RX1 30 "BoatLift$Law" "size" "I") (by decide +kernel)) (fun _ h => h) (fun _ _ _ => rfl) dX1_faultOfClause_43 ?_
      have hw := hw.2
      refine lv_icmp_ge (tgt := 104) hx hb dX1_faultOfClause_46 (by decide) (fun c9 => ?_) (fun c9 => ?_)
      · have hw := hw.1 c9
        exact B104 v1 v2 v3 mm hw _ _ _ hW (lv_sub hl [0, 1, 2, 3] rfl)
      · have hw := hw.2 c9
        refine lv_aload_n hx hb dX1_faultOfClause_49 rfl (lv_at hl 0 rfl) ?_
        refine R_call (va_runV (As := []) (rest := []) ⟨hx, hb, hml, hown, hts⟩ (c_X1_sign l g mm v0 _ hw.2) (cwV 0 hts gX1_faultOfClause_X1_sign rfl rfl rfl (by decide +kernel) ⟨by decide, by decide⟩) (PP.preV (q := (RX1, TX1, 5)) hK hW hw.1 (by decide) rfl) rfl rfl hl.1 rfl (lv_room (Nat.le_of_ble_eq_true rfl)) dX1_faultOfClause_50 ⟨by decide, by decide⟩) hW (fun r10 m11 H locs hw hW => ?_)
        refine W.eq (g2 := F0 m 53 ls [.int r10]) rfl ?_
        refine R_call (va_runS (As := [.int r10]) (rest := []) ⟨hx, hb, hml, hown, hts⟩ (c_X1_isDigit l g m11 r10 _ hw) (va_cwS 1 hts gX1_faultOfClause_X1_isDigit rfl rfl rfl (by decide +kernel) ⟨by decide, by decide⟩) (PP.pre hK hW) rfl rfl hl.1 rfl (lv_room (Nat.le_of_ble_eq_true rfl)) dX1_faultOfClause_53 ⟨by decide, by decide⟩) hW (fun r12 m13 H locs hw hW => ?_)
        refine W.eq (g2 := F0 m 56 ls [.int r12]) rfl ?_
        refine lv_if_eq (tgt := 104) hx hb dX1_faultOfClause_56 (by decide) (fun c14 => ?_) (fun c14 => ?_)
        · have hw := hw.1 c14
          exact B104 v1 v2 v3 m13 hw _ _ _ hW (lv_sub hl [0, 1, 2, 3] rfl)
        · have hw := hw.2 c14
          refine lv_aload_n hx hb dX1_faultOfClause_59 rfl (lv_at hl 0 rfl) ?_
          refine R_getI (C := RX1) (T := TX1) (N := 5) hx hb hts i2 hown hK hW 4 hw.1 (by decide) rfl (by decide) (hts (.fieldLink RX1 34 "BoatLift$Law" "place" "I") (by decide +kernel)) (fun _ h => h) (fun _ _ _ => rfl) dX1_faultOfClause_60 ?_
          have hw := hw.2
          refine lv_iload_n hx hb dX1_faultOfClause_63 rfl (lv_at hl 2 rfl) ?_
          refine lv_isub hx hb dX1_faultOfClause_64 ?_
          refine lv_iconst (v := (4 : Int32)) hx hb dX1_faultOfClause_65 (by decide) ?_
          refine lv_icmp_ne (tgt := 78) hx hb dX1_faultOfClause_66 (by decide) (fun c15 => ?_) (fun c15 => ?_)
          · have hw := hw.1 c15
            refine lv_iload_n hx hb dX1_faultOfClause_78 rfl (lv_at hl 3 rfl) ?_
            refine lv_bipush (v := (10 : Int32)) hx hb dX1_faultOfClause_79 (by decide) ?_
            refine lv_imul hx hb dX1_faultOfClause_81 ?_
            refine lv_aload_n hx hb dX1_faultOfClause_82 rfl (lv_at hl 0 rfl) ?_
            refine R_call (va_runV (As := []) (rest := [.int (v3 * (10 : Int32))]) ⟨hx, hb, hml, hown, hts⟩ (c_X1_sign l g m13 v0 _ hw.2) (cwV 0 hts gX1_faultOfClause_X1_sign rfl rfl rfl (by decide +kernel) ⟨by decide, by decide⟩) (PP.preV (q := (RX1, TX1, 5)) hK hW hw.1 (by decide) rfl) rfl rfl hl.1 rfl (lv_room (Nat.le_of_ble_eq_true rfl)) dX1_faultOfClause_83 ⟨by decide, by decide⟩) hW (fun r16 m17 H locs hw hW => ?_)
            refine W.eq (g2 := F0 m 86 ls [.int r16, .int (v3 * (10 : Int32))]) rfl ?_
            refine lv_iadd hx hb dX1_faultOfClause_86 ?_
            refine lv_bipush (v := (48 : Int32)) hx hb dX1_faultOfClause_87 (by decide) ?_
            refine lv_isub hx hb dX1_faultOfClause_89 ?_
            refine lv_istore_n (lv' := [(3, .int (((v3 * (10 : Int32)) + r16) - (48 : Int32))), (0, .ref (ad g v0)), (1, .int v1), (2, .int v2)]) hx hb dX1_faultOfClause_90 rfl hl (by decide) rfl (fun ls hl => ?_)
            refine lv_aload_n hx hb dX1_faultOfClause_91 rfl (lv_at hl 1 rfl) ?_
            refine lv_dup hx hb dX1_faultOfClause_92 rfl ?_
            refine R_getI (C := RX1) (T := TX1) (N := 5) hx hb hts i2 hown hK hW 4 hw.1 (by decide) rfl (by decide) (hts (.fieldLink RX1 34 "BoatLift$Law" "place" "I") (by decide +kernel)) (fun _ h => h) (fun _ _ _ => rfl) dX1_faultOfClause_93 ?_
            have hw := hw.2
            refine lv_iconst (v := (1 : Int32)) hx hb dX1_faultOfClause_96 (by decide) ?_
            refine lv_iadd hx hb dX1_faultOfClause_97 ?_
            refine R_putI (C := RX1) (T := TX1) (N := 5) hx hb hts i2 tyX1 tyX1_ok nmX1 hown hK hW 4 hw.1 (by decide) rfl (by decide) (hts (.fieldLink RX1 34 "BoatLift$Law" "place" "I") (by decide +kernel)) (fun _ h => h) (Or.inl rfl) rfl (fun _ _ _ => rfl) (fun _ _ _ => rfl) dX1_faultOfClause_98 (fun H locs hW => ?_)
            obtain ⟨m18, em18⟩ : ∃ z, z = sI m17 v0 4 ((mI m17 v0 4) + (1 : Int32)) := ⟨_, rfl⟩
            rw [← em18] at hW
            have hw := hw.2 m18 em18
            refine lv_goto (tgt := 38) hx hb dX1_faultOfClause_101 (by decide) ?_
            exact ih38 (((v3 * (10 : Int32)) + r16) - (48 : Int32)) m18 hw _ _ _ hW (lv_sub hl [1, 2, 3, 0] rfl)
          · have hw := hw.2 c15
            refine lv_iconst (v := (3 : Int32)) hx hb dX1_faultOfClause_69 (by decide) ?_
            refine lv_aload_n hx hb dX1_faultOfClause_70 rfl (lv_at hl 0 rfl) ?_
            refine R_getI (C := RX1) (T := TX1) (N := 5) hx hb hts i2 hown hK hW 4 hw.1 (by decide) rfl (by decide) (hts (.fieldLink RX1 34 "BoatLift$Law" "place" "I") (by decide +kernel)) (fun _ h => h) (fun _ _ _ => rfl) dX1_faultOfClause_71 ?_
            have hw := hw.2
            refine R_call (va_runS (As := [.int (3 : Int32), .int (mI m13 v0 4)]) (rest := []) ⟨hx, hb, hml, hown, hts⟩ (c_X1_fault l g m13 (3 : Int32) (mI m13 v0 4) _ hw) (va_cwS 2 hts gX1_faultOfClause_X1_fault rfl rfl rfl (by decide +kernel) ⟨by decide, by decide⟩) (PP.pre hK hW) rfl rfl hl.1 rfl (lv_room (Nat.le_of_ble_eq_true rfl)) dX1_faultOfClause_74 ⟨by decide, by decide⟩) hW (fun r19 m20 H locs hw hW => ?_)
            refine W.eq (g2 := F0 m 77 ls [.int r19]) rfl ?_
            exact R_iret hx hb hr hlk hW hw dX1_faultOfClause_77
  unfold wp_X1_faultOfClause at hw
  refine lv_aload_n hx hb dX1_faultOfClause_0 rfl (lv_at hl 0 rfl) ?_
  refine R_call (va_runV (As := []) (rest := []) ⟨hx, hb, hml, hown, hts⟩ (c_X1_sign l g m0 v0 _ hw.2) (cwV 0 hts gX1_faultOfClause_X1_sign rfl rfl rfl (by decide +kernel) ⟨by decide, by decide⟩) (PP.preV (q := (RX1, TX1, 5)) hK hW hw.1 (by decide) rfl) rfl rfl hl.1 rfl (lv_room (Nat.le_of_ble_eq_true rfl)) dX1_faultOfClause_1 ⟨by decide, by decide⟩) hW (fun r21 m22 H locs hw hW => ?_)
  refine W.eq (g2 := F0 m 4 ls [.int r21]) rfl ?_
  refine R_call (va_runS (As := [.int r21]) (rest := []) ⟨hx, hb, hml, hown, hts⟩ (c_X1_letterOf l g m22 r21 _ hw) (va_cwS 1 hts gX1_faultOfClause_X1_letterOf rfl rfl rfl (by decide +kernel) ⟨by decide, by decide⟩) (PP.pre hK hW) rfl rfl hl.1 rfl (lv_room (Nat.le_of_ble_eq_true rfl)) dX1_faultOfClause_4 ⟨by decide, by decide⟩) hW (fun r23 m24 H locs hw hW => ?_)
  refine W.eq (g2 := F0 m 7 ls [.int r23]) rfl ?_
  refine lv_istore_n (lv' := [(1, .int r23), (0, .ref (ad g v0))]) hx hb dX1_faultOfClause_7 rfl hl (by decide) rfl (fun ls hl => ?_)
  refine lv_iload_n hx hb dX1_faultOfClause_8 rfl (lv_at hl 0 rfl) ?_
  refine lv_if_ge (tgt := 21) hx hb dX1_faultOfClause_9 (by decide) (fun c25 => ?_) (fun c25 => ?_)
  · have hw := hw.1 c25
    refine lv_aload_n hx hb dX1_faultOfClause_21 rfl (lv_at hl 1 rfl) ?_
    refine lv_dup hx hb dX1_faultOfClause_22 rfl ?_
    refine R_getI (C := RX1) (T := TX1) (N := 5) hx hb hts i2 hown hK hW 4 hw.1 (by decide) rfl (by decide) (hts (.fieldLink RX1 34 "BoatLift$Law" "place" "I") (by decide +kernel)) (fun _ h => h) (fun _ _ _ => rfl) dX1_faultOfClause_23 ?_
    have hw := hw.2
    refine lv_iconst (v := (1 : Int32)) hx hb dX1_faultOfClause_26 (by decide) ?_
    refine lv_iadd hx hb dX1_faultOfClause_27 ?_
    refine R_putI (C := RX1) (T := TX1) (N := 5) hx hb hts i2 tyX1 tyX1_ok nmX1 hown hK hW 4 hw.1 (by decide) rfl (by decide) (hts (.fieldLink RX1 34 "BoatLift$Law" "place" "I") (by decide +kernel)) (fun _ h => h) (Or.inl rfl) rfl (fun _ _ _ => rfl) (fun _ _ _ => rfl) dX1_faultOfClause_28 (fun H locs hW => ?_)
    obtain ⟨m26, em26⟩ : ∃ z, z = sI m24 v0 4 ((mI m24 v0 4) + (1 : Int32)) := ⟨_, rfl⟩
    rw [← em26] at hW
    have hw := hw.2 m26 em26
    refine lv_aload_n hx hb dX1_faultOfClause_31 rfl (lv_at hl 1 rfl) ?_
    refine R_getI (C := RX1) (T := TX1) (N := 5) hx hb hts i2 hown hK hW 4 hw.1 (by decide) rfl (by decide) (hts (.fieldLink RX1 34 "BoatLift$Law" "place" "I") (by decide +kernel)) (fun _ h => h) (fun _ _ _ => rfl) dX1_faultOfClause_32 ?_
    have hw := hw.2
    refine lv_istore_n (lv' := [(2, .int (mI m26 v0 4)), (1, .int r23), (0, .ref (ad g v0))]) hx hb dX1_faultOfClause_35 rfl hl (by decide) rfl (fun ls hl => ?_)
    refine lv_iconst (v := (0 : Int32)) hx hb dX1_faultOfClause_36 (by decide) ?_
    refine lv_istore_n (lv' := [(3, .int (0 : Int32)), (2, .int (mI m26 v0 4)), (1, .int r23), (0, .ref (ad g v0))]) hx hb dX1_faultOfClause_37 rfl hl (by decide) rfl (fun ls hl => ?_)
    obtain ⟨n, hw⟩ := hw
    exact L38 r23 (mI m26 v0 4) n (0 : Int32) m26 hw _ _ _ hW (lv_sub hl [3, 2, 1, 0] rfl)
  · have hw := hw.2 c25
    refine lv_iconst (v := (1 : Int32)) hx hb dX1_faultOfClause_12 (by decide) ?_
    refine lv_aload_n hx hb dX1_faultOfClause_13 rfl (lv_at hl 1 rfl) ?_
    refine R_getI (C := RX1) (T := TX1) (N := 5) hx hb hts i2 hown hK hW 4 hw.1 (by decide) rfl (by decide) (hts (.fieldLink RX1 34 "BoatLift$Law" "place" "I") (by decide +kernel)) (fun _ h => h) (fun _ _ _ => rfl) dX1_faultOfClause_14 ?_
    have hw := hw.2
    refine R_call (va_runS (As := [.int (1 : Int32), .int (mI m24 v0 4)]) (rest := []) ⟨hx, hb, hml, hown, hts⟩ (c_X1_fault l g m24 (1 : Int32) (mI m24 v0 4) _ hw) (va_cwS 2 hts gX1_faultOfClause_X1_fault rfl rfl rfl (by decide +kernel) ⟨by decide, by decide⟩) (PP.pre hK hW) rfl rfl hl.1 rfl (lv_room (Nat.le_of_ble_eq_true rfl)) dX1_faultOfClause_17 ⟨by decide, by decide⟩) hW (fun r27 m28 H locs hw hW => ?_)
    refine W.eq (g2 := F0 m 20 ls [.int r27]) rfl ?_
    exact R_iret hx hb hr hlk hW hw dX1_faultOfClause_20

def wp_X1_faultOfText_2 (K2 : Int32 → Mm → Prop) (v0 : Nat) (v1 : Int32) (mm : Mm) (Φ : Int32 → Mm → Prop) : Prop :=
  mT mm v0 = 2 ∧ (((mI mm v0 3) < v1 → Φ (0 : Int32) mm) ∧ (¬ (mI mm v0 3) < v1 → mT mm v0 = 2 ∧ wp_X1_faultOfClause mm v0 (fun (r2 : Int32) (m3 : Mm) => ((¬ r2 = 0 → Φ r2 m3) ∧ (r2 = 0 → mT m3 v0 = 2 ∧ mT m3 v0 = 2 ∧ (((mI m3 v0 4) < (mI m3 v0 3) → mT m3 v0 = 2 ∧ wp_X1_sign m3 v0 (fun (r6 : Int32) (m7 : Mm) => ((r6 = (59 : Int32) → mT m7 v0 = 2 ∧ mT m7 v0 = 2 ∧ ∀ m9 : Mm, m9 = sI m7 v0 4 ((mI m7 v0 4) + (1 : Int32)) → K2 (v1 + (1 : Int32)) m9) ∧ (¬ r6 = (59 : Int32) → mT m7 v0 = 2 ∧ wp_X1_fault m7 (5 : Int32) (mI m7 v0 4) (fun (r10 : Int32) (m11 : Mm) => Φ r10 m11))))) ∧ (¬ (mI m3 v0 4) < (mI m3 v0 3) → Φ r2 m3)))))))
def wp_X1_faultOfText (m0 : Mm) (v0 : Nat) (Φ : Int32 → Mm → Prop) : Prop :=
  ∃ n, LOp (fun K x => wp_X1_faultOfText_2  (fun z0 z1 => K (z0, z1)) v0 x.1 x.2 Φ) n ((0 : Int32), m0)
abbrev rm_X1_faultOfText : Room := { frames := 3, cells := 0, slots := 0, locals := 64 }
set_option maxHeartbeats 4000000 in
set_option maxRecDepth 100000 in
theorem c_X1_faultOfText (l : Launch) (g : Gv) (m0 : Mm) (v0 : Nat) (Φ : Int32 → Mm → Prop) (hw : wp_X1_faultOfText m0 v0 Φ) : Met l yX1_faultOfText wsX1_faultOfText rm_X1_faultOfText (PP g [.ref (ad g v0)] m0) (QQ g vI Φ) 0 0 (Ag g) := by
  refine CT_of (by decide +kernel) rfl (Nat.le_of_ble_eq_true rfl) ?_
  intro p e s m below meth c hx hb hr hml hown hts hlk hnm hK hW ls hl
  have hown : s.vm.findClass RX1 = some m.cls := hown
  have hl : lv_has ls 3 [(0, .ref (ad g v0))] := hl
  have i2 : ∀ w ∈ u_ws RX1 TX1 5, w ∈ wsX1_faultOfText := by decide +kernel
  have L2 : ∀ (n : Nat) (v1 : Int32) (mm : Mm), LOp (fun K x => wp_X1_faultOfText_2  (fun z0 z1 => K (z0, z1)) v0 x.1 x.2 Φ) n (v1, mm) → WW p l e rm_X1_faultOfText s m ([.ref (ad g v0)] : List Value).toArray below meth c (MQ below (QQ g vI Φ) ([.ref (ad g v0)] : List Value).toArray s 0 0 (Ag g)) g mm 3 0 0 2 [(0, .ref (ad g v0)), (1, .int v1)] [] := by
    intro  n
    induction n with
    | zero => intro v1 mm hw; exact hw.elim
    | succ n ih2 =>
      obtain ⟨K2, eK2⟩ : ∃ K : Int32 → Mm → Prop, K = fun v1 mm => LOp (fun K x => wp_X1_faultOfText_2  (fun z0 z1 => K (z0, z1)) v0 x.1 x.2 Φ) n (v1, mm) := ⟨_, rfl⟩
      have ih2 : ∀ (v1 : Int32) (mm : Mm), K2 v1 mm → WW p l e rm_X1_faultOfText s m ([.ref (ad g v0)] : List Value).toArray below meth c (MQ below (QQ g vI Φ) ([.ref (ad g v0)] : List Value).toArray s 0 0 (Ag g)) g mm 3 0 0 2 [(0, .ref (ad g v0)), (1, .int v1)] [] := by rw [eK2]; exact ih2
      intro v1 mm hw H locs ls hW hl
      have hw : wp_X1_faultOfText_2 K2 v0 v1 mm Φ := by rw [eK2]; exact hw
      unfold wp_X1_faultOfText_2 at hw
      refine lv_iload_n hx hb dX1_faultOfText_2 rfl (lv_at hl 1 rfl) ?_
      refine lv_aload_n hx hb dX1_faultOfText_3 rfl (lv_at hl 0 rfl) ?_
      refine R_getI (C := RX1) (T := TX1) (N := 5) hx hb hts i2 hown hK hW 3 hw.1 (by decide) rfl (by decide) (hts (.fieldLink RX1 30 "BoatLift$Law" "size" "I") (by decide +kernel)) (fun _ h => h) (fun _ _ _ => rfl) dX1_faultOfText_4 ?_
      have hw := hw.2
      refine lv_icmp_gt (tgt := 66) hx hb dX1_faultOfText_7 (by decide) (fun c1 => ?_) (fun c1 => ?_)
      · have hw := hw.1 c1
        refine lv_iconst (v := (0 : Int32)) hx hb dX1_faultOfText_66 (by decide) ?_
        exact R_iret hx hb hr hlk hW hw dX1_faultOfText_67
      · have hw := hw.2 c1
        refine lv_aload_n hx hb dX1_faultOfText_10 rfl (lv_at hl 0 rfl) ?_
        refine R_call (va_runV (As := []) (rest := []) ⟨hx, hb, hml, hown, hts⟩ (c_X1_faultOfClause l g mm v0 _ hw.2) (cwV 0 hts gX1_faultOfText_X1_faultOfClause rfl rfl rfl (by decide +kernel) ⟨by decide, by decide⟩) (PP.preV (q := (RX1, TX1, 5)) hK hW hw.1 (by decide) rfl) rfl rfl hl.1 rfl (lv_room (Nat.le_of_ble_eq_true rfl)) dX1_faultOfText_11 ⟨by decide, by decide⟩) hW (fun r2 m3 H locs hw hW => ?_)
        refine W.eq (g2 := F0 m 14 ls [.int r2]) rfl ?_
        refine lv_istore_n (lv' := [(2, .int r2), (0, .ref (ad g v0)), (1, .int v1)]) hx hb dX1_faultOfText_14 rfl hl (by decide) rfl (fun ls hl => ?_)
        refine lv_iload_n hx hb dX1_faultOfText_15 rfl (lv_at hl 0 rfl) ?_
        refine lv_if_ne (tgt := 30) hx hb dX1_faultOfText_16 (by decide) (fun c4 => ?_) (fun c4 => ?_)
        · have hw := hw.1 c4
          refine lv_iload_n hx hb dX1_faultOfText_30 rfl (lv_at hl 0 rfl) ?_
          exact R_iret hx hb hr hlk hW hw dX1_faultOfText_31
        · have hw := hw.2 c4
          refine lv_aload_n hx hb dX1_faultOfText_19 rfl (lv_at hl 1 rfl) ?_
          refine R_getI (C := RX1) (T := TX1) (N := 5) hx hb hts i2 hown hK hW 4 hw.1 (by decide) rfl (by decide) (hts (.fieldLink RX1 34 "BoatLift$Law" "place" "I") (by decide +kernel)) (fun _ h => h) (fun _ _ _ => rfl) dX1_faultOfText_20 ?_
          have hw := hw.2
          refine lv_aload_n hx hb dX1_faultOfText_23 rfl (lv_at hl 1 rfl) ?_
          refine R_getI (C := RX1) (T := TX1) (N := 5) hx hb hts i2 hown hK hW 3 hw.1 (by decide) rfl (by decide) (hts (.fieldLink RX1 30 "BoatLift$Law" "size" "I") (by decide +kernel)) (fun _ h => h) (fun _ _ _ => rfl) dX1_faultOfText_24 ?_
          have hw := hw.2
          refine lv_icmp_lt (tgt := 32) hx hb dX1_faultOfText_27 (by decide) (fun c5 => ?_) (fun c5 => ?_)
          · have hw := hw.1 c5
            refine lv_aload_n hx hb dX1_faultOfText_32 rfl (lv_at hl 1 rfl) ?_
            refine R_call (va_runV (As := []) (rest := []) ⟨hx, hb, hml, hown, hts⟩ (c_X1_sign l g m3 v0 _ hw.2) (cwV 0 hts gX1_faultOfText_X1_sign rfl rfl rfl (by decide +kernel) ⟨by decide, by decide⟩) (PP.preV (q := (RX1, TX1, 5)) hK hW hw.1 (by decide) rfl) rfl rfl hl.1 rfl (lv_room (Nat.le_of_ble_eq_true rfl)) dX1_faultOfText_33 ⟨by decide, by decide⟩) hW (fun r6 m7 H locs hw hW => ?_)
            refine W.eq (g2 := F0 m 36 ls [.int r6]) rfl ?_
            refine lv_bipush (v := (59 : Int32)) hx hb dX1_faultOfText_36 (by decide) ?_
            refine lv_icmp_eq (tgt := 50) hx hb dX1_faultOfText_38 (by decide) (fun c8 => ?_) (fun c8 => ?_)
            · have hw := hw.1 c8
              refine lv_aload_n hx hb dX1_faultOfText_50 rfl (lv_at hl 1 rfl) ?_
              refine lv_dup hx hb dX1_faultOfText_51 rfl ?_
              refine R_getI (C := RX1) (T := TX1) (N := 5) hx hb hts i2 hown hK hW 4 hw.1 (by decide) rfl (by decide) (hts (.fieldLink RX1 34 "BoatLift$Law" "place" "I") (by decide +kernel)) (fun _ h => h) (fun _ _ _ => rfl) dX1_faultOfText_52 ?_
              have hw := hw.2
              refine lv_iconst (v := (1 : Int32)) hx hb dX1_faultOfText_55 (by decide) ?_
              refine lv_iadd hx hb dX1_faultOfText_56 ?_
              refine R_putI (C := RX1) (T := TX1) (N := 5) hx hb hts i2 tyX1 tyX1_ok nmX1 hown hK hW 4 hw.1 (by decide) rfl (by decide) (hts (.fieldLink RX1 34 "BoatLift$Law" "place" "I") (by decide +kernel)) (fun _ h => h) (Or.inl rfl) rfl (fun _ _ _ => rfl) (fun _ _ _ => rfl) dX1_faultOfText_57 (fun H locs hW => ?_)
              obtain ⟨m9, em9⟩ : ∃ z, z = sI m7 v0 4 ((mI m7 v0 4) + (1 : Int32)) := ⟨_, rfl⟩
              rw [← em9] at hW
              have hw := hw.2 m9 em9
              refine lv_iinc (v := (v1 + (1 : Int32))) (lv' := [(1, .int (v1 + (1 : Int32))), (2, .int r2), (0, .ref (ad g v0))]) hx hb dX1_faultOfText_60 hl (k := 2) rfl rfl (by decide) rfl (fun ls hl => ?_)
              refine lv_goto (tgt := 2) hx hb dX1_faultOfText_63 (by decide) ?_
              exact ih2 (v1 + (1 : Int32)) m9 hw _ _ _ hW (lv_sub hl [2, 0] rfl)
            · have hw := hw.2 c8
              refine lv_iconst (v := (5 : Int32)) hx hb dX1_faultOfText_41 (by decide) ?_
              refine lv_aload_n hx hb dX1_faultOfText_42 rfl (lv_at hl 1 rfl) ?_
              refine R_getI (C := RX1) (T := TX1) (N := 5) hx hb hts i2 hown hK hW 4 hw.1 (by decide) rfl (by decide) (hts (.fieldLink RX1 34 "BoatLift$Law" "place" "I") (by decide +kernel)) (fun _ h => h) (fun _ _ _ => rfl) dX1_faultOfText_43 ?_
              have hw := hw.2
              refine R_call (va_runS (As := [.int (5 : Int32), .int (mI m7 v0 4)]) (rest := []) ⟨hx, hb, hml, hown, hts⟩ (c_X1_fault l g m7 (5 : Int32) (mI m7 v0 4) _ hw) (va_cwS 2 hts gX1_faultOfText_X1_fault rfl rfl rfl (by decide +kernel) ⟨by decide, by decide⟩) (PP.pre hK hW) rfl rfl hl.1 rfl (lv_room (Nat.le_of_ble_eq_true rfl)) dX1_faultOfText_46 ⟨by decide, by decide⟩) hW (fun r10 m11 H locs hw hW => ?_)
              refine W.eq (g2 := F0 m 49 ls [.int r10]) rfl ?_
              exact R_iret hx hb hr hlk hW hw dX1_faultOfText_49
          · have hw := hw.2 c5
            refine lv_iload_n hx hb dX1_faultOfText_30 rfl (lv_at hl 0 rfl) ?_
            exact R_iret hx hb hr hlk hW hw dX1_faultOfText_31
  unfold wp_X1_faultOfText at hw
  refine lv_iconst (v := (0 : Int32)) hx hb dX1_faultOfText_0 (by decide) ?_
  refine lv_istore_n (lv' := [(1, .int (0 : Int32)), (0, .ref (ad g v0))]) hx hb dX1_faultOfText_1 rfl hl (by decide) rfl (fun ls hl => ?_)
  obtain ⟨n, hw⟩ := hw
  exact L2  n (0 : Int32) m0 hw _ _ _ hW (lv_sub hl [1, 0] rfl)

def wp_X1_enact (m0 : Mm) (v0 : Nat) (v1 : Int32) (Φ : Int32 → Mm → Prop) : Prop :=
  mT m0 v0 = 2 ∧ ∀ m1 : Mm, m1 = sI m0 v0 3 v1 → mT m1 v0 = 2 ∧ ∀ m2 : Mm, m2 = sI m1 v0 4 (0 : Int32) → mT m2 v0 = 2 ∧ (mP m2 v0 2) ≠ 0 ∧ mT m2 (mP m2 v0 2) = 9 ∧ cpok (0 : Int32) (0 : Int32) (6 : Int32) (mN m2 3) (mN m2 (mP m2 v0 2)) ∧ ∀ m3 : Mm, m3 = rI m2 (mP m2 v0 2) (va_cpy (mI m2 3) (mI m2 (mP m2 v0 2)) (0 : Int32).toNatClampNeg (0 : Int32).toNatClampNeg (6 : Int32).toNatClampNeg) → mT m3 v0 = 2 ∧ wp_X1_faultOfText m3 v0 (fun (r4 : Int32) (m5 : Mm) => ((¬ r4 = 0 → Φ r4 m5) ∧ (r4 = 0 → mT m5 v0 = 2 ∧ (mP m5 v0 2) ≠ 0 ∧ mT m5 v0 = 2 ∧ (mP m5 v0 1) ≠ 0 ∧ mT m5 (mP m5 v0 2) = 9 ∧ mT m5 (mP m5 v0 1) = 9 ∧ cpok (0 : Int32) (0 : Int32) (6 : Int32) (mN m5 (mP m5 v0 2)) (mN m5 (mP m5 v0 1)) ∧ ∀ m7 : Mm, m7 = rI m5 (mP m5 v0 1) (va_cpy (mI m5 (mP m5 v0 2)) (mI m5 (mP m5 v0 1)) (0 : Int32).toNatClampNeg (0 : Int32).toNatClampNeg (6 : Int32).toNatClampNeg) → Φ r4 m7)))
abbrev rm_X1_enact : Room := { frames := 4, cells := 0, slots := 0, locals := 86 }
set_option maxHeartbeats 4000000 in
set_option maxRecDepth 100000 in
theorem c_X1_enact (l : Launch) (g : Gv) (m0 : Mm) (v0 : Nat) (v1 : Int32) (Φ : Int32 → Mm → Prop) (hw : wp_X1_enact m0 v0 v1 Φ) : Met l yX1_enact wsX1_enact rm_X1_enact (PP g [.ref (ad g v0), .int v1] m0) (QQ g vI Φ) 0 0 (Ag g) := by
  refine CT_of (by decide +kernel) rfl (Nat.le_of_ble_eq_true rfl) ?_
  intro p e s m below meth c hx hb hr hml hown hts hlk hnm hK hW ls hl
  have hown : s.vm.findClass RX1 = some m.cls := hown
  have hl : lv_has ls 3 [(0, .ref (ad g v0)), (1, .int v1)] := hl
  have i2 : ∀ w ∈ u_ws RX1 TX1 5, w ∈ wsX1_enact := by decide +kernel
  unfold wp_X1_enact at hw
  refine lv_aload_n hx hb dX1_enact_0 rfl (lv_at hl 0 rfl) ?_
  refine lv_iload_n hx hb dX1_enact_1 rfl (lv_at hl 1 rfl) ?_
  refine R_putI (C := RX1) (T := TX1) (N := 5) hx hb hts i2 tyX1 tyX1_ok nmX1 hown hK hW 3 hw.1 (by decide) rfl (by decide) (hts (.fieldLink RX1 30 "BoatLift$Law" "size" "I") (by decide +kernel)) (fun _ h => h) (Or.inl rfl) rfl (fun _ _ _ => rfl) (fun _ _ _ => rfl) dX1_enact_2 (fun H locs hW => ?_)
  obtain ⟨m1, em1⟩ : ∃ z, z = sI m0 v0 3 v1 := ⟨_, rfl⟩
  rw [← em1] at hW
  have hw := hw.2 m1 em1
  refine lv_aload_n hx hb dX1_enact_5 rfl (lv_at hl 0 rfl) ?_
  refine lv_iconst (v := (0 : Int32)) hx hb dX1_enact_6 (by decide) ?_
  refine R_putI (C := RX1) (T := TX1) (N := 5) hx hb hts i2 tyX1 tyX1_ok nmX1 hown hK hW 4 hw.1 (by decide) rfl (by decide) (hts (.fieldLink RX1 34 "BoatLift$Law" "place" "I") (by decide +kernel)) (fun _ h => h) (Or.inl rfl) rfl (fun _ _ _ => rfl) (fun _ _ _ => rfl) dX1_enact_7 (fun H locs hW => ?_)
  obtain ⟨m2, em2⟩ : ∃ z, z = sI m1 v0 4 (0 : Int32) := ⟨_, rfl⟩
  rw [← em2] at hW
  have hw := hw.2 m2 em2
  refine R_gets hx hb hK.2.2.1.1 hW hown (hts (.fieldLink RX1 9 "BoatLift$Law" "FIRST" "[I") (by decide +kernel)) dX1_enact_10 ?_
  refine lv_iconst (v := (0 : Int32)) hx hb dX1_enact_13 (by decide) ?_
  refine lv_aload_n hx hb dX1_enact_14 rfl (lv_at hl 0 rfl) ?_
  refine R_getP (C := RX1) (T := TX1) (N := 5) hx hb hts i2 hown hK hW 2 hw.1 (by decide) rfl (by decide) (hts (.fieldLink RX1 23 "BoatLift$Law" "draft" "[I") (by decide +kernel)) (fun _ h => h) (fun _ _ _ => rfl) hw.2.1 dX1_enact_15 ?_
  have hw := hw.2.2
  refine lv_iconst (v := (0 : Int32)) hx hb dX1_enact_18 (by decide) ?_
  refine lv_bipush (v := (6 : Int32)) hx hb dX1_enact_19 (by decide) ?_
  refine R_copyS hx hb (by rw [hml]; exact hl.1.symm) hown (hts (.methodLink RX1 37 arraycopyName) (by decide +kernel)) (hts (.native arraycopyName) (by decide +kernel)) (hts (.static arraycopyName) (by decide +kernel)) (hts (.initialized "java/lang/System") (by decide +kernel)) hK hW hK.2.2.1.1 (by decide) (by decide) hw.1 hw.2.1 (Nat.le_of_ble_eq_true rfl) (Nat.le_of_ble_eq_true rfl) dX1_enact_21 (fun H locs hW => ?_)
  obtain ⟨m3, em3⟩ : ∃ z, z = rI m2 (mP m2 v0 2) (va_cpy (mI m2 3) (mI m2 (mP m2 v0 2)) (0 : Int32).toNatClampNeg (0 : Int32).toNatClampNeg (6 : Int32).toNatClampNeg) := ⟨_, rfl⟩
  rw [← em3] at hW
  have hw := hw.2.2 m3 em3
  refine lv_aload_n hx hb dX1_enact_24 rfl (lv_at hl 0 rfl) ?_
  refine R_call (va_runV (As := []) (rest := []) ⟨hx, hb, hml, hown, hts⟩ (c_X1_faultOfText l g m3 v0 _ hw.2) (cwV 0 hts gX1_enact_X1_faultOfText rfl rfl rfl (by decide +kernel) ⟨by decide, by decide⟩) (PP.preV (q := (RX1, TX1, 5)) hK hW hw.1 (by decide) rfl) rfl rfl hl.1 rfl (lv_room (Nat.le_of_ble_eq_true rfl)) dX1_enact_25 ⟨by decide, by decide⟩) hW (fun r4 m5 H locs hw hW => ?_)
  refine W.eq (g2 := F0 m 28 ls [.int r4]) rfl ?_
  refine lv_istore_n (lv' := [(2, .int r4), (0, .ref (ad g v0)), (1, .int v1)]) hx hb dX1_enact_28 rfl hl (by decide) rfl (fun ls hl => ?_)
  refine lv_iload_n hx hb dX1_enact_29 rfl (lv_at hl 0 rfl) ?_
  refine lv_if_ne (tgt := 48) hx hb dX1_enact_30 (by decide) (fun c6 => ?_) (fun c6 => ?_)
  · have hw := hw.1 c6
    refine lv_iload_n hx hb dX1_enact_48 rfl (lv_at hl 0 rfl) ?_
    exact R_iret hx hb hr hlk hW hw dX1_enact_49
  · have hw := hw.2 c6
    refine lv_aload_n hx hb dX1_enact_33 rfl (lv_at hl 1 rfl) ?_
    refine R_getP (C := RX1) (T := TX1) (N := 5) hx hb hts i2 hown hK hW 2 hw.1 (by decide) rfl (by decide) (hts (.fieldLink RX1 23 "BoatLift$Law" "draft" "[I") (by decide +kernel)) (fun _ h => h) (fun _ _ _ => rfl) hw.2.1 dX1_enact_34 ?_
    have hw := hw.2.2
    refine lv_iconst (v := (0 : Int32)) hx hb dX1_enact_37 (by decide) ?_
    refine lv_aload_n hx hb dX1_enact_38 rfl (lv_at hl 1 rfl) ?_
    refine R_getP (C := RX1) (T := TX1) (N := 5) hx hb hts i2 hown hK hW 1 hw.1 (by decide) rfl (by decide) (hts (.fieldLink RX1 20 "BoatLift$Law" "numbers" "[I") (by decide +kernel)) (fun _ h => h) (fun _ _ _ => rfl) hw.2.1 dX1_enact_39 ?_
    have hw := hw.2.2
    refine lv_iconst (v := (0 : Int32)) hx hb dX1_enact_42 (by decide) ?_
    refine lv_bipush (v := (6 : Int32)) hx hb dX1_enact_43 (by decide) ?_
    refine R_copyI hx hb (by rw [hml]; exact hl.1.symm) hown (hts (.methodLink RX1 37 arraycopyName) (by decide +kernel)) (hts (.native arraycopyName) (by decide +kernel)) (hts (.static arraycopyName) (by decide +kernel)) (hts (.initialized "java/lang/System") (by decide +kernel)) hK hW hw.1 hw.2.1 hw.2.2.1 (Nat.le_of_ble_eq_true rfl) (Nat.le_of_ble_eq_true rfl) dX1_enact_45 (fun H locs hW => ?_)
    obtain ⟨m7, em7⟩ : ∃ z, z = rI m5 (mP m5 v0 1) (va_cpy (mI m5 (mP m5 v0 2)) (mI m5 (mP m5 v0 1)) (0 : Int32).toNatClampNeg (0 : Int32).toNatClampNeg (6 : Int32).toNatClampNeg) := ⟨_, rfl⟩
    rw [← em7] at hW
    have hw := hw.2.2.2 m7 em7
    refine lv_iload_n hx hb dX1_enact_48 rfl (lv_at hl 0 rfl) ?_
    exact R_iret hx hb hr hlk hW hw dX1_enact_49
