def wp_X6_within (m0 : Mm) (v0 : Int32) (v1 : Int32) (v2 : Int32) (Φ : Int32 → Mm → Prop) : Prop :=
  ((v0 < v1 → Φ (0 : Int32) m0) ∧ (¬ v0 < v1 → ((v2 < v0 → Φ (0 : Int32) m0) ∧ (¬ v2 < v0 → Φ (1 : Int32) m0))))
abbrev rm_X6_within : Room := { frames := 0, cells := 0, slots := 0, locals := 0 }
set_option maxHeartbeats 4000000 in
set_option maxRecDepth 100000 in
theorem c_X6_within (l : Launch) (g : Gv) (m0 : Mm) (v0 : Int32) (v1 : Int32) (v2 : Int32) (Φ : Int32 → Mm → Prop) (hw : wp_X6_within m0 v0 v1 v2 Φ) : Met l yX6_within wsX6_within rm_X6_within (PP g [.int v0, .int v1, .int v2] m0) (QQ g vI Φ) 0 0 (Ag g) := by
  refine CT_of (by decide +kernel) rfl (Nat.le_of_ble_eq_true rfl) ?_
  intro p e s m below meth c hx hb hr hml hown hts hlk hnm hK hW ls hl
  have hown : s.vm.findClass RX6 = some m.cls := hown
  have hl : lv_has ls 3 [(0, .int v0), (1, .int v1), (2, .int v2)] := hl
  unfold wp_X6_within at hw
  refine lv_iload_n hx hb dX6_within_0 rfl (lv_at hl 0 rfl) ?_
  refine lv_iload_n hx hb dX6_within_1 rfl (lv_at hl 1 rfl) ?_
  refine lv_icmp_lt (tgt := 14) hx hb dX6_within_2 (by decide) (fun c1 => ?_) (fun c1 => ?_)
  · have hw := hw.1 c1
    refine lv_iconst (v := (0 : Int32)) hx hb dX6_within_14 (by decide) ?_
    exact R_zret hx hb hr hlk hW (Or.inl rfl) hw dX6_within_15
  · have hw := hw.2 c1
    refine lv_iload_n hx hb dX6_within_5 rfl (lv_at hl 0 rfl) ?_
    refine lv_iload_n hx hb dX6_within_6 rfl (lv_at hl 2 rfl) ?_
    refine lv_icmp_gt (tgt := 14) hx hb dX6_within_7 (by decide) (fun c2 => ?_) (fun c2 => ?_)
    · have hw := hw.1 c2
      refine lv_iconst (v := (0 : Int32)) hx hb dX6_within_14 (by decide) ?_
      exact R_zret hx hb hr hlk hW (Or.inl rfl) hw dX6_within_15
    · have hw := hw.2 c2
      refine lv_iconst (v := (1 : Int32)) hx hb dX6_within_10 (by decide) ?_
      refine lv_goto (tgt := 15) hx hb dX6_within_11 (by decide) ?_
      exact R_zret hx hb hr hlk hW (Or.inr rfl) hw dX6_within_15

def wp_X6_isSide (m0 : Mm) (v0 : Int32) (Φ : Int32 → Mm → Prop) : Prop :=
  ((v0 = 0 → Φ (1 : Int32) m0) ∧ (¬ v0 = 0 → ((¬ v0 = (1 : Int32) → Φ (0 : Int32) m0) ∧ (v0 = (1 : Int32) → Φ (1 : Int32) m0))))
abbrev rm_X6_isSide : Room := { frames := 0, cells := 0, slots := 0, locals := 0 }
set_option maxHeartbeats 4000000 in
set_option maxRecDepth 100000 in
theorem c_X6_isSide (l : Launch) (g : Gv) (m0 : Mm) (v0 : Int32) (Φ : Int32 → Mm → Prop) (hw : wp_X6_isSide m0 v0 Φ) : Met l yX6_isSide wsX6_isSide rm_X6_isSide (PP g [.int v0] m0) (QQ g vI Φ) 0 0 (Ag g) := by
  refine CT_of (by decide +kernel) rfl (Nat.le_of_ble_eq_true rfl) ?_
  intro p e s m below meth c hx hb hr hml hown hts hlk hnm hK hW ls hl
  have hown : s.vm.findClass RX6 = some m.cls := hown
  have hl : lv_has ls 1 [(0, .int v0)] := hl
  unfold wp_X6_isSide at hw
  refine lv_iload_n hx hb dX6_isSide_0 rfl (lv_at hl 0 rfl) ?_
  refine lv_if_eq (tgt := 9) hx hb dX6_isSide_1 (by decide) (fun c1 => ?_) (fun c1 => ?_)
  · have hw := hw.1 c1
    refine lv_iconst (v := (1 : Int32)) hx hb dX6_isSide_9 (by decide) ?_
    refine lv_goto (tgt := 14) hx hb dX6_isSide_10 (by decide) ?_
    exact R_zret hx hb hr hlk hW (Or.inr rfl) hw dX6_isSide_14
  · have hw := hw.2 c1
    refine lv_iload_n hx hb dX6_isSide_4 rfl (lv_at hl 0 rfl) ?_
    refine lv_iconst (v := (1 : Int32)) hx hb dX6_isSide_5 (by decide) ?_
    refine lv_icmp_ne (tgt := 13) hx hb dX6_isSide_6 (by decide) (fun c2 => ?_) (fun c2 => ?_)
    · have hw := hw.1 c2
      refine lv_iconst (v := (0 : Int32)) hx hb dX6_isSide_13 (by decide) ?_
      exact R_zret hx hb hr hlk hW (Or.inl rfl) hw dX6_isSide_14
    · have hw := hw.2 c2
      refine lv_iconst (v := (1 : Int32)) hx hb dX6_isSide_9 (by decide) ?_
      refine lv_goto (tgt := 14) hx hb dX6_isSide_10 (by decide) ?_
      exact R_zret hx hb hr hlk hW (Or.inr rfl) hw dX6_isSide_14

def wp_X6_isMinute (m0 : Mm) (v0 : Int32) (Φ : Int32 → Mm → Prop) : Prop :=
  wp_X6_within m0 v0 (0 : Int32) (20000 : Int32) (fun (r1 : Int32) (m2 : Mm) => (r1 = 0 ∨ r1 = 1) ∧ Φ r1 m2)
abbrev rm_X6_isMinute : Room := { frames := 1, cells := 0, slots := 0, locals := 22 }
set_option maxHeartbeats 4000000 in
set_option maxRecDepth 100000 in
theorem c_X6_isMinute (l : Launch) (g : Gv) (m0 : Mm) (v0 : Int32) (Φ : Int32 → Mm → Prop) (hw : wp_X6_isMinute m0 v0 Φ) : Met l yX6_isMinute wsX6_isMinute rm_X6_isMinute (PP g [.int v0] m0) (QQ g vI Φ) 0 0 (Ag g) := by
  refine CT_of (by decide +kernel) rfl (Nat.le_of_ble_eq_true rfl) ?_
  intro p e s m below meth c hx hb hr hml hown hts hlk hnm hK hW ls hl
  have hown : s.vm.findClass RX6 = some m.cls := hown
  have hl : lv_has ls 1 [(0, .int v0)] := hl
  unfold wp_X6_isMinute at hw
  refine lv_iload_n hx hb dX6_isMinute_0 rfl (lv_at hl 0 rfl) ?_
  refine lv_iconst (v := (0 : Int32)) hx hb dX6_isMinute_1 (by decide) ?_
  refine lv_sipush (v := (20000 : Int32)) hx hb dX6_isMinute_2 (by decide) ?_
  refine R_call (va_runS (As := [.int v0, .int (0 : Int32), .int (20000 : Int32)]) (rest := []) ⟨hx, hb, hml, hown, hts⟩ (c_X6_within l g m0 v0 (0 : Int32) (20000 : Int32) _ hw) (va_cwS 3 hts gX6_isMinute_X6_within rfl rfl rfl (by decide +kernel) ⟨by decide, by decide⟩) (PP.pre hK hW) rfl rfl hl.1 rfl (lv_room (Nat.le_of_ble_eq_true rfl)) dX6_isMinute_5 ⟨by decide, by decide⟩) hW (fun r1 m2 H locs hw hW => ?_)
  refine W.eq (g2 := F0 m 8 ls [.int r1]) rfl ?_
  exact R_zret hx hb hr hlk hW hw.1 hw.2 dX6_isMinute_8

def wp_X6_otherSide (m0 : Mm) (v0 : Int32) (Φ : Int32 → Mm → Prop) : Prop :=
  ((¬ v0 = 0 → Φ (0 : Int32) m0) ∧ (v0 = 0 → Φ (1 : Int32) m0))
abbrev rm_X6_otherSide : Room := { frames := 0, cells := 0, slots := 0, locals := 0 }
set_option maxHeartbeats 4000000 in
set_option maxRecDepth 100000 in
theorem c_X6_otherSide (l : Launch) (g : Gv) (m0 : Mm) (v0 : Int32) (Φ : Int32 → Mm → Prop) (hw : wp_X6_otherSide m0 v0 Φ) : Met l yX6_otherSide wsX6_otherSide rm_X6_otherSide (PP g [.int v0] m0) (QQ g vI Φ) 0 0 (Ag g) := by
  refine CT_of (by decide +kernel) rfl (Nat.le_of_ble_eq_true rfl) ?_
  intro p e s m below meth c hx hb hr hml hown hts hlk hnm hK hW ls hl
  have hown : s.vm.findClass RX6 = some m.cls := hown
  have hl : lv_has ls 1 [(0, .int v0)] := hl
  unfold wp_X6_otherSide at hw
  refine lv_iload_n hx hb dX6_otherSide_0 rfl (lv_at hl 0 rfl) ?_
  refine lv_if_ne (tgt := 8) hx hb dX6_otherSide_1 (by decide) (fun c1 => ?_) (fun c1 => ?_)
  · have hw := hw.1 c1
    refine lv_iconst (v := (0 : Int32)) hx hb dX6_otherSide_8 (by decide) ?_
    exact R_iret hx hb hr hlk hW hw dX6_otherSide_9
  · have hw := hw.2 c1
    refine lv_iconst (v := (1 : Int32)) hx hb dX6_otherSide_4 (by decide) ?_
    refine lv_goto (tgt := 9) hx hb dX6_otherSide_5 (by decide) ?_
    exact R_iret hx hb hr hlk hW hw dX6_otherSide_9

def wp_X3_size (m0 : Mm) (v0 : Nat) (Φ : Int32 → Mm → Prop) : Prop :=
  mT m0 v0 = 4 ∧ Φ (mI m0 v0 1) m0
abbrev rm_X3_size : Room := { frames := 0, cells := 0, slots := 0, locals := 0 }
set_option maxHeartbeats 4000000 in
set_option maxRecDepth 100000 in
theorem c_X3_size (l : Launch) (g : Gv) (m0 : Mm) (v0 : Nat) (Φ : Int32 → Mm → Prop) (hw : wp_X3_size m0 v0 Φ) : Met l yX3_size wsX3_size rm_X3_size (PP g [.ref (ad g v0)] m0) (QQ g vI Φ) 0 0 (Ag g) := by
  refine CT_of (by decide +kernel) rfl (Nat.le_of_ble_eq_true rfl) ?_
  intro p e s m below meth c hx hb hr hml hown hts hlk hnm hK hW ls hl
  have hown : s.vm.findClass RX3 = some m.cls := hown
  have hl : lv_has ls 1 [(0, .ref (ad g v0))] := hl
  have i4 : ∀ w ∈ u_ws RX3 TX3 2, w ∈ wsX3_size := by decide +kernel
  unfold wp_X3_size at hw
  refine lv_aload_n hx hb dX3_size_0 rfl (lv_at hl 0 rfl) ?_
  refine R_getI (C := RX3) (T := TX3) (N := 2) hx hb hts i4 hown hK hW 1 hw.1 (by decide) rfl (by decide) (hts (.fieldLink RX3 15 "BoatLift$Tape" "size" "I") (by decide +kernel)) (fun _ h => h) (fun _ _ _ => rfl) dX3_size_1 ?_
  have hw := hw.2
  exact R_iret hx hb hr hlk hW hw dX3_size_4

def wp_X3_hasRoom (m0 : Mm) (v0 : Nat) (Φ : Int32 → Mm → Prop) : Prop :=
  mT m0 v0 = 4 ∧ (((60 : Int32) < ((mI m0 v0 1) + (20 : Int32)) → Φ (0 : Int32) m0) ∧ (¬ (60 : Int32) < ((mI m0 v0 1) + (20 : Int32)) → Φ (1 : Int32) m0))
abbrev rm_X3_hasRoom : Room := { frames := 0, cells := 0, slots := 0, locals := 0 }
set_option maxHeartbeats 4000000 in
set_option maxRecDepth 100000 in
theorem c_X3_hasRoom (l : Launch) (g : Gv) (m0 : Mm) (v0 : Nat) (Φ : Int32 → Mm → Prop) (hw : wp_X3_hasRoom m0 v0 Φ) : Met l yX3_hasRoom wsX3_hasRoom rm_X3_hasRoom (PP g [.ref (ad g v0)] m0) (QQ g vI Φ) 0 0 (Ag g) := by
  refine CT_of (by decide +kernel) rfl (Nat.le_of_ble_eq_true rfl) ?_
  intro p e s m below meth c hx hb hr hml hown hts hlk hnm hK hW ls hl
  have hown : s.vm.findClass RX3 = some m.cls := hown
  have hl : lv_has ls 1 [(0, .ref (ad g v0))] := hl
  have i4 : ∀ w ∈ u_ws RX3 TX3 2, w ∈ wsX3_hasRoom := by decide +kernel
  unfold wp_X3_hasRoom at hw
  refine lv_aload_n hx hb dX3_hasRoom_0 rfl (lv_at hl 0 rfl) ?_
  refine R_getI (C := RX3) (T := TX3) (N := 2) hx hb hts i4 hown hK hW 1 hw.1 (by decide) rfl (by decide) (hts (.fieldLink RX3 15 "BoatLift$Tape" "size" "I") (by decide +kernel)) (fun _ h => h) (fun _ _ _ => rfl) dX3_hasRoom_1 ?_
  have hw := hw.2
  refine lv_bipush (v := (20 : Int32)) hx hb dX3_hasRoom_4 (by decide) ?_
  refine lv_iadd hx hb dX3_hasRoom_6 ?_
  refine lv_bipush (v := (60 : Int32)) hx hb dX3_hasRoom_7 (by decide) ?_
  refine lv_icmp_gt (tgt := 16) hx hb dX3_hasRoom_9 (by decide) (fun c1 => ?_) (fun c1 => ?_)
  · have hw := hw.1 c1
    refine lv_iconst (v := (0 : Int32)) hx hb dX3_hasRoom_16 (by decide) ?_
    exact R_zret hx hb hr hlk hW (Or.inl rfl) hw dX3_hasRoom_17
  · have hw := hw.2 c1
    refine lv_iconst (v := (1 : Int32)) hx hb dX3_hasRoom_12 (by decide) ?_
    refine lv_goto (tgt := 17) hx hb dX3_hasRoom_13 (by decide) ?_
    exact R_zret hx hb hr hlk hW (Or.inr rfl) hw dX3_hasRoom_17

def wp_X3_put_3 (K3 : Int32 → Mm → Prop) (v0 : Nat) (v1 : Int32) (v2 : Int32) (mm : Mm) (Φ : Unit → Mm → Prop) : Prop :=
  ((v2 < 0 → Φ () mm) ∧ (¬ v2 < 0 → mT mm v0 = 4 ∧ (((60 : Int32) ≤ (mI mm v0 1) → Φ () mm) ∧ (¬ (60 : Int32) ≤ (mI mm v0 1) → mT mm v0 = 4 ∧ (mP mm v0 0) ≠ 0 ∧ mT mm v0 = 4 ∧ mT mm (mP mm v0 0) = 9 ∧ vp_in (mI mm v0 1) (mN mm (mP mm v0 0)) ∧ ∀ m3 : Mm, m3 = sI mm (mP mm v0 0) (mI mm v0 1).toNatClampNeg ((v1.toUInt32 >>> (v2.toUInt32 &&& Int32.toUInt32 31)).toInt32 &&& (255 : Int32)) → mT m3 v0 = 4 ∧ mT m3 v0 = 4 ∧ ∀ m4 : Mm, m4 = sI m3 v0 1 ((mI m3 v0 1) + (1 : Int32)) → K3 (v2 + (-8 : Int32)) m4))))
def wp_X3_put (m0 : Mm) (v0 : Nat) (v1 : Int32) (Φ : Unit → Mm → Prop) : Prop :=
  ∃ n, LOp (fun K x => wp_X3_put_3  (fun z0 z1 => K (z0, z1)) v0 v1 x.1 x.2 Φ) n ((24 : Int32), m0)
abbrev rm_X3_put : Room := { frames := 0, cells := 0, slots := 0, locals := 0 }
set_option maxHeartbeats 4000000 in
set_option maxRecDepth 100000 in
theorem c_X3_put (l : Launch) (g : Gv) (m0 : Mm) (v0 : Nat) (v1 : Int32) (Φ : Unit → Mm → Prop) (hw : wp_X3_put m0 v0 v1 Φ) : Met l yX3_put wsX3_put rm_X3_put (PP g [.ref (ad g v0), .int v1] m0) (QQ g vV Φ) 0 0 (Ag g) := by
  refine CT_of (by decide +kernel) rfl (Nat.le_of_ble_eq_true rfl) ?_
  intro p e s m below meth c hx hb hr hml hown hts hlk hnm hK hW ls hl
  have hown : s.vm.findClass RX3 = some m.cls := hown
  have hl : lv_has ls 3 [(0, .ref (ad g v0)), (1, .int v1)] := hl
  have i4 : ∀ w ∈ u_ws RX3 TX3 2, w ∈ wsX3_put := by decide +kernel
  have L3 : ∀ (n : Nat) (v2 : Int32) (mm : Mm), LOp (fun K x => wp_X3_put_3  (fun z0 z1 => K (z0, z1)) v0 v1 x.1 x.2 Φ) n (v2, mm) → WW p l e rm_X3_put s m ([.ref (ad g v0), .int v1] : List Value).toArray below meth c (MQ below (QQ g vV Φ) ([.ref (ad g v0), .int v1] : List Value).toArray s 0 0 (Ag g)) g mm 3 0 0 3 [(0, .ref (ad g v0)), (1, .int v1), (2, .int v2)] [] := by
    intro  n
    induction n with
    | zero => intro v2 mm hw; exact hw.elim
    | succ n ih3 =>
      obtain ⟨K3, eK3⟩ : ∃ K : Int32 → Mm → Prop, K = fun v2 mm => LOp (fun K x => wp_X3_put_3  (fun z0 z1 => K (z0, z1)) v0 v1 x.1 x.2 Φ) n (v2, mm) := ⟨_, rfl⟩
      have ih3 : ∀ (v2 : Int32) (mm : Mm), K3 v2 mm → WW p l e rm_X3_put s m ([.ref (ad g v0), .int v1] : List Value).toArray below meth c (MQ below (QQ g vV Φ) ([.ref (ad g v0), .int v1] : List Value).toArray s 0 0 (Ag g)) g mm 3 0 0 3 [(0, .ref (ad g v0)), (1, .int v1), (2, .int v2)] [] := by rw [eK3]; exact ih3
      intro v2 mm hw H locs ls hW hl
      have hw : wp_X3_put_3 K3 v0 v1 v2 mm Φ := by rw [eK3]; exact hw
      unfold wp_X3_put_3 at hw
      refine lv_iload_n hx hb dX3_put_3 rfl (lv_at hl 2 rfl) ?_
      refine lv_if_lt (tgt := 48) hx hb dX3_put_4 (by decide) (fun c1 => ?_) (fun c1 => ?_)
      · have hw := hw.1 c1
        exact R_vret hx hb hr hlk hW hw dX3_put_48
      · have hw := hw.2 c1
        refine lv_aload_n hx hb dX3_put_7 rfl (lv_at hl 0 rfl) ?_
        refine R_getI (C := RX3) (T := TX3) (N := 2) hx hb hts i4 hown hK hW 1 hw.1 (by decide) rfl (by decide) (hts (.fieldLink RX3 15 "BoatLift$Tape" "size" "I") (by decide +kernel)) (fun _ h => h) (fun _ _ _ => rfl) dX3_put_8 ?_
        have hw := hw.2
        refine lv_bipush (v := (60 : Int32)) hx hb dX3_put_11 (by decide) ?_
        refine lv_icmp_ge (tgt := 48) hx hb dX3_put_13 (by decide) (fun c2 => ?_) (fun c2 => ?_)
        · have hw := hw.1 c2
          exact R_vret hx hb hr hlk hW hw dX3_put_48
        · have hw := hw.2 c2
          refine lv_aload_n hx hb dX3_put_16 rfl (lv_at hl 0 rfl) ?_
          refine R_getP (C := RX3) (T := TX3) (N := 2) hx hb hts i4 hown hK hW 0 hw.1 (by decide) rfl (by decide) (hts (.fieldLink RX3 11 "BoatLift$Tape" "bytes" "[I") (by decide +kernel)) (fun _ h => h) (fun _ _ _ => rfl) hw.2.1 dX3_put_17 ?_
          have hw := hw.2.2
          refine lv_aload_n hx hb dX3_put_20 rfl (lv_at hl 0 rfl) ?_
          refine R_getI (C := RX3) (T := TX3) (N := 2) hx hb hts i4 hown hK hW 1 hw.1 (by decide) rfl (by decide) (hts (.fieldLink RX3 15 "BoatLift$Tape" "size" "I") (by decide +kernel)) (fun _ h => h) (fun _ _ _ => rfl) dX3_put_21 ?_
          have hw := hw.2
          refine lv_iload_n hx hb dX3_put_24 rfl (lv_at hl 1 rfl) ?_
          refine lv_iload_n hx hb dX3_put_25 rfl (lv_at hl 2 rfl) ?_
          refine lv_iushr (v := (v1.toUInt32 >>> (v2.toUInt32 &&& Int32.toUInt32 31)).toInt32) hx hb dX3_put_26 rfl ?_
          refine lv_sipush (v := (255 : Int32)) hx hb dX3_put_27 (by decide) ?_
          refine lv_iand hx hb dX3_put_30 ?_
          refine R_iast hx hb hK hW hw.1 hw.2.1 dX3_put_31 (fun H locs hW => ?_)
          obtain ⟨m3, em3⟩ : ∃ z, z = sI mm (mP mm v0 0) (mI mm v0 1).toNatClampNeg ((v1.toUInt32 >>> (v2.toUInt32 &&& Int32.toUInt32 31)).toInt32 &&& (255 : Int32)) := ⟨_, rfl⟩
          rw [← em3] at hW
          have hw := hw.2.2 m3 em3
          refine lv_aload_n hx hb dX3_put_32 rfl (lv_at hl 0 rfl) ?_
          refine lv_dup hx hb dX3_put_33 rfl ?_
          refine R_getI (C := RX3) (T := TX3) (N := 2) hx hb hts i4 hown hK hW 1 hw.1 (by decide) rfl (by decide) (hts (.fieldLink RX3 15 "BoatLift$Tape" "size" "I") (by decide +kernel)) (fun _ h => h) (fun _ _ _ => rfl) dX3_put_34 ?_
          have hw := hw.2
          refine lv_iconst (v := (1 : Int32)) hx hb dX3_put_37 (by decide) ?_
          refine lv_iadd hx hb dX3_put_38 ?_
          refine R_putI (C := RX3) (T := TX3) (N := 2) hx hb hts i4 tyX3 tyX3_ok nmX3 hown hK hW 1 hw.1 (by decide) rfl (by decide) (hts (.fieldLink RX3 15 "BoatLift$Tape" "size" "I") (by decide +kernel)) (fun _ h => h) (Or.inl rfl) rfl (fun _ _ _ => rfl) (fun _ _ _ => rfl) dX3_put_39 (fun H locs hW => ?_)
          obtain ⟨m4, em4⟩ : ∃ z, z = sI m3 v0 1 ((mI m3 v0 1) + (1 : Int32)) := ⟨_, rfl⟩
          rw [← em4] at hW
          have hw := hw.2 m4 em4
          refine lv_iinc (v := (v2 + (-8 : Int32))) (lv' := [(2, .int (v2 + (-8 : Int32))), (0, .ref (ad g v0)), (1, .int v1)]) hx hb dX3_put_42 hl (k := 2) rfl rfl (by decide) rfl (fun ls hl => ?_)
          refine lv_goto (tgt := 3) hx hb dX3_put_45 (by decide) ?_
          exact ih3 (v2 + (-8 : Int32)) m4 hw _ _ _ hW (lv_sub hl [1, 2, 0] rfl)
  unfold wp_X3_put at hw
  refine lv_bipush (v := (24 : Int32)) hx hb dX3_put_0 (by decide) ?_
  refine lv_istore_n (lv' := [(2, .int (24 : Int32)), (0, .ref (ad g v0)), (1, .int v1)]) hx hb dX3_put_2 rfl hl (by decide) rfl (fun ls hl => ?_)
  obtain ⟨n, hw⟩ := hw
  exact L3  n (24 : Int32) m0 hw _ _ _ hW (lv_sub hl [1, 2, 0] rfl)

def wp_X3_at (m0 : Mm) (v0 : Nat) (v1 : Int32) (Φ : Int32 → Mm → Prop) : Prop :=
  ((v1 < 0 → Φ (-1 : Int32) m0) ∧ (¬ v1 < 0 → mT m0 v0 = 4 ∧ (((mI m0 v0 1) ≤ v1 → Φ (-1 : Int32) m0) ∧ (¬ (mI m0 v0 1) ≤ v1 → mT m0 v0 = 4 ∧ (mP m0 v0 0) ≠ 0 ∧ mT m0 (mP m0 v0 0) = 9 ∧ vp_in v1 (mN m0 (mP m0 v0 0)) ∧ Φ (mI m0 (mP m0 v0 0) v1.toNatClampNeg) m0))))
abbrev rm_X3_at : Room := { frames := 0, cells := 0, slots := 0, locals := 0 }
set_option maxHeartbeats 4000000 in
set_option maxRecDepth 100000 in
theorem c_X3_at (l : Launch) (g : Gv) (m0 : Mm) (v0 : Nat) (v1 : Int32) (Φ : Int32 → Mm → Prop) (hw : wp_X3_at m0 v0 v1 Φ) : Met l yX3_at wsX3_at rm_X3_at (PP g [.ref (ad g v0), .int v1] m0) (QQ g vI Φ) 0 0 (Ag g) := by
  refine CT_of (by decide +kernel) rfl (Nat.le_of_ble_eq_true rfl) ?_
  intro p e s m below meth c hx hb hr hml hown hts hlk hnm hK hW ls hl
  have hown : s.vm.findClass RX3 = some m.cls := hown
  have hl : lv_has ls 2 [(0, .ref (ad g v0)), (1, .int v1)] := hl
  have i4 : ∀ w ∈ u_ws RX3 TX3 2, w ∈ wsX3_at := by decide +kernel
  unfold wp_X3_at at hw
  refine lv_iload_n hx hb dX3_at_0 rfl (lv_at hl 1 rfl) ?_
  refine lv_if_lt (tgt := 21) hx hb dX3_at_1 (by decide) (fun c1 => ?_) (fun c1 => ?_)
  · have hw := hw.1 c1
    refine lv_iconst (v := (-1 : Int32)) hx hb dX3_at_21 (by decide) ?_
    exact R_iret hx hb hr hlk hW hw dX3_at_22
  · have hw := hw.2 c1
    refine lv_iload_n hx hb dX3_at_4 rfl (lv_at hl 1 rfl) ?_
    refine lv_aload_n hx hb dX3_at_5 rfl (lv_at hl 0 rfl) ?_
    refine R_getI (C := RX3) (T := TX3) (N := 2) hx hb hts i4 hown hK hW 1 hw.1 (by decide) rfl (by decide) (hts (.fieldLink RX3 15 "BoatLift$Tape" "size" "I") (by decide +kernel)) (fun _ h => h) (fun _ _ _ => rfl) dX3_at_6 ?_
    have hw := hw.2
    refine lv_icmp_ge (tgt := 21) hx hb dX3_at_9 (by decide) (fun c2 => ?_) (fun c2 => ?_)
    · have hw := hw.1 c2
      refine lv_iconst (v := (-1 : Int32)) hx hb dX3_at_21 (by decide) ?_
      exact R_iret hx hb hr hlk hW hw dX3_at_22
    · have hw := hw.2 c2
      refine lv_aload_n hx hb dX3_at_12 rfl (lv_at hl 0 rfl) ?_
      refine R_getP (C := RX3) (T := TX3) (N := 2) hx hb hts i4 hown hK hW 0 hw.1 (by decide) rfl (by decide) (hts (.fieldLink RX3 11 "BoatLift$Tape" "bytes" "[I") (by decide +kernel)) (fun _ h => h) (fun _ _ _ => rfl) hw.2.1 dX3_at_13 ?_
      have hw := hw.2.2
      refine lv_iload_n hx hb dX3_at_16 rfl (lv_at hl 1 rfl) ?_
      refine R_iald hx hb hK hW hw.1 hw.2.1 dX3_at_17 ?_
      have hw := hw.2.2
      refine lv_goto (tgt := 22) hx hb dX3_at_18 (by decide) ?_
      exact R_iret hx hb hr hlk hW hw dX3_at_22

def wp_X3_empty (m0 : Mm) (v0 : Nat) (Φ : Unit → Mm → Prop) : Prop :=
  mT m0 v0 = 4 ∧ ∀ m1 : Mm, m1 = sI m0 v0 1 (0 : Int32) → Φ () m1
abbrev rm_X3_empty : Room := { frames := 0, cells := 0, slots := 0, locals := 0 }
set_option maxHeartbeats 4000000 in
set_option maxRecDepth 100000 in
theorem c_X3_empty (l : Launch) (g : Gv) (m0 : Mm) (v0 : Nat) (Φ : Unit → Mm → Prop) (hw : wp_X3_empty m0 v0 Φ) : Met l yX3_empty wsX3_empty rm_X3_empty (PP g [.ref (ad g v0)] m0) (QQ g vV Φ) 0 0 (Ag g) := by
  refine CT_of (by decide +kernel) rfl (Nat.le_of_ble_eq_true rfl) ?_
  intro p e s m below meth c hx hb hr hml hown hts hlk hnm hK hW ls hl
  have hown : s.vm.findClass RX3 = some m.cls := hown
  have hl : lv_has ls 1 [(0, .ref (ad g v0))] := hl
  have i4 : ∀ w ∈ u_ws RX3 TX3 2, w ∈ wsX3_empty := by decide +kernel
  unfold wp_X3_empty at hw
  refine lv_aload_n hx hb dX3_empty_0 rfl (lv_at hl 0 rfl) ?_
  refine lv_iconst (v := (0 : Int32)) hx hb dX3_empty_1 (by decide) ?_
  refine R_putI (C := RX3) (T := TX3) (N := 2) hx hb hts i4 tyX3 tyX3_ok nmX3 hown hK hW 1 hw.1 (by decide) rfl (by decide) (hts (.fieldLink RX3 15 "BoatLift$Tape" "size" "I") (by decide +kernel)) (fun _ h => h) (Or.inl rfl) rfl (fun _ _ _ => rfl) (fun _ _ _ => rfl) dX3_empty_2 (fun H locs hW => ?_)
  obtain ⟨m1, em1⟩ : ∃ z, z = sI m0 v0 1 (0 : Int32) := ⟨_, rfl⟩
  rw [← em1] at hW
  have hw := hw.2 m1 em1
  exact R_vret hx hb hr hlk hW hw dX3_empty_5

def wp_X5_spreadOver (m0 : Mm) (v0 : Nat) (v1 : Int32) (Φ : Unit → Mm → Prop) : Prop :=
  mT m0 v0 = 6 ∧ ∀ m1 : Mm, m1 = sI m0 v0 0 v1 → Φ () m1
abbrev rm_X5_spreadOver : Room := { frames := 0, cells := 0, slots := 0, locals := 0 }
set_option maxHeartbeats 4000000 in
set_option maxRecDepth 100000 in
theorem c_X5_spreadOver (l : Launch) (g : Gv) (m0 : Mm) (v0 : Nat) (v1 : Int32) (Φ : Unit → Mm → Prop) (hw : wp_X5_spreadOver m0 v0 v1 Φ) : Met l yX5_spreadOver wsX5_spreadOver rm_X5_spreadOver (PP g [.ref (ad g v0), .int v1] m0) (QQ g vV Φ) 0 0 (Ag g) := by
  refine CT_of (by decide +kernel) rfl (Nat.le_of_ble_eq_true rfl) ?_
  intro p e s m below meth c hx hb hr hml hown hts hlk hnm hK hW ls hl
  have hown : s.vm.findClass RX5 = some m.cls := hown
  have hl : lv_has ls 2 [(0, .ref (ad g v0)), (1, .int v1)] := hl
  have i6 : ∀ w ∈ u_ws RX5 TX5 2, w ∈ wsX5_spreadOver := by decide +kernel
  unfold wp_X5_spreadOver at hw
  refine lv_aload_n hx hb dX5_spreadOver_0 rfl (lv_at hl 0 rfl) ?_
  refine lv_iload_n hx hb dX5_spreadOver_1 rfl (lv_at hl 1 rfl) ?_
  refine R_putI (C := RX5) (T := TX5) (N := 2) hx hb hts i6 tyX5 tyX5_ok nmX5 hown hK hW 0 hw.1 (by decide) rfl (by decide) (hts (.fieldLink RX5 7 "BoatLift$Water" "area" "I") (by decide +kernel)) (fun _ h => h) (Or.inl rfl) rfl (fun _ _ _ => rfl) (fun _ _ _ => rfl) dX5_spreadOver_2 (fun H locs hW => ?_)
  obtain ⟨m1, em1⟩ : ∃ z, z = sI m0 v0 0 v1 := ⟨_, rfl⟩
  rw [← em1] at hW
  have hw := hw.2 m1 em1
  exact R_vret hx hb hr hlk hW hw dX5_spreadOver_5

def wp_X5_spread (m0 : Mm) (v0 : Nat) (Φ : Int32 → Mm → Prop) : Prop :=
  mT m0 v0 = 6 ∧ Φ (mI m0 v0 0) m0
abbrev rm_X5_spread : Room := { frames := 0, cells := 0, slots := 0, locals := 0 }
set_option maxHeartbeats 4000000 in
set_option maxRecDepth 100000 in
theorem c_X5_spread (l : Launch) (g : Gv) (m0 : Mm) (v0 : Nat) (Φ : Int32 → Mm → Prop) (hw : wp_X5_spread m0 v0 Φ) : Met l yX5_spread wsX5_spread rm_X5_spread (PP g [.ref (ad g v0)] m0) (QQ g vI Φ) 0 0 (Ag g) := by
  refine CT_of (by decide +kernel) rfl (Nat.le_of_ble_eq_true rfl) ?_
  intro p e s m below meth c hx hb hr hml hown hts hlk hnm hK hW ls hl
  have hown : s.vm.findClass RX5 = some m.cls := hown
  have hl : lv_has ls 1 [(0, .ref (ad g v0))] := hl
  have i6 : ∀ w ∈ u_ws RX5 TX5 2, w ∈ wsX5_spread := by decide +kernel
  unfold wp_X5_spread at hw
  refine lv_aload_n hx hb dX5_spread_0 rfl (lv_at hl 0 rfl) ?_
  refine R_getI (C := RX5) (T := TX5) (N := 2) hx hb hts i6 hown hK hW 0 hw.1 (by decide) rfl (by decide) (hts (.fieldLink RX5 7 "BoatLift$Water" "area" "I") (by decide +kernel)) (fun _ h => h) (fun _ _ _ => rfl) dX5_spread_1 ?_
  have hw := hw.2
  exact R_iret hx hb hr hlk hW hw dX5_spread_4

def wp_X5_gain (m0 : Mm) (v0 : Nat) (v1 : Int32) (Φ : Unit → Mm → Prop) : Prop :=
  mT m0 v0 = 6 ∧ mT m0 v0 = 6 ∧ ∀ m1 : Mm, m1 = sL m0 v0 1 ((mL m0 v0 1) + v1.toInt64) → Φ () m1
abbrev rm_X5_gain : Room := { frames := 0, cells := 0, slots := 0, locals := 0 }
set_option maxHeartbeats 4000000 in
set_option maxRecDepth 100000 in
theorem c_X5_gain (l : Launch) (g : Gv) (m0 : Mm) (v0 : Nat) (v1 : Int32) (Φ : Unit → Mm → Prop) (hw : wp_X5_gain m0 v0 v1 Φ) : Met l yX5_gain wsX5_gain rm_X5_gain (PP g [.ref (ad g v0), .int v1] m0) (QQ g vV Φ) 0 0 (Ag g) := by
  refine CT_of (by decide +kernel) rfl (Nat.le_of_ble_eq_true rfl) ?_
  intro p e s m below meth c hx hb hr hml hown hts hlk hnm hK hW ls hl
  have hown : s.vm.findClass RX5 = some m.cls := hown
  have hl : lv_has ls 2 [(0, .ref (ad g v0)), (1, .int v1)] := hl
  have i6 : ∀ w ∈ u_ws RX5 TX5 2, w ∈ wsX5_gain := by decide +kernel
  unfold wp_X5_gain at hw
  refine lv_aload_n hx hb dX5_gain_0 rfl (lv_at hl 0 rfl) ?_
  refine lv_dup hx hb dX5_gain_1 rfl ?_
  refine R_getL (C := RX5) (T := TX5) (N := 2) hx hb hts i6 hown hK hW 1 hw.1 (by decide) rfl (by decide) (hts (.fieldLink RX5 13 "BoatLift$Water" "stock" "J") (by decide +kernel)) (fun _ h => h) (fun _ _ _ => rfl) dX5_gain_2 ?_
  have hw := hw.2
  refine lv_iload_n hx hb dX5_gain_5 rfl (lv_at hl 1 rfl) ?_
  refine lv_i2l (v := v1.toInt64) hx hb dX5_gain_6 rfl ?_
  refine lv_ladd hx hb dX5_gain_7 ?_
  refine R_putL (C := RX5) (T := TX5) (N := 2) hx hb hts i6 tyX5 tyX5_ok nmX5 hown hK hW 1 hw.1 (by decide) rfl (by decide) (hts (.fieldLink RX5 13 "BoatLift$Water" "stock" "J") (by decide +kernel)) (fun _ h => h) (Or.inl rfl) rfl (fun _ _ _ => rfl) (fun _ _ _ => rfl) dX5_gain_8 (fun H locs hW => ?_)
  obtain ⟨m1, em1⟩ : ∃ z, z = sL m0 v0 1 ((mL m0 v0 1) + v1.toInt64) := ⟨_, rfl⟩
  rw [← em1] at hW
  have hw := hw.2 m1 em1
  exact R_vret hx hb hr hlk hW hw dX5_gain_11

def wp_X5_tonnes (m0 : Mm) (v0 : Nat) (Φ : Int64 → Mm → Prop) : Prop :=
  mT m0 v0 = 6 ∧ Φ (mL m0 v0 1) m0
abbrev rm_X5_tonnes : Room := { frames := 0, cells := 0, slots := 0, locals := 0 }
set_option maxHeartbeats 4000000 in
set_option maxRecDepth 100000 in
theorem c_X5_tonnes (l : Launch) (g : Gv) (m0 : Mm) (v0 : Nat) (Φ : Int64 → Mm → Prop) (hw : wp_X5_tonnes m0 v0 Φ) : Met l yX5_tonnes wsX5_tonnes rm_X5_tonnes (PP g [.ref (ad g v0)] m0) (QQ g vL Φ) 0 0 (Ag g) := by
  refine CT_of (by decide +kernel) rfl (Nat.le_of_ble_eq_true rfl) ?_
  intro p e s m below meth c hx hb hr hml hown hts hlk hnm hK hW ls hl
  have hown : s.vm.findClass RX5 = some m.cls := hown
  have hl : lv_has ls 1 [(0, .ref (ad g v0))] := hl
  have i6 : ∀ w ∈ u_ws RX5 TX5 2, w ∈ wsX5_tonnes := by decide +kernel
  unfold wp_X5_tonnes at hw
  refine lv_aload_n hx hb dX5_tonnes_0 rfl (lv_at hl 0 rfl) ?_
  refine R_getL (C := RX5) (T := TX5) (N := 2) hx hb hts i6 hown hK hW 1 hw.1 (by decide) rfl (by decide) (hts (.fieldLink RX5 13 "BoatLift$Water" "stock" "J") (by decide +kernel)) (fun _ h => h) (fun _ _ _ => rfl) dX5_tonnes_1 ?_
  have hw := hw.2
  exact R_lret hx hb hr hlk hW hw dX5_tonnes_4

def wp_J9_floorDiv_f86c9 (m0 : Mm) (v0 : Int64) (v2 : Int64) (Φ : Int64 → Mm → Prop) : Prop :=
  ¬ v2 = 0 ∧ ((0 ≤ (lg_cmp (v0 ^^^ v2) (0 : Int64)) → Φ (v0 / v2) m0) ∧ (¬ 0 ≤ (lg_cmp (v0 ^^^ v2) (0 : Int64)) → (((lg_cmp ((v0 / v2) * v2) v0) = 0 → Φ (v0 / v2) m0) ∧ (¬ (lg_cmp ((v0 / v2) * v2) v0) = 0 → Φ ((v0 / v2) - (1 : Int64)) m0))))
abbrev rm_J9_floorDiv_f86c9 : Room := { frames := 0, cells := 0, slots := 0, locals := 0 }
set_option maxHeartbeats 4000000 in
set_option maxRecDepth 100000 in
theorem c_J9_floorDiv_f86c9 (l : Launch) (g : Gv) (m0 : Mm) (v0 : Int64) (v2 : Int64) (Φ : Int64 → Mm → Prop) (hw : wp_J9_floorDiv_f86c9 m0 v0 v2 Φ) : Met l yJ9_floorDiv_f86c9 wsJ9_floorDiv_f86c9 rm_J9_floorDiv_f86c9 (PP g [.long v0, .long v2] m0) (QQ g vL Φ) 0 0 (Ag g) := by
  refine CT_of (by decide +kernel) rfl (Nat.le_of_ble_eq_true rfl) ?_
  intro p e s m below meth c hx hb hr hml hown hts hlk hnm hK hW ls hl
  have hown : s.vm.findClass RJ9 = some m.cls := hown
  have hl : lv_has ls 6 [(0, .long v0), (2, .long v2)] := hl
  unfold wp_J9_floorDiv_f86c9 at hw
  refine lv_lload_n hx hb dJ9_floorDiv_f86c9_0 rfl (lv_at hl 0 rfl) ?_
  refine lv_lload_n hx hb dJ9_floorDiv_f86c9_1 rfl (lv_at hl 1 rfl) ?_
  refine lv_ldiv hx hb dJ9_floorDiv_f86c9_2 hw.1 ?_
  have hw := hw.2
  refine lv_lstore (lv' := [(4, .long (v0 / v2)), (0, .long v0), (2, .long v2)]) hx hb dJ9_floorDiv_f86c9_3 hl (by decide) rfl (fun ls hl => ?_)
  refine lv_lload_n hx hb dJ9_floorDiv_f86c9_5 rfl (lv_at hl 1 rfl) ?_
  refine lv_lload_n hx hb dJ9_floorDiv_f86c9_6 rfl (lv_at hl 2 rfl) ?_
  refine lv_lxor hx hb dJ9_floorDiv_f86c9_7 ?_
  refine lv_lconst (v := (0 : Int64)) hx hb dJ9_floorDiv_f86c9_8 (by decide) ?_
  refine W.lcmp hx hb dJ9_floorDiv_f86c9_9 ?_
  refine lv_if_ge (tgt := 27) hx hb dJ9_floorDiv_f86c9_10 (by decide) (fun c1 => ?_) (fun c1 => ?_)
  · have hw := hw.1 c1
    refine lv_lload hx hb dJ9_floorDiv_f86c9_27 (lv_at hl 0 rfl) ?_
    exact R_lret hx hb hr hlk hW hw dJ9_floorDiv_f86c9_29
  · have hw := hw.2 c1
    refine lv_lload hx hb dJ9_floorDiv_f86c9_13 (lv_at hl 0 rfl) ?_
    refine lv_lload_n hx hb dJ9_floorDiv_f86c9_15 rfl (lv_at hl 2 rfl) ?_
    refine lv_lmul hx hb dJ9_floorDiv_f86c9_16 ?_
    refine lv_lload_n hx hb dJ9_floorDiv_f86c9_17 rfl (lv_at hl 1 rfl) ?_
    refine W.lcmp hx hb dJ9_floorDiv_f86c9_18 ?_
    refine lv_if_eq (tgt := 27) hx hb dJ9_floorDiv_f86c9_19 (by decide) (fun c2 => ?_) (fun c2 => ?_)
    · have hw := hw.1 c2
      refine lv_lload hx hb dJ9_floorDiv_f86c9_27 (lv_at hl 0 rfl) ?_
      exact R_lret hx hb hr hlk hW hw dJ9_floorDiv_f86c9_29
    · have hw := hw.2 c2
      refine lv_lload hx hb dJ9_floorDiv_f86c9_22 (lv_at hl 0 rfl) ?_
      refine lv_lconst (v := (1 : Int64)) hx hb dJ9_floorDiv_f86c9_24 (by decide) ?_
      refine lv_lsub hx hb dJ9_floorDiv_f86c9_25 ?_
      exact R_lret hx hb hr hlk hW hw dJ9_floorDiv_f86c9_26

def wp_J9_floorDiv_7cf53 (m0 : Mm) (v0 : Int32) (v1 : Int32) (Φ : Int32 → Mm → Prop) : Prop :=
  ¬ v1 = 0 ∧ ((0 ≤ (v0 ^^^ v1) → Φ (v0 / v1) m0) ∧ (¬ 0 ≤ (v0 ^^^ v1) → ((((v0 / v1) * v1) = v0 → Φ (v0 / v1) m0) ∧ (¬ ((v0 / v1) * v1) = v0 → Φ ((v0 / v1) - (1 : Int32)) m0))))
abbrev rm_J9_floorDiv_7cf53 : Room := { frames := 0, cells := 0, slots := 0, locals := 0 }
set_option maxHeartbeats 4000000 in
set_option maxRecDepth 100000 in
theorem c_J9_floorDiv_7cf53 (l : Launch) (g : Gv) (m0 : Mm) (v0 : Int32) (v1 : Int32) (Φ : Int32 → Mm → Prop) (hw : wp_J9_floorDiv_7cf53 m0 v0 v1 Φ) : Met l yJ9_floorDiv_7cf53 wsJ9_floorDiv_7cf53 rm_J9_floorDiv_7cf53 (PP g [.int v0, .int v1] m0) (QQ g vI Φ) 0 0 (Ag g) := by
  refine CT_of (by decide +kernel) rfl (Nat.le_of_ble_eq_true rfl) ?_
  intro p e s m below meth c hx hb hr hml hown hts hlk hnm hK hW ls hl
  have hown : s.vm.findClass RJ9 = some m.cls := hown
  have hl : lv_has ls 3 [(0, .int v0), (1, .int v1)] := hl
  unfold wp_J9_floorDiv_7cf53 at hw
  refine lv_iload_n hx hb dJ9_floorDiv_7cf53_0 rfl (lv_at hl 0 rfl) ?_
  refine lv_iload_n hx hb dJ9_floorDiv_7cf53_1 rfl (lv_at hl 1 rfl) ?_
  refine lv_idiv hx hb dJ9_floorDiv_7cf53_2 hw.1 ?_
  have hw := hw.2
  refine lv_istore_n (lv' := [(2, .int (v0 / v1)), (0, .int v0), (1, .int v1)]) hx hb dJ9_floorDiv_7cf53_3 rfl hl (by decide) rfl (fun ls hl => ?_)
  refine lv_iload_n hx hb dJ9_floorDiv_7cf53_4 rfl (lv_at hl 1 rfl) ?_
  refine lv_iload_n hx hb dJ9_floorDiv_7cf53_5 rfl (lv_at hl 2 rfl) ?_
  refine lv_ixor hx hb dJ9_floorDiv_7cf53_6 ?_
  refine lv_if_ge (tgt := 21) hx hb dJ9_floorDiv_7cf53_7 (by decide) (fun c1 => ?_) (fun c1 => ?_)
  · have hw := hw.1 c1
    refine lv_iload_n hx hb dJ9_floorDiv_7cf53_21 rfl (lv_at hl 0 rfl) ?_
    exact R_iret hx hb hr hlk hW hw dJ9_floorDiv_7cf53_22
  · have hw := hw.2 c1
    refine lv_iload_n hx hb dJ9_floorDiv_7cf53_10 rfl (lv_at hl 0 rfl) ?_
    refine lv_iload_n hx hb dJ9_floorDiv_7cf53_11 rfl (lv_at hl 2 rfl) ?_
    refine lv_imul hx hb dJ9_floorDiv_7cf53_12 ?_
    refine lv_iload_n hx hb dJ9_floorDiv_7cf53_13 rfl (lv_at hl 1 rfl) ?_
    refine lv_icmp_eq (tgt := 21) hx hb dJ9_floorDiv_7cf53_14 (by decide) (fun c2 => ?_) (fun c2 => ?_)
    · have hw := hw.1 c2
      refine lv_iload_n hx hb dJ9_floorDiv_7cf53_21 rfl (lv_at hl 0 rfl) ?_
      exact R_iret hx hb hr hlk hW hw dJ9_floorDiv_7cf53_22
    · have hw := hw.2 c2
      refine lv_iload_n hx hb dJ9_floorDiv_7cf53_17 rfl (lv_at hl 0 rfl) ?_
      refine lv_iconst (v := (1 : Int32)) hx hb dJ9_floorDiv_7cf53_18 (by decide) ?_
      refine lv_isub hx hb dJ9_floorDiv_7cf53_19 ?_
      exact R_iret hx hb hr hlk hW hw dJ9_floorDiv_7cf53_20

def wp_X5_centimetres (m0 : Mm) (v0 : Nat) (Φ : Int32 → Mm → Prop) : Prop :=
  mT m0 v0 = 6 ∧ (((mI m0 v0 0) ≤ 0 → Φ (0 : Int32) m0) ∧ (¬ (mI m0 v0 0) ≤ 0 → mT m0 v0 = 6 ∧ mT m0 v0 = 6 ∧ wp_J9_floorDiv_f86c9 m0 (mL m0 v0 1) ((mI m0 v0 0).toInt64) (fun (r2 : Int64) (m3 : Mm) => Φ r2.toInt32 m3)))
abbrev rm_X5_centimetres : Room := { frames := 1, cells := 0, slots := 0, locals := 25 }
set_option maxHeartbeats 4000000 in
set_option maxRecDepth 100000 in
theorem c_X5_centimetres (l : Launch) (g : Gv) (m0 : Mm) (v0 : Nat) (Φ : Int32 → Mm → Prop) (hw : wp_X5_centimetres m0 v0 Φ) : Met l yX5_centimetres wsX5_centimetres rm_X5_centimetres (PP g [.ref (ad g v0)] m0) (QQ g vI Φ) 0 0 (Ag g) := by
  refine CT_of (by decide +kernel) rfl (Nat.le_of_ble_eq_true rfl) ?_
  intro p e s m below meth c hx hb hr hml hown hts hlk hnm hK hW ls hl
  have hown : s.vm.findClass RX5 = some m.cls := hown
  have hl : lv_has ls 1 [(0, .ref (ad g v0))] := hl
  have i6 : ∀ w ∈ u_ws RX5 TX5 2, w ∈ wsX5_centimetres := by decide +kernel
  unfold wp_X5_centimetres at hw
  refine lv_aload_n hx hb dX5_centimetres_0 rfl (lv_at hl 0 rfl) ?_
  refine R_getI (C := RX5) (T := TX5) (N := 2) hx hb hts i6 hown hK hW 0 hw.1 (by decide) rfl (by decide) (hts (.fieldLink RX5 7 "BoatLift$Water" "area" "I") (by decide +kernel)) (fun _ h => h) (fun _ _ _ => rfl) dX5_centimetres_1 ?_
  have hw := hw.2
  refine lv_if_le (tgt := 23) hx hb dX5_centimetres_4 (by decide) (fun c1 => ?_) (fun c1 => ?_)
  · have hw := hw.1 c1
    refine lv_iconst (v := (0 : Int32)) hx hb dX5_centimetres_23 (by decide) ?_
    exact R_iret hx hb hr hlk hW hw dX5_centimetres_24
  · have hw := hw.2 c1
    refine lv_aload_n hx hb dX5_centimetres_7 rfl (lv_at hl 0 rfl) ?_
    refine R_getL (C := RX5) (T := TX5) (N := 2) hx hb hts i6 hown hK hW 1 hw.1 (by decide) rfl (by decide) (hts (.fieldLink RX5 13 "BoatLift$Water" "stock" "J") (by decide +kernel)) (fun _ h => h) (fun _ _ _ => rfl) dX5_centimetres_8 ?_
    have hw := hw.2
    refine lv_aload_n hx hb dX5_centimetres_11 rfl (lv_at hl 0 rfl) ?_
    refine R_getI (C := RX5) (T := TX5) (N := 2) hx hb hts i6 hown hK hW 0 hw.1 (by decide) rfl (by decide) (hts (.fieldLink RX5 7 "BoatLift$Water" "area" "I") (by decide +kernel)) (fun _ h => h) (fun _ _ _ => rfl) dX5_centimetres_12 ?_
    have hw := hw.2
    refine lv_i2l (v := (mI m0 v0 0).toInt64) hx hb dX5_centimetres_15 rfl ?_
    refine R_call (va_runS (As := [.long (mL m0 v0 1), .long (mI m0 v0 0).toInt64]) (rest := []) ⟨hx, hb, hml, hown, hts⟩ (c_J9_floorDiv_f86c9 l g m0 (mL m0 v0 1) ((mI m0 v0 0).toInt64) _ hw) (va_cwS 2 hts gX5_centimetres_J9_floorDiv_f86c9 rfl rfl rfl (by decide +kernel) ⟨by decide, by decide⟩) (PP.pre hK hW) rfl rfl hl.1 rfl (lv_room (Nat.le_of_ble_eq_true rfl)) dX5_centimetres_16 ⟨by decide, by decide⟩) hW (fun r2 m3 H locs hw hW => ?_)
    refine W.eq (g2 := F0 m 19 ls [.long r2]) rfl ?_
    refine lv_l2i (v := r2.toInt32) hx hb dX5_centimetres_19 rfl ?_
    refine lv_goto (tgt := 24) hx hb dX5_centimetres_20 (by decide) ?_
    exact R_iret hx hb hr hlk hW hw dX5_centimetres_24

def wp_X5_decimetres (m0 : Mm) (v0 : Nat) (Φ : Int32 → Mm → Prop) : Prop :=
  mT m0 v0 = 6 ∧ wp_X5_centimetres m0 v0 (fun (r1 : Int32) (m2 : Mm) => wp_J9_floorDiv_7cf53 m2 r1 (10 : Int32) (fun (r3 : Int32) (m4 : Mm) => Φ ((30 : Int32) + r3) m4))
abbrev rm_X5_decimetres : Room := { frames := 2, cells := 0, slots := 0, locals := 45 }
set_option maxHeartbeats 4000000 in
set_option maxRecDepth 100000 in
theorem c_X5_decimetres (l : Launch) (g : Gv) (m0 : Mm) (v0 : Nat) (Φ : Int32 → Mm → Prop) (hw : wp_X5_decimetres m0 v0 Φ) : Met l yX5_decimetres wsX5_decimetres rm_X5_decimetres (PP g [.ref (ad g v0)] m0) (QQ g vI Φ) 0 0 (Ag g) := by
  refine CT_of (by decide +kernel) rfl (Nat.le_of_ble_eq_true rfl) ?_
  intro p e s m below meth c hx hb hr hml hown hts hlk hnm hK hW ls hl
  have hown : s.vm.findClass RX5 = some m.cls := hown
  have hl : lv_has ls 1 [(0, .ref (ad g v0))] := hl
  unfold wp_X5_decimetres at hw
  refine lv_bipush (v := (30 : Int32)) hx hb dX5_decimetres_0 (by decide) ?_
  refine lv_aload_n hx hb dX5_decimetres_2 rfl (lv_at hl 0 rfl) ?_
  refine R_call (va_runV (As := []) (rest := [.int (30 : Int32)]) ⟨hx, hb, hml, hown, hts⟩ (c_X5_centimetres l g m0 v0 _ hw.2) (cwV 0 hts gX5_decimetres_X5_centimetres rfl rfl rfl (by decide +kernel) ⟨by decide, by decide⟩) (PP.preV (q := (RX5, TX5, 2)) hK hW hw.1 (by decide) rfl) rfl rfl hl.1 rfl (lv_room (Nat.le_of_ble_eq_true rfl)) dX5_decimetres_3 ⟨by decide, by decide⟩) hW (fun r1 m2 H locs hw hW => ?_)
  refine W.eq (g2 := F0 m 6 ls [.int r1, .int (30 : Int32)]) rfl ?_
  refine lv_bipush (v := (10 : Int32)) hx hb dX5_decimetres_6 (by decide) ?_
  refine R_call (va_runS (As := [.int r1, .int (10 : Int32)]) (rest := [.int (30 : Int32)]) ⟨hx, hb, hml, hown, hts⟩ (c_J9_floorDiv_7cf53 l g m2 r1 (10 : Int32) _ hw) (va_cwS 2 hts gX5_decimetres_J9_floorDiv_7cf53 rfl rfl rfl (by decide +kernel) ⟨by decide, by decide⟩) (PP.pre hK hW) rfl rfl hl.1 rfl (lv_room (Nat.le_of_ble_eq_true rfl)) dX5_decimetres_8 ⟨by decide, by decide⟩) hW (fun r3 m4 H locs hw hW => ?_)
  refine W.eq (g2 := F0 m 11 ls [.int r3, .int (30 : Int32)]) rfl ?_
  refine lv_iadd hx hb dX5_decimetres_11 ?_
  exact R_iret hx hb hr hlk hW hw dX5_decimetres_12

def wp_X0_waited (m0 : Mm) (v0 : Nat) (Φ : Int32 → Mm → Prop) : Prop :=
  mT m0 v0 = 1 ∧ ((¬ (mI m0 v0 7) = (-1 : Int32) → mT m0 v0 = 1 ∧ mT m0 v0 = 1 ∧ Φ ((mI m0 v0 7) - (mI m0 v0 2)) m0) ∧ ((mI m0 v0 7) = (-1 : Int32) → Φ (-1 : Int32) m0))
abbrev rm_X0_waited : Room := { frames := 0, cells := 0, slots := 0, locals := 0 }
set_option maxHeartbeats 4000000 in
set_option maxRecDepth 100000 in
theorem c_X0_waited (l : Launch) (g : Gv) (m0 : Mm) (v0 : Nat) (Φ : Int32 → Mm → Prop) (hw : wp_X0_waited m0 v0 Φ) : Met l yX0_waited wsX0_waited rm_X0_waited (PP g [.ref (ad g v0)] m0) (QQ g vI Φ) 0 0 (Ag g) := by
  refine CT_of (by decide +kernel) rfl (Nat.le_of_ble_eq_true rfl) ?_
  intro p e s m below meth c hx hb hr hml hown hts hlk hnm hK hW ls hl
  have hown : s.vm.findClass RX0 = some m.cls := hown
  have hl : lv_has ls 1 [(0, .ref (ad g v0))] := hl
  have i1 : ∀ w ∈ u_ws RX0 TX0 8, w ∈ wsX0_waited := by decide +kernel
  unfold wp_X0_waited at hw
  refine lv_aload_n hx hb dX0_waited_0 rfl (lv_at hl 0 rfl) ?_
  refine R_getI (C := RX0) (T := TX0) (N := 8) hx hb hts i1 hown hK hW 7 hw.1 (by decide) rfl (by decide) (hts (.fieldLink RX0 9 "BoatLift$Boat" "began" "I") (by decide +kernel)) (fun _ h => h) (fun _ _ _ => rfl) dX0_waited_1 ?_
  have hw := hw.2
  refine lv_iconst (v := (-1 : Int32)) hx hb dX0_waited_4 (by decide) ?_
  refine lv_icmp_ne (tgt := 12) hx hb dX0_waited_5 (by decide) (fun c1 => ?_) (fun c1 => ?_)
  · have hw := hw.1 c1
    refine lv_aload_n hx hb dX0_waited_12 rfl (lv_at hl 0 rfl) ?_
    refine R_getI (C := RX0) (T := TX0) (N := 8) hx hb hts i1 hown hK hW 7 hw.1 (by decide) rfl (by decide) (hts (.fieldLink RX0 9 "BoatLift$Boat" "began" "I") (by decide +kernel)) (fun _ h => h) (fun _ _ _ => rfl) dX0_waited_13 ?_
    have hw := hw.2
    refine lv_aload_n hx hb dX0_waited_16 rfl (lv_at hl 0 rfl) ?_
    refine R_getI (C := RX0) (T := TX0) (N := 8) hx hb hts i1 hown hK hW 2 hw.1 (by decide) rfl (by decide) (hts (.fieldLink RX0 21 "BoatLift$Boat" "minute" "I") (by decide +kernel)) (fun _ h => h) (fun _ _ _ => rfl) dX0_waited_17 ?_
    have hw := hw.2
    refine lv_isub hx hb dX0_waited_20 ?_
    exact R_iret hx hb hr hlk hW hw dX0_waited_21
  · have hw := hw.2 c1
    refine lv_iconst (v := (-1 : Int32)) hx hb dX0_waited_8 (by decide) ?_
    refine lv_goto (tgt := 21) hx hb dX0_waited_9 (by decide) ?_
    exact R_iret hx hb hr hlk hW hw dX0_waited_21

def wp_X0_goesAheadOf (m0 : Mm) (v0 : Nat) (v1 : Nat) (Φ : Int32 → Mm → Prop) : Prop :=
  mT m0 v0 = 1 ∧ mT m0 v1 = 1 ∧ (((mI m0 v0 6) < (mI m0 v1 6) → Φ (1 : Int32) m0) ∧ (¬ (mI m0 v0 6) < (mI m0 v1 6) → mT m0 v0 = 1 ∧ mT m0 v1 = 1 ∧ ((¬ (mI m0 v0 6) = (mI m0 v1 6) → Φ (0 : Int32) m0) ∧ ((mI m0 v0 6) = (mI m0 v1 6) → mT m0 v0 = 1 ∧ mT m0 v1 = 1 ∧ (((mI m0 v1 2) ≤ (mI m0 v0 2) → Φ (0 : Int32) m0) ∧ (¬ (mI m0 v1 2) ≤ (mI m0 v0 2) → Φ (1 : Int32) m0))))))
abbrev rm_X0_goesAheadOf : Room := { frames := 0, cells := 0, slots := 0, locals := 0 }
set_option maxHeartbeats 4000000 in
set_option maxRecDepth 100000 in
theorem c_X0_goesAheadOf (l : Launch) (g : Gv) (m0 : Mm) (v0 : Nat) (v1 : Nat) (Φ : Int32 → Mm → Prop) (hw : wp_X0_goesAheadOf m0 v0 v1 Φ) : Met l yX0_goesAheadOf wsX0_goesAheadOf rm_X0_goesAheadOf (PP g [.ref (ad g v0), .ref (ad g v1)] m0) (QQ g vI Φ) 0 0 (Ag g) := by
  refine CT_of (by decide +kernel) rfl (Nat.le_of_ble_eq_true rfl) ?_
  intro p e s m below meth c hx hb hr hml hown hts hlk hnm hK hW ls hl
  have hown : s.vm.findClass RX0 = some m.cls := hown
  have hl : lv_has ls 2 [(0, .ref (ad g v0)), (1, .ref (ad g v1))] := hl
  have i1 : ∀ w ∈ u_ws RX0 TX0 8, w ∈ wsX0_goesAheadOf := by decide +kernel
  unfold wp_X0_goesAheadOf at hw
  refine lv_aload_n hx hb dX0_goesAheadOf_0 rfl (lv_at hl 0 rfl) ?_
  refine R_getI (C := RX0) (T := TX0) (N := 8) hx hb hts i1 hown hK hW 6 hw.1 (by decide) rfl (by decide) (hts (.fieldLink RX0 33 "BoatLift$Boat" "rank" "I") (by decide +kernel)) (fun _ h => h) (fun _ _ _ => rfl) dX0_goesAheadOf_1 ?_
  have hw := hw.2
  refine lv_aload_n hx hb dX0_goesAheadOf_4 rfl (lv_at hl 1 rfl) ?_
  refine R_getI (C := RX0) (T := TX0) (N := 8) hx hb hts i1 hown hK hW 6 hw.1 (by decide) rfl (by decide) (hts (.fieldLink RX0 33 "BoatLift$Boat" "rank" "I") (by decide +kernel)) (fun _ h => h) (fun _ _ _ => rfl) dX0_goesAheadOf_5 ?_
  have hw := hw.2
  refine lv_icmp_lt (tgt := 33) hx hb dX0_goesAheadOf_8 (by decide) (fun c1 => ?_) (fun c1 => ?_)
  · have hw := hw.1 c1
    refine lv_iconst (v := (1 : Int32)) hx hb dX0_goesAheadOf_33 (by decide) ?_
    refine lv_goto (tgt := 38) hx hb dX0_goesAheadOf_34 (by decide) ?_
    exact R_zret hx hb hr hlk hW (Or.inr rfl) hw dX0_goesAheadOf_38
  · have hw := hw.2 c1
    refine lv_aload_n hx hb dX0_goesAheadOf_11 rfl (lv_at hl 0 rfl) ?_
    refine R_getI (C := RX0) (T := TX0) (N := 8) hx hb hts i1 hown hK hW 6 hw.1 (by decide) rfl (by decide) (hts (.fieldLink RX0 33 "BoatLift$Boat" "rank" "I") (by decide +kernel)) (fun _ h => h) (fun _ _ _ => rfl) dX0_goesAheadOf_12 ?_
    have hw := hw.2
    refine lv_aload_n hx hb dX0_goesAheadOf_15 rfl (lv_at hl 1 rfl) ?_
    refine R_getI (C := RX0) (T := TX0) (N := 8) hx hb hts i1 hown hK hW 6 hw.1 (by decide) rfl (by decide) (hts (.fieldLink RX0 33 "BoatLift$Boat" "rank" "I") (by decide +kernel)) (fun _ h => h) (fun _ _ _ => rfl) dX0_goesAheadOf_16 ?_
    have hw := hw.2
    refine lv_icmp_ne (tgt := 37) hx hb dX0_goesAheadOf_19 (by decide) (fun c2 => ?_) (fun c2 => ?_)
    · have hw := hw.1 c2
      refine lv_iconst (v := (0 : Int32)) hx hb dX0_goesAheadOf_37 (by decide) ?_
      exact R_zret hx hb hr hlk hW (Or.inl rfl) hw dX0_goesAheadOf_38
    · have hw := hw.2 c2
      refine lv_aload_n hx hb dX0_goesAheadOf_22 rfl (lv_at hl 0 rfl) ?_
      refine R_getI (C := RX0) (T := TX0) (N := 8) hx hb hts i1 hown hK hW 2 hw.1 (by decide) rfl (by decide) (hts (.fieldLink RX0 21 "BoatLift$Boat" "minute" "I") (by decide +kernel)) (fun _ h => h) (fun _ _ _ => rfl) dX0_goesAheadOf_23 ?_
      have hw := hw.2
      refine lv_aload_n hx hb dX0_goesAheadOf_26 rfl (lv_at hl 1 rfl) ?_
      refine R_getI (C := RX0) (T := TX0) (N := 8) hx hb hts i1 hown hK hW 2 hw.1 (by decide) rfl (by decide) (hts (.fieldLink RX0 21 "BoatLift$Boat" "minute" "I") (by decide +kernel)) (fun _ h => h) (fun _ _ _ => rfl) dX0_goesAheadOf_27 ?_
      have hw := hw.2
      refine lv_icmp_ge (tgt := 37) hx hb dX0_goesAheadOf_30 (by decide) (fun c3 => ?_) (fun c3 => ?_)
      · have hw := hw.1 c3
        refine lv_iconst (v := (0 : Int32)) hx hb dX0_goesAheadOf_37 (by decide) ?_
        exact R_zret hx hb hr hlk hW (Or.inl rfl) hw dX0_goesAheadOf_38
      · have hw := hw.2 c3
        refine lv_iconst (v := (1 : Int32)) hx hb dX0_goesAheadOf_33 (by decide) ?_
        refine lv_goto (tgt := 38) hx hb dX0_goesAheadOf_34 (by decide) ?_
        exact R_zret hx hb hr hlk hW (Or.inr rfl) hw dX0_goesAheadOf_38
