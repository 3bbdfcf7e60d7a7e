def wp_X2_waitsOf (m0 : Mm) (v0 : Int64) (Φ : Int32 → Mm → Prop) : Prop :=
  Φ ((v0 >>> ((16 : Int32).toInt64 &&& 63)).toInt32) m0
abbrev rm_X2_waitsOf : Room := { frames := 0, cells := 0, slots := 0, locals := 0 }
set_option maxHeartbeats 4000000 in
set_option maxRecDepth 100000 in
theorem c_X2_waitsOf (l : Launch) (g : Gv) (m0 : Mm) (v0 : Int64) (Φ : Int32 → Mm → Prop) (hw : wp_X2_waitsOf m0 v0 Φ) : Met l yX2_waitsOf wsX2_waitsOf rm_X2_waitsOf (PP g [.long v0] m0) (QQ g vI Φ) 0 0 (Ag g) := by
  refine CT_of (by decide +kernel) rfl (Nat.le_of_ble_eq_true rfl) ?_
  intro p e s m below meth c hx hb hr hml hown hts hlk hnm hK hW ls hl
  have hown : s.vm.findClass RX2 = some m.cls := hown
  have hl : lv_has ls 2 [(0, .long v0)] := hl
  unfold wp_X2_waitsOf at hw
  refine lv_lload_n hx hb dX2_waitsOf_0 rfl (lv_at hl 0 rfl) ?_
  refine lv_bipush (v := (16 : Int32)) hx hb dX2_waitsOf_1 (by decide) ?_
  refine lv_lshr (v := (v0 >>> ((16 : Int32).toInt64 &&& 63))) hx hb dX2_waitsOf_3 rfl ?_
  refine lv_l2i (v := (v0 >>> ((16 : Int32).toInt64 &&& 63)).toInt32) hx hb dX2_waitsOf_4 rfl ?_
  exact R_iret hx hb hr hlk hW hw dX2_waitsOf_5

def wp_X2_endOf (m0 : Mm) (v0 : Int64) (Φ : Int32 → Mm → Prop) : Prop :=
  Φ ((v0 &&& (65535 : Int64)).toInt32) m0
abbrev rm_X2_endOf : Room := { frames := 0, cells := 0, slots := 0, locals := 0 }
set_option maxHeartbeats 4000000 in
set_option maxRecDepth 100000 in
theorem c_X2_endOf (l : Launch) (g : Gv) (m0 : Mm) (v0 : Int64) (Φ : Int32 → Mm → Prop) (hw : wp_X2_endOf m0 v0 Φ) : Met l yX2_endOf wsX2_endOf rm_X2_endOf (PP g [.long v0] m0) (QQ g vI Φ) 0 0 (Ag g) := by
  refine CT_of (by decide +kernel) rfl (Nat.le_of_ble_eq_true rfl) ?_
  intro p e s m below meth c hx hb hr hml hown hts hlk hnm hK hW ls hl
  have hown : s.vm.findClass RX2 = some m.cls := hown
  have hl : lv_has ls 2 [(0, .long v0)] := hl
  unfold wp_X2_endOf at hw
  refine lv_lload_n hx hb dX2_endOf_0 rfl (lv_at hl 0 rfl) ?_
  refine lv_ldc2 hx hb hown (hts (.constantLong RX2 28 (65535)) (by decide +kernel)) dX2_endOf_1 ?_
  refine lv_land hx hb dX2_endOf_4 ?_
  refine lv_l2i (v := (v0 &&& (65535 : Int64)).toInt32) hx hb dX2_endOf_5 rfl ?_
  exact R_iret hx hb hr hlk hW hw dX2_endOf_6

def wp_X2_forgetBoats (m0 : Mm) (v0 : Nat) (Φ : Unit → Mm → Prop) : Prop :=
  mT m0 v0 = 3 ∧ ∀ m1 : Mm, m1 = sI m0 v0 5 (0 : Int32) → Φ () m1
abbrev rm_X2_forgetBoats : Room := { frames := 0, cells := 0, slots := 0, locals := 0 }
set_option maxHeartbeats 4000000 in
set_option maxRecDepth 100000 in
theorem c_X2_forgetBoats (l : Launch) (g : Gv) (m0 : Mm) (v0 : Nat) (Φ : Unit → Mm → Prop) (hw : wp_X2_forgetBoats m0 v0 Φ) : Met l yX2_forgetBoats wsX2_forgetBoats rm_X2_forgetBoats (PP g [.ref (ad g v0)] m0) (QQ g vV Φ) 0 0 (Ag g) := by
  refine CT_of (by decide +kernel) rfl (Nat.le_of_ble_eq_true rfl) ?_
  intro p e s m below meth c hx hb hr hml hown hts hlk hnm hK hW ls hl
  have hown : s.vm.findClass RX2 = some m.cls := hown
  have hl : lv_has ls 1 [(0, .ref (ad g v0))] := hl
  have i3 : ∀ w ∈ u_ws RX2 TX2 9, w ∈ wsX2_forgetBoats := by decide +kernel
  unfold wp_X2_forgetBoats at hw
  refine lv_aload_n hx hb dX2_forgetBoats_0 rfl (lv_at hl 0 rfl) ?_
  refine lv_iconst (v := (0 : Int32)) hx hb dX2_forgetBoats_1 (by decide) ?_
  refine R_putI (C := RX2) (T := TX2) (N := 9) hx hb hts i3 tyX2 tyX2_ok nmX2 hown hK hW 5 hw.1 (by decide) rfl (by decide) (hts (.fieldLink RX2 30 "BoatLift$Planner" "boats" "I") (by decide +kernel)) (fun _ h => h) (Or.inl rfl) rfl (fun _ _ _ => rfl) (fun _ _ _ => rfl) dX2_forgetBoats_2 (fun H locs hW => ?_)
  obtain ⟨m1, em1⟩ : ∃ z, z = sI m0 v0 5 (0 : Int32) := ⟨_, rfl⟩
  rw [← em1] at hW
  have hw := hw.2 m1 em1
  exact R_vret hx hb hr hlk hW hw dX2_forgetBoats_5

def wp_X2_addBoat (m0 : Mm) (v0 : Nat) (v1 : Nat) (Φ : Unit → Mm → Prop) : Prop :=
  mT m0 v0 = 3 ∧ (((6 : Int32) ≤ (mI m0 v0 5) → Φ () m0) ∧ (¬ (6 : Int32) ≤ (mI m0 v0 5) → mT m0 v0 = 3 ∧ (mP m0 v0 1) ≠ 0 ∧ mT m0 v0 = 3 ∧ mT m0 v1 = 1 ∧ mT m0 (mP m0 v0 1) = 9 ∧ vp_in (mI m0 v0 5) (mN m0 (mP m0 v0 1)) ∧ ∀ m2 : Mm, m2 = sI m0 (mP m0 v0 1) (mI m0 v0 5).toNatClampNeg (mI m0 v1 1) → mT m2 v0 = 3 ∧ (mP m2 v0 2) ≠ 0 ∧ mT m2 v0 = 3 ∧ mT m2 v1 = 1 ∧ mT m2 (mP m2 v0 2) = 9 ∧ vp_in (mI m2 v0 5) (mN m2 (mP m2 v0 2)) ∧ ∀ m3 : Mm, m3 = sI m2 (mP m2 v0 2) (mI m2 v0 5).toNatClampNeg (mI m2 v1 2) → mT m3 v0 = 3 ∧ (mP m3 v0 3) ≠ 0 ∧ mT m3 v0 = 3 ∧ mT m3 v1 = 1 ∧ mT m3 (mP m3 v0 3) = 9 ∧ vp_in (mI m3 v0 5) (mN m3 (mP m3 v0 3)) ∧ ∀ m4 : Mm, m4 = sI m3 (mP m3 v0 3) (mI m3 v0 5).toNatClampNeg (mI m3 v1 3) → mT m4 v0 = 3 ∧ mT m4 v0 = 3 ∧ ∀ m5 : Mm, m5 = sI m4 v0 5 ((mI m4 v0 5) + (1 : Int32)) → Φ () m5))
abbrev rm_X2_addBoat : Room := { frames := 0, cells := 0, slots := 0, locals := 0 }
set_option maxHeartbeats 4000000 in
set_option maxRecDepth 100000 in
theorem c_X2_addBoat (l : Launch) (g : Gv) (m0 : Mm) (v0 : Nat) (v1 : Nat) (Φ : Unit → Mm → Prop) (hw : wp_X2_addBoat m0 v0 v1 Φ) : Met l yX2_addBoat wsX2_addBoat rm_X2_addBoat (PP g [.ref (ad g v0), .ref (ad g v1)] m0) (QQ g vV Φ) 0 0 (Ag g) := by
  refine CT_of (by decide +kernel) rfl (Nat.le_of_ble_eq_true rfl) ?_
  intro p e s m below meth c hx hb hr hml hown hts hlk hnm hK hW ls hl
  have hown : s.vm.findClass RX2 = some m.cls := hown
  have hl : lv_has ls 2 [(0, .ref (ad g v0)), (1, .ref (ad g v1))] := hl
  have i1 : ∀ w ∈ u_ws RX0 TX0 8, w ∈ wsX2_addBoat := by decide +kernel
  have i3 : ∀ w ∈ u_ws RX2 TX2 9, w ∈ wsX2_addBoat := by decide +kernel
  unfold wp_X2_addBoat at hw
  refine lv_aload_n hx hb dX2_addBoat_0 rfl (lv_at hl 0 rfl) ?_
  refine R_getI (C := RX2) (T := TX2) (N := 9) hx hb hts i3 hown hK hW 5 hw.1 (by decide) rfl (by decide) (hts (.fieldLink RX2 30 "BoatLift$Planner" "boats" "I") (by decide +kernel)) (fun _ h => h) (fun _ _ _ => rfl) dX2_addBoat_1 ?_
  have hw := hw.2
  refine lv_bipush (v := (6 : Int32)) hx hb dX2_addBoat_4 (by decide) ?_
  refine lv_icmp_ge (tgt := 58) hx hb dX2_addBoat_6 (by decide) (fun c1 => ?_) (fun c1 => ?_)
  · have hw := hw.1 c1
    exact R_vret hx hb hr hlk hW hw dX2_addBoat_58
  · have hw := hw.2 c1
    refine lv_aload_n hx hb dX2_addBoat_9 rfl (lv_at hl 0 rfl) ?_
    refine R_getP (C := RX2) (T := TX2) (N := 9) hx hb hts i3 hown hK hW 1 hw.1 (by decide) rfl (by decide) (hts (.fieldLink RX2 11 "BoatLift$Planner" "sides" "[I") (by decide +kernel)) (fun _ h => h) (fun _ _ _ => rfl) hw.2.1 dX2_addBoat_10 ?_
    have hw := hw.2.2
    refine lv_aload_n hx hb dX2_addBoat_13 rfl (lv_at hl 0 rfl) ?_
    refine R_getI (C := RX2) (T := TX2) (N := 9) hx hb hts i3 hown hK hW 5 hw.1 (by decide) rfl (by decide) (hts (.fieldLink RX2 30 "BoatLift$Planner" "boats" "I") (by decide +kernel)) (fun _ h => h) (fun _ _ _ => rfl) dX2_addBoat_14 ?_
    have hw := hw.2
    refine lv_aload_n hx hb dX2_addBoat_17 rfl (lv_at hl 1 rfl) ?_
    refine R_getI (C := RX0) (T := TX0) (N := 8) hx hb hts i1 hown hK hW 1 hw.1 (by decide) rfl (by decide) (hts (.fieldLink RX2 34 "BoatLift$Boat" "side" "I") (by decide +kernel)) (fun _ h => h) (fun _ _ _ => rfl) dX2_addBoat_18 ?_
    have hw := hw.2
    refine R_iast hx hb hK hW hw.1 hw.2.1 dX2_addBoat_21 (fun H locs hW => ?_)
    obtain ⟨m2, em2⟩ : ∃ z, z = sI m0 (mP m0 v0 1) (mI m0 v0 5).toNatClampNeg (mI m0 v1 1) := ⟨_, rfl⟩
    rw [← em2] at hW
    have hw := hw.2.2 m2 em2
    refine lv_aload_n hx hb dX2_addBoat_22 rfl (lv_at hl 0 rfl) ?_
    refine R_getP (C := RX2) (T := TX2) (N := 9) hx hb hts i3 hown hK hW 2 hw.1 (by decide) rfl (by decide) (hts (.fieldLink RX2 15 "BoatLift$Planner" "comes" "[I") (by decide +kernel)) (fun _ h => h) (fun _ _ _ => rfl) hw.2.1 dX2_addBoat_23 ?_
    have hw := hw.2.2
    refine lv_aload_n hx hb dX2_addBoat_26 rfl (lv_at hl 0 rfl) ?_
    refine R_getI (C := RX2) (T := TX2) (N := 9) hx hb hts i3 hown hK hW 5 hw.1 (by decide) rfl (by decide) (hts (.fieldLink RX2 30 "BoatLift$Planner" "boats" "I") (by decide +kernel)) (fun _ h => h) (fun _ _ _ => rfl) dX2_addBoat_27 ?_
    have hw := hw.2
    refine lv_aload_n hx hb dX2_addBoat_30 rfl (lv_at hl 1 rfl) ?_
    refine R_getI (C := RX0) (T := TX0) (N := 8) hx hb hts i1 hown hK hW 2 hw.1 (by decide) rfl (by decide) (hts (.fieldLink RX2 39 "BoatLift$Boat" "minute" "I") (by decide +kernel)) (fun _ h => h) (fun _ _ _ => rfl) dX2_addBoat_31 ?_
    have hw := hw.2
    refine R_iast hx hb hK hW hw.1 hw.2.1 dX2_addBoat_34 (fun H locs hW => ?_)
    obtain ⟨m3, em3⟩ : ∃ z, z = sI m2 (mP m2 v0 2) (mI m2 v0 5).toNatClampNeg (mI m2 v1 2) := ⟨_, rfl⟩
    rw [← em3] at hW
    have hw := hw.2.2 m3 em3
    refine lv_aload_n hx hb dX2_addBoat_35 rfl (lv_at hl 0 rfl) ?_
    refine R_getP (C := RX2) (T := TX2) (N := 9) hx hb hts i3 hown hK hW 3 hw.1 (by decide) rfl (by decide) (hts (.fieldLink RX2 18 "BoatLift$Planner" "lengths" "[I") (by decide +kernel)) (fun _ h => h) (fun _ _ _ => rfl) hw.2.1 dX2_addBoat_36 ?_
    have hw := hw.2.2
    refine lv_aload_n hx hb dX2_addBoat_39 rfl (lv_at hl 0 rfl) ?_
    refine R_getI (C := RX2) (T := TX2) (N := 9) hx hb hts i3 hown hK hW 5 hw.1 (by decide) rfl (by decide) (hts (.fieldLink RX2 30 "BoatLift$Planner" "boats" "I") (by decide +kernel)) (fun _ h => h) (fun _ _ _ => rfl) dX2_addBoat_40 ?_
    have hw := hw.2
    refine lv_aload_n hx hb dX2_addBoat_43 rfl (lv_at hl 1 rfl) ?_
    refine R_getI (C := RX0) (T := TX0) (N := 8) hx hb hts i1 hown hK hW 3 hw.1 (by decide) rfl (by decide) (hts (.fieldLink RX2 42 "BoatLift$Boat" "length" "I") (by decide +kernel)) (fun _ h => h) (fun _ _ _ => rfl) dX2_addBoat_44 ?_
    have hw := hw.2
    refine R_iast hx hb hK hW hw.1 hw.2.1 dX2_addBoat_47 (fun H locs hW => ?_)
    obtain ⟨m4, em4⟩ : ∃ z, z = sI m3 (mP m3 v0 3) (mI m3 v0 5).toNatClampNeg (mI m3 v1 3) := ⟨_, rfl⟩
    rw [← em4] at hW
    have hw := hw.2.2 m4 em4
    refine lv_aload_n hx hb dX2_addBoat_48 rfl (lv_at hl 0 rfl) ?_
    refine lv_dup hx hb dX2_addBoat_49 rfl ?_
    refine R_getI (C := RX2) (T := TX2) (N := 9) hx hb hts i3 hown hK hW 5 hw.1 (by decide) rfl (by decide) (hts (.fieldLink RX2 30 "BoatLift$Planner" "boats" "I") (by decide +kernel)) (fun _ h => h) (fun _ _ _ => rfl) dX2_addBoat_50 ?_
    have hw := hw.2
    refine lv_iconst (v := (1 : Int32)) hx hb dX2_addBoat_53 (by decide) ?_
    refine lv_iadd hx hb dX2_addBoat_54 ?_
    refine R_putI (C := RX2) (T := TX2) (N := 9) hx hb hts i3 tyX2 tyX2_ok nmX2 hown hK hW 5 hw.1 (by decide) rfl (by decide) (hts (.fieldLink RX2 30 "BoatLift$Planner" "boats" "I") (by decide +kernel)) (fun _ h => h) (Or.inl rfl) rfl (fun _ _ _ => rfl) (fun _ _ _ => rfl) dX2_addBoat_55 (fun H locs hW => ?_)
    obtain ⟨m5, em5⟩ : ∃ z, z = sI m4 v0 5 ((mI m4 v0 5) + (1 : Int32)) := ⟨_, rfl⟩
    rw [← em5] at hW
    have hw := hw.2 m5 em5
    exact R_vret hx hb hr hlk hW hw dX2_addBoat_58

def wp_X2_layOutRow_8 (K8 : Int32 → Int32 → Mm → Prop) (v0 : Nat) (v1 : Int32) (v3 : Int32) (v4 : Int32) (mm : Mm) (Φ : Unit → Mm → Prop) : Prop :=
  ((((v1 + (1 : Int32)) * (13 : Int32)) ≤ v4 → Φ () mm) ∧ (¬ ((v1 + (1 : Int32)) * (13 : Int32)) ≤ v4 → (((91 : Int32) ≤ v4 → Φ () mm) ∧ (¬ (91 : Int32) ≤ v4 → mT mm v0 = 3 ∧ (mP mm v0 4) ≠ 0 ∧ mT mm (mP mm v0 4) = 9 ∧ vp_in v4 (mN mm (mP mm v0 4)) ∧ ∀ m3 : Mm, m3 = sI mm (mP mm v0 4) v4.toNatClampNeg v3 → mT m3 v0 = 3 ∧ (mP m3 v0 0) ≠ 0 ∧ mT m3 (mP m3 v0 0) = 5 ∧ wp_X4_endOf m3 (mP m3 v0 0) v3 (fun (r4 : Int32) (m5 : Mm) => K8 r4 (v4 + (1 : Int32)) m5)))))
def wp_X2_layOutRow (m0 : Mm) (v0 : Nat) (v1 : Int32) (v2 : Int32) (Φ : Unit → Mm → Prop) : Prop :=
  ∃ n, LOp (fun K x => wp_X2_layOutRow_8  (fun z0 z1 z2 => K (z0, z1, z2)) v0 v1 x.1 x.2.1 x.2.2 Φ) n (v2, (v1 * (13 : Int32)), m0)
abbrev rm_X2_layOutRow : Room := { frames := 2, cells := 0, slots := 0, locals := 44 }
set_option maxHeartbeats 4000000 in
set_option maxRecDepth 100000 in
theorem c_X2_layOutRow (l : Launch) (g : Gv) (m0 : Mm) (v0 : Nat) (v1 : Int32) (v2 : Int32) (Φ : Unit → Mm → Prop) (hw : wp_X2_layOutRow m0 v0 v1 v2 Φ) : Met l yX2_layOutRow wsX2_layOutRow rm_X2_layOutRow (PP g [.ref (ad g v0), .int v1, .int v2] m0) (QQ g vV Φ) 0 0 (Ag g) := by
  refine CT_of (by decide +kernel) rfl (Nat.le_of_ble_eq_true rfl) ?_
  intro p e s m below meth c hx hb hr hml hown hts hlk hnm hK hW ls hl
  have hown : s.vm.findClass RX2 = some m.cls := hown
  have hl : lv_has ls 5 [(0, .ref (ad g v0)), (1, .int v1), (2, .int v2)] := hl
  have i3 : ∀ w ∈ u_ws RX2 TX2 9, w ∈ wsX2_layOutRow := by decide +kernel
  have L8 : ∀ (n : Nat) (v3 : Int32) (v4 : Int32) (mm : Mm), LOp (fun K x => wp_X2_layOutRow_8  (fun z0 z1 z2 => K (z0, z1, z2)) v0 v1 x.1 x.2.1 x.2.2 Φ) n (v3, v4, mm) → WW p l e rm_X2_layOutRow s m ([.ref (ad g v0), .int v1, .int v2] : List Value).toArray below meth c (MQ below (QQ g vV Φ) ([.ref (ad g v0), .int v1, .int v2] : List Value).toArray s 0 0 (Ag g)) g mm 5 0 0 8 [(0, .ref (ad g v0)), (1, .int v1), (3, .int v3), (4, .int v4)] [] := by
    intro  n
    induction n with
    | zero => intro v3 v4 mm hw; exact hw.elim
    | succ n ih8 =>
      obtain ⟨K8, eK8⟩ : ∃ K : Int32 → Int32 → Mm → Prop, K = fun v3 v4 mm => LOp (fun K x => wp_X2_layOutRow_8  (fun z0 z1 z2 => K (z0, z1, z2)) v0 v1 x.1 x.2.1 x.2.2 Φ) n (v3, v4, mm) := ⟨_, rfl⟩
      have ih8 : ∀ (v3 : Int32) (v4 : Int32) (mm : Mm), K8 v3 v4 mm → WW p l e rm_X2_layOutRow s m ([.ref (ad g v0), .int v1, .int v2] : List Value).toArray below meth c (MQ below (QQ g vV Φ) ([.ref (ad g v0), .int v1, .int v2] : List Value).toArray s 0 0 (Ag g)) g mm 5 0 0 8 [(0, .ref (ad g v0)), (1, .int v1), (3, .int v3), (4, .int v4)] [] := by rw [eK8]; exact ih8
      intro v3 v4 mm hw H locs ls hW hl
      have hw : wp_X2_layOutRow_8 K8 v0 v1 v3 v4 mm Φ := by rw [eK8]; exact hw
      unfold wp_X2_layOutRow_8 at hw
      refine lv_iload hx hb dX2_layOutRow_8 (lv_at hl 3 rfl) ?_
      refine lv_iload_n hx hb dX2_layOutRow_10 rfl (lv_at hl 1 rfl) ?_
      refine lv_iconst (v := (1 : Int32)) hx hb dX2_layOutRow_11 (by decide) ?_
      refine lv_iadd hx hb dX2_layOutRow_12 ?_
      refine lv_bipush (v := (13 : Int32)) hx hb dX2_layOutRow_13 (by decide) ?_
      refine lv_imul hx hb dX2_layOutRow_15 ?_
      refine lv_icmp_ge (tgt := 49) hx hb dX2_layOutRow_16 (by decide) (fun c1 => ?_) (fun c1 => ?_)
      · have hw := hw.1 c1
        exact R_vret hx hb hr hlk hW hw dX2_layOutRow_49
      · have hw := hw.2 c1
        refine lv_iload hx hb dX2_layOutRow_19 (lv_at hl 3 rfl) ?_
        refine lv_bipush (v := (91 : Int32)) hx hb dX2_layOutRow_21 (by decide) ?_
        refine lv_icmp_ge (tgt := 49) hx hb dX2_layOutRow_23 (by decide) (fun c2 => ?_) (fun c2 => ?_)
        · have hw := hw.1 c2
          exact R_vret hx hb hr hlk hW hw dX2_layOutRow_49
        · have hw := hw.2 c2
          refine lv_aload_n hx hb dX2_layOutRow_26 rfl (lv_at hl 0 rfl) ?_
          refine R_getP (C := RX2) (T := TX2) (N := 9) hx hb hts i3 hown hK hW 4 hw.1 (by decide) rfl (by decide) (hts (.fieldLink RX2 21 "BoatLift$Planner" "minutes" "[I") (by decide +kernel)) (fun _ h => h) (fun _ _ _ => rfl) hw.2.1 dX2_layOutRow_27 ?_
          have hw := hw.2.2
          refine lv_iload hx hb dX2_layOutRow_30 (lv_at hl 3 rfl) ?_
          refine lv_iload_n hx hb dX2_layOutRow_32 rfl (lv_at hl 2 rfl) ?_
          refine R_iast hx hb hK hW hw.1 hw.2.1 dX2_layOutRow_33 (fun H locs hW => ?_)
          obtain ⟨m3, em3⟩ : ∃ z, z = sI mm (mP mm v0 4) v4.toNatClampNeg v3 := ⟨_, rfl⟩
          rw [← em3] at hW
          have hw := hw.2.2 m3 em3
          refine lv_aload_n hx hb dX2_layOutRow_34 rfl (lv_at hl 0 rfl) ?_
          refine R_getP (C := RX2) (T := TX2) (N := 9) hx hb hts i3 hown hK hW 0 hw.1 (by decide) rfl (by decide) (hts (.fieldLink RX2 24 "BoatLift$Planner" "timetable" "LBoatLift$Timetable;") (by decide +kernel)) (fun _ h => h) (fun _ _ _ => rfl) hw.2.1 dX2_layOutRow_35 ?_
          have hw := hw.2.2
          refine lv_iload_n hx hb dX2_layOutRow_38 rfl (lv_at hl 2 rfl) ?_
          refine R_call (va_runV (As := [.int v3]) (rest := []) ⟨hx, hb, hml, hown, hts⟩ (c_X4_endOf l g m3 (mP m3 v0 0) v3 _ hw.2) (cwV 1 hts gX2_layOutRow_X4_endOf rfl rfl rfl (by decide +kernel) ⟨by decide, by decide⟩) (PP.preV (q := (RX4, TX4, 4)) hK hW hw.1 (by decide) rfl) rfl rfl hl.1 rfl (lv_room (Nat.le_of_ble_eq_true rfl)) dX2_layOutRow_39 ⟨by decide, by decide⟩) hW (fun r4 m5 H locs hw hW => ?_)
          refine W.eq (g2 := F0 m 42 ls [.int r4]) rfl ?_
          refine lv_istore_n (lv' := [(3, .int r4), (0, .ref (ad g v0)), (1, .int v1), (4, .int v4)]) hx hb dX2_layOutRow_42 rfl hl (by decide) rfl (fun ls hl => ?_)
          refine lv_iinc (v := (v4 + (1 : Int32))) (lv' := [(4, .int (v4 + (1 : Int32))), (3, .int r4), (0, .ref (ad g v0)), (1, .int v1)]) hx hb dX2_layOutRow_43 hl (k := 3) rfl rfl (by decide) rfl (fun ls hl => ?_)
          refine lv_goto (tgt := 8) hx hb dX2_layOutRow_46 (by decide) ?_
          exact ih8 r4 (v4 + (1 : Int32)) m5 hw _ _ _ hW (lv_sub hl [2, 3, 1, 0] rfl)
  unfold wp_X2_layOutRow at hw
  refine lv_iload_n hx hb dX2_layOutRow_0 rfl (lv_at hl 2 rfl) ?_
  refine lv_istore_n (lv' := [(3, .int v2), (0, .ref (ad g v0)), (1, .int v1), (2, .int v2)]) hx hb dX2_layOutRow_1 rfl hl (by decide) rfl (fun ls hl => ?_)
  refine lv_iload_n hx hb dX2_layOutRow_2 rfl (lv_at hl 2 rfl) ?_
  refine lv_bipush (v := (13 : Int32)) hx hb dX2_layOutRow_3 (by decide) ?_
  refine lv_imul hx hb dX2_layOutRow_5 ?_
  refine lv_istore (lv' := [(4, .int (v1 * (13 : Int32))), (3, .int v2), (0, .ref (ad g v0)), (1, .int v1), (2, .int v2)]) hx hb dX2_layOutRow_6 hl (by decide) rfl (fun ls hl => ?_)
  obtain ⟨n, hw⟩ := hw
  exact L8  n v2 (v1 * (13 : Int32)) m0 hw _ _ _ hW (lv_sub hl [2, 3, 1, 0] rfl)

def wp_X2_momentOfNextBoat_44 (K4 : Int32 → Int32 → Mm → Prop) (v0 : Nat) (v1 : Int32) (v2 : Int32) (v3 : Int32) (mm : Mm) (Φ : Int32 → Mm → Prop) : Prop :=
  K4 v2 (v3 + (1 : Int32)) mm
def wp_X2_momentOfNextBoat_42 (K4 : Int32 → Int32 → Mm → Prop) (v0 : Nat) (v1 : Int32) (v3 : Int32) (mm : Mm) (Φ : Int32 → Mm → Prop) : Prop :=
  wp_X2_momentOfNextBoat_44 K4 v0 v1 v3 v3 mm Φ
def wp_X2_momentOfNextBoat_4 (K4 : Int32 → Int32 → Mm → Prop) (v0 : Nat) (v1 : Int32) (v2 : Int32) (v3 : Int32) (mm : Mm) (Φ : Int32 → Mm → Prop) : Prop :=
  mT mm v0 = 3 ∧ (((mI mm v0 5) ≤ v3 → ((¬ v2 = (-1 : Int32) → Φ ((v2 + (1 : Int32)) * (13 : Int32)) mm) ∧ (v2 = (-1 : Int32) → Φ (-1 : Int32) mm))) ∧ (¬ (mI mm v0 5) ≤ v3 → mT mm v0 = 3 ∧ (mP mm v0 2) ≠ 0 ∧ mT mm (mP mm v0 2) = 9 ∧ vp_in v3 (mN mm (mP mm v0 2)) ∧ (((mI mm (mP mm v0 2) v3.toNatClampNeg) ≤ v1 → wp_X2_momentOfNextBoat_44 K4 v0 v1 v2 v3 mm Φ) ∧ (¬ (mI mm (mP mm v0 2) v3.toNatClampNeg) ≤ v1 → ((v2 = (-1 : Int32) → wp_X2_momentOfNextBoat_42 K4 v0 v1 v3 mm Φ) ∧ (¬ v2 = (-1 : Int32) → mT mm v0 = 3 ∧ (mP mm v0 2) ≠ 0 ∧ mT mm (mP mm v0 2) = 9 ∧ vp_in v3 (mN mm (mP mm v0 2)) ∧ mT mm v0 = 3 ∧ (mP mm v0 2) ≠ 0 ∧ mT mm (mP mm v0 2) = 9 ∧ vp_in v2 (mN mm (mP mm v0 2)) ∧ (((mI mm (mP mm v0 2) v2.toNatClampNeg) ≤ (mI mm (mP mm v0 2) v3.toNatClampNeg) → wp_X2_momentOfNextBoat_44 K4 v0 v1 v2 v3 mm Φ) ∧ (¬ (mI mm (mP mm v0 2) v2.toNatClampNeg) ≤ (mI mm (mP mm v0 2) v3.toNatClampNeg) → wp_X2_momentOfNextBoat_42 K4 v0 v1 v3 mm Φ))))))))
def wp_X2_momentOfNextBoat (m0 : Mm) (v0 : Nat) (v1 : Int32) (Φ : Int32 → Mm → Prop) : Prop :=
  ∃ n, LOp (fun K x => wp_X2_momentOfNextBoat_4  (fun z0 z1 z2 => K (z0, z1, z2)) v0 v1 x.1 x.2.1 x.2.2 Φ) n ((-1 : Int32), (0 : Int32), m0)
abbrev rm_X2_momentOfNextBoat : Room := { frames := 0, cells := 0, slots := 0, locals := 0 }
set_option maxHeartbeats 4000000 in
set_option maxRecDepth 100000 in
theorem c_X2_momentOfNextBoat (l : Launch) (g : Gv) (m0 : Mm) (v0 : Nat) (v1 : Int32) (Φ : Int32 → Mm → Prop) (hw : wp_X2_momentOfNextBoat m0 v0 v1 Φ) : Met l yX2_momentOfNextBoat wsX2_momentOfNextBoat rm_X2_momentOfNextBoat (PP g [.ref (ad g v0), .int v1] m0) (QQ g vI Φ) 0 0 (Ag g) := by
  refine CT_of (by decide +kernel) rfl (Nat.le_of_ble_eq_true rfl) ?_
  intro p e s m below meth c hx hb hr hml hown hts hlk hnm hK hW ls hl
  have hown : s.vm.findClass RX2 = some m.cls := hown
  have hl : lv_has ls 4 [(0, .ref (ad g v0)), (1, .int v1)] := hl
  have i3 : ∀ w ∈ u_ws RX2 TX2 9, w ∈ wsX2_momentOfNextBoat := by decide +kernel
  have L4 : ∀ (n : Nat) (v2 : Int32) (v3 : Int32) (mm : Mm), LOp (fun K x => wp_X2_momentOfNextBoat_4  (fun z0 z1 z2 => K (z0, z1, z2)) v0 v1 x.1 x.2.1 x.2.2 Φ) n (v2, v3, mm) → WW p l e rm_X2_momentOfNextBoat s m ([.ref (ad g v0), .int v1] : List Value).toArray below meth c (MQ below (QQ g vI Φ) ([.ref (ad g v0), .int v1] : List Value).toArray s 0 0 (Ag g)) g mm 4 0 0 4 [(0, .ref (ad g v0)), (1, .int v1), (2, .int v2), (3, .int v3)] [] := by
    intro  n
    induction n with
    | zero => intro v2 v3 mm hw; exact hw.elim
    | succ n ih4 =>
      obtain ⟨K4, eK4⟩ : ∃ K : Int32 → Int32 → Mm → Prop, K = fun v2 v3 mm => LOp (fun K x => wp_X2_momentOfNextBoat_4  (fun z0 z1 z2 => K (z0, z1, z2)) v0 v1 x.1 x.2.1 x.2.2 Φ) n (v2, v3, mm) := ⟨_, rfl⟩
      have ih4 : ∀ (v2 : Int32) (v3 : Int32) (mm : Mm), K4 v2 v3 mm → WW p l e rm_X2_momentOfNextBoat s m ([.ref (ad g v0), .int v1] : List Value).toArray below meth c (MQ below (QQ g vI Φ) ([.ref (ad g v0), .int v1] : List Value).toArray s 0 0 (Ag g)) g mm 4 0 0 4 [(0, .ref (ad g v0)), (1, .int v1), (2, .int v2), (3, .int v3)] [] := by rw [eK4]; exact ih4
      have B44 : ∀ (v2 : Int32) (v3 : Int32) (mm : Mm), wp_X2_momentOfNextBoat_44 K4 v0 v1 v2 v3 mm Φ → WW p l e rm_X2_momentOfNextBoat s m ([.ref (ad g v0), .int v1] : List Value).toArray below meth c (MQ below (QQ g vI Φ) ([.ref (ad g v0), .int v1] : List Value).toArray s 0 0 (Ag g)) g mm 4 0 0 44 [(0, .ref (ad g v0)), (1, .int v1), (2, .int v2), (3, .int v3)] [] := by
        intro v2 v3 mm hw H locs ls hW hl
        unfold wp_X2_momentOfNextBoat_44 at hw
        refine lv_iinc (v := (v3 + (1 : Int32))) (lv' := [(3, .int (v3 + (1 : Int32))), (0, .ref (ad g v0)), (1, .int v1), (2, .int v2)]) hx hb dX2_momentOfNextBoat_44 hl (k := 3) rfl rfl (by decide) rfl (fun ls hl => ?_)
        refine lv_goto (tgt := 4) hx hb dX2_momentOfNextBoat_47 (by decide) ?_
        exact ih4 v2 (v3 + (1 : Int32)) mm hw _ _ _ hW (lv_sub hl [1, 2, 3, 0] rfl)
      have B42 : ∀ (v3 : Int32) (mm : Mm), wp_X2_momentOfNextBoat_42 K4 v0 v1 v3 mm Φ → WW p l e rm_X2_momentOfNextBoat s m ([.ref (ad g v0), .int v1] : List Value).toArray below meth c (MQ below (QQ g vI Φ) ([.ref (ad g v0), .int v1] : List Value).toArray s 0 0 (Ag g)) g mm 4 0 0 42 [(0, .ref (ad g v0)), (1, .int v1), (3, .int v3)] [] := by
        intro v3 mm hw H locs ls hW hl
        unfold wp_X2_momentOfNextBoat_42 at hw
        refine lv_iload_n hx hb dX2_momentOfNextBoat_42 rfl (lv_at hl 2 rfl) ?_
        refine lv_istore_n (lv' := [(2, .int v3), (0, .ref (ad g v0)), (1, .int v1), (3, .int v3)]) hx hb dX2_momentOfNextBoat_43 rfl hl (by decide) rfl (fun ls hl => ?_)
        exact B44 v3 v3 mm hw _ _ _ hW (lv_sub hl [1, 2, 0, 3] rfl)
      intro v2 v3 mm hw H locs ls hW hl
      have hw : wp_X2_momentOfNextBoat_4 K4 v0 v1 v2 v3 mm Φ := by rw [eK4]; exact hw
      unfold wp_X2_momentOfNextBoat_4 at hw
      refine lv_iload_n hx hb dX2_momentOfNextBoat_4 rfl (lv_at hl 3 rfl) ?_
      refine lv_aload_n hx hb dX2_momentOfNextBoat_5 rfl (lv_at hl 0 rfl) ?_
      refine R_getI (C := RX2) (T := TX2) (N := 9) hx hb hts i3 hown hK hW 5 hw.1 (by decide) rfl (by decide) (hts (.fieldLink RX2 30 "BoatLift$Planner" "boats" "I") (by decide +kernel)) (fun _ h => h) (fun _ _ _ => rfl) dX2_momentOfNextBoat_6 ?_
      have hw := hw.2
      refine lv_icmp_ge (tgt := 50) hx hb dX2_momentOfNextBoat_9 (by decide) (fun c1 => ?_) (fun c1 => ?_)
      · have hw := hw.1 c1
        refine lv_iload_n hx hb dX2_momentOfNextBoat_50 rfl (lv_at hl 2 rfl) ?_
        refine lv_iconst (v := (-1 : Int32)) hx hb dX2_momentOfNextBoat_51 (by decide) ?_
        refine lv_icmp_ne (tgt := 59) hx hb dX2_momentOfNextBoat_52 (by decide) (fun c2 => ?_) (fun c2 => ?_)
        · have hw := hw.1 c2
          refine lv_iload_n hx hb dX2_momentOfNextBoat_59 rfl (lv_at hl 2 rfl) ?_
          refine lv_iconst (v := (1 : Int32)) hx hb dX2_momentOfNextBoat_60 (by decide) ?_
          refine lv_iadd hx hb dX2_momentOfNextBoat_61 ?_
          refine lv_bipush (v := (13 : Int32)) hx hb dX2_momentOfNextBoat_62 (by decide) ?_
          refine lv_imul hx hb dX2_momentOfNextBoat_64 ?_
          exact R_iret hx hb hr hlk hW hw dX2_momentOfNextBoat_65
        · have hw := hw.2 c2
          refine lv_iconst (v := (-1 : Int32)) hx hb dX2_momentOfNextBoat_55 (by decide) ?_
          refine lv_goto (tgt := 65) hx hb dX2_momentOfNextBoat_56 (by decide) ?_
          exact R_iret hx hb hr hlk hW hw dX2_momentOfNextBoat_65
      · have hw := hw.2 c1
        refine lv_aload_n hx hb dX2_momentOfNextBoat_12 rfl (lv_at hl 0 rfl) ?_
        refine R_getP (C := RX2) (T := TX2) (N := 9) hx hb hts i3 hown hK hW 2 hw.1 (by decide) rfl (by decide) (hts (.fieldLink RX2 15 "BoatLift$Planner" "comes" "[I") (by decide +kernel)) (fun _ h => h) (fun _ _ _ => rfl) hw.2.1 dX2_momentOfNextBoat_13 ?_
        have hw := hw.2.2
        refine lv_iload_n hx hb dX2_momentOfNextBoat_16 rfl (lv_at hl 3 rfl) ?_
        refine R_iald hx hb hK hW hw.1 hw.2.1 dX2_momentOfNextBoat_17 ?_
        have hw := hw.2.2
        refine lv_iload_n hx hb dX2_momentOfNextBoat_18 rfl (lv_at hl 1 rfl) ?_
        refine lv_icmp_le (tgt := 44) hx hb dX2_momentOfNextBoat_19 (by decide) (fun c3 => ?_) (fun c3 => ?_)
        · have hw := hw.1 c3
          exact B44 v2 v3 mm hw _ _ _ hW (lv_sub hl [0, 1, 2, 3] rfl)
        · have hw := hw.2 c3
          refine lv_iload_n hx hb dX2_momentOfNextBoat_22 rfl (lv_at hl 2 rfl) ?_
          refine lv_iconst (v := (-1 : Int32)) hx hb dX2_momentOfNextBoat_23 (by decide) ?_
          refine lv_icmp_eq (tgt := 42) hx hb dX2_momentOfNextBoat_24 (by decide) (fun c4 => ?_) (fun c4 => ?_)
          · have hw := hw.1 c4
            exact B42 v3 mm hw _ _ _ hW (lv_sub hl [0, 1, 3] rfl)
          · have hw := hw.2 c4
            refine lv_aload_n hx hb dX2_momentOfNextBoat_27 rfl (lv_at hl 0 rfl) ?_
            refine R_getP (C := RX2) (T := TX2) (N := 9) hx hb hts i3 hown hK hW 2 hw.1 (by decide) rfl (by decide) (hts (.fieldLink RX2 15 "BoatLift$Planner" "comes" "[I") (by decide +kernel)) (fun _ h => h) (fun _ _ _ => rfl) hw.2.1 dX2_momentOfNextBoat_28 ?_
            have hw := hw.2.2
            refine lv_iload_n hx hb dX2_momentOfNextBoat_31 rfl (lv_at hl 3 rfl) ?_
            refine R_iald hx hb hK hW hw.1 hw.2.1 dX2_momentOfNextBoat_32 ?_
            have hw := hw.2.2
            refine lv_aload_n hx hb dX2_momentOfNextBoat_33 rfl (lv_at hl 0 rfl) ?_
            refine R_getP (C := RX2) (T := TX2) (N := 9) hx hb hts i3 hown hK hW 2 hw.1 (by decide) rfl (by decide) (hts (.fieldLink RX2 15 "BoatLift$Planner" "comes" "[I") (by decide +kernel)) (fun _ h => h) (fun _ _ _ => rfl) hw.2.1 dX2_momentOfNextBoat_34 ?_
            have hw := hw.2.2
            refine lv_iload_n hx hb dX2_momentOfNextBoat_37 rfl (lv_at hl 2 rfl) ?_
            refine R_iald hx hb hK hW hw.1 hw.2.1 dX2_momentOfNextBoat_38 ?_
            have hw := hw.2.2
            refine lv_icmp_ge (tgt := 44) hx hb dX2_momentOfNextBoat_39 (by decide) (fun c5 => ?_) (fun c5 => ?_)
            · have hw := hw.1 c5
              exact B44 v2 v3 mm hw _ _ _ hW (lv_sub hl [0, 1, 2, 3] rfl)
            · have hw := hw.2 c5
              exact B42 v3 mm hw _ _ _ hW (lv_sub hl [0, 1, 3] rfl)
  unfold wp_X2_momentOfNextBoat at hw
  refine lv_iconst (v := (-1 : Int32)) hx hb dX2_momentOfNextBoat_0 (by decide) ?_
  refine lv_istore_n (lv' := [(2, .int (-1 : Int32)), (0, .ref (ad g v0)), (1, .int v1)]) hx hb dX2_momentOfNextBoat_1 rfl hl (by decide) rfl (fun ls hl => ?_)
  refine lv_iconst (v := (0 : Int32)) hx hb dX2_momentOfNextBoat_2 (by decide) ?_
  refine lv_istore_n (lv' := [(3, .int (0 : Int32)), (2, .int (-1 : Int32)), (0, .ref (ad g v0)), (1, .int v1)]) hx hb dX2_momentOfNextBoat_3 rfl hl (by decide) rfl (fun ls hl => ?_)
  obtain ⟨n, hw⟩ := hw
  exact L4  n (-1 : Int32) (0 : Int32) m0 hw _ _ _ hW (lv_sub hl [2, 3, 1, 0] rfl)

def wp_X6_gatherLeft_57 (K11 : Int32 → Int32 → Mm → Prop) (v0 : Nat) (v1 : Int32) (v2 : Int32) (mm : Mm) (Φ : Int32 → Mm → Prop) : Prop :=
  K11 v1 (v2 + (1 : Int32)) mm
def wp_X6_gatherLeft_11 (K11 : Int32 → Int32 → Mm → Prop) (v0 : Nat) (v1 : Int32) (v2 : Int32) (mm : Mm) (Φ : Int32 → Mm → Prop) : Prop :=
  mT mm v0 = 7 ∧ (mP mm v0 7) ≠ 0 ∧ mT mm (mP mm v0 7) = 0 ∧ wp_Jx4a65c_size_8abf5 mm (mP mm v0 7) (fun (r1 : Int32) (m2 : Mm) => ((r1 ≤ v2 → Φ v1 m2) ∧ (¬ r1 ≤ v2 → mT m2 v0 = 7 ∧ (mP m2 v0 7) ≠ 0 ∧ mT m2 (mP m2 v0 7) = 0 ∧ wp_Jx4a65c_get_915e3 m2 (mP m2 v0 7) v2 (fun (r4 : Nat) (m5 : Mm) => mT m5 r4 = 1 ∧ mT m5 v0 = 7 ∧ wp_X6_isLeft m5 v0 r4 (fun (r6 : Int32) (m7 : Mm) => ((r6 = 0 → wp_X6_gatherLeft_57 K11 v0 v1 v2 m7 Φ) ∧ (¬ r6 = 0 → mT m7 v0 = 7 ∧ (mP m7 v0 3) ≠ 0 ∧ mT m7 (mP m7 v0 3) = 3 ∧ wp_X2_addBoat m7 (mP m7 v0 3) r4 (fun (_ : Unit) (m10 : Mm) => wp_X6_gatherLeft_57 K11 v0 (v1 + (1 : Int32)) v2 m10 Φ))))))))
def wp_X6_gatherLeft (m0 : Mm) (v0 : Nat) (Φ : Int32 → Mm → Prop) : Prop :=
  mT m0 v0 = 7 ∧ (mP m0 v0 3) ≠ 0 ∧ mT m0 (mP m0 v0 3) = 3 ∧ wp_X2_forgetBoats m0 (mP m0 v0 3) (fun (_ : Unit) (m12 : Mm) => ∃ n, LOp (fun K x => wp_X6_gatherLeft_11  (fun z0 z1 z2 => K (z0, z1, z2)) v0 x.1 x.2.1 x.2.2 Φ) n ((0 : Int32), (0 : Int32), m12))
abbrev rm_X6_gatherLeft : Room := { frames := 5, cells := 0, slots := 0, locals := 108 }
set_option maxHeartbeats 4000000 in
set_option maxRecDepth 100000 in
theorem c_X6_gatherLeft (l : Launch) (g : Gv) (m0 : Mm) (v0 : Nat) (Φ : Int32 → Mm → Prop) (hw : wp_X6_gatherLeft m0 v0 Φ) : Met l yX6_gatherLeft wsX6_gatherLeft rm_X6_gatherLeft (PP g [.ref (ad g v0)] m0) (QQ g vI Φ) 0 0 (Ag g) := by
  refine CT_of (by decide +kernel) rfl (Nat.le_of_ble_eq_true rfl) ?_
  intro p e s m below meth c hx hb hr hml hown hts hlk hnm hK hW ls hl
  have hown : s.vm.findClass RX6 = some m.cls := hown
  have hl : lv_has ls 4 [(0, .ref (ad g v0))] := hl
  have i7 : ∀ w ∈ u_ws RX6 TX6 15, w ∈ wsX6_gatherLeft := by decide +kernel
  have L11 : ∀ (n : Nat) (v1 : Int32) (v2 : Int32) (mm : Mm), LOp (fun K x => wp_X6_gatherLeft_11  (fun z0 z1 z2 => K (z0, z1, z2)) v0 x.1 x.2.1 x.2.2 Φ) n (v1, v2, mm) → WW p l e rm_X6_gatherLeft s m ([.ref (ad g v0)] : List Value).toArray below meth c (MQ below (QQ g vI Φ) ([.ref (ad g v0)] : List Value).toArray s 0 0 (Ag g)) g mm 4 0 0 11 [(0, .ref (ad g v0)), (1, .int v1), (2, .int v2)] [] := by
    intro  n
    induction n with
    | zero => intro v1 v2 mm hw; exact hw.elim
    | succ n ih11 =>
      obtain ⟨K11, eK11⟩ : ∃ K : Int32 → Int32 → Mm → Prop, K = fun v1 v2 mm => LOp (fun K x => wp_X6_gatherLeft_11  (fun z0 z1 z2 => K (z0, z1, z2)) v0 x.1 x.2.1 x.2.2 Φ) n (v1, v2, mm) := ⟨_, rfl⟩
      have ih11 : ∀ (v1 : Int32) (v2 : Int32) (mm : Mm), K11 v1 v2 mm → WW p l e rm_X6_gatherLeft s m ([.ref (ad g v0)] : List Value).toArray below meth c (MQ below (QQ g vI Φ) ([.ref (ad g v0)] : List Value).toArray s 0 0 (Ag g)) g mm 4 0 0 11 [(0, .ref (ad g v0)), (1, .int v1), (2, .int v2)] [] := by rw [eK11]; exact ih11
      have B57 : ∀ (v1 : Int32) (v2 : Int32) (mm : Mm), wp_X6_gatherLeft_57 K11 v0 v1 v2 mm Φ → WW p l e rm_X6_gatherLeft s m ([.ref (ad g v0)] : List Value).toArray below meth c (MQ below (QQ g vI Φ) ([.ref (ad g v0)] : List Value).toArray s 0 0 (Ag g)) g mm 4 0 0 57 [(0, .ref (ad g v0)), (1, .int v1), (2, .int v2)] [] := by
        intro v1 v2 mm hw H locs ls hW hl
        unfold wp_X6_gatherLeft_57 at hw
        refine lv_iinc (v := (v2 + (1 : Int32))) (lv' := [(2, .int (v2 + (1 : Int32))), (0, .ref (ad g v0)), (1, .int v1)]) hx hb dX6_gatherLeft_57 hl (k := 2) rfl rfl (by decide) rfl (fun ls hl => ?_)
        refine lv_goto (tgt := 11) hx hb dX6_gatherLeft_60 (by decide) ?_
        exact ih11 v1 (v2 + (1 : Int32)) mm hw _ _ _ hW (lv_sub hl [1, 2, 0] rfl)
      intro v1 v2 mm hw H locs ls hW hl
      have hw : wp_X6_gatherLeft_11 K11 v0 v1 v2 mm Φ := by rw [eK11]; exact hw
      unfold wp_X6_gatherLeft_11 at hw
      refine lv_iload_n hx hb dX6_gatherLeft_11 rfl (lv_at hl 2 rfl) ?_
      refine lv_aload_n hx hb dX6_gatherLeft_12 rfl (lv_at hl 0 rfl) ?_
      refine R_getP (C := RX6) (T := TX6) (N := 15) hx hb hts i7 hown hK hW 7 hw.1 (by decide) rfl (by decide) (hts (.fieldLink RX6 60 "BoatLift" "byTurn" "Ljava/util/List;") (by decide +kernel)) (fun _ h => h) (fun _ _ _ => rfl) hw.2.1 dX6_gatherLeft_13 ?_
      have hw := hw.2.2
      refine R_call5 (va_runF (As := []) (rest := [.int v2]) (hK.1.1 0 (RJx4a65c, TJx4a65c, 3) rfl).2 ⟨hx, hb, hml, hown, hts⟩ (c_Jx4a65c_size_8abf5 l g mm (mP mm v0 7) _ hw.2) (va_cwF 0 hts gX6_gatherLeft_Jx4a65c_size_8abf5_f116Jx4a65c rfl rfl rfl hK.2.2.2.2.2.1.1 (by decide +kernel) ⟨by decide, by decide⟩) (PP.preV (q := (RJx4a65c, TJx4a65c, 3)) hK hW hw.1 (by decide) rfl) rfl rfl hl.1 rfl (lv_room (Nat.le_of_ble_eq_true rfl)) dX6_gatherLeft_16 ⟨by decide, by decide⟩) hW (fun r1 m2 H locs hw hW => ?_)
      refine W.eq (g2 := F0 m 21 ls [.int r1, .int v2]) rfl ?_
      refine lv_icmp_ge (tgt := 63) hx hb dX6_gatherLeft_21 (by decide) (fun c3 => ?_) (fun c3 => ?_)
      · have hw := hw.1 c3
        refine lv_iload_n hx hb dX6_gatherLeft_63 rfl (lv_at hl 1 rfl) ?_
        exact R_iret hx hb hr hlk hW hw dX6_gatherLeft_64
      · have hw := hw.2 c3
        refine lv_aload_n hx hb dX6_gatherLeft_24 rfl (lv_at hl 0 rfl) ?_
        refine R_getP (C := RX6) (T := TX6) (N := 15) hx hb hts i7 hown hK hW 7 hw.1 (by decide) rfl (by decide) (hts (.fieldLink RX6 60 "BoatLift" "byTurn" "Ljava/util/List;") (by decide +kernel)) (fun _ h => h) (fun _ _ _ => rfl) hw.2.1 dX6_gatherLeft_25 ?_
        have hw := hw.2.2
        refine lv_iload_n hx hb dX6_gatherLeft_28 rfl (lv_at hl 2 rfl) ?_
        refine R_call5 (va_runF (As := [.int v2]) (rest := []) (hK.1.1 0 (RJx4a65c, TJx4a65c, 3) rfl).2 ⟨hx, hb, hml, hown, hts⟩ (c_Jx4a65c_get_915e3 l g m2 (mP m2 v0 7) v2 _ hw.2) (va_cwF 1 hts gX6_gatherLeft_Jx4a65c_get_915e3_f138Jx4a65c rfl rfl rfl hK.2.2.2.2.2.1.2.1 (by decide +kernel) ⟨by decide, by decide⟩) (PP.preV (q := (RJx4a65c, TJx4a65c, 3)) hK hW hw.1 (by decide) rfl) rfl rfl hl.1 rfl (lv_room (Nat.le_of_ble_eq_true rfl)) dX6_gatherLeft_29 ⟨by decide, by decide⟩) hW (fun r4 m5 H locs hw hW => ?_)
        refine W.eq (g2 := F0 m 34 ls [.ref (ad g r4)]) rfl ?_
        refine va_castS hx hb hown (hts (.classLink RX6 119 "BoatLift$Boat") (by decide +kernel)) (hK.1.1 1 (RX0, TX0, 8) rfl).2 (R_recv (q := (RX0, TX0, 8)) hK hW hw.1 (by decide) rfl) dX6_gatherLeft_34 ?_
        have hw := hw.2
        refine lv_astore_n (lv' := [(3, .ref (ad g r4)), (0, .ref (ad g v0)), (1, .int v1), (2, .int v2)]) hx hb dX6_gatherLeft_37 rfl hl (by decide) rfl (fun ls hl => ?_)
        refine lv_aload_n hx hb dX6_gatherLeft_38 rfl (lv_at hl 1 rfl) ?_
        refine lv_aload_n hx hb dX6_gatherLeft_39 rfl (lv_at hl 0 rfl) ?_
        refine R_call (va_runV (As := [.ref (ad g r4)]) (rest := []) ⟨hx, hb, hml, hown, hts⟩ (c_X6_isLeft l g m5 v0 r4 _ hw.2) (cwV 1 hts gX6_gatherLeft_X6_isLeft rfl rfl rfl (by decide +kernel) ⟨by decide, by decide⟩) (PP.preV (q := (RX6, TX6, 15)) hK hW hw.1 (by decide) rfl) rfl rfl hl.1 rfl (lv_room (Nat.le_of_ble_eq_true rfl)) dX6_gatherLeft_40 ⟨by decide, by decide⟩) hW (fun r6 m7 H locs hw hW => ?_)
        refine W.eq (g2 := F0 m 43 ls [.int r6]) rfl ?_
        refine lv_if_eq (tgt := 57) hx hb dX6_gatherLeft_43 (by decide) (fun c8 => ?_) (fun c8 => ?_)
        · have hw := hw.1 c8
          exact B57 v1 v2 m7 hw _ _ _ hW (lv_sub hl [1, 2, 3] rfl)
        · have hw := hw.2 c8
          refine lv_aload_n hx hb dX6_gatherLeft_46 rfl (lv_at hl 1 rfl) ?_
          refine R_getP (C := RX6) (T := TX6) (N := 15) hx hb hts i7 hown hK hW 3 hw.1 (by decide) rfl (by decide) (hts (.fieldLink RX6 39 "BoatLift" "planner" "LBoatLift$Planner;") (by decide +kernel)) (fun _ h => h) (fun _ _ _ => rfl) hw.2.1 dX6_gatherLeft_47 ?_
          have hw := hw.2.2
          refine lv_aload_n hx hb dX6_gatherLeft_50 rfl (lv_at hl 0 rfl) ?_
          refine R_call (va_runV (As := [.ref (ad g r4)]) (rest := []) ⟨hx, hb, hml, hown, hts⟩ (c_X2_addBoat l g m7 (mP m7 v0 3) r4 _ hw.2) (cwV 1 hts gX6_gatherLeft_X2_addBoat rfl rfl rfl (by decide +kernel) ⟨by decide, by decide⟩) (PP.preV (q := (RX2, TX2, 9)) hK hW hw.1 (by decide) rfl) rfl rfl hl.1 rfl (lv_room (Nat.le_of_ble_eq_true rfl)) dX6_gatherLeft_51 ⟨by decide, by decide⟩) hW (fun _ m10 H locs hw hW => ?_)
          refine W.eq (g2 := F0 m 54 ls []) rfl ?_
          refine lv_iinc (v := (v1 + (1 : Int32))) (lv' := [(1, .int (v1 + (1 : Int32))), (3, .ref (ad g r4)), (0, .ref (ad g v0)), (2, .int v2)]) hx hb dX6_gatherLeft_54 hl (k := 2) rfl rfl (by decide) rfl (fun ls hl => ?_)
          exact B57 (v1 + (1 : Int32)) v2 m10 hw _ _ _ hW (lv_sub hl [2, 0, 3] rfl)
  unfold wp_X6_gatherLeft at hw
  refine lv_aload_n hx hb dX6_gatherLeft_0 rfl (lv_at hl 0 rfl) ?_
  refine R_getP (C := RX6) (T := TX6) (N := 15) hx hb hts i7 hown hK hW 3 hw.1 (by decide) rfl (by decide) (hts (.fieldLink RX6 39 "BoatLift" "planner" "LBoatLift$Planner;") (by decide +kernel)) (fun _ h => h) (fun _ _ _ => rfl) hw.2.1 dX6_gatherLeft_1 ?_
  have hw := hw.2.2
  refine R_call (va_runV (As := []) (rest := []) ⟨hx, hb, hml, hown, hts⟩ (c_X2_forgetBoats l g m0 (mP m0 v0 3) _ hw.2) (cwV 0 hts gX6_gatherLeft_X2_forgetBoats rfl rfl rfl (by decide +kernel) ⟨by decide, by decide⟩) (PP.preV (q := (RX2, TX2, 9)) hK hW hw.1 (by decide) rfl) rfl rfl hl.1 rfl (lv_room (Nat.le_of_ble_eq_true rfl)) dX6_gatherLeft_4 ⟨by decide, by decide⟩) hW (fun _ m12 H locs hw hW => ?_)
  refine W.eq (g2 := F0 m 7 ls []) rfl ?_
  refine lv_iconst (v := (0 : Int32)) hx hb dX6_gatherLeft_7 (by decide) ?_
  refine lv_istore_n (lv' := [(1, .int (0 : Int32)), (0, .ref (ad g v0))]) hx hb dX6_gatherLeft_8 rfl hl (by decide) rfl (fun ls hl => ?_)
  refine lv_iconst (v := (0 : Int32)) hx hb dX6_gatherLeft_9 (by decide) ?_
  refine lv_istore_n (lv' := [(2, .int (0 : Int32)), (1, .int (0 : Int32)), (0, .ref (ad g v0))]) hx hb dX6_gatherLeft_10 rfl hl (by decide) rfl (fun ls hl => ?_)
  obtain ⟨n, hw⟩ := hw
  exact L11  n (0 : Int32) (0 : Int32) m12 hw _ _ _ hW (lv_sub hl [2, 1, 0] rfl)
