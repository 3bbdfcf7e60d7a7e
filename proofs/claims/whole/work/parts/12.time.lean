def wp_X4_addIce (m0 : Mm) (v0 : Nat) (v1 : Int32) (v2 : Int32) (Φ : Int32 → Mm → Prop) : Prop :=
  mT m0 v0 = 5 ∧ (((mI m0 v0 3) < (8 : Int32) → mT m0 v0 = 5 ∧ (mP m0 v0 1) ≠ 0 ∧ mT m0 v0 = 5 ∧ mT m0 (mP m0 v0 1) = 9 ∧ vp_in (mI m0 v0 3) (mN m0 (mP m0 v0 1)) ∧ ∀ m2 : Mm, m2 = sI m0 (mP m0 v0 1) (mI m0 v0 3).toNatClampNeg v1 → mT m2 v0 = 5 ∧ (mP m2 v0 2) ≠ 0 ∧ mT m2 v0 = 5 ∧ mT m2 (mP m2 v0 2) = 9 ∧ vp_in (mI m2 v0 3) (mN m2 (mP m2 v0 2)) ∧ ∀ m3 : Mm, m3 = sI m2 (mP m2 v0 2) (mI m2 v0 3).toNatClampNeg v2 → mT m3 v0 = 5 ∧ mT m3 v0 = 5 ∧ ∀ m4 : Mm, m4 = sI m3 v0 3 ((mI m3 v0 3) + (1 : Int32)) → Φ (1 : Int32) m4) ∧ (¬ (mI m0 v0 3) < (8 : Int32) → Φ (0 : Int32) m0))
abbrev rm_X4_addIce : Room := { frames := 0, cells := 0, slots := 0, locals := 0 }
set_option maxHeartbeats 4000000 in
set_option maxRecDepth 100000 in
theorem c_X4_addIce (l : Launch) (g : Gv) (m0 : Mm) (v0 : Nat) (v1 : Int32) (v2 : Int32) (Φ : Int32 → Mm → Prop) (hw : wp_X4_addIce m0 v0 v1 v2 Φ) : Met l yX4_addIce wsX4_addIce rm_X4_addIce (PP g [.ref (ad g v0), .int v1, .int v2] m0) (QQ g vI Φ) 0 0 (Ag g) := by
  refine CT_of (by decide +kernel) rfl (Nat.le_of_ble_eq_true rfl) ?_
  intro p e s m below meth c hx hb hr hml hown hts hlk hnm hK hW ls hl
  have hown : s.vm.findClass RX4 = some m.cls := hown
  have hl : lv_has ls 3 [(0, .ref (ad g v0)), (1, .int v1), (2, .int v2)] := hl
  have i5 : ∀ w ∈ u_ws RX4 TX4 4, w ∈ wsX4_addIce := by decide +kernel
  unfold wp_X4_addIce at hw
  refine lv_aload_n hx hb dX4_addIce_0 rfl (lv_at hl 0 rfl) ?_
  refine R_getI (C := RX4) (T := TX4) (N := 4) hx hb hts i5 hown hK hW 3 hw.1 (by decide) rfl (by decide) (hts (.fieldLink RX4 20 "BoatLift$Timetable" "told" "I") (by decide +kernel)) (fun _ h => h) (fun _ _ _ => rfl) dX4_addIce_1 ?_
  have hw := hw.2
  refine lv_bipush (v := (8 : Int32)) hx hb dX4_addIce_4 (by decide) ?_
  refine lv_icmp_lt (tgt := 11) hx hb dX4_addIce_6 (by decide) (fun c1 => ?_) (fun c1 => ?_)
  · have hw := hw.1 c1
    refine lv_aload_n hx hb dX4_addIce_11 rfl (lv_at hl 0 rfl) ?_
    refine R_getP (C := RX4) (T := TX4) (N := 4) hx hb hts i5 hown hK hW 1 hw.1 (by decide) rfl (by decide) (hts (.fieldLink RX4 9 "BoatLift$Timetable" "iceFrom" "[I") (by decide +kernel)) (fun _ h => h) (fun _ _ _ => rfl) hw.2.1 dX4_addIce_12 ?_
    have hw := hw.2.2
    refine lv_aload_n hx hb dX4_addIce_15 rfl (lv_at hl 0 rfl) ?_
    refine R_getI (C := RX4) (T := TX4) (N := 4) hx hb hts i5 hown hK hW 3 hw.1 (by decide) rfl (by decide) (hts (.fieldLink RX4 20 "BoatLift$Timetable" "told" "I") (by decide +kernel)) (fun _ h => h) (fun _ _ _ => rfl) dX4_addIce_16 ?_
    have hw := hw.2
    refine lv_iload_n hx hb dX4_addIce_19 rfl (lv_at hl 1 rfl) ?_
    refine R_iast hx hb hK hW hw.1 hw.2.1 dX4_addIce_20 (fun H locs hW => ?_)
    obtain ⟨m2, em2⟩ : ∃ z, z = sI m0 (mP m0 v0 1) (mI m0 v0 3).toNatClampNeg v1 := ⟨_, rfl⟩
    rw [← em2] at hW
    have hw := hw.2.2 m2 em2
    refine lv_aload_n hx hb dX4_addIce_21 rfl (lv_at hl 0 rfl) ?_
    refine R_getP (C := RX4) (T := TX4) (N := 4) hx hb hts i5 hown hK hW 2 hw.1 (by decide) rfl (by decide) (hts (.fieldLink RX4 13 "BoatLift$Timetable" "iceTo" "[I") (by decide +kernel)) (fun _ h => h) (fun _ _ _ => rfl) hw.2.1 dX4_addIce_22 ?_
    have hw := hw.2.2
    refine lv_aload_n hx hb dX4_addIce_25 rfl (lv_at hl 0 rfl) ?_
    refine R_getI (C := RX4) (T := TX4) (N := 4) hx hb hts i5 hown hK hW 3 hw.1 (by decide) rfl (by decide) (hts (.fieldLink RX4 20 "BoatLift$Timetable" "told" "I") (by decide +kernel)) (fun _ h => h) (fun _ _ _ => rfl) dX4_addIce_26 ?_
    have hw := hw.2
    refine lv_iload_n hx hb dX4_addIce_29 rfl (lv_at hl 2 rfl) ?_
    refine R_iast hx hb hK hW hw.1 hw.2.1 dX4_addIce_30 (fun H locs hW => ?_)
    obtain ⟨m3, em3⟩ : ∃ z, z = sI m2 (mP m2 v0 2) (mI m2 v0 3).toNatClampNeg v2 := ⟨_, rfl⟩
    rw [← em3] at hW
    have hw := hw.2.2 m3 em3
    refine lv_aload_n hx hb dX4_addIce_31 rfl (lv_at hl 0 rfl) ?_
    refine lv_dup hx hb dX4_addIce_32 rfl ?_
    refine R_getI (C := RX4) (T := TX4) (N := 4) hx hb hts i5 hown hK hW 3 hw.1 (by decide) rfl (by decide) (hts (.fieldLink RX4 20 "BoatLift$Timetable" "told" "I") (by decide +kernel)) (fun _ h => h) (fun _ _ _ => rfl) dX4_addIce_33 ?_
    have hw := hw.2
    refine lv_iconst (v := (1 : Int32)) hx hb dX4_addIce_36 (by decide) ?_
    refine lv_iadd hx hb dX4_addIce_37 ?_
    refine R_putI (C := RX4) (T := TX4) (N := 4) hx hb hts i5 tyX4 tyX4_ok nmX4 hown hK hW 3 hw.1 (by decide) rfl (by decide) (hts (.fieldLink RX4 20 "BoatLift$Timetable" "told" "I") (by decide +kernel)) (fun _ h => h) (Or.inl rfl) rfl (fun _ _ _ => rfl) (fun _ _ _ => rfl) dX4_addIce_38 (fun H locs hW => ?_)
    obtain ⟨m4, em4⟩ : ∃ z, z = sI m3 v0 3 ((mI m3 v0 3) + (1 : Int32)) := ⟨_, rfl⟩
    rw [← em4] at hW
    have hw := hw.2 m4 em4
    refine lv_iconst (v := (1 : Int32)) hx hb dX4_addIce_41 (by decide) ?_
    exact R_zret hx hb hr hlk hW (Or.inr rfl) hw dX4_addIce_42
  · have hw := hw.2 c1
    refine lv_iconst (v := (0 : Int32)) hx hb dX4_addIce_9 (by decide) ?_
    exact R_zret hx hb hr hlk hW (Or.inl rfl) hw dX4_addIce_10

def wp_X4_inIce_38 (K2 : Int32 → Mm → Prop) (v0 : Nat) (v1 : Int32) (v2 : Int32) (mm : Mm) (Φ : Int32 → Mm → Prop) : Prop :=
  K2 (v2 + (1 : Int32)) mm
def wp_X4_inIce_2 (K2 : Int32 → Mm → Prop) (v0 : Nat) (v1 : Int32) (v2 : Int32) (mm : Mm) (Φ : Int32 → Mm → Prop) : Prop :=
  mT mm v0 = 5 ∧ (((mI mm v0 3) ≤ v2 → Φ (0 : Int32) mm) ∧ (¬ (mI mm v0 3) ≤ v2 → (((8 : Int32) ≤ v2 → Φ (0 : Int32) mm) ∧ (¬ (8 : Int32) ≤ v2 → mT mm v0 = 5 ∧ (mP mm v0 1) ≠ 0 ∧ mT mm (mP mm v0 1) = 9 ∧ vp_in v2 (mN mm (mP mm v0 1)) ∧ ((v1 < (mI mm (mP mm v0 1) v2.toNatClampNeg) → wp_X4_inIce_38 K2 v0 v1 v2 mm Φ) ∧ (¬ v1 < (mI mm (mP mm v0 1) v2.toNatClampNeg) → mT mm v0 = 5 ∧ (mP mm v0 2) ≠ 0 ∧ mT mm (mP mm v0 2) = 9 ∧ vp_in v2 (mN mm (mP mm v0 2)) ∧ (((mI mm (mP mm v0 2) v2.toNatClampNeg) ≤ v1 → wp_X4_inIce_38 K2 v0 v1 v2 mm Φ) ∧ (¬ (mI mm (mP mm v0 2) v2.toNatClampNeg) ≤ v1 → Φ (1 : Int32) mm))))))))
def wp_X4_inIce (m0 : Mm) (v0 : Nat) (v1 : Int32) (Φ : Int32 → Mm → Prop) : Prop :=
  ∃ n, LOp (fun K x => wp_X4_inIce_2  (fun z0 z1 => K (z0, z1)) v0 v1 x.1 x.2 Φ) n ((0 : Int32), m0)
abbrev rm_X4_inIce : Room := { frames := 0, cells := 0, slots := 0, locals := 0 }
set_option maxHeartbeats 4000000 in
set_option maxRecDepth 100000 in
theorem c_X4_inIce (l : Launch) (g : Gv) (m0 : Mm) (v0 : Nat) (v1 : Int32) (Φ : Int32 → Mm → Prop) (hw : wp_X4_inIce m0 v0 v1 Φ) : Met l yX4_inIce wsX4_inIce rm_X4_inIce (PP g [.ref (ad g v0), .int v1] m0) (QQ g vI Φ) 0 0 (Ag g) := by
  refine CT_of (by decide +kernel) rfl (Nat.le_of_ble_eq_true rfl) ?_
  intro p e s m below meth c hx hb hr hml hown hts hlk hnm hK hW ls hl
  have hown : s.vm.findClass RX4 = some m.cls := hown
  have hl : lv_has ls 3 [(0, .ref (ad g v0)), (1, .int v1)] := hl
  have i5 : ∀ w ∈ u_ws RX4 TX4 4, w ∈ wsX4_inIce := by decide +kernel
  have L2 : ∀ (n : Nat) (v2 : Int32) (mm : Mm), LOp (fun K x => wp_X4_inIce_2  (fun z0 z1 => K (z0, z1)) v0 v1 x.1 x.2 Φ) n (v2, mm) → WW p l e rm_X4_inIce s m ([.ref (ad g v0), .int v1] : List Value).toArray below meth c (MQ below (QQ g vI Φ) ([.ref (ad g v0), .int v1] : List Value).toArray s 0 0 (Ag g)) g mm 3 0 0 2 [(0, .ref (ad g v0)), (1, .int v1), (2, .int v2)] [] := by
    intro  n
    induction n with
    | zero => intro v2 mm hw; exact hw.elim
    | succ n ih2 =>
      obtain ⟨K2, eK2⟩ : ∃ K : Int32 → Mm → Prop, K = fun v2 mm => LOp (fun K x => wp_X4_inIce_2  (fun z0 z1 => K (z0, z1)) v0 v1 x.1 x.2 Φ) n (v2, mm) := ⟨_, rfl⟩
      have ih2 : ∀ (v2 : Int32) (mm : Mm), K2 v2 mm → WW p l e rm_X4_inIce s m ([.ref (ad g v0), .int v1] : List Value).toArray below meth c (MQ below (QQ g vI Φ) ([.ref (ad g v0), .int v1] : List Value).toArray s 0 0 (Ag g)) g mm 3 0 0 2 [(0, .ref (ad g v0)), (1, .int v1), (2, .int v2)] [] := by rw [eK2]; exact ih2
      have B38 : ∀ (v2 : Int32) (mm : Mm), wp_X4_inIce_38 K2 v0 v1 v2 mm Φ → WW p l e rm_X4_inIce s m ([.ref (ad g v0), .int v1] : List Value).toArray below meth c (MQ below (QQ g vI Φ) ([.ref (ad g v0), .int v1] : List Value).toArray s 0 0 (Ag g)) g mm 3 0 0 38 [(0, .ref (ad g v0)), (1, .int v1), (2, .int v2)] [] := by
        intro v2 mm hw H locs ls hW hl
        unfold wp_X4_inIce_38 at hw
        refine lv_iinc (v := (v2 + (1 : Int32))) (lv' := [(2, .int (v2 + (1 : Int32))), (0, .ref (ad g v0)), (1, .int v1)]) hx hb dX4_inIce_38 hl (k := 2) rfl rfl (by decide) rfl (fun ls hl => ?_)
        refine lv_goto (tgt := 2) hx hb dX4_inIce_41 (by decide) ?_
        exact ih2 (v2 + (1 : Int32)) mm hw _ _ _ hW (lv_sub hl [1, 2, 0] rfl)
      intro v2 mm hw H locs ls hW hl
      have hw : wp_X4_inIce_2 K2 v0 v1 v2 mm Φ := by rw [eK2]; exact hw
      unfold wp_X4_inIce_2 at hw
      refine lv_iload_n hx hb dX4_inIce_2 rfl (lv_at hl 2 rfl) ?_
      refine lv_aload_n hx hb dX4_inIce_3 rfl (lv_at hl 0 rfl) ?_
      refine R_getI (C := RX4) (T := TX4) (N := 4) hx hb hts i5 hown hK hW 3 hw.1 (by decide) rfl (by decide) (hts (.fieldLink RX4 20 "BoatLift$Timetable" "told" "I") (by decide +kernel)) (fun _ h => h) (fun _ _ _ => rfl) dX4_inIce_4 ?_
      have hw := hw.2
      refine lv_icmp_ge (tgt := 44) hx hb dX4_inIce_7 (by decide) (fun c1 => ?_) (fun c1 => ?_)
      · have hw := hw.1 c1
        refine lv_iconst (v := (0 : Int32)) hx hb dX4_inIce_44 (by decide) ?_
        exact R_zret hx hb hr hlk hW (Or.inl rfl) hw dX4_inIce_45
      · have hw := hw.2 c1
        refine lv_iload_n hx hb dX4_inIce_10 rfl (lv_at hl 2 rfl) ?_
        refine lv_bipush (v := (8 : Int32)) hx hb dX4_inIce_11 (by decide) ?_
        refine lv_icmp_ge (tgt := 44) hx hb dX4_inIce_13 (by decide) (fun c2 => ?_) (fun c2 => ?_)
        · have hw := hw.1 c2
          refine lv_iconst (v := (0 : Int32)) hx hb dX4_inIce_44 (by decide) ?_
          exact R_zret hx hb hr hlk hW (Or.inl rfl) hw dX4_inIce_45
        · have hw := hw.2 c2
          refine lv_aload_n hx hb dX4_inIce_16 rfl (lv_at hl 0 rfl) ?_
          refine R_getP (C := RX4) (T := TX4) (N := 4) hx hb hts i5 hown hK hW 1 hw.1 (by decide) rfl (by decide) (hts (.fieldLink RX4 9 "BoatLift$Timetable" "iceFrom" "[I") (by decide +kernel)) (fun _ h => h) (fun _ _ _ => rfl) hw.2.1 dX4_inIce_17 ?_
          have hw := hw.2.2
          refine lv_iload_n hx hb dX4_inIce_20 rfl (lv_at hl 2 rfl) ?_
          refine R_iald hx hb hK hW hw.1 hw.2.1 dX4_inIce_21 ?_
          have hw := hw.2.2
          refine lv_iload_n hx hb dX4_inIce_22 rfl (lv_at hl 1 rfl) ?_
          refine lv_icmp_gt (tgt := 38) hx hb dX4_inIce_23 (by decide) (fun c3 => ?_) (fun c3 => ?_)
          · have hw := hw.1 c3
            exact B38 v2 mm hw _ _ _ hW (lv_sub hl [0, 1, 2] rfl)
          · have hw := hw.2 c3
            refine lv_iload_n hx hb dX4_inIce_26 rfl (lv_at hl 1 rfl) ?_
            refine lv_aload_n hx hb dX4_inIce_27 rfl (lv_at hl 0 rfl) ?_
            refine R_getP (C := RX4) (T := TX4) (N := 4) hx hb hts i5 hown hK hW 2 hw.1 (by decide) rfl (by decide) (hts (.fieldLink RX4 13 "BoatLift$Timetable" "iceTo" "[I") (by decide +kernel)) (fun _ h => h) (fun _ _ _ => rfl) hw.2.1 dX4_inIce_28 ?_
            have hw := hw.2.2
            refine lv_iload_n hx hb dX4_inIce_31 rfl (lv_at hl 2 rfl) ?_
            refine R_iald hx hb hK hW hw.1 hw.2.1 dX4_inIce_32 ?_
            have hw := hw.2.2
            refine lv_icmp_ge (tgt := 38) hx hb dX4_inIce_33 (by decide) (fun c4 => ?_) (fun c4 => ?_)
            · have hw := hw.1 c4
              exact B38 v2 mm hw _ _ _ hW (lv_sub hl [0, 1, 2] rfl)
            · have hw := hw.2 c4
              refine lv_iconst (v := (1 : Int32)) hx hb dX4_inIce_36 (by decide) ?_
              exact R_zret hx hb hr hlk hW (Or.inr rfl) hw dX4_inIce_37
  unfold wp_X4_inIce at hw
  refine lv_iconst (v := (0 : Int32)) hx hb dX4_inIce_0 (by decide) ?_
  refine lv_istore_n (lv' := [(2, .int (0 : Int32)), (0, .ref (ad g v0)), (1, .int v1)]) hx hb dX4_inIce_1 rfl hl (by decide) rfl (fun ls hl => ?_)
  obtain ⟨n, hw⟩ := hw
  exact L2  n (0 : Int32) m0 hw _ _ _ hW (lv_sub hl [1, 2, 0] rfl)

def wp_X4_endOf (m0 : Mm) (v0 : Nat) (v1 : Int32) (Φ : Int32 → Mm → Prop) : Prop :=
  mT m0 v0 = 5 ∧ (mP m0 v0 0) ≠ 0 ∧ mT m0 (mP m0 v0 0) = 2 ∧ wp_X1_number m0 (mP m0 v0 0) (0 : Int32) (fun (r1 : Int32) (m2 : Mm) => mT m2 v0 = 5 ∧ (mP m2 v0 0) ≠ 0 ∧ mT m2 (mP m2 v0 0) = 2 ∧ wp_X1_number m2 (mP m2 v0 0) (1 : Int32) (fun (r3 : Int32) (m4 : Mm) => mT m4 v0 = 5 ∧ wp_X4_inIce m4 v0 v1 (fun (r5 : Int32) (m6 : Mm) => ((r5 = 0 → Φ ((v1 + r1) + ((2 : Int32) * r3)) m6) ∧ (¬ r5 = 0 → mT m6 v0 = 5 ∧ (mP m6 v0 0) ≠ 0 ∧ mT m6 (mP m6 v0 0) = 2 ∧ wp_X1_number m6 (mP m6 v0 0) (2 : Int32) (fun (r8 : Int32) (m9 : Mm) => Φ (((v1 + r1) + ((2 : Int32) * r3)) + r8) m9))))))
abbrev rm_X4_endOf : Room := { frames := 1, cells := 0, slots := 0, locals := 22 }
set_option maxHeartbeats 4000000 in
set_option maxRecDepth 100000 in
theorem c_X4_endOf (l : Launch) (g : Gv) (m0 : Mm) (v0 : Nat) (v1 : Int32) (Φ : Int32 → Mm → Prop) (hw : wp_X4_endOf m0 v0 v1 Φ) : Met l yX4_endOf wsX4_endOf rm_X4_endOf (PP g [.ref (ad g v0), .int v1] m0) (QQ g vI Φ) 0 0 (Ag g) := by
  refine CT_of (by decide +kernel) rfl (Nat.le_of_ble_eq_true rfl) ?_
  intro p e s m below meth c hx hb hr hml hown hts hlk hnm hK hW ls hl
  have hown : s.vm.findClass RX4 = some m.cls := hown
  have hl : lv_has ls 3 [(0, .ref (ad g v0)), (1, .int v1)] := hl
  have i5 : ∀ w ∈ u_ws RX4 TX4 4, w ∈ wsX4_endOf := by decide +kernel
  unfold wp_X4_endOf at hw
  refine lv_iload_n hx hb dX4_endOf_0 rfl (lv_at hl 1 rfl) ?_
  refine lv_aload_n hx hb dX4_endOf_1 rfl (lv_at hl 0 rfl) ?_
  refine R_getP (C := RX4) (T := TX4) (N := 4) hx hb hts i5 hown hK hW 0 hw.1 (by decide) rfl (by decide) (hts (.fieldLink RX4 16 "BoatLift$Timetable" "rules" "LBoatLift$Law;") (by decide +kernel)) (fun _ h => h) (fun _ _ _ => rfl) hw.2.1 dX4_endOf_2 ?_
  have hw := hw.2.2
  refine lv_iconst (v := (0 : Int32)) hx hb dX4_endOf_5 (by decide) ?_
  refine R_call (va_runV (As := [.int (0 : Int32)]) (rest := [.int v1]) ⟨hx, hb, hml, hown, hts⟩ (c_X1_number l g m0 (mP m0 v0 0) (0 : Int32) _ hw.2) (cwV 1 hts gX4_endOf_X1_number rfl rfl rfl (by decide +kernel) ⟨by decide, by decide⟩) (PP.preV (q := (RX1, TX1, 5)) hK hW hw.1 (by decide) rfl) rfl rfl hl.1 rfl (lv_room (Nat.le_of_ble_eq_true rfl)) dX4_endOf_6 ⟨by decide, by decide⟩) hW (fun r1 m2 H locs hw hW => ?_)
  refine W.eq (g2 := F0 m 9 ls [.int r1, .int v1]) rfl ?_
  refine lv_iadd hx hb dX4_endOf_9 ?_
  refine lv_iconst (v := (2 : Int32)) hx hb dX4_endOf_10 (by decide) ?_
  refine lv_aload_n hx hb dX4_endOf_11 rfl (lv_at hl 0 rfl) ?_
  refine R_getP (C := RX4) (T := TX4) (N := 4) hx hb hts i5 hown hK hW 0 hw.1 (by decide) rfl (by decide) (hts (.fieldLink RX4 16 "BoatLift$Timetable" "rules" "LBoatLift$Law;") (by decide +kernel)) (fun _ h => h) (fun _ _ _ => rfl) hw.2.1 dX4_endOf_12 ?_
  have hw := hw.2.2
  refine lv_iconst (v := (1 : Int32)) hx hb dX4_endOf_15 (by decide) ?_
  refine R_call (va_runV (As := [.int (1 : Int32)]) (rest := [.int (2 : Int32), .int (v1 + r1)]) ⟨hx, hb, hml, hown, hts⟩ (c_X1_number l g m2 (mP m2 v0 0) (1 : Int32) _ hw.2) (cwV 1 hts gX4_endOf_X1_number rfl rfl rfl (by decide +kernel) ⟨by decide, by decide⟩) (PP.preV (q := (RX1, TX1, 5)) hK hW hw.1 (by decide) rfl) rfl rfl hl.1 rfl (lv_room (Nat.le_of_ble_eq_true rfl)) dX4_endOf_16 ⟨by decide, by decide⟩) hW (fun r3 m4 H locs hw hW => ?_)
  refine W.eq (g2 := F0 m 19 ls [.int r3, .int (2 : Int32), .int (v1 + r1)]) rfl ?_
  refine lv_imul hx hb dX4_endOf_19 ?_
  refine lv_iadd hx hb dX4_endOf_20 ?_
  refine lv_istore_n (lv' := [(2, .int ((v1 + r1) + ((2 : Int32) * r3))), (0, .ref (ad g v0)), (1, .int v1)]) hx hb dX4_endOf_21 rfl hl (by decide) rfl (fun ls hl => ?_)
  refine lv_aload_n hx hb dX4_endOf_22 rfl (lv_at hl 1 rfl) ?_
  refine lv_iload_n hx hb dX4_endOf_23 rfl (lv_at hl 2 rfl) ?_
  refine R_call (va_runV (As := [.int v1]) (rest := []) ⟨hx, hb, hml, hown, hts⟩ (c_X4_inIce l g m4 v0 v1 _ hw.2) (cwV 1 hts gX4_endOf_X4_inIce rfl rfl rfl (by decide +kernel) ⟨by decide, by decide⟩) (PP.preV (q := (RX4, TX4, 4)) hK hW hw.1 (by decide) rfl) rfl rfl hl.1 rfl (lv_room (Nat.le_of_ble_eq_true rfl)) dX4_endOf_24 ⟨by decide, by decide⟩) hW (fun r5 m6 H locs hw hW => ?_)
  refine W.eq (g2 := F0 m 27 ls [.int r5]) rfl ?_
  refine lv_if_eq (tgt := 43) hx hb dX4_endOf_27 (by decide) (fun c7 => ?_) (fun c7 => ?_)
  · have hw := hw.1 c7
    refine lv_iload_n hx hb dX4_endOf_43 rfl (lv_at hl 0 rfl) ?_
    exact R_iret hx hb hr hlk hW hw dX4_endOf_44
  · have hw := hw.2 c7
    refine lv_iload_n hx hb dX4_endOf_30 rfl (lv_at hl 0 rfl) ?_
    refine lv_aload_n hx hb dX4_endOf_31 rfl (lv_at hl 1 rfl) ?_
    refine R_getP (C := RX4) (T := TX4) (N := 4) hx hb hts i5 hown hK hW 0 hw.1 (by decide) rfl (by decide) (hts (.fieldLink RX4 16 "BoatLift$Timetable" "rules" "LBoatLift$Law;") (by decide +kernel)) (fun _ h => h) (fun _ _ _ => rfl) hw.2.1 dX4_endOf_32 ?_
    have hw := hw.2.2
    refine lv_iconst (v := (2 : Int32)) hx hb dX4_endOf_35 (by decide) ?_
    refine R_call (va_runV (As := [.int (2 : Int32)]) (rest := [.int ((v1 + r1) + ((2 : Int32) * r3))]) ⟨hx, hb, hml, hown, hts⟩ (c_X1_number l g m6 (mP m6 v0 0) (2 : Int32) _ hw.2) (cwV 1 hts gX4_endOf_X1_number rfl rfl rfl (by decide +kernel) ⟨by decide, by decide⟩) (PP.preV (q := (RX1, TX1, 5)) hK hW hw.1 (by decide) rfl) rfl rfl hl.1 rfl (lv_room (Nat.le_of_ble_eq_true rfl)) dX4_endOf_36 ⟨by decide, by decide⟩) hW (fun r8 m9 H locs hw hW => ?_)
    refine W.eq (g2 := F0 m 39 ls [.int r8, .int ((v1 + r1) + ((2 : Int32) * r3))]) rfl ?_
    refine lv_iadd hx hb dX4_endOf_39 ?_
    refine lv_goto (tgt := 44) hx hb dX4_endOf_40 (by decide) ?_
    exact R_iret hx hb hr hlk hW hw dX4_endOf_44
