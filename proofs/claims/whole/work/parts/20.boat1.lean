def wp_X6_waterAt (m0 : Mm) (v0 : Nat) (v1 : Int32) (Φ : Nat → Mm → Prop) : Prop :=
  ((¬ v1 = 0 → mT m0 v0 = 7 ∧ (mP m0 v0 5) ≠ 0 ∧ Φ (mP m0 v0 5) m0) ∧ (v1 = 0 → mT m0 v0 = 7 ∧ (mP m0 v0 4) ≠ 0 ∧ Φ (mP m0 v0 4) m0))
abbrev rm_X6_waterAt : Room := { frames := 0, cells := 0, slots := 0, locals := 0 }
set_option maxHeartbeats 4000000 in
set_option maxRecDepth 100000 in
theorem c_X6_waterAt (l : Launch) (g : Gv) (m0 : Mm) (v0 : Nat) (v1 : Int32) (Φ : Nat → Mm → Prop) (hw : wp_X6_waterAt m0 v0 v1 Φ) : Met l yX6_waterAt wsX6_waterAt rm_X6_waterAt (PP g [.ref (ad g v0), .int v1] m0) (QQ g (vR g) Φ) 0 0 (Ag g) := by
  refine CT_of (by decide +kernel) rfl (Nat.le_of_ble_eq_true rfl) ?_
  intro p e s m below meth c hx hb hr hml hown hts hlk hnm hK hW ls hl
  have hown : s.vm.findClass RX6 = some m.cls := hown
  have hl : lv_has ls 2 [(0, .ref (ad g v0)), (1, .int v1)] := hl
  have i7 : ∀ w ∈ u_ws RX6 TX6 15, w ∈ wsX6_waterAt := by decide +kernel
  unfold wp_X6_waterAt at hw
  refine lv_iload_n hx hb dX6_waterAt_0 rfl (lv_at hl 1 rfl) ?_
  refine lv_if_ne (tgt := 11) hx hb dX6_waterAt_1 (by decide) (fun c1 => ?_) (fun c1 => ?_)
  · have hw := hw.1 c1
    refine lv_aload_n hx hb dX6_waterAt_11 rfl (lv_at hl 0 rfl) ?_
    refine R_getP (C := RX6) (T := TX6) (N := 15) hx hb hts i7 hown hK hW 5 hw.1 (by decide) rfl (by decide) (hts (.fieldLink RX6 50 "BoatLift" "upper" "LBoatLift$Water;") (by decide +kernel)) (fun _ h => h) (fun _ _ _ => rfl) hw.2.1 dX6_waterAt_12 ?_
    have hw := hw.2.2
    exact R_aret hx hb hr (Or.inl ⟨_, rfl⟩) hlk hW hw dX6_waterAt_15
  · have hw := hw.2 c1
    refine lv_aload_n hx hb dX6_waterAt_4 rfl (lv_at hl 0 rfl) ?_
    refine R_getP (C := RX6) (T := TX6) (N := 15) hx hb hts i7 hown hK hW 4 hw.1 (by decide) rfl (by decide) (hts (.fieldLink RX6 46 "BoatLift" "lower" "LBoatLift$Water;") (by decide +kernel)) (fun _ h => h) (fun _ _ _ => rfl) hw.2.1 dX6_waterAt_5 ?_
    have hw := hw.2.2
    refine lv_goto (tgt := 15) hx hb dX6_waterAt_8 (by decide) ?_
    exact R_aret hx hb hr (Or.inl ⟨_, rfl⟩) hlk hW hw dX6_waterAt_15

def wp_X6_sendDown (m0 : Mm) (v0 : Nat) (v1 : Int32) (Φ : Unit → Mm → Prop) : Prop :=
  mT m0 v0 = 7 ∧ (mP m0 v0 5) ≠ 0 ∧ mT m0 (mP m0 v0 5) = 6 ∧ wp_X5_gain m0 (mP m0 v0 5) (-v1) (fun (_ : Unit) (m2 : Mm) => mT m2 v0 = 7 ∧ (mP m2 v0 4) ≠ 0 ∧ mT m2 (mP m2 v0 4) = 6 ∧ wp_X5_gain m2 (mP m2 v0 4) v1 (fun (_ : Unit) (m4 : Mm) => Φ () m4))
abbrev rm_X6_sendDown : Room := { frames := 1, cells := 0, slots := 0, locals := 21 }
set_option maxHeartbeats 4000000 in
set_option maxRecDepth 100000 in
theorem c_X6_sendDown (l : Launch) (g : Gv) (m0 : Mm) (v0 : Nat) (v1 : Int32) (Φ : Unit → Mm → Prop) (hw : wp_X6_sendDown m0 v0 v1 Φ) : Met l yX6_sendDown wsX6_sendDown rm_X6_sendDown (PP g [.ref (ad g v0), .int v1] m0) (QQ g vV Φ) 0 0 (Ag g) := by
  refine CT_of (by decide +kernel) rfl (Nat.le_of_ble_eq_true rfl) ?_
  intro p e s m below meth c hx hb hr hml hown hts hlk hnm hK hW ls hl
  have hown : s.vm.findClass RX6 = some m.cls := hown
  have hl : lv_has ls 2 [(0, .ref (ad g v0)), (1, .int v1)] := hl
  have i7 : ∀ w ∈ u_ws RX6 TX6 15, w ∈ wsX6_sendDown := by decide +kernel
  unfold wp_X6_sendDown at hw
  refine lv_aload_n hx hb dX6_sendDown_0 rfl (lv_at hl 0 rfl) ?_
  refine R_getP (C := RX6) (T := TX6) (N := 15) hx hb hts i7 hown hK hW 5 hw.1 (by decide) rfl (by decide) (hts (.fieldLink RX6 50 "BoatLift" "upper" "LBoatLift$Water;") (by decide +kernel)) (fun _ h => h) (fun _ _ _ => rfl) hw.2.1 dX6_sendDown_1 ?_
  have hw := hw.2.2
  refine lv_iload_n hx hb dX6_sendDown_4 rfl (lv_at hl 1 rfl) ?_
  refine lv_ineg hx hb dX6_sendDown_5 ?_
  refine R_call (va_runV (As := [.int (-v1)]) (rest := []) ⟨hx, hb, hml, hown, hts⟩ (c_X5_gain l g m0 (mP m0 v0 5) (-v1) _ hw.2) (cwV 1 hts gX6_sendDown_X5_gain rfl rfl rfl (by decide +kernel) ⟨by decide, by decide⟩) (PP.preV (q := (RX5, TX5, 2)) hK hW hw.1 (by decide) rfl) rfl rfl hl.1 rfl (lv_room (Nat.le_of_ble_eq_true rfl)) dX6_sendDown_6 ⟨by decide, by decide⟩) hW (fun _ m2 H locs hw hW => ?_)
  refine W.eq (g2 := F0 m 9 ls []) rfl ?_
  refine lv_aload_n hx hb dX6_sendDown_9 rfl (lv_at hl 0 rfl) ?_
  refine R_getP (C := RX6) (T := TX6) (N := 15) hx hb hts i7 hown hK hW 4 hw.1 (by decide) rfl (by decide) (hts (.fieldLink RX6 46 "BoatLift" "lower" "LBoatLift$Water;") (by decide +kernel)) (fun _ h => h) (fun _ _ _ => rfl) hw.2.1 dX6_sendDown_10 ?_
  have hw := hw.2.2
  refine lv_iload_n hx hb dX6_sendDown_13 rfl (lv_at hl 1 rfl) ?_
  refine R_call (va_runV (As := [.int v1]) (rest := []) ⟨hx, hb, hml, hown, hts⟩ (c_X5_gain l g m2 (mP m2 v0 4) v1 _ hw.2) (cwV 1 hts gX6_sendDown_X5_gain rfl rfl rfl (by decide +kernel) ⟨by decide, by decide⟩) (PP.preV (q := (RX5, TX5, 2)) hK hW hw.1 (by decide) rfl) rfl rfl hl.1 rfl (lv_room (Nat.le_of_ble_eq_true rfl)) dX6_sendDown_14 ⟨by decide, by decide⟩) hW (fun _ m4 H locs hw hW => ?_)
  refine W.eq (g2 := F0 m 17 ls []) rfl ?_
  exact R_vret hx hb hr hlk hW hw dX6_sendDown_17

def wp_X6_isFit (m0 : Mm) (v0 : Nat) (v1 : Nat) (Φ : Int32 → Mm → Prop) : Prop :=
  mT m0 v1 = 1 ∧ mT m0 v0 = 7 ∧ (mP m0 v0 1) ≠ 0 ∧ mT m0 (mP m0 v0 1) = 2 ∧ wp_X1_number m0 (mP m0 v0 1) (3 : Int32) (fun (r1 : Int32) (m2 : Mm) => mT m2 v1 = 1 ∧ mT m2 v0 = 7 ∧ (((mI m2 v0 8) < (mI m2 v1 3) → Φ (0 : Int32) m2) ∧ (¬ (mI m2 v0 8) < (mI m2 v1 3) → mT m2 v0 = 7 ∧ (mP m2 v0 4) ≠ 0 ∧ mT m2 (mP m2 v0 4) = 6 ∧ wp_X5_decimetres m2 (mP m2 v0 4) (fun (r4 : Int32) (m5 : Mm) => ((r4 < ((mI m0 v1 4) + r1) → Φ (0 : Int32) m5) ∧ (¬ r4 < ((mI m0 v1 4) + r1) → mT m5 v0 = 7 ∧ (mP m5 v0 5) ≠ 0 ∧ mT m5 (mP m5 v0 5) = 6 ∧ wp_X5_decimetres m5 (mP m5 v0 5) (fun (r7 : Int32) (m8 : Mm) => ((r7 < ((mI m0 v1 4) + r1) → Φ (0 : Int32) m8) ∧ (¬ r7 < ((mI m0 v1 4) + r1) → Φ (1 : Int32) m8)))))))))
abbrev rm_X6_isFit : Room := { frames := 3, cells := 0, slots := 0, locals := 65 }
set_option maxHeartbeats 4000000 in
set_option maxRecDepth 100000 in
theorem c_X6_isFit (l : Launch) (g : Gv) (m0 : Mm) (v0 : Nat) (v1 : Nat) (Φ : Int32 → Mm → Prop) (hw : wp_X6_isFit m0 v0 v1 Φ) : Met l yX6_isFit wsX6_isFit rm_X6_isFit (PP g [.ref (ad g v0), .ref (ad g v1)] m0) (QQ g vI Φ) 0 0 (Ag g) := by
  refine CT_of (by decide +kernel) rfl (Nat.le_of_ble_eq_true rfl) ?_
  intro p e s m below meth c hx hb hr hml hown hts hlk hnm hK hW ls hl
  have hown : s.vm.findClass RX6 = some m.cls := hown
  have hl : lv_has ls 3 [(0, .ref (ad g v0)), (1, .ref (ad g v1))] := hl
  have i1 : ∀ w ∈ u_ws RX0 TX0 8, w ∈ wsX6_isFit := by decide +kernel
  have i7 : ∀ w ∈ u_ws RX6 TX6 15, w ∈ wsX6_isFit := by decide +kernel
  unfold wp_X6_isFit at hw
  refine lv_aload_n hx hb dX6_isFit_0 rfl (lv_at hl 1 rfl) ?_
  refine R_getI (C := RX0) (T := TX0) (N := 8) hx hb hts i1 hown hK hW 4 hw.1 (by decide) rfl (by decide) (hts (.fieldLink RX6 204 "BoatLift$Boat" "draught" "I") (by decide +kernel)) (fun _ h => h) (fun _ _ _ => rfl) dX6_isFit_1 ?_
  have hw := hw.2
  refine lv_aload_n hx hb dX6_isFit_4 rfl (lv_at hl 0 rfl) ?_
  refine R_getP (C := RX6) (T := TX6) (N := 15) hx hb hts i7 hown hK hW 1 hw.1 (by decide) rfl (by decide) (hts (.fieldLink RX6 21 "BoatLift" "rules" "LBoatLift$Law;") (by decide +kernel)) (fun _ h => h) (fun _ _ _ => rfl) hw.2.1 dX6_isFit_5 ?_
  have hw := hw.2.2
  refine lv_iconst (v := (3 : Int32)) hx hb dX6_isFit_8 (by decide) ?_
  refine R_call (va_runV (As := [.int (3 : Int32)]) (rest := [.int (mI m0 v1 4)]) ⟨hx, hb, hml, hown, hts⟩ (c_X1_number l g m0 (mP m0 v0 1) (3 : Int32) _ hw.2) (cwV 1 hts gX6_isFit_X1_number rfl rfl rfl (by decide +kernel) ⟨by decide, by decide⟩) (PP.preV (q := (RX1, TX1, 5)) hK hW hw.1 (by decide) rfl) rfl rfl hl.1 rfl (lv_room (Nat.le_of_ble_eq_true rfl)) dX6_isFit_9 ⟨by decide, by decide⟩) hW (fun r1 m2 H locs hw hW => ?_)
  refine W.eq (g2 := F0 m 12 ls [.int r1, .int (mI m0 v1 4)]) rfl ?_
  refine lv_iadd hx hb dX6_isFit_12 ?_
  refine lv_istore_n (lv' := [(2, .int ((mI m0 v1 4) + r1)), (0, .ref (ad g v0)), (1, .ref (ad g v1))]) hx hb dX6_isFit_13 rfl hl (by decide) rfl (fun ls hl => ?_)
  refine lv_aload_n hx hb dX6_isFit_14 rfl (lv_at hl 2 rfl) ?_
  refine R_getI (C := RX0) (T := TX0) (N := 8) hx hb hts i1 hown hK hW 3 hw.1 (by decide) rfl (by decide) (hts (.fieldLink RX6 201 "BoatLift$Boat" "length" "I") (by decide +kernel)) (fun _ h => h) (fun _ _ _ => rfl) dX6_isFit_15 ?_
  have hw := hw.2
  refine lv_aload_n hx hb dX6_isFit_18 rfl (lv_at hl 1 rfl) ?_
  refine R_getI (C := RX6) (T := TX6) (N := 15) hx hb hts i7 hown hK hW 8 hw.1 (by decide) rfl (by decide) (hts (.fieldLink RX6 63 "BoatLift" "troughLength" "I") (by decide +kernel)) (fun _ h => h) (fun _ _ _ => rfl) dX6_isFit_19 ?_
  have hw := hw.2
  refine lv_icmp_gt (tgt := 51) hx hb dX6_isFit_22 (by decide) (fun c3 => ?_) (fun c3 => ?_)
  · have hw := hw.1 c3
    refine lv_iconst (v := (0 : Int32)) hx hb dX6_isFit_51 (by decide) ?_
    exact R_zret hx hb hr hlk hW (Or.inl rfl) hw dX6_isFit_52
  · have hw := hw.2 c3
    refine lv_iload_n hx hb dX6_isFit_25 rfl (lv_at hl 0 rfl) ?_
    refine lv_aload_n hx hb dX6_isFit_26 rfl (lv_at hl 1 rfl) ?_
    refine R_getP (C := RX6) (T := TX6) (N := 15) hx hb hts i7 hown hK hW 4 hw.1 (by decide) rfl (by decide) (hts (.fieldLink RX6 46 "BoatLift" "lower" "LBoatLift$Water;") (by decide +kernel)) (fun _ h => h) (fun _ _ _ => rfl) hw.2.1 dX6_isFit_27 ?_
    have hw := hw.2.2
    refine R_call (va_runV (As := []) (rest := [.int ((mI m0 v1 4) + r1)]) ⟨hx, hb, hml, hown, hts⟩ (c_X5_decimetres l g m2 (mP m2 v0 4) _ hw.2) (cwV 0 hts gX6_isFit_X5_decimetres rfl rfl rfl (by decide +kernel) ⟨by decide, by decide⟩) (PP.preV (q := (RX5, TX5, 2)) hK hW hw.1 (by decide) rfl) rfl rfl hl.1 rfl (lv_room (Nat.le_of_ble_eq_true rfl)) dX6_isFit_30 ⟨by decide, by decide⟩) hW (fun r4 m5 H locs hw hW => ?_)
    refine W.eq (g2 := F0 m 33 ls [.int r4, .int ((mI m0 v1 4) + r1)]) rfl ?_
    refine lv_icmp_gt (tgt := 51) hx hb dX6_isFit_33 (by decide) (fun c6 => ?_) (fun c6 => ?_)
    · have hw := hw.1 c6
      refine lv_iconst (v := (0 : Int32)) hx hb dX6_isFit_51 (by decide) ?_
      exact R_zret hx hb hr hlk hW (Or.inl rfl) hw dX6_isFit_52
    · have hw := hw.2 c6
      refine lv_iload_n hx hb dX6_isFit_36 rfl (lv_at hl 0 rfl) ?_
      refine lv_aload_n hx hb dX6_isFit_37 rfl (lv_at hl 1 rfl) ?_
      refine R_getP (C := RX6) (T := TX6) (N := 15) hx hb hts i7 hown hK hW 5 hw.1 (by decide) rfl (by decide) (hts (.fieldLink RX6 50 "BoatLift" "upper" "LBoatLift$Water;") (by decide +kernel)) (fun _ h => h) (fun _ _ _ => rfl) hw.2.1 dX6_isFit_38 ?_
      have hw := hw.2.2
      refine R_call (va_runV (As := []) (rest := [.int ((mI m0 v1 4) + r1)]) ⟨hx, hb, hml, hown, hts⟩ (c_X5_decimetres l g m5 (mP m5 v0 5) _ hw.2) (cwV 0 hts gX6_isFit_X5_decimetres rfl rfl rfl (by decide +kernel) ⟨by decide, by decide⟩) (PP.preV (q := (RX5, TX5, 2)) hK hW hw.1 (by decide) rfl) rfl rfl hl.1 rfl (lv_room (Nat.le_of_ble_eq_true rfl)) dX6_isFit_41 ⟨by decide, by decide⟩) hW (fun r7 m8 H locs hw hW => ?_)
      refine W.eq (g2 := F0 m 44 ls [.int r7, .int ((mI m0 v1 4) + r1)]) rfl ?_
      refine lv_icmp_gt (tgt := 51) hx hb dX6_isFit_44 (by decide) (fun c9 => ?_) (fun c9 => ?_)
      · have hw := hw.1 c9
        refine lv_iconst (v := (0 : Int32)) hx hb dX6_isFit_51 (by decide) ?_
        exact R_zret hx hb hr hlk hW (Or.inl rfl) hw dX6_isFit_52
      · have hw := hw.2 c9
        refine lv_iconst (v := (1 : Int32)) hx hb dX6_isFit_47 (by decide) ?_
        refine lv_goto (tgt := 52) hx hb dX6_isFit_48 (by decide) ?_
        exact R_zret hx hb hr hlk hW (Or.inr rfl) hw dX6_isFit_52

def wp_X6_isLeft (m0 : Mm) (v0 : Nat) (v1 : Nat) (Φ : Int32 → Mm → Prop) : Prop :=
  mT m0 v1 = 1 ∧ ((¬ (mI m0 v1 7) = (-1 : Int32) → Φ (0 : Int32) m0) ∧ ((mI m0 v1 7) = (-1 : Int32) → mT m0 v0 = 7 ∧ wp_X6_isFit m0 v0 v1 (fun (r2 : Int32) (m3 : Mm) => ((r2 = 0 → Φ (0 : Int32) m3) ∧ (¬ r2 = 0 → Φ (1 : Int32) m3)))))
abbrev rm_X6_isLeft : Room := { frames := 4, cells := 0, slots := 0, locals := 87 }
set_option maxHeartbeats 4000000 in
set_option maxRecDepth 100000 in
theorem c_X6_isLeft (l : Launch) (g : Gv) (m0 : Mm) (v0 : Nat) (v1 : Nat) (Φ : Int32 → Mm → Prop) (hw : wp_X6_isLeft m0 v0 v1 Φ) : Met l yX6_isLeft wsX6_isLeft rm_X6_isLeft (PP g [.ref (ad g v0), .ref (ad g v1)] m0) (QQ g vI Φ) 0 0 (Ag g) := by
  refine CT_of (by decide +kernel) rfl (Nat.le_of_ble_eq_true rfl) ?_
  intro p e s m below meth c hx hb hr hml hown hts hlk hnm hK hW ls hl
  have hown : s.vm.findClass RX6 = some m.cls := hown
  have hl : lv_has ls 2 [(0, .ref (ad g v0)), (1, .ref (ad g v1))] := hl
  have i1 : ∀ w ∈ u_ws RX0 TX0 8, w ∈ wsX6_isLeft := by decide +kernel
  unfold wp_X6_isLeft at hw
  refine lv_aload_n hx hb dX6_isLeft_0 rfl (lv_at hl 1 rfl) ?_
  refine R_getI (C := RX0) (T := TX0) (N := 8) hx hb hts i1 hown hK hW 7 hw.1 (by decide) rfl (by decide) (hts (.fieldLink RX6 217 "BoatLift$Boat" "began" "I") (by decide +kernel)) (fun _ h => h) (fun _ _ _ => rfl) dX6_isLeft_1 ?_
  have hw := hw.2
  refine lv_iconst (v := (-1 : Int32)) hx hb dX6_isLeft_4 (by decide) ?_
  refine lv_icmp_ne (tgt := 20) hx hb dX6_isLeft_5 (by decide) (fun c1 => ?_) (fun c1 => ?_)
  · have hw := hw.1 c1
    refine lv_iconst (v := (0 : Int32)) hx hb dX6_isLeft_20 (by decide) ?_
    exact R_zret hx hb hr hlk hW (Or.inl rfl) hw dX6_isLeft_21
  · have hw := hw.2 c1
    refine lv_aload_n hx hb dX6_isLeft_8 rfl (lv_at hl 0 rfl) ?_
    refine lv_aload_n hx hb dX6_isLeft_9 rfl (lv_at hl 1 rfl) ?_
    refine R_call (va_runV (As := [.ref (ad g v1)]) (rest := []) ⟨hx, hb, hml, hown, hts⟩ (c_X6_isFit l g m0 v0 v1 _ hw.2) (cwV 1 hts gX6_isLeft_X6_isFit rfl rfl rfl (by decide +kernel) ⟨by decide, by decide⟩) (PP.preV (q := (RX6, TX6, 15)) hK hW hw.1 (by decide) rfl) rfl rfl hl.1 rfl (lv_room (Nat.le_of_ble_eq_true rfl)) dX6_isLeft_10 ⟨by decide, by decide⟩) hW (fun r2 m3 H locs hw hW => ?_)
    refine W.eq (g2 := F0 m 13 ls [.int r2]) rfl ?_
    refine lv_if_eq (tgt := 20) hx hb dX6_isLeft_13 (by decide) (fun c4 => ?_) (fun c4 => ?_)
    · have hw := hw.1 c4
      refine lv_iconst (v := (0 : Int32)) hx hb dX6_isLeft_20 (by decide) ?_
      exact R_zret hx hb hr hlk hW (Or.inl rfl) hw dX6_isLeft_21
    · have hw := hw.2 c4
      refine lv_iconst (v := (1 : Int32)) hx hb dX6_isLeft_16 (by decide) ?_
      refine lv_goto (tgt := 21) hx hb dX6_isLeft_17 (by decide) ?_
      exact R_zret hx hb hr hlk hW (Or.inr rfl) hw dX6_isLeft_21

def wp_X6_isQueued (m0 : Mm) (v0 : Nat) (v1 : Nat) (v2 : Int32) (v3 : Int32) (Φ : Int32 → Mm → Prop) : Prop :=
  mT m0 v1 = 1 ∧ ((¬ (mI m0 v1 1) = v2 → Φ (0 : Int32) m0) ∧ ((mI m0 v1 1) = v2 → mT m0 v1 = 1 ∧ ((v3 < (mI m0 v1 2) → Φ (0 : Int32) m0) ∧ (¬ v3 < (mI m0 v1 2) → mT m0 v0 = 7 ∧ wp_X6_isLeft m0 v0 v1 (fun (r3 : Int32) (m4 : Mm) => ((r3 = 0 → Φ (0 : Int32) m4) ∧ (¬ r3 = 0 → Φ (1 : Int32) m4)))))))
abbrev rm_X6_isQueued : Room := { frames := 5, cells := 0, slots := 0, locals := 108 }
set_option maxHeartbeats 4000000 in
set_option maxRecDepth 100000 in
theorem c_X6_isQueued (l : Launch) (g : Gv) (m0 : Mm) (v0 : Nat) (v1 : Nat) (v2 : Int32) (v3 : Int32) (Φ : Int32 → Mm → Prop) (hw : wp_X6_isQueued m0 v0 v1 v2 v3 Φ) : Met l yX6_isQueued wsX6_isQueued rm_X6_isQueued (PP g [.ref (ad g v0), .ref (ad g v1), .int v2, .int v3] m0) (QQ g vI Φ) 0 0 (Ag g) := by
  refine CT_of (by decide +kernel) rfl (Nat.le_of_ble_eq_true rfl) ?_
  intro p e s m below meth c hx hb hr hml hown hts hlk hnm hK hW ls hl
  have hown : s.vm.findClass RX6 = some m.cls := hown
  have hl : lv_has ls 4 [(0, .ref (ad g v0)), (1, .ref (ad g v1)), (2, .int v2), (3, .int v3)] := hl
  have i1 : ∀ w ∈ u_ws RX0 TX0 8, w ∈ wsX6_isQueued := by decide +kernel
  unfold wp_X6_isQueued at hw
  refine lv_aload_n hx hb dX6_isQueued_0 rfl (lv_at hl 1 rfl) ?_
  refine R_getI (C := RX0) (T := TX0) (N := 8) hx hb hts i1 hown hK hW 1 hw.1 (by decide) rfl (by decide) (hts (.fieldLink RX6 195 "BoatLift$Boat" "side" "I") (by decide +kernel)) (fun _ h => h) (fun _ _ _ => rfl) dX6_isQueued_1 ?_
  have hw := hw.2
  refine lv_iload_n hx hb dX6_isQueued_4 rfl (lv_at hl 2 rfl) ?_
  refine lv_icmp_ne (tgt := 28) hx hb dX6_isQueued_5 (by decide) (fun c1 => ?_) (fun c1 => ?_)
  · have hw := hw.1 c1
    refine lv_iconst (v := (0 : Int32)) hx hb dX6_isQueued_28 (by decide) ?_
    exact R_zret hx hb hr hlk hW (Or.inl rfl) hw dX6_isQueued_29
  · have hw := hw.2 c1
    refine lv_aload_n hx hb dX6_isQueued_8 rfl (lv_at hl 1 rfl) ?_
    refine R_getI (C := RX0) (T := TX0) (N := 8) hx hb hts i1 hown hK hW 2 hw.1 (by decide) rfl (by decide) (hts (.fieldLink RX6 198 "BoatLift$Boat" "minute" "I") (by decide +kernel)) (fun _ h => h) (fun _ _ _ => rfl) dX6_isQueued_9 ?_
    have hw := hw.2
    refine lv_iload_n hx hb dX6_isQueued_12 rfl (lv_at hl 3 rfl) ?_
    refine lv_icmp_gt (tgt := 28) hx hb dX6_isQueued_13 (by decide) (fun c2 => ?_) (fun c2 => ?_)
    · have hw := hw.1 c2
      refine lv_iconst (v := (0 : Int32)) hx hb dX6_isQueued_28 (by decide) ?_
      exact R_zret hx hb hr hlk hW (Or.inl rfl) hw dX6_isQueued_29
    · have hw := hw.2 c2
      refine lv_aload_n hx hb dX6_isQueued_16 rfl (lv_at hl 0 rfl) ?_
      refine lv_aload_n hx hb dX6_isQueued_17 rfl (lv_at hl 1 rfl) ?_
      refine R_call (va_runV (As := [.ref (ad g v1)]) (rest := []) ⟨hx, hb, hml, hown, hts⟩ (c_X6_isLeft l g m0 v0 v1 _ hw.2) (cwV 1 hts gX6_isQueued_X6_isLeft rfl rfl rfl (by decide +kernel) ⟨by decide, by decide⟩) (PP.preV (q := (RX6, TX6, 15)) hK hW hw.1 (by decide) rfl) rfl rfl hl.1 rfl (lv_room (Nat.le_of_ble_eq_true rfl)) dX6_isQueued_18 ⟨by decide, by decide⟩) hW (fun r3 m4 H locs hw hW => ?_)
      refine W.eq (g2 := F0 m 21 ls [.int r3]) rfl ?_
      refine lv_if_eq (tgt := 28) hx hb dX6_isQueued_21 (by decide) (fun c5 => ?_) (fun c5 => ?_)
      · have hw := hw.1 c5
        refine lv_iconst (v := (0 : Int32)) hx hb dX6_isQueued_28 (by decide) ?_
        exact R_zret hx hb hr hlk hW (Or.inl rfl) hw dX6_isQueued_29
      · have hw := hw.2 c5
        refine lv_iconst (v := (1 : Int32)) hx hb dX6_isQueued_24 (by decide) ?_
        refine lv_goto (tgt := 29) hx hb dX6_isQueued_25 (by decide) ?_
        exact R_zret hx hb hr hlk hW (Or.inr rfl) hw dX6_isQueued_29

def wp_X6_feed (m0 : Mm) (v0 : Nat) (v1 : Int32) (v2 : Int32) (v3 : Int32) (v4 : Int32) (v5 : Int32) (Φ : Int32 → Mm → Prop) : Prop :=
  mT m0 v0 = 7 ∧ (mP m0 v0 0) ≠ 0 ∧ mT m0 (mP m0 v0 0) = 4 ∧ wp_X3_hasRoom m0 (mP m0 v0 0) (fun (r1 : Int32) (m2 : Mm) => ((¬ r1 = 0 → mT m2 v0 = 7 ∧ (mP m2 v0 0) ≠ 0 ∧ mT m2 (mP m2 v0 0) = 4 ∧ wp_X3_put m2 (mP m2 v0 0) v1 (fun (_ : Unit) (m5 : Mm) => mT m5 v0 = 7 ∧ (mP m5 v0 0) ≠ 0 ∧ mT m5 (mP m5 v0 0) = 4 ∧ wp_X3_put m5 (mP m5 v0 0) v2 (fun (_ : Unit) (m7 : Mm) => mT m7 v0 = 7 ∧ (mP m7 v0 0) ≠ 0 ∧ mT m7 (mP m7 v0 0) = 4 ∧ wp_X3_put m7 (mP m7 v0 0) v3 (fun (_ : Unit) (m9 : Mm) => mT m9 v0 = 7 ∧ (mP m9 v0 0) ≠ 0 ∧ mT m9 (mP m9 v0 0) = 4 ∧ wp_X3_put m9 (mP m9 v0 0) v4 (fun (_ : Unit) (m11 : Mm) => mT m11 v0 = 7 ∧ (mP m11 v0 0) ≠ 0 ∧ mT m11 (mP m11 v0 0) = 4 ∧ wp_X3_put m11 (mP m11 v0 0) v5 (fun (_ : Unit) (m13 : Mm) => mT m13 v0 = 7 ∧ (mP m13 v0 0) ≠ 0 ∧ mT m13 (mP m13 v0 0) = 4 ∧ wp_X3_size m13 (mP m13 v0 0) (fun (r14 : Int32) (m15 : Mm) => Φ r14 m15))))))) ∧ (r1 = 0 → Φ (-1 : Int32) m2)))
abbrev rm_X6_feed : Room := { frames := 1, cells := 0, slots := 0, locals := 22 }
set_option maxHeartbeats 4000000 in
set_option maxRecDepth 100000 in
theorem c_X6_feed (l : Launch) (g : Gv) (m0 : Mm) (v0 : Nat) (v1 : Int32) (v2 : Int32) (v3 : Int32) (v4 : Int32) (v5 : Int32) (Φ : Int32 → Mm → Prop) (hw : wp_X6_feed m0 v0 v1 v2 v3 v4 v5 Φ) : Met l yX6_feed wsX6_feed rm_X6_feed (PP g [.ref (ad g v0), .int v1, .int v2, .int v3, .int v4, .int v5] m0) (QQ g vI Φ) 0 0 (Ag g) := by
  refine CT_of (by decide +kernel) rfl (Nat.le_of_ble_eq_true rfl) ?_
  intro p e s m below meth c hx hb hr hml hown hts hlk hnm hK hW ls hl
  have hown : s.vm.findClass RX6 = some m.cls := hown
  have hl : lv_has ls 6 [(0, .ref (ad g v0)), (1, .int v1), (2, .int v2), (3, .int v3), (4, .int v4), (5, .int v5)] := hl
  have i7 : ∀ w ∈ u_ws RX6 TX6 15, w ∈ wsX6_feed := by decide +kernel
  unfold wp_X6_feed at hw
  refine lv_aload_n hx hb dX6_feed_0 rfl (lv_at hl 0 rfl) ?_
  refine R_getP (C := RX6) (T := TX6) (N := 15) hx hb hts i7 hown hK hW 0 hw.1 (by decide) rfl (by decide) (hts (.fieldLink RX6 10 "BoatLift" "tape" "LBoatLift$Tape;") (by decide +kernel)) (fun _ h => h) (fun _ _ _ => rfl) hw.2.1 dX6_feed_1 ?_
  have hw := hw.2.2
  refine R_call (va_runV (As := []) (rest := []) ⟨hx, hb, hml, hown, hts⟩ (c_X3_hasRoom l g m0 (mP m0 v0 0) _ hw.2) (cwV 0 hts gX6_feed_X3_hasRoom rfl rfl rfl (by decide +kernel) ⟨by decide, by decide⟩) (PP.preV (q := (RX3, TX3, 2)) hK hW hw.1 (by decide) rfl) rfl rfl hl.1 rfl (lv_room (Nat.le_of_ble_eq_true rfl)) dX6_feed_4 ⟨by decide, by decide⟩) hW (fun r1 m2 H locs hw hW => ?_)
  refine W.eq (g2 := F0 m 7 ls [.int r1]) rfl ?_
  refine lv_if_ne (tgt := 12) hx hb dX6_feed_7 (by decide) (fun c3 => ?_) (fun c3 => ?_)
  · have hw := hw.1 c3
    refine lv_aload_n hx hb dX6_feed_12 rfl (lv_at hl 0 rfl) ?_
    refine R_getP (C := RX6) (T := TX6) (N := 15) hx hb hts i7 hown hK hW 0 hw.1 (by decide) rfl (by decide) (hts (.fieldLink RX6 10 "BoatLift" "tape" "LBoatLift$Tape;") (by decide +kernel)) (fun _ h => h) (fun _ _ _ => rfl) hw.2.1 dX6_feed_13 ?_
    have hw := hw.2.2
    refine lv_iload_n hx hb dX6_feed_16 rfl (lv_at hl 1 rfl) ?_
    refine R_call (va_runV (As := [.int v1]) (rest := []) ⟨hx, hb, hml, hown, hts⟩ (c_X3_put l g m2 (mP m2 v0 0) v1 _ hw.2) (cwV 1 hts gX6_feed_X3_put rfl rfl rfl (by decide +kernel) ⟨by decide, by decide⟩) (PP.preV (q := (RX3, TX3, 2)) hK hW hw.1 (by decide) rfl) rfl rfl hl.1 rfl (lv_room (Nat.le_of_ble_eq_true rfl)) dX6_feed_17 ⟨by decide, by decide⟩) hW (fun _ m5 H locs hw hW => ?_)
    refine W.eq (g2 := F0 m 20 ls []) rfl ?_
    refine lv_aload_n hx hb dX6_feed_20 rfl (lv_at hl 0 rfl) ?_
    refine R_getP (C := RX6) (T := TX6) (N := 15) hx hb hts i7 hown hK hW 0 hw.1 (by decide) rfl (by decide) (hts (.fieldLink RX6 10 "BoatLift" "tape" "LBoatLift$Tape;") (by decide +kernel)) (fun _ h => h) (fun _ _ _ => rfl) hw.2.1 dX6_feed_21 ?_
    have hw := hw.2.2
    refine lv_iload_n hx hb dX6_feed_24 rfl (lv_at hl 2 rfl) ?_
    refine R_call (va_runV (As := [.int v2]) (rest := []) ⟨hx, hb, hml, hown, hts⟩ (c_X3_put l g m5 (mP m5 v0 0) v2 _ hw.2) (cwV 1 hts gX6_feed_X3_put rfl rfl rfl (by decide +kernel) ⟨by decide, by decide⟩) (PP.preV (q := (RX3, TX3, 2)) hK hW hw.1 (by decide) rfl) rfl rfl hl.1 rfl (lv_room (Nat.le_of_ble_eq_true rfl)) dX6_feed_25 ⟨by decide, by decide⟩) hW (fun _ m7 H locs hw hW => ?_)
    refine W.eq (g2 := F0 m 28 ls []) rfl ?_
    refine lv_aload_n hx hb dX6_feed_28 rfl (lv_at hl 0 rfl) ?_
    refine R_getP (C := RX6) (T := TX6) (N := 15) hx hb hts i7 hown hK hW 0 hw.1 (by decide) rfl (by decide) (hts (.fieldLink RX6 10 "BoatLift" "tape" "LBoatLift$Tape;") (by decide +kernel)) (fun _ h => h) (fun _ _ _ => rfl) hw.2.1 dX6_feed_29 ?_
    have hw := hw.2.2
    refine lv_iload_n hx hb dX6_feed_32 rfl (lv_at hl 3 rfl) ?_
    refine R_call (va_runV (As := [.int v3]) (rest := []) ⟨hx, hb, hml, hown, hts⟩ (c_X3_put l g m7 (mP m7 v0 0) v3 _ hw.2) (cwV 1 hts gX6_feed_X3_put rfl rfl rfl (by decide +kernel) ⟨by decide, by decide⟩) (PP.preV (q := (RX3, TX3, 2)) hK hW hw.1 (by decide) rfl) rfl rfl hl.1 rfl (lv_room (Nat.le_of_ble_eq_true rfl)) dX6_feed_33 ⟨by decide, by decide⟩) hW (fun _ m9 H locs hw hW => ?_)
    refine W.eq (g2 := F0 m 36 ls []) rfl ?_
    refine lv_aload_n hx hb dX6_feed_36 rfl (lv_at hl 0 rfl) ?_
    refine R_getP (C := RX6) (T := TX6) (N := 15) hx hb hts i7 hown hK hW 0 hw.1 (by decide) rfl (by decide) (hts (.fieldLink RX6 10 "BoatLift" "tape" "LBoatLift$Tape;") (by decide +kernel)) (fun _ h => h) (fun _ _ _ => rfl) hw.2.1 dX6_feed_37 ?_
    have hw := hw.2.2
    refine lv_iload hx hb dX6_feed_40 (lv_at hl 4 rfl) ?_
    refine R_call (va_runV (As := [.int v4]) (rest := []) ⟨hx, hb, hml, hown, hts⟩ (c_X3_put l g m9 (mP m9 v0 0) v4 _ hw.2) (cwV 1 hts gX6_feed_X3_put rfl rfl rfl (by decide +kernel) ⟨by decide, by decide⟩) (PP.preV (q := (RX3, TX3, 2)) hK hW hw.1 (by decide) rfl) rfl rfl hl.1 rfl (lv_room (Nat.le_of_ble_eq_true rfl)) dX6_feed_42 ⟨by decide, by decide⟩) hW (fun _ m11 H locs hw hW => ?_)
    refine W.eq (g2 := F0 m 45 ls []) rfl ?_
    refine lv_aload_n hx hb dX6_feed_45 rfl (lv_at hl 0 rfl) ?_
    refine R_getP (C := RX6) (T := TX6) (N := 15) hx hb hts i7 hown hK hW 0 hw.1 (by decide) rfl (by decide) (hts (.fieldLink RX6 10 "BoatLift" "tape" "LBoatLift$Tape;") (by decide +kernel)) (fun _ h => h) (fun _ _ _ => rfl) hw.2.1 dX6_feed_46 ?_
    have hw := hw.2.2
    refine lv_iload hx hb dX6_feed_49 (lv_at hl 5 rfl) ?_
    refine R_call (va_runV (As := [.int v5]) (rest := []) ⟨hx, hb, hml, hown, hts⟩ (c_X3_put l g m11 (mP m11 v0 0) v5 _ hw.2) (cwV 1 hts gX6_feed_X3_put rfl rfl rfl (by decide +kernel) ⟨by decide, by decide⟩) (PP.preV (q := (RX3, TX3, 2)) hK hW hw.1 (by decide) rfl) rfl rfl hl.1 rfl (lv_room (Nat.le_of_ble_eq_true rfl)) dX6_feed_51 ⟨by decide, by decide⟩) hW (fun _ m13 H locs hw hW => ?_)
    refine W.eq (g2 := F0 m 54 ls []) rfl ?_
    refine lv_aload_n hx hb dX6_feed_54 rfl (lv_at hl 0 rfl) ?_
    refine R_getP (C := RX6) (T := TX6) (N := 15) hx hb hts i7 hown hK hW 0 hw.1 (by decide) rfl (by decide) (hts (.fieldLink RX6 10 "BoatLift" "tape" "LBoatLift$Tape;") (by decide +kernel)) (fun _ h => h) (fun _ _ _ => rfl) hw.2.1 dX6_feed_55 ?_
    have hw := hw.2.2
    refine R_call (va_runV (As := []) (rest := []) ⟨hx, hb, hml, hown, hts⟩ (c_X3_size l g m13 (mP m13 v0 0) _ hw.2) (cwV 0 hts gX6_feed_X3_size rfl rfl rfl (by decide +kernel) ⟨by decide, by decide⟩) (PP.preV (q := (RX3, TX3, 2)) hK hW hw.1 (by decide) rfl) rfl rfl hl.1 rfl (lv_room (Nat.le_of_ble_eq_true rfl)) dX6_feed_58 ⟨by decide, by decide⟩) hW (fun r14 m15 H locs hw hW => ?_)
    refine W.eq (g2 := F0 m 61 ls [.int r14]) rfl ?_
    exact R_iret hx hb hr hlk hW hw dX6_feed_61
  · have hw := hw.2 c3
    refine lv_iconst (v := (-1 : Int32)) hx hb dX6_feed_10 (by decide) ?_
    exact R_iret hx hb hr hlk hW hw dX6_feed_11

def wp_X6_law (m0 : Mm) (v0 : Nat) (v1 : Int32) (Φ : Int32 → Mm → Prop) : Prop :=
  mT m0 v0 = 7 ∧ (mP m0 v0 0) ≠ 0 ∧ mT m0 (mP m0 v0 0) = 4 ∧ wp_X3_size m0 (mP m0 v0 0) (fun (r1 : Int32) (m2 : Mm) => wp_X6_within m2 v1 (0 : Int32) r1 (fun (r3 : Int32) (m4 : Mm) => ((¬ r3 = 0 → mT m4 v0 = 7 ∧ (mP m4 v0 1) ≠ 0 ∧ mT m4 (mP m4 v0 1) = 2 ∧ wp_X1_enact m4 (mP m4 v0 1) v1 (fun (r6 : Int32) (m7 : Mm) => mT m7 v0 = 7 ∧ (mP m7 v0 0) ≠ 0 ∧ mT m7 (mP m7 v0 0) = 4 ∧ wp_X3_empty m7 (mP m7 v0 0) (fun (_ : Unit) (m9 : Mm) => Φ r6 m9))) ∧ (r3 = 0 → Φ (-1 : Int32) m4))))
abbrev rm_X6_law : Room := { frames := 5, cells := 0, slots := 0, locals := 108 }
set_option maxHeartbeats 4000000 in
set_option maxRecDepth 100000 in
theorem c_X6_law (l : Launch) (g : Gv) (m0 : Mm) (v0 : Nat) (v1 : Int32) (Φ : Int32 → Mm → Prop) (hw : wp_X6_law m0 v0 v1 Φ) : Met l yX6_law wsX6_law rm_X6_law (PP g [.ref (ad g v0), .int v1] m0) (QQ g vI Φ) 0 0 (Ag g) := by
  refine CT_of (by decide +kernel) rfl (Nat.le_of_ble_eq_true rfl) ?_
  intro p e s m below meth c hx hb hr hml hown hts hlk hnm hK hW ls hl
  have hown : s.vm.findClass RX6 = some m.cls := hown
  have hl : lv_has ls 3 [(0, .ref (ad g v0)), (1, .int v1)] := hl
  have i7 : ∀ w ∈ u_ws RX6 TX6 15, w ∈ wsX6_law := by decide +kernel
  unfold wp_X6_law at hw
  refine lv_iload_n hx hb dX6_law_0 rfl (lv_at hl 1 rfl) ?_
  refine lv_iconst (v := (0 : Int32)) hx hb dX6_law_1 (by decide) ?_
  refine lv_aload_n hx hb dX6_law_2 rfl (lv_at hl 0 rfl) ?_
  refine R_getP (C := RX6) (T := TX6) (N := 15) hx hb hts i7 hown hK hW 0 hw.1 (by decide) rfl (by decide) (hts (.fieldLink RX6 10 "BoatLift" "tape" "LBoatLift$Tape;") (by decide +kernel)) (fun _ h => h) (fun _ _ _ => rfl) hw.2.1 dX6_law_3 ?_
  have hw := hw.2.2
  refine R_call (va_runV (As := []) (rest := [.int (0 : Int32), .int v1]) ⟨hx, hb, hml, hown, hts⟩ (c_X3_size l g m0 (mP m0 v0 0) _ hw.2) (cwV 0 hts gX6_law_X3_size rfl rfl rfl (by decide +kernel) ⟨by decide, by decide⟩) (PP.preV (q := (RX3, TX3, 2)) hK hW hw.1 (by decide) rfl) rfl rfl hl.1 rfl (lv_room (Nat.le_of_ble_eq_true rfl)) dX6_law_6 ⟨by decide, by decide⟩) hW (fun r1 m2 H locs hw hW => ?_)
  refine W.eq (g2 := F0 m 9 ls [.int r1, .int (0 : Int32), .int v1]) rfl ?_
  refine R_call (va_runS (As := [.int v1, .int (0 : Int32), .int r1]) (rest := []) ⟨hx, hb, hml, hown, hts⟩ (c_X6_within l g m2 v1 (0 : Int32) r1 _ hw) (va_cwS 3 hts gX6_law_X6_within rfl rfl rfl (by decide +kernel) ⟨by decide, by decide⟩) (PP.pre hK hW) rfl rfl hl.1 rfl (lv_room (Nat.le_of_ble_eq_true rfl)) dX6_law_9 ⟨by decide, by decide⟩) hW (fun r3 m4 H locs hw hW => ?_)
  refine W.eq (g2 := F0 m 12 ls [.int r3]) rfl ?_
  refine lv_if_ne (tgt := 17) hx hb dX6_law_12 (by decide) (fun c5 => ?_) (fun c5 => ?_)
  · have hw := hw.1 c5
    refine lv_aload_n hx hb dX6_law_17 rfl (lv_at hl 0 rfl) ?_
    refine R_getP (C := RX6) (T := TX6) (N := 15) hx hb hts i7 hown hK hW 1 hw.1 (by decide) rfl (by decide) (hts (.fieldLink RX6 21 "BoatLift" "rules" "LBoatLift$Law;") (by decide +kernel)) (fun _ h => h) (fun _ _ _ => rfl) hw.2.1 dX6_law_18 ?_
    have hw := hw.2.2
    refine lv_iload_n hx hb dX6_law_21 rfl (lv_at hl 1 rfl) ?_
    refine R_call (va_runV (As := [.int v1]) (rest := []) ⟨hx, hb, hml, hown, hts⟩ (c_X1_enact l g m4 (mP m4 v0 1) v1 _ hw.2) (cwV 1 hts gX6_law_X1_enact rfl rfl rfl (by decide +kernel) ⟨by decide, by decide⟩) (PP.preV (q := (RX1, TX1, 5)) hK hW hw.1 (by decide) rfl) rfl rfl hl.1 rfl (lv_room (Nat.le_of_ble_eq_true rfl)) dX6_law_22 ⟨by decide, by decide⟩) hW (fun r6 m7 H locs hw hW => ?_)
    refine W.eq (g2 := F0 m 25 ls [.int r6]) rfl ?_
    refine lv_istore_n (lv' := [(2, .int r6), (0, .ref (ad g v0)), (1, .int v1)]) hx hb dX6_law_25 rfl hl (by decide) rfl (fun ls hl => ?_)
    refine lv_aload_n hx hb dX6_law_26 rfl (lv_at hl 1 rfl) ?_
    refine R_getP (C := RX6) (T := TX6) (N := 15) hx hb hts i7 hown hK hW 0 hw.1 (by decide) rfl (by decide) (hts (.fieldLink RX6 10 "BoatLift" "tape" "LBoatLift$Tape;") (by decide +kernel)) (fun _ h => h) (fun _ _ _ => rfl) hw.2.1 dX6_law_27 ?_
    have hw := hw.2.2
    refine R_call (va_runV (As := []) (rest := []) ⟨hx, hb, hml, hown, hts⟩ (c_X3_empty l g m7 (mP m7 v0 0) _ hw.2) (cwV 0 hts gX6_law_X3_empty rfl rfl rfl (by decide +kernel) ⟨by decide, by decide⟩) (PP.preV (q := (RX3, TX3, 2)) hK hW hw.1 (by decide) rfl) rfl rfl hl.1 rfl (lv_room (Nat.le_of_ble_eq_true rfl)) dX6_law_30 ⟨by decide, by decide⟩) hW (fun _ m9 H locs hw hW => ?_)
    refine W.eq (g2 := F0 m 33 ls []) rfl ?_
    refine lv_iload_n hx hb dX6_law_33 rfl (lv_at hl 0 rfl) ?_
    exact R_iret hx hb hr hlk hW hw dX6_law_34
  · have hw := hw.2 c5
    refine lv_iconst (v := (-1 : Int32)) hx hb dX6_law_15 (by decide) ?_
    exact R_iret hx hb hr hlk hW hw dX6_law_16

def wp_X6_trough (m0 : Mm) (v0 : Nat) (v1 : Int32) (Φ : Int32 → Mm → Prop) : Prop :=
  wp_X6_within m0 v1 (10 : Int32) (200 : Int32) (fun (r1 : Int32) (m2 : Mm) => ((¬ r1 = 0 → mT m2 v0 = 7 ∧ ∀ m4 : Mm, m4 = sI m2 v0 8 v1 → Φ (1 : Int32) m4) ∧ (r1 = 0 → Φ (0 : Int32) m2)))
abbrev rm_X6_trough : Room := { frames := 1, cells := 0, slots := 0, locals := 22 }
set_option maxHeartbeats 4000000 in
set_option maxRecDepth 100000 in
theorem c_X6_trough (l : Launch) (g : Gv) (m0 : Mm) (v0 : Nat) (v1 : Int32) (Φ : Int32 → Mm → Prop) (hw : wp_X6_trough m0 v0 v1 Φ) : Met l yX6_trough wsX6_trough rm_X6_trough (PP g [.ref (ad g v0), .int v1] m0) (QQ g vI Φ) 0 0 (Ag g) := by
  refine CT_of (by decide +kernel) rfl (Nat.le_of_ble_eq_true rfl) ?_
  intro p e s m below meth c hx hb hr hml hown hts hlk hnm hK hW ls hl
  have hown : s.vm.findClass RX6 = some m.cls := hown
  have hl : lv_has ls 2 [(0, .ref (ad g v0)), (1, .int v1)] := hl
  have i7 : ∀ w ∈ u_ws RX6 TX6 15, w ∈ wsX6_trough := by decide +kernel
  unfold wp_X6_trough at hw
  refine lv_iload_n hx hb dX6_trough_0 rfl (lv_at hl 1 rfl) ?_
  refine lv_bipush (v := (10 : Int32)) hx hb dX6_trough_1 (by decide) ?_
  refine lv_sipush (v := (200 : Int32)) hx hb dX6_trough_3 (by decide) ?_
  refine R_call (va_runS (As := [.int v1, .int (10 : Int32), .int (200 : Int32)]) (rest := []) ⟨hx, hb, hml, hown, hts⟩ (c_X6_within l g m0 v1 (10 : Int32) (200 : Int32) _ hw) (va_cwS 3 hts gX6_trough_X6_within rfl rfl rfl (by decide +kernel) ⟨by decide, by decide⟩) (PP.pre hK hW) rfl rfl hl.1 rfl (lv_room (Nat.le_of_ble_eq_true rfl)) dX6_trough_6 ⟨by decide, by decide⟩) hW (fun r1 m2 H locs hw hW => ?_)
  refine W.eq (g2 := F0 m 9 ls [.int r1]) rfl ?_
  refine lv_if_ne (tgt := 14) hx hb dX6_trough_9 (by decide) (fun c3 => ?_) (fun c3 => ?_)
  · have hw := hw.1 c3
    refine lv_aload_n hx hb dX6_trough_14 rfl (lv_at hl 0 rfl) ?_
    refine lv_iload_n hx hb dX6_trough_15 rfl (lv_at hl 1 rfl) ?_
    refine R_putI (C := RX6) (T := TX6) (N := 15) hx hb hts i7 tyX6 tyX6_ok nmX6 hown hK hW 8 hw.1 (by decide) rfl (by decide) (hts (.fieldLink RX6 63 "BoatLift" "troughLength" "I") (by decide +kernel)) (fun _ h => h) (Or.inl rfl) rfl (fun _ _ _ => rfl) (fun _ _ _ => rfl) dX6_trough_16 (fun H locs hW => ?_)
    obtain ⟨m4, em4⟩ : ∃ z, z = sI m2 v0 8 v1 := ⟨_, rfl⟩
    rw [← em4] at hW
    have hw := hw.2 m4 em4
    refine lv_iconst (v := (1 : Int32)) hx hb dX6_trough_19 (by decide) ?_
    exact R_zret hx hb hr hlk hW (Or.inr rfl) hw dX6_trough_20
  · have hw := hw.2 c3
    refine lv_iconst (v := (0 : Int32)) hx hb dX6_trough_12 (by decide) ?_
    exact R_zret hx hb hr hlk hW (Or.inl rfl) hw dX6_trough_13

def wp_X6_area (m0 : Mm) (v0 : Nat) (v1 : Int32) (v2 : Int32) (Φ : Int32 → Mm → Prop) : Prop :=
  wp_X6_isSide m0 v1 (fun (r1 : Int32) (m2 : Mm) => ((r1 = 0 → Φ (0 : Int32) m2) ∧ (¬ r1 = 0 → wp_X6_within m2 v2 (1 : Int32) (10000 : Int32) (fun (r4 : Int32) (m5 : Mm) => ((¬ r4 = 0 → mT m5 v0 = 7 ∧ wp_X6_waterAt m5 v0 v1 (fun (r7 : Nat) (m8 : Mm) => mT m8 r7 = 6 ∧ wp_X5_spreadOver m8 r7 v2 (fun (_ : Unit) (m10 : Mm) => Φ (1 : Int32) m10))) ∧ (r4 = 0 → Φ (0 : Int32) m5))))))
abbrev rm_X6_area : Room := { frames := 1, cells := 0, slots := 0, locals := 22 }
set_option maxHeartbeats 4000000 in
set_option maxRecDepth 100000 in
theorem c_X6_area (l : Launch) (g : Gv) (m0 : Mm) (v0 : Nat) (v1 : Int32) (v2 : Int32) (Φ : Int32 → Mm → Prop) (hw : wp_X6_area m0 v0 v1 v2 Φ) : Met l yX6_area wsX6_area rm_X6_area (PP g [.ref (ad g v0), .int v1, .int v2] m0) (QQ g vI Φ) 0 0 (Ag g) := by
  refine CT_of (by decide +kernel) rfl (Nat.le_of_ble_eq_true rfl) ?_
  intro p e s m below meth c hx hb hr hml hown hts hlk hnm hK hW ls hl
  have hown : s.vm.findClass RX6 = some m.cls := hown
  have hl : lv_has ls 3 [(0, .ref (ad g v0)), (1, .int v1), (2, .int v2)] := hl
  unfold wp_X6_area at hw
  refine lv_iload_n hx hb dX6_area_0 rfl (lv_at hl 1 rfl) ?_
  refine R_call (va_runS (As := [.int v1]) (rest := []) ⟨hx, hb, hml, hown, hts⟩ (c_X6_isSide l g m0 v1 _ hw) (va_cwS 1 hts gX6_area_X6_isSide rfl rfl rfl (by decide +kernel) ⟨by decide, by decide⟩) (PP.pre hK hW) rfl rfl hl.1 rfl (lv_room (Nat.le_of_ble_eq_true rfl)) dX6_area_1 ⟨by decide, by decide⟩) hW (fun r1 m2 H locs hw hW => ?_)
  refine W.eq (g2 := F0 m 4 ls [.int r1]) rfl ?_
  refine lv_if_eq (tgt := 18) hx hb dX6_area_4 (by decide) (fun c3 => ?_) (fun c3 => ?_)
  · have hw := hw.1 c3
    refine lv_iconst (v := (0 : Int32)) hx hb dX6_area_18 (by decide) ?_
    exact R_zret hx hb hr hlk hW (Or.inl rfl) hw dX6_area_19
  · have hw := hw.2 c3
    refine lv_iload_n hx hb dX6_area_7 rfl (lv_at hl 2 rfl) ?_
    refine lv_iconst (v := (1 : Int32)) hx hb dX6_area_8 (by decide) ?_
    refine lv_sipush (v := (10000 : Int32)) hx hb dX6_area_9 (by decide) ?_
    refine R_call (va_runS (As := [.int v2, .int (1 : Int32), .int (10000 : Int32)]) (rest := []) ⟨hx, hb, hml, hown, hts⟩ (c_X6_within l g m2 v2 (1 : Int32) (10000 : Int32) _ hw) (va_cwS 3 hts gX6_area_X6_within rfl rfl rfl (by decide +kernel) ⟨by decide, by decide⟩) (PP.pre hK hW) rfl rfl hl.1 rfl (lv_room (Nat.le_of_ble_eq_true rfl)) dX6_area_12 ⟨by decide, by decide⟩) hW (fun r4 m5 H locs hw hW => ?_)
    refine W.eq (g2 := F0 m 15 ls [.int r4]) rfl ?_
    refine lv_if_ne (tgt := 20) hx hb dX6_area_15 (by decide) (fun c6 => ?_) (fun c6 => ?_)
    · have hw := hw.1 c6
      refine lv_aload_n hx hb dX6_area_20 rfl (lv_at hl 0 rfl) ?_
      refine lv_iload_n hx hb dX6_area_21 rfl (lv_at hl 1 rfl) ?_
      refine R_call (va_runV (As := [.int v1]) (rest := []) ⟨hx, hb, hml, hown, hts⟩ (c_X6_waterAt l g m5 v0 v1 _ hw.2) (cwV 1 hts gX6_area_X6_waterAt rfl rfl rfl (by decide +kernel) ⟨by decide, by decide⟩) (PP.preV (q := (RX6, TX6, 15)) hK hW hw.1 (by decide) rfl) rfl rfl hl.1 rfl (lv_room (Nat.le_of_ble_eq_true rfl)) dX6_area_22 ⟨by decide, by decide⟩) hW (fun r7 m8 H locs hw hW => ?_)
      refine W.eq (g2 := F0 m 25 ls [.ref (ad g r7)]) rfl ?_
      refine lv_iload_n hx hb dX6_area_25 rfl (lv_at hl 2 rfl) ?_
      refine R_call (va_runV (As := [.int v2]) (rest := []) ⟨hx, hb, hml, hown, hts⟩ (c_X5_spreadOver l g m8 r7 v2 _ hw.2) (cwV 1 hts gX6_area_X5_spreadOver rfl rfl rfl (by decide +kernel) ⟨by decide, by decide⟩) (PP.preV (q := (RX5, TX5, 2)) hK hW hw.1 (by decide) rfl) rfl rfl hl.1 rfl (lv_room (Nat.le_of_ble_eq_true rfl)) dX6_area_26 ⟨by decide, by decide⟩) hW (fun _ m10 H locs hw hW => ?_)
      refine W.eq (g2 := F0 m 29 ls []) rfl ?_
      refine lv_iconst (v := (1 : Int32)) hx hb dX6_area_29 (by decide) ?_
      exact R_zret hx hb hr hlk hW (Or.inr rfl) hw dX6_area_30
    · have hw := hw.2 c6
      refine lv_iconst (v := (0 : Int32)) hx hb dX6_area_18 (by decide) ?_
      exact R_zret hx hb hr hlk hW (Or.inl rfl) hw dX6_area_19

def wp_X6_flow (m0 : Mm) (v0 : Nat) (v1 : Int32) (v2 : Int32) (Φ : Int32 → Mm → Prop) : Prop :=
  wp_X6_isSide m0 v1 (fun (r1 : Int32) (m2 : Mm) => ((r1 = 0 → Φ (0 : Int32) m2) ∧ (¬ r1 = 0 → wp_X6_within m2 v2 (-1000000 : Int32) (1000000 : Int32) (fun (r4 : Int32) (m5 : Mm) => ((¬ r4 = 0 → mT m5 v0 = 7 ∧ wp_X6_waterAt m5 v0 v1 (fun (r7 : Nat) (m8 : Mm) => mT m8 r7 = 6 ∧ wp_X5_gain m8 r7 v2 (fun (_ : Unit) (m10 : Mm) => Φ (1 : Int32) m10))) ∧ (r4 = 0 → Φ (0 : Int32) m5))))))
abbrev rm_X6_flow : Room := { frames := 1, cells := 0, slots := 0, locals := 22 }
set_option maxHeartbeats 4000000 in
set_option maxRecDepth 100000 in
theorem c_X6_flow (l : Launch) (g : Gv) (m0 : Mm) (v0 : Nat) (v1 : Int32) (v2 : Int32) (Φ : Int32 → Mm → Prop) (hw : wp_X6_flow m0 v0 v1 v2 Φ) : Met l yX6_flow wsX6_flow rm_X6_flow (PP g [.ref (ad g v0), .int v1, .int v2] m0) (QQ g vI Φ) 0 0 (Ag g) := by
  refine CT_of (by decide +kernel) rfl (Nat.le_of_ble_eq_true rfl) ?_
  intro p e s m below meth c hx hb hr hml hown hts hlk hnm hK hW ls hl
  have hown : s.vm.findClass RX6 = some m.cls := hown
  have hl : lv_has ls 3 [(0, .ref (ad g v0)), (1, .int v1), (2, .int v2)] := hl
  unfold wp_X6_flow at hw
  refine lv_iload_n hx hb dX6_flow_0 rfl (lv_at hl 1 rfl) ?_
  refine R_call (va_runS (As := [.int v1]) (rest := []) ⟨hx, hb, hml, hown, hts⟩ (c_X6_isSide l g m0 v1 _ hw) (va_cwS 1 hts gX6_flow_X6_isSide rfl rfl rfl (by decide +kernel) ⟨by decide, by decide⟩) (PP.pre hK hW) rfl rfl hl.1 rfl (lv_room (Nat.le_of_ble_eq_true rfl)) dX6_flow_1 ⟨by decide, by decide⟩) hW (fun r1 m2 H locs hw hW => ?_)
  refine W.eq (g2 := F0 m 4 ls [.int r1]) rfl ?_
  refine lv_if_eq (tgt := 18) hx hb dX6_flow_4 (by decide) (fun c3 => ?_) (fun c3 => ?_)
  · have hw := hw.1 c3
    refine lv_iconst (v := (0 : Int32)) hx hb dX6_flow_18 (by decide) ?_
    exact R_zret hx hb hr hlk hW (Or.inl rfl) hw dX6_flow_19
  · have hw := hw.2 c3
    refine lv_iload_n hx hb dX6_flow_7 rfl (lv_at hl 2 rfl) ?_
    refine lv_ldc hx hb hown (hts (.constant RX6 104 (-1000000)) (by decide +kernel)) dX6_flow_8 ?_
    refine lv_ldc hx hb hown (hts (.constant RX6 105 (1000000)) (by decide +kernel)) dX6_flow_10 ?_
    refine R_call (va_runS (As := [.int v2, .int (-1000000 : Int32), .int (1000000 : Int32)]) (rest := []) ⟨hx, hb, hml, hown, hts⟩ (c_X6_within l g m2 v2 (-1000000 : Int32) (1000000 : Int32) _ hw) (va_cwS 3 hts gX6_flow_X6_within rfl rfl rfl (by decide +kernel) ⟨by decide, by decide⟩) (PP.pre hK hW) rfl rfl hl.1 rfl (lv_room (Nat.le_of_ble_eq_true rfl)) dX6_flow_12 ⟨by decide, by decide⟩) hW (fun r4 m5 H locs hw hW => ?_)
    refine W.eq (g2 := F0 m 15 ls [.int r4]) rfl ?_
    refine lv_if_ne (tgt := 20) hx hb dX6_flow_15 (by decide) (fun c6 => ?_) (fun c6 => ?_)
    · have hw := hw.1 c6
      refine lv_aload_n hx hb dX6_flow_20 rfl (lv_at hl 0 rfl) ?_
      refine lv_iload_n hx hb dX6_flow_21 rfl (lv_at hl 1 rfl) ?_
      refine R_call (va_runV (As := [.int v1]) (rest := []) ⟨hx, hb, hml, hown, hts⟩ (c_X6_waterAt l g m5 v0 v1 _ hw.2) (cwV 1 hts gX6_flow_X6_waterAt rfl rfl rfl (by decide +kernel) ⟨by decide, by decide⟩) (PP.preV (q := (RX6, TX6, 15)) hK hW hw.1 (by decide) rfl) rfl rfl hl.1 rfl (lv_room (Nat.le_of_ble_eq_true rfl)) dX6_flow_22 ⟨by decide, by decide⟩) hW (fun r7 m8 H locs hw hW => ?_)
      refine W.eq (g2 := F0 m 25 ls [.ref (ad g r7)]) rfl ?_
      refine lv_iload_n hx hb dX6_flow_25 rfl (lv_at hl 2 rfl) ?_
      refine R_call (va_runV (As := [.int v2]) (rest := []) ⟨hx, hb, hml, hown, hts⟩ (c_X5_gain l g m8 r7 v2 _ hw.2) (cwV 1 hts gX6_flow_X5_gain rfl rfl rfl (by decide +kernel) ⟨by decide, by decide⟩) (PP.preV (q := (RX5, TX5, 2)) hK hW hw.1 (by decide) rfl) rfl rfl hl.1 rfl (lv_room (Nat.le_of_ble_eq_true rfl)) dX6_flow_26 ⟨by decide, by decide⟩) hW (fun _ m10 H locs hw hW => ?_)
      refine W.eq (g2 := F0 m 29 ls []) rfl ?_
      refine lv_iconst (v := (1 : Int32)) hx hb dX6_flow_29 (by decide) ?_
      exact R_zret hx hb hr hlk hW (Or.inr rfl) hw dX6_flow_30
    · have hw := hw.2 c6
      refine lv_iconst (v := (0 : Int32)) hx hb dX6_flow_18 (by decide) ?_
      exact R_zret hx hb hr hlk hW (Or.inl rfl) hw dX6_flow_19

def wp_X6_ice (m0 : Mm) (v0 : Nat) (v1 : Int32) (v2 : Int32) (Φ : Int32 → Mm → Prop) : Prop :=
  wp_X6_isMinute m0 v1 (fun (r1 : Int32) (m2 : Mm) => ((r1 = 0 → Φ (0 : Int32) m2) ∧ (¬ r1 = 0 → wp_X6_isMinute m2 v2 (fun (r4 : Int32) (m5 : Mm) => ((r4 = 0 → Φ (0 : Int32) m5) ∧ (¬ r4 = 0 → ((v1 < v2 → mT m5 v0 = 7 ∧ (mP m5 v0 2) ≠ 0 ∧ mT m5 (mP m5 v0 2) = 5 ∧ wp_X4_addIce m5 (mP m5 v0 2) v1 v2 (fun (r8 : Int32) (m9 : Mm) => (r8 = 0 ∨ r8 = 1) ∧ Φ r8 m9)) ∧ (¬ v1 < v2 → Φ (0 : Int32) m5))))))))
abbrev rm_X6_ice : Room := { frames := 2, cells := 0, slots := 0, locals := 42 }
set_option maxHeartbeats 4000000 in
set_option maxRecDepth 100000 in
theorem c_X6_ice (l : Launch) (g : Gv) (m0 : Mm) (v0 : Nat) (v1 : Int32) (v2 : Int32) (Φ : Int32 → Mm → Prop) (hw : wp_X6_ice m0 v0 v1 v2 Φ) : Met l yX6_ice wsX6_ice rm_X6_ice (PP g [.ref (ad g v0), .int v1, .int v2] m0) (QQ g vI Φ) 0 0 (Ag g) := by
  refine CT_of (by decide +kernel) rfl (Nat.le_of_ble_eq_true rfl) ?_
  intro p e s m below meth c hx hb hr hml hown hts hlk hnm hK hW ls hl
  have hown : s.vm.findClass RX6 = some m.cls := hown
  have hl : lv_has ls 3 [(0, .ref (ad g v0)), (1, .int v1), (2, .int v2)] := hl
  have i7 : ∀ w ∈ u_ws RX6 TX6 15, w ∈ wsX6_ice := by decide +kernel
  unfold wp_X6_ice at hw
  refine lv_iload_n hx hb dX6_ice_0 rfl (lv_at hl 1 rfl) ?_
  refine R_call (va_runS (As := [.int v1]) (rest := []) ⟨hx, hb, hml, hown, hts⟩ (c_X6_isMinute l g m0 v1 _ hw) (va_cwS 1 hts gX6_ice_X6_isMinute rfl rfl rfl (by decide +kernel) ⟨by decide, by decide⟩) (PP.pre hK hW) rfl rfl hl.1 rfl (lv_room (Nat.le_of_ble_eq_true rfl)) dX6_ice_1 ⟨by decide, by decide⟩) hW (fun r1 m2 H locs hw hW => ?_)
  refine W.eq (g2 := F0 m 4 ls [.int r1]) rfl ?_
  refine lv_if_eq (tgt := 19) hx hb dX6_ice_4 (by decide) (fun c3 => ?_) (fun c3 => ?_)
  · have hw := hw.1 c3
    refine lv_iconst (v := (0 : Int32)) hx hb dX6_ice_19 (by decide) ?_
    exact R_zret hx hb hr hlk hW (Or.inl rfl) hw dX6_ice_20
  · have hw := hw.2 c3
    refine lv_iload_n hx hb dX6_ice_7 rfl (lv_at hl 2 rfl) ?_
    refine R_call (va_runS (As := [.int v2]) (rest := []) ⟨hx, hb, hml, hown, hts⟩ (c_X6_isMinute l g m2 v2 _ hw) (va_cwS 1 hts gX6_ice_X6_isMinute rfl rfl rfl (by decide +kernel) ⟨by decide, by decide⟩) (PP.pre hK hW) rfl rfl hl.1 rfl (lv_room (Nat.le_of_ble_eq_true rfl)) dX6_ice_8 ⟨by decide, by decide⟩) hW (fun r4 m5 H locs hw hW => ?_)
    refine W.eq (g2 := F0 m 11 ls [.int r4]) rfl ?_
    refine lv_if_eq (tgt := 19) hx hb dX6_ice_11 (by decide) (fun c6 => ?_) (fun c6 => ?_)
    · have hw := hw.1 c6
      refine lv_iconst (v := (0 : Int32)) hx hb dX6_ice_19 (by decide) ?_
      exact R_zret hx hb hr hlk hW (Or.inl rfl) hw dX6_ice_20
    · have hw := hw.2 c6
      refine lv_iload_n hx hb dX6_ice_14 rfl (lv_at hl 1 rfl) ?_
      refine lv_iload_n hx hb dX6_ice_15 rfl (lv_at hl 2 rfl) ?_
      refine lv_icmp_lt (tgt := 21) hx hb dX6_ice_16 (by decide) (fun c7 => ?_) (fun c7 => ?_)
      · have hw := hw.1 c7
        refine lv_aload_n hx hb dX6_ice_21 rfl (lv_at hl 0 rfl) ?_
        refine R_getP (C := RX6) (T := TX6) (N := 15) hx hb hts i7 hown hK hW 2 hw.1 (by decide) rfl (by decide) (hts (.fieldLink RX6 30 "BoatLift" "timetable" "LBoatLift$Timetable;") (by decide +kernel)) (fun _ h => h) (fun _ _ _ => rfl) hw.2.1 dX6_ice_22 ?_
        have hw := hw.2.2
        refine lv_iload_n hx hb dX6_ice_25 rfl (lv_at hl 1 rfl) ?_
        refine lv_iload_n hx hb dX6_ice_26 rfl (lv_at hl 2 rfl) ?_
        refine R_call (va_runV (As := [.int v1, .int v2]) (rest := []) ⟨hx, hb, hml, hown, hts⟩ (c_X4_addIce l g m5 (mP m5 v0 2) v1 v2 _ hw.2) (cwV 2 hts gX6_ice_X4_addIce rfl rfl rfl (by decide +kernel) ⟨by decide, by decide⟩) (PP.preV (q := (RX4, TX4, 4)) hK hW hw.1 (by decide) rfl) rfl rfl hl.1 rfl (lv_room (Nat.le_of_ble_eq_true rfl)) dX6_ice_27 ⟨by decide, by decide⟩) hW (fun r8 m9 H locs hw hW => ?_)
        refine W.eq (g2 := F0 m 30 ls [.int r8]) rfl ?_
        exact R_zret hx hb hr hlk hW hw.1 hw.2 dX6_ice_30
      · have hw := hw.2 c7
        refine lv_iconst (v := (0 : Int32)) hx hb dX6_ice_19 (by decide) ?_
        exact R_zret hx hb hr hlk hW (Or.inl rfl) hw dX6_ice_20

def wp_X6_renew (m0 : Mm) (v0 : Nat) (v1 : Int32) (Φ : Int32 → Mm → Prop) : Prop :=
  wp_X6_isMinute m0 v1 (fun (r1 : Int32) (m2 : Mm) => ((r1 = 0 → Φ (-1 : Int32) m2) ∧ (¬ r1 = 0 → mT m2 v0 = 7 ∧ (((mI m2 v0 10) ≤ v1 → mT m2 v0 = 7 ∧ (mP m2 v0 1) ≠ 0 ∧ mT m2 (mP m2 v0 1) = 2 ∧ wp_X1_number m2 (mP m2 v0 1) (5 : Int32) (fun (r5 : Int32) (m6 : Mm) => (((v1 + r5) ≤ (20000 : Int32) → mT m6 v0 = 7 ∧ ∀ m8 : Mm, m8 = sI m6 v0 10 (v1 + r5) → mT m8 v0 = 7 ∧ ∀ m9 : Mm, m9 = sI m8 v0 11 (0 : Int32) → Φ (v1 + r5) m9) ∧ (¬ (v1 + r5) ≤ (20000 : Int32) → Φ (-1 : Int32) m6)))) ∧ (¬ (mI m2 v0 10) ≤ v1 → Φ (-1 : Int32) m2)))))
abbrev rm_X6_renew : Room := { frames := 2, cells := 0, slots := 0, locals := 42 }
set_option maxHeartbeats 4000000 in
set_option maxRecDepth 100000 in
theorem c_X6_renew (l : Launch) (g : Gv) (m0 : Mm) (v0 : Nat) (v1 : Int32) (Φ : Int32 → Mm → Prop) (hw : wp_X6_renew m0 v0 v1 Φ) : Met l yX6_renew wsX6_renew rm_X6_renew (PP g [.ref (ad g v0), .int v1] m0) (QQ g vI Φ) 0 0 (Ag g) := by
  refine CT_of (by decide +kernel) rfl (Nat.le_of_ble_eq_true rfl) ?_
  intro p e s m below meth c hx hb hr hml hown hts hlk hnm hK hW ls hl
  have hown : s.vm.findClass RX6 = some m.cls := hown
  have hl : lv_has ls 3 [(0, .ref (ad g v0)), (1, .int v1)] := hl
  have i7 : ∀ w ∈ u_ws RX6 TX6 15, w ∈ wsX6_renew := by decide +kernel
  unfold wp_X6_renew at hw
  refine lv_iload_n hx hb dX6_renew_0 rfl (lv_at hl 1 rfl) ?_
  refine R_call (va_runS (As := [.int v1]) (rest := []) ⟨hx, hb, hml, hown, hts⟩ (c_X6_isMinute l g m0 v1 _ hw) (va_cwS 1 hts gX6_renew_X6_isMinute rfl rfl rfl (by decide +kernel) ⟨by decide, by decide⟩) (PP.pre hK hW) rfl rfl hl.1 rfl (lv_room (Nat.le_of_ble_eq_true rfl)) dX6_renew_1 ⟨by decide, by decide⟩) hW (fun r1 m2 H locs hw hW => ?_)
  refine W.eq (g2 := F0 m 4 ls [.int r1]) rfl ?_
  refine lv_if_eq (tgt := 15) hx hb dX6_renew_4 (by decide) (fun c3 => ?_) (fun c3 => ?_)
  · have hw := hw.1 c3
    refine lv_iconst (v := (-1 : Int32)) hx hb dX6_renew_15 (by decide) ?_
    exact R_iret hx hb hr hlk hW hw dX6_renew_16
  · have hw := hw.2 c3
    refine lv_iload_n hx hb dX6_renew_7 rfl (lv_at hl 1 rfl) ?_
    refine lv_aload_n hx hb dX6_renew_8 rfl (lv_at hl 0 rfl) ?_
    refine R_getI (C := RX6) (T := TX6) (N := 15) hx hb hts i7 hown hK hW 10 hw.1 (by decide) rfl (by decide) (hts (.fieldLink RX6 149 "BoatLift" "freeFrom" "I") (by decide +kernel)) (fun _ h => h) (fun _ _ _ => rfl) dX6_renew_9 ?_
    have hw := hw.2
    refine lv_icmp_ge (tgt := 17) hx hb dX6_renew_12 (by decide) (fun c4 => ?_) (fun c4 => ?_)
    · have hw := hw.1 c4
      refine lv_iload_n hx hb dX6_renew_17 rfl (lv_at hl 1 rfl) ?_
      refine lv_aload_n hx hb dX6_renew_18 rfl (lv_at hl 0 rfl) ?_
      refine R_getP (C := RX6) (T := TX6) (N := 15) hx hb hts i7 hown hK hW 1 hw.1 (by decide) rfl (by decide) (hts (.fieldLink RX6 21 "BoatLift" "rules" "LBoatLift$Law;") (by decide +kernel)) (fun _ h => h) (fun _ _ _ => rfl) hw.2.1 dX6_renew_19 ?_
      have hw := hw.2.2
      refine lv_iconst (v := (5 : Int32)) hx hb dX6_renew_22 (by decide) ?_
      refine R_call (va_runV (As := [.int (5 : Int32)]) (rest := [.int v1]) ⟨hx, hb, hml, hown, hts⟩ (c_X1_number l g m2 (mP m2 v0 1) (5 : Int32) _ hw.2) (cwV 1 hts gX6_renew_X1_number rfl rfl rfl (by decide +kernel) ⟨by decide, by decide⟩) (PP.preV (q := (RX1, TX1, 5)) hK hW hw.1 (by decide) rfl) rfl rfl hl.1 rfl (lv_room (Nat.le_of_ble_eq_true rfl)) dX6_renew_23 ⟨by decide, by decide⟩) hW (fun r5 m6 H locs hw hW => ?_)
      refine W.eq (g2 := F0 m 26 ls [.int r5, .int v1]) rfl ?_
      refine lv_iadd hx hb dX6_renew_26 ?_
      refine lv_istore_n (lv' := [(2, .int (v1 + r5)), (0, .ref (ad g v0)), (1, .int v1)]) hx hb dX6_renew_27 rfl hl (by decide) rfl (fun ls hl => ?_)
      refine lv_iload_n hx hb dX6_renew_28 rfl (lv_at hl 0 rfl) ?_
      refine lv_sipush (v := (20000 : Int32)) hx hb dX6_renew_29 (by decide) ?_
      refine lv_icmp_le (tgt := 37) hx hb dX6_renew_32 (by decide) (fun c7 => ?_) (fun c7 => ?_)
      · have hw := hw.1 c7
        refine lv_aload_n hx hb dX6_renew_37 rfl (lv_at hl 1 rfl) ?_
        refine lv_iload_n hx hb dX6_renew_38 rfl (lv_at hl 0 rfl) ?_
        refine R_putI (C := RX6) (T := TX6) (N := 15) hx hb hts i7 tyX6 tyX6_ok nmX6 hown hK hW 10 hw.1 (by decide) rfl (by decide) (hts (.fieldLink RX6 149 "BoatLift" "freeFrom" "I") (by decide +kernel)) (fun _ h => h) (Or.inl rfl) rfl (fun _ _ _ => rfl) (fun _ _ _ => rfl) dX6_renew_39 (fun H locs hW => ?_)
        obtain ⟨m8, em8⟩ : ∃ z, z = sI m6 v0 10 (v1 + r5) := ⟨_, rfl⟩
        rw [← em8] at hW
        have hw := hw.2 m8 em8
        refine lv_aload_n hx hb dX6_renew_42 rfl (lv_at hl 1 rfl) ?_
        refine lv_iconst (v := (0 : Int32)) hx hb dX6_renew_43 (by decide) ?_
        refine R_putI (C := RX6) (T := TX6) (N := 15) hx hb hts i7 tyX6 tyX6_ok nmX6 hown hK hW 11 hw.1 (by decide) rfl (by decide) (hts (.fieldLink RX6 155 "BoatLift" "sealRides" "I") (by decide +kernel)) (fun _ h => h) (Or.inl rfl) rfl (fun _ _ _ => rfl) (fun _ _ _ => rfl) dX6_renew_44 (fun H locs hW => ?_)
        obtain ⟨m9, em9⟩ : ∃ z, z = sI m8 v0 11 (0 : Int32) := ⟨_, rfl⟩
        rw [← em9] at hW
        have hw := hw.2 m9 em9
        refine lv_iload_n hx hb dX6_renew_47 rfl (lv_at hl 0 rfl) ?_
        exact R_iret hx hb hr hlk hW hw dX6_renew_48
      · have hw := hw.2 c7
        refine lv_iconst (v := (-1 : Int32)) hx hb dX6_renew_35 (by decide) ?_
        exact R_iret hx hb hr hlk hW hw dX6_renew_36
    · have hw := hw.2 c4
      refine lv_iconst (v := (-1 : Int32)) hx hb dX6_renew_15 (by decide) ?_
      exact R_iret hx hb hr hlk hW hw dX6_renew_16

def wp_X6_stock (m0 : Mm) (v0 : Nat) (v1 : Int32) (Φ : Int64 → Mm → Prop) : Prop :=
  wp_X6_isSide m0 v1 (fun (r1 : Int32) (m2 : Mm) => ((r1 = 0 → Φ (0 : Int64) m2) ∧ (¬ r1 = 0 → mT m2 v0 = 7 ∧ wp_X6_waterAt m2 v0 v1 (fun (r4 : Nat) (m5 : Mm) => mT m5 r4 = 6 ∧ wp_X5_tonnes m5 r4 (fun (r6 : Int64) (m7 : Mm) => Φ r6 m7)))))
abbrev rm_X6_stock : Room := { frames := 1, cells := 0, slots := 0, locals := 21 }
set_option maxHeartbeats 4000000 in
set_option maxRecDepth 100000 in
theorem c_X6_stock (l : Launch) (g : Gv) (m0 : Mm) (v0 : Nat) (v1 : Int32) (Φ : Int64 → Mm → Prop) (hw : wp_X6_stock m0 v0 v1 Φ) : Met l yX6_stock wsX6_stock rm_X6_stock (PP g [.ref (ad g v0), .int v1] m0) (QQ g vL Φ) 0 0 (Ag g) := by
  refine CT_of (by decide +kernel) rfl (Nat.le_of_ble_eq_true rfl) ?_
  intro p e s m below meth c hx hb hr hml hown hts hlk hnm hK hW ls hl
  have hown : s.vm.findClass RX6 = some m.cls := hown
  have hl : lv_has ls 2 [(0, .ref (ad g v0)), (1, .int v1)] := hl
  unfold wp_X6_stock at hw
  refine lv_iload_n hx hb dX6_stock_0 rfl (lv_at hl 1 rfl) ?_
  refine R_call (va_runS (As := [.int v1]) (rest := []) ⟨hx, hb, hml, hown, hts⟩ (c_X6_isSide l g m0 v1 _ hw) (va_cwS 1 hts gX6_stock_X6_isSide rfl rfl rfl (by decide +kernel) ⟨by decide, by decide⟩) (PP.pre hK hW) rfl rfl hl.1 rfl (lv_room (Nat.le_of_ble_eq_true rfl)) dX6_stock_1 ⟨by decide, by decide⟩) hW (fun r1 m2 H locs hw hW => ?_)
  refine W.eq (g2 := F0 m 4 ls [.int r1]) rfl ?_
  refine lv_if_eq (tgt := 18) hx hb dX6_stock_4 (by decide) (fun c3 => ?_) (fun c3 => ?_)
  · have hw := hw.1 c3
    refine lv_lconst (v := (0 : Int64)) hx hb dX6_stock_18 (by decide) ?_
    exact R_lret hx hb hr hlk hW hw dX6_stock_19
  · have hw := hw.2 c3
    refine lv_aload_n hx hb dX6_stock_7 rfl (lv_at hl 0 rfl) ?_
    refine lv_iload_n hx hb dX6_stock_8 rfl (lv_at hl 1 rfl) ?_
    refine R_call (va_runV (As := [.int v1]) (rest := []) ⟨hx, hb, hml, hown, hts⟩ (c_X6_waterAt l g m2 v0 v1 _ hw.2) (cwV 1 hts gX6_stock_X6_waterAt rfl rfl rfl (by decide +kernel) ⟨by decide, by decide⟩) (PP.preV (q := (RX6, TX6, 15)) hK hW hw.1 (by decide) rfl) rfl rfl hl.1 rfl (lv_room (Nat.le_of_ble_eq_true rfl)) dX6_stock_9 ⟨by decide, by decide⟩) hW (fun r4 m5 H locs hw hW => ?_)
    refine W.eq (g2 := F0 m 12 ls [.ref (ad g r4)]) rfl ?_
    refine R_call (va_runV (As := []) (rest := []) ⟨hx, hb, hml, hown, hts⟩ (c_X5_tonnes l g m5 r4 _ hw.2) (cwV 0 hts gX6_stock_X5_tonnes rfl rfl rfl (by decide +kernel) ⟨by decide, by decide⟩) (PP.preV (q := (RX5, TX5, 2)) hK hW hw.1 (by decide) rfl) rfl rfl hl.1 rfl (lv_room (Nat.le_of_ble_eq_true rfl)) dX6_stock_12 ⟨by decide, by decide⟩) hW (fun r6 m7 H locs hw hW => ?_)
    refine W.eq (g2 := F0 m 15 ls [.long r6]) rfl ?_
    refine lv_goto (tgt := 19) hx hb dX6_stock_15 (by decide) ?_
    exact R_lret hx hb hr hlk hW hw dX6_stock_19

def wp_X6_level (m0 : Mm) (v0 : Nat) (v1 : Int32) (Φ : Int32 → Mm → Prop) : Prop :=
  wp_X6_isSide m0 v1 (fun (r1 : Int32) (m2 : Mm) => ((r1 = 0 → Φ (0 : Int32) m2) ∧ (¬ r1 = 0 → mT m2 v0 = 7 ∧ wp_X6_waterAt m2 v0 v1 (fun (r4 : Nat) (m5 : Mm) => mT m5 r4 = 6 ∧ wp_X5_centimetres m5 r4 (fun (r6 : Int32) (m7 : Mm) => Φ r6 m7)))))
abbrev rm_X6_level : Room := { frames := 2, cells := 0, slots := 0, locals := 45 }
set_option maxHeartbeats 4000000 in
set_option maxRecDepth 100000 in
theorem c_X6_level (l : Launch) (g : Gv) (m0 : Mm) (v0 : Nat) (v1 : Int32) (Φ : Int32 → Mm → Prop) (hw : wp_X6_level m0 v0 v1 Φ) : Met l yX6_level wsX6_level rm_X6_level (PP g [.ref (ad g v0), .int v1] m0) (QQ g vI Φ) 0 0 (Ag g) := by
  refine CT_of (by decide +kernel) rfl (Nat.le_of_ble_eq_true rfl) ?_
  intro p e s m below meth c hx hb hr hml hown hts hlk hnm hK hW ls hl
  have hown : s.vm.findClass RX6 = some m.cls := hown
  have hl : lv_has ls 2 [(0, .ref (ad g v0)), (1, .int v1)] := hl
  unfold wp_X6_level at hw
  refine lv_iload_n hx hb dX6_level_0 rfl (lv_at hl 1 rfl) ?_
  refine R_call (va_runS (As := [.int v1]) (rest := []) ⟨hx, hb, hml, hown, hts⟩ (c_X6_isSide l g m0 v1 _ hw) (va_cwS 1 hts gX6_level_X6_isSide rfl rfl rfl (by decide +kernel) ⟨by decide, by decide⟩) (PP.pre hK hW) rfl rfl hl.1 rfl (lv_room (Nat.le_of_ble_eq_true rfl)) dX6_level_1 ⟨by decide, by decide⟩) hW (fun r1 m2 H locs hw hW => ?_)
  refine W.eq (g2 := F0 m 4 ls [.int r1]) rfl ?_
  refine lv_if_eq (tgt := 18) hx hb dX6_level_4 (by decide) (fun c3 => ?_) (fun c3 => ?_)
  · have hw := hw.1 c3
    refine lv_iconst (v := (0 : Int32)) hx hb dX6_level_18 (by decide) ?_
    exact R_iret hx hb hr hlk hW hw dX6_level_19
  · have hw := hw.2 c3
    refine lv_aload_n hx hb dX6_level_7 rfl (lv_at hl 0 rfl) ?_
    refine lv_iload_n hx hb dX6_level_8 rfl (lv_at hl 1 rfl) ?_
    refine R_call (va_runV (As := [.int v1]) (rest := []) ⟨hx, hb, hml, hown, hts⟩ (c_X6_waterAt l g m2 v0 v1 _ hw.2) (cwV 1 hts gX6_level_X6_waterAt rfl rfl rfl (by decide +kernel) ⟨by decide, by decide⟩) (PP.preV (q := (RX6, TX6, 15)) hK hW hw.1 (by decide) rfl) rfl rfl hl.1 rfl (lv_room (Nat.le_of_ble_eq_true rfl)) dX6_level_9 ⟨by decide, by decide⟩) hW (fun r4 m5 H locs hw hW => ?_)
    refine W.eq (g2 := F0 m 12 ls [.ref (ad g r4)]) rfl ?_
    refine R_call (va_runV (As := []) (rest := []) ⟨hx, hb, hml, hown, hts⟩ (c_X5_centimetres l g m5 r4 _ hw.2) (cwV 0 hts gX6_level_X5_centimetres rfl rfl rfl (by decide +kernel) ⟨by decide, by decide⟩) (PP.preV (q := (RX5, TX5, 2)) hK hW hw.1 (by decide) rfl) rfl rfl hl.1 rfl (lv_room (Nat.le_of_ble_eq_true rfl)) dX6_level_12 ⟨by decide, by decide⟩) hW (fun r6 m7 H locs hw hW => ?_)
    refine W.eq (g2 := F0 m 15 ls [.int r6]) rfl ?_
    refine lv_goto (tgt := 19) hx hb dX6_level_15 (by decide) ?_
    exact R_iret hx hb hr hlk hW hw dX6_level_19

def wp_X6_depth (m0 : Mm) (v0 : Nat) (v1 : Int32) (Φ : Int32 → Mm → Prop) : Prop :=
  wp_X6_isSide m0 v1 (fun (r1 : Int32) (m2 : Mm) => ((r1 = 0 → Φ (0 : Int32) m2) ∧ (¬ r1 = 0 → mT m2 v0 = 7 ∧ wp_X6_waterAt m2 v0 v1 (fun (r4 : Nat) (m5 : Mm) => mT m5 r4 = 6 ∧ wp_X5_decimetres m5 r4 (fun (r6 : Int32) (m7 : Mm) => Φ r6 m7)))))
abbrev rm_X6_depth : Room := { frames := 3, cells := 0, slots := 0, locals := 65 }
set_option maxHeartbeats 4000000 in
set_option maxRecDepth 100000 in
theorem c_X6_depth (l : Launch) (g : Gv) (m0 : Mm) (v0 : Nat) (v1 : Int32) (Φ : Int32 → Mm → Prop) (hw : wp_X6_depth m0 v0 v1 Φ) : Met l yX6_depth wsX6_depth rm_X6_depth (PP g [.ref (ad g v0), .int v1] m0) (QQ g vI Φ) 0 0 (Ag g) := by
  refine CT_of (by decide +kernel) rfl (Nat.le_of_ble_eq_true rfl) ?_
  intro p e s m below meth c hx hb hr hml hown hts hlk hnm hK hW ls hl
  have hown : s.vm.findClass RX6 = some m.cls := hown
  have hl : lv_has ls 2 [(0, .ref (ad g v0)), (1, .int v1)] := hl
  unfold wp_X6_depth at hw
  refine lv_iload_n hx hb dX6_depth_0 rfl (lv_at hl 1 rfl) ?_
  refine R_call (va_runS (As := [.int v1]) (rest := []) ⟨hx, hb, hml, hown, hts⟩ (c_X6_isSide l g m0 v1 _ hw) (va_cwS 1 hts gX6_depth_X6_isSide rfl rfl rfl (by decide +kernel) ⟨by decide, by decide⟩) (PP.pre hK hW) rfl rfl hl.1 rfl (lv_room (Nat.le_of_ble_eq_true rfl)) dX6_depth_1 ⟨by decide, by decide⟩) hW (fun r1 m2 H locs hw hW => ?_)
  refine W.eq (g2 := F0 m 4 ls [.int r1]) rfl ?_
  refine lv_if_eq (tgt := 18) hx hb dX6_depth_4 (by decide) (fun c3 => ?_) (fun c3 => ?_)
  · have hw := hw.1 c3
    refine lv_iconst (v := (0 : Int32)) hx hb dX6_depth_18 (by decide) ?_
    exact R_iret hx hb hr hlk hW hw dX6_depth_19
  · have hw := hw.2 c3
    refine lv_aload_n hx hb dX6_depth_7 rfl (lv_at hl 0 rfl) ?_
    refine lv_iload_n hx hb dX6_depth_8 rfl (lv_at hl 1 rfl) ?_
    refine R_call (va_runV (As := [.int v1]) (rest := []) ⟨hx, hb, hml, hown, hts⟩ (c_X6_waterAt l g m2 v0 v1 _ hw.2) (cwV 1 hts gX6_depth_X6_waterAt rfl rfl rfl (by decide +kernel) ⟨by decide, by decide⟩) (PP.preV (q := (RX6, TX6, 15)) hK hW hw.1 (by decide) rfl) rfl rfl hl.1 rfl (lv_room (Nat.le_of_ble_eq_true rfl)) dX6_depth_9 ⟨by decide, by decide⟩) hW (fun r4 m5 H locs hw hW => ?_)
    refine W.eq (g2 := F0 m 12 ls [.ref (ad g r4)]) rfl ?_
    refine R_call (va_runV (As := []) (rest := []) ⟨hx, hb, hml, hown, hts⟩ (c_X5_decimetres l g m5 r4 _ hw.2) (cwV 0 hts gX6_depth_X5_decimetres rfl rfl rfl (by decide +kernel) ⟨by decide, by decide⟩) (PP.preV (q := (RX5, TX5, 2)) hK hW hw.1 (by decide) rfl) rfl rfl hl.1 rfl (lv_room (Nat.le_of_ble_eq_true rfl)) dX6_depth_12 ⟨by decide, by decide⟩) hW (fun r6 m7 H locs hw hW => ?_)
    refine W.eq (g2 := F0 m 15 ls [.int r6]) rfl ?_
    refine lv_goto (tgt := 19) hx hb dX6_depth_15 (by decide) ?_
    exact R_iret hx hb hr hlk hW hw dX6_depth_19
