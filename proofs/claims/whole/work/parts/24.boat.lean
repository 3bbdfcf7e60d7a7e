def wp_X0_init (m0 : Mm) (v0 : Nat) (v1 : Int32) (v2 : Int32) (v3 : Int32) (v4 : Int32) (v5 : Int32) (v6 : Int32) (v7 : Int32) (Φ : Unit → Mm → Prop) : Prop :=
  mT m0 v0 = 1 ∧ ∀ m1 : Mm, m1 = sI m0 v0 7 (-1 : Int32) → mT m1 v0 = 1 ∧ ∀ m2 : Mm, m2 = sI m1 v0 0 v1 → mT m2 v0 = 1 ∧ ∀ m3 : Mm, m3 = sI m2 v0 1 v2 → mT m3 v0 = 1 ∧ ∀ m4 : Mm, m4 = sI m3 v0 2 v3 → mT m4 v0 = 1 ∧ ∀ m5 : Mm, m5 = sI m4 v0 3 v4 → mT m5 v0 = 1 ∧ ∀ m6 : Mm, m6 = sI m5 v0 4 v5 → mT m6 v0 = 1 ∧ ∀ m7 : Mm, m7 = sI m6 v0 5 v6 → mT m7 v0 = 1 ∧ ∀ m8 : Mm, m8 = sI m7 v0 6 v7 → Φ () m8
abbrev rm_X0_init : Room := { frames := 1, cells := 0, slots := 0, locals := 20 }
set_option maxHeartbeats 4000000 in
set_option maxRecDepth 100000 in
theorem c_X0_init (l : Launch) (g : Gv) (m0 : Mm) (v0 : Nat) (v1 : Int32) (v2 : Int32) (v3 : Int32) (v4 : Int32) (v5 : Int32) (v6 : Int32) (v7 : Int32) (Φ : Unit → Mm → Prop) (hw : wp_X0_init m0 v0 v1 v2 v3 v4 v5 v6 v7 Φ) : Met l yX0_init wsX0_init rm_X0_init (PP g [.ref (ad g v0), .int v1, .int v2, .int v3, .int v4, .int v5, .int v6, .int v7] m0) (QQ g vV Φ) 0 0 (Ag g) := by
  refine CT_of (by decide +kernel) rfl (Nat.le_of_ble_eq_true rfl) ?_
  intro p e s m below meth c hx hb hr hml hown hts hlk hnm hK hW ls hl
  have hown : s.vm.findClass RX0 = some m.cls := hown
  have hl : lv_has ls 8 [(0, .ref (ad g v0)), (1, .int v1), (2, .int v2), (3, .int v3), (4, .int v4), (5, .int v5), (6, .int v6), (7, .int v7)] := hl
  have i1 : ∀ w ∈ u_ws RX0 TX0 8, w ∈ wsX0_init := by decide +kernel
  unfold wp_X0_init at hw
  refine lv_aload_n hx hb dX0_init_0 rfl (lv_at hl 0 rfl) ?_
  refine W.objInit hx hb hown (hts (.methodLink RX0 3 objectInit) (by decide +kernel)) (hts (.instanceMethod objectInit) (by decide +kernel)) (hts (.code objectInit ⟨#[0xb1]⟩ 1 none) (by decide +kernel)) rfl (by rw [hml]; exact hl.1) rfl dX0_init_1 (Nat.le_of_ble_eq_true rfl) (Nat.le_of_ble_eq_true rfl) ?_
  refine W.eq (g2 := F0 m 4 ls []) rfl ?_
  refine lv_aload_n hx hb dX0_init_4 rfl (lv_at hl 0 rfl) ?_
  refine lv_iconst (v := (-1 : Int32)) hx hb dX0_init_5 (by decide) ?_
  refine R_putI (C := RX0) (T := TX0) (N := 8) hx hb hts i1 tyX0 tyX0_ok nmX0 hown hK hW 7 hw.1 (by decide) rfl (by decide) (hts (.fieldLink RX0 9 "BoatLift$Boat" "began" "I") (by decide +kernel)) (fun _ h => h) (Or.inl rfl) rfl (fun _ _ _ => rfl) (fun _ _ _ => rfl) dX0_init_6 (fun H locs hW => ?_)
  obtain ⟨m1, em1⟩ : ∃ z, z = sI m0 v0 7 (-1 : Int32) := ⟨_, rfl⟩
  rw [← em1] at hW
  have hw := hw.2 m1 em1
  refine lv_aload_n hx hb dX0_init_9 rfl (lv_at hl 0 rfl) ?_
  refine lv_iload_n hx hb dX0_init_10 rfl (lv_at hl 1 rfl) ?_
  refine R_putI (C := RX0) (T := TX0) (N := 8) hx hb hts i1 tyX0 tyX0_ok nmX0 hown hK hW 0 hw.1 (by decide) rfl (by decide) (hts (.fieldLink RX0 15 "BoatLift$Boat" "number" "I") (by decide +kernel)) (fun _ h => h) (Or.inr ⟨rfl, hnm, rfl⟩) rfl (fun _ _ _ => rfl) (fun _ _ _ => rfl) dX0_init_11 (fun H locs hW => ?_)
  obtain ⟨m2, em2⟩ : ∃ z, z = sI m1 v0 0 v1 := ⟨_, rfl⟩
  rw [← em2] at hW
  have hw := hw.2 m2 em2
  refine lv_aload_n hx hb dX0_init_14 rfl (lv_at hl 0 rfl) ?_
  refine lv_iload_n hx hb dX0_init_15 rfl (lv_at hl 2 rfl) ?_
  refine R_putI (C := RX0) (T := TX0) (N := 8) hx hb hts i1 tyX0 tyX0_ok nmX0 hown hK hW 1 hw.1 (by decide) rfl (by decide) (hts (.fieldLink RX0 18 "BoatLift$Boat" "side" "I") (by decide +kernel)) (fun _ h => h) (Or.inr ⟨rfl, hnm, rfl⟩) rfl (fun _ _ _ => rfl) (fun _ _ _ => rfl) dX0_init_16 (fun H locs hW => ?_)
  obtain ⟨m3, em3⟩ : ∃ z, z = sI m2 v0 1 v2 := ⟨_, rfl⟩
  rw [← em3] at hW
  have hw := hw.2 m3 em3
  refine lv_aload_n hx hb dX0_init_19 rfl (lv_at hl 0 rfl) ?_
  refine lv_iload_n hx hb dX0_init_20 rfl (lv_at hl 3 rfl) ?_
  refine R_putI (C := RX0) (T := TX0) (N := 8) hx hb hts i1 tyX0 tyX0_ok nmX0 hown hK hW 2 hw.1 (by decide) rfl (by decide) (hts (.fieldLink RX0 21 "BoatLift$Boat" "minute" "I") (by decide +kernel)) (fun _ h => h) (Or.inr ⟨rfl, hnm, rfl⟩) rfl (fun _ _ _ => rfl) (fun _ _ _ => rfl) dX0_init_21 (fun H locs hW => ?_)
  obtain ⟨m4, em4⟩ : ∃ z, z = sI m3 v0 2 v3 := ⟨_, rfl⟩
  rw [← em4] at hW
  have hw := hw.2 m4 em4
  refine lv_aload_n hx hb dX0_init_24 rfl (lv_at hl 0 rfl) ?_
  refine lv_iload hx hb dX0_init_25 (lv_at hl 4 rfl) ?_
  refine R_putI (C := RX0) (T := TX0) (N := 8) hx hb hts i1 tyX0 tyX0_ok nmX0 hown hK hW 3 hw.1 (by decide) rfl (by decide) (hts (.fieldLink RX0 24 "BoatLift$Boat" "length" "I") (by decide +kernel)) (fun _ h => h) (Or.inr ⟨rfl, hnm, rfl⟩) rfl (fun _ _ _ => rfl) (fun _ _ _ => rfl) dX0_init_27 (fun H locs hW => ?_)
  obtain ⟨m5, em5⟩ : ∃ z, z = sI m4 v0 3 v4 := ⟨_, rfl⟩
  rw [← em5] at hW
  have hw := hw.2 m5 em5
  refine lv_aload_n hx hb dX0_init_30 rfl (lv_at hl 0 rfl) ?_
  refine lv_iload hx hb dX0_init_31 (lv_at hl 5 rfl) ?_
  refine R_putI (C := RX0) (T := TX0) (N := 8) hx hb hts i1 tyX0 tyX0_ok nmX0 hown hK hW 4 hw.1 (by decide) rfl (by decide) (hts (.fieldLink RX0 27 "BoatLift$Boat" "draught" "I") (by decide +kernel)) (fun _ h => h) (Or.inr ⟨rfl, hnm, rfl⟩) rfl (fun _ _ _ => rfl) (fun _ _ _ => rfl) dX0_init_33 (fun H locs hW => ?_)
  obtain ⟨m6, em6⟩ : ∃ z, z = sI m5 v0 4 v5 := ⟨_, rfl⟩
  rw [← em6] at hW
  have hw := hw.2 m6 em6
  refine lv_aload_n hx hb dX0_init_36 rfl (lv_at hl 0 rfl) ?_
  refine lv_iload hx hb dX0_init_37 (lv_at hl 6 rfl) ?_
  refine R_putI (C := RX0) (T := TX0) (N := 8) hx hb hts i1 tyX0 tyX0_ok nmX0 hown hK hW 5 hw.1 (by decide) rfl (by decide) (hts (.fieldLink RX0 30 "BoatLift$Boat" "weight" "I") (by decide +kernel)) (fun _ h => h) (Or.inr ⟨rfl, hnm, rfl⟩) rfl (fun _ _ _ => rfl) (fun _ _ _ => rfl) dX0_init_39 (fun H locs hW => ?_)
  obtain ⟨m7, em7⟩ : ∃ z, z = sI m6 v0 5 v6 := ⟨_, rfl⟩
  rw [← em7] at hW
  have hw := hw.2 m7 em7
  refine lv_aload_n hx hb dX0_init_42 rfl (lv_at hl 0 rfl) ?_
  refine lv_iload hx hb dX0_init_43 (lv_at hl 7 rfl) ?_
  refine R_putI (C := RX0) (T := TX0) (N := 8) hx hb hts i1 tyX0 tyX0_ok nmX0 hown hK hW 6 hw.1 (by decide) rfl (by decide) (hts (.fieldLink RX0 33 "BoatLift$Boat" "rank" "I") (by decide +kernel)) (fun _ h => h) (Or.inr ⟨rfl, hnm, rfl⟩) rfl (fun _ _ _ => rfl) (fun _ _ _ => rfl) dX0_init_45 (fun H locs hW => ?_)
  obtain ⟨m8, em8⟩ : ∃ z, z = sI m7 v0 6 v7 := ⟨_, rfl⟩
  rw [← em8] at hW
  have hw := hw.2 m8 em8
  exact R_vret hx hb hr hlk hW hw dX0_init_48

def wp_X6_boat (m0 : Mm) (v0 : Nat) (v1 : Int32) (v2 : Int32) (v3 : Int32) (v4 : Int32) (v5 : Int32) (v6 : Int32) (Φ : Int32 → Mm → Prop) : Prop :=
  wp_X6_isSide m0 v1 (fun (r1 : Int32) (m2 : Mm) => ((r1 = 0 → Φ (-1 : Int32) m2) ∧ (¬ r1 = 0 → wp_X6_isMinute m2 v2 (fun (r4 : Int32) (m5 : Mm) => ((r4 = 0 → Φ (-1 : Int32) m5) ∧ (¬ r4 = 0 → wp_X6_within m5 v3 (1 : Int32) (100 : Int32) (fun (r7 : Int32) (m8 : Mm) => ((¬ r7 = 0 → wp_X6_within m8 v4 (1 : Int32) (40 : Int32) (fun (r10 : Int32) (m11 : Mm) => ((r10 = 0 → Φ (-1 : Int32) m11) ∧ (¬ r10 = 0 → wp_X6_within m11 v5 (1 : Int32) (2000 : Int32) (fun (r13 : Int32) (m14 : Mm) => ((r13 = 0 → Φ (-1 : Int32) m14) ∧ (¬ r13 = 0 → wp_X6_within m14 v6 (0 : Int32) (3 : Int32) (fun (r16 : Int32) (m17 : Mm) => ((¬ r16 = 0 → mT m17 v0 = 7 ∧ (mP m17 v0 6) ≠ 0 ∧ mT m17 (mP m17 v0 6) = 0 ∧ wp_Jx4a65c_size_8abf5 m17 (mP m17 v0 6) (fun (r19 : Int32) (m20 : Mm) => ((r19 < (16 : Int32) → ∀ m22 : Mm, m22 = nw m20 1 0 → mT m22 v0 = 7 ∧ (mP m22 v0 6) ≠ 0 ∧ mT m22 (mP m22 v0 6) = 0 ∧ wp_Jx4a65c_size_8abf5 m22 (mP m22 v0 6) (fun (r23 : Int32) (m24 : Mm) => wp_X0_init m24 (mS m20) r23 v1 v2 v3 v4 v5 v6 (fun (_ : Unit) (m26 : Mm) => mT m26 v0 = 7 ∧ (mP m26 v0 6) ≠ 0 ∧ mT m26 (mP m26 v0 6) = 0 ∧ wp_Jx4a65c_add_9ea2d m26 (mP m26 v0 6) (mS m20) (fun (r27 : Int32) (m28 : Mm) => mT m28 v0 = 7 ∧ (mP m28 v0 7) ≠ 0 ∧ mT m28 v0 = 7 ∧ wp_X6_turnOf m28 v0 (mS m20) (fun (r29 : Int32) (m30 : Mm) => mT m30 (mP m28 v0 7) = 0 ∧ wp_Jx4a65c_add_7a177 m30 (mP m28 v0 7) r29 (mS m20) (fun (_ : Unit) (m32 : Mm) => mT m32 (mS m20) = 1 ∧ Φ (mI m32 (mS m20) 0) m32)))))) ∧ (¬ r19 < (16 : Int32) → Φ (-1 : Int32) m20)))) ∧ (r16 = 0 → Φ (-1 : Int32) m17)))))))))) ∧ (r7 = 0 → Φ (-1 : Int32) m8)))))))))
abbrev rm_X6_boat : Room := { frames := 7, cells := 3, slots := 72, locals := 211 }
set_option maxHeartbeats 4000000 in
set_option maxRecDepth 100000 in
theorem c_X6_boat (l : Launch) (g : Gv) (m0 : Mm) (v0 : Nat) (v1 : Int32) (v2 : Int32) (v3 : Int32) (v4 : Int32) (v5 : Int32) (v6 : Int32) (Φ : Int32 → Mm → Prop) (hw : wp_X6_boat m0 v0 v1 v2 v3 v4 v5 v6 Φ) : Met l yX6_boat wsX6_boat rm_X6_boat (PP g [.ref (ad g v0), .int v1, .int v2, .int v3, .int v4, .int v5, .int v6] m0) (QQ g vI Φ) 3 72 (Ag g) := by
  refine CT_of (by decide +kernel) rfl (Nat.le_of_ble_eq_true rfl) ?_
  intro p e s m below meth c hx hb hr hml hown hts hlk hnm hK hW ls hl
  have hown : s.vm.findClass RX6 = some m.cls := hown
  have hl : lv_has ls 8 [(0, .ref (ad g v0)), (1, .int v1), (2, .int v2), (3, .int v3), (4, .int v4), (5, .int v5), (6, .int v6)] := hl
  have i1 : ∀ w ∈ u_ws RX0 TX0 8, w ∈ wsX6_boat := by decide +kernel
  have i7 : ∀ w ∈ u_ws RX6 TX6 15, w ∈ wsX6_boat := by decide +kernel
  unfold wp_X6_boat at hw
  refine lv_iload_n hx hb dX6_boat_0 rfl (lv_at hl 1 rfl) ?_
  refine R_call (va_runS (As := [.int v1]) (rest := []) ⟨hx, hb, hml, hown, hts⟩ (c_X6_isSide l g m0 v1 _ hw) (va_cwS 1 hts gX6_boat_X6_isSide rfl rfl rfl (by decide +kernel) ⟨by decide, by decide⟩) (PP.pre hK hW) rfl rfl hl.1 rfl (lv_room (Nat.le_of_ble_eq_true rfl)) dX6_boat_1 ⟨by decide, by decide⟩) hW (fun r1 m2 H locs hw hW => ?_)
  refine W.eq (g2 := F0 m 4 ls [.int r1]) rfl ?_
  refine lv_if_eq (tgt := 24) hx hb dX6_boat_4 (by decide) (fun c3 => ?_) (fun c3 => ?_)
  · have hw := hw.1 c3
    refine lv_iconst (v := (-1 : Int32)) hx hb dX6_boat_24 (by decide) ?_
    refine W.widen (k := 3) (n := 72) (by decide) (by decide) ?_
    exact R_iret hx hb hr hlk hW hw dX6_boat_25
  · have hw := hw.2 c3
    refine lv_iload_n hx hb dX6_boat_7 rfl (lv_at hl 2 rfl) ?_
    refine R_call (va_runS (As := [.int v2]) (rest := []) ⟨hx, hb, hml, hown, hts⟩ (c_X6_isMinute l g m2 v2 _ hw) (va_cwS 1 hts gX6_boat_X6_isMinute rfl rfl rfl (by decide +kernel) ⟨by decide, by decide⟩) (PP.pre hK hW) rfl rfl hl.1 rfl (lv_room (Nat.le_of_ble_eq_true rfl)) dX6_boat_8 ⟨by decide, by decide⟩) hW (fun r4 m5 H locs hw hW => ?_)
    refine W.eq (g2 := F0 m 11 ls [.int r4]) rfl ?_
    refine lv_if_eq (tgt := 24) hx hb dX6_boat_11 (by decide) (fun c6 => ?_) (fun c6 => ?_)
    · have hw := hw.1 c6
      refine lv_iconst (v := (-1 : Int32)) hx hb dX6_boat_24 (by decide) ?_
      refine W.widen (k := 3) (n := 72) (by decide) (by decide) ?_
      exact R_iret hx hb hr hlk hW hw dX6_boat_25
    · have hw := hw.2 c6
      refine lv_iload_n hx hb dX6_boat_14 rfl (lv_at hl 3 rfl) ?_
      refine lv_iconst (v := (1 : Int32)) hx hb dX6_boat_15 (by decide) ?_
      refine lv_bipush (v := (100 : Int32)) hx hb dX6_boat_16 (by decide) ?_
      refine R_call (va_runS (As := [.int v3, .int (1 : Int32), .int (100 : Int32)]) (rest := []) ⟨hx, hb, hml, hown, hts⟩ (c_X6_within l g m5 v3 (1 : Int32) (100 : Int32) _ hw) (va_cwS 3 hts gX6_boat_X6_within rfl rfl rfl (by decide +kernel) ⟨by decide, by decide⟩) (PP.pre hK hW) rfl rfl hl.1 rfl (lv_room (Nat.le_of_ble_eq_true rfl)) dX6_boat_18 ⟨by decide, by decide⟩) hW (fun r7 m8 H locs hw hW => ?_)
      refine W.eq (g2 := F0 m 21 ls [.int r7]) rfl ?_
      refine lv_if_ne (tgt := 26) hx hb dX6_boat_21 (by decide) (fun c9 => ?_) (fun c9 => ?_)
      · have hw := hw.1 c9
        refine lv_iload hx hb dX6_boat_26 (lv_at hl 4 rfl) ?_
        refine lv_iconst (v := (1 : Int32)) hx hb dX6_boat_28 (by decide) ?_
        refine lv_bipush (v := (40 : Int32)) hx hb dX6_boat_29 (by decide) ?_
        refine R_call (va_runS (As := [.int v4, .int (1 : Int32), .int (40 : Int32)]) (rest := []) ⟨hx, hb, hml, hown, hts⟩ (c_X6_within l g m8 v4 (1 : Int32) (40 : Int32) _ hw) (va_cwS 3 hts gX6_boat_X6_within rfl rfl rfl (by decide +kernel) ⟨by decide, by decide⟩) (PP.pre hK hW) rfl rfl hl.1 rfl (lv_room (Nat.le_of_ble_eq_true rfl)) dX6_boat_31 ⟨by decide, by decide⟩) hW (fun r10 m11 H locs hw hW => ?_)
        refine W.eq (g2 := F0 m 34 ls [.int r10]) rfl ?_
        refine lv_if_eq (tgt := 59) hx hb dX6_boat_34 (by decide) (fun c12 => ?_) (fun c12 => ?_)
        · have hw := hw.1 c12
          refine lv_iconst (v := (-1 : Int32)) hx hb dX6_boat_59 (by decide) ?_
          refine W.widen (k := 3) (n := 72) (by decide) (by decide) ?_
          exact R_iret hx hb hr hlk hW hw dX6_boat_60
        · have hw := hw.2 c12
          refine lv_iload hx hb dX6_boat_37 (lv_at hl 5 rfl) ?_
          refine lv_iconst (v := (1 : Int32)) hx hb dX6_boat_39 (by decide) ?_
          refine lv_sipush (v := (2000 : Int32)) hx hb dX6_boat_40 (by decide) ?_
          refine R_call (va_runS (As := [.int v5, .int (1 : Int32), .int (2000 : Int32)]) (rest := []) ⟨hx, hb, hml, hown, hts⟩ (c_X6_within l g m11 v5 (1 : Int32) (2000 : Int32) _ hw) (va_cwS 3 hts gX6_boat_X6_within rfl rfl rfl (by decide +kernel) ⟨by decide, by decide⟩) (PP.pre hK hW) rfl rfl hl.1 rfl (lv_room (Nat.le_of_ble_eq_true rfl)) dX6_boat_43 ⟨by decide, by decide⟩) hW (fun r13 m14 H locs hw hW => ?_)
          refine W.eq (g2 := F0 m 46 ls [.int r13]) rfl ?_
          refine lv_if_eq (tgt := 59) hx hb dX6_boat_46 (by decide) (fun c15 => ?_) (fun c15 => ?_)
          · have hw := hw.1 c15
            refine lv_iconst (v := (-1 : Int32)) hx hb dX6_boat_59 (by decide) ?_
            refine W.widen (k := 3) (n := 72) (by decide) (by decide) ?_
            exact R_iret hx hb hr hlk hW hw dX6_boat_60
          · have hw := hw.2 c15
            refine lv_iload hx hb dX6_boat_49 (lv_at hl 6 rfl) ?_
            refine lv_iconst (v := (0 : Int32)) hx hb dX6_boat_51 (by decide) ?_
            refine lv_iconst (v := (3 : Int32)) hx hb dX6_boat_52 (by decide) ?_
            refine R_call (va_runS (As := [.int v6, .int (0 : Int32), .int (3 : Int32)]) (rest := []) ⟨hx, hb, hml, hown, hts⟩ (c_X6_within l g m14 v6 (0 : Int32) (3 : Int32) _ hw) (va_cwS 3 hts gX6_boat_X6_within rfl rfl rfl (by decide +kernel) ⟨by decide, by decide⟩) (PP.pre hK hW) rfl rfl hl.1 rfl (lv_room (Nat.le_of_ble_eq_true rfl)) dX6_boat_53 ⟨by decide, by decide⟩) hW (fun r16 m17 H locs hw hW => ?_)
            refine W.eq (g2 := F0 m 56 ls [.int r16]) rfl ?_
            refine lv_if_ne (tgt := 61) hx hb dX6_boat_56 (by decide) (fun c18 => ?_) (fun c18 => ?_)
            · have hw := hw.1 c18
              refine lv_aload_n hx hb dX6_boat_61 rfl (lv_at hl 0 rfl) ?_
              refine R_getP (C := RX6) (T := TX6) (N := 15) hx hb hts i7 hown hK hW 6 hw.1 (by decide) rfl (by decide) (hts (.fieldLink RX6 56 "BoatLift" "byNumber" "Ljava/util/List;") (by decide +kernel)) (fun _ h => h) (fun _ _ _ => rfl) hw.2.1 dX6_boat_62 ?_
              have hw := hw.2.2
              refine R_call5 (va_runF (As := []) (rest := []) (hK.1.1 0 (RJx4a65c, TJx4a65c, 3) rfl).2 ⟨hx, hb, hml, hown, hts⟩ (c_Jx4a65c_size_8abf5 l g m17 (mP m17 v0 6) _ hw.2) (va_cwF 0 hts gX6_boat_Jx4a65c_size_8abf5_f116Jx4a65c rfl rfl rfl hK.2.2.2.2.2.1.1 (by decide +kernel) ⟨by decide, by decide⟩) (PP.preV (q := (RJx4a65c, TJx4a65c, 3)) hK hW hw.1 (by decide) rfl) rfl rfl hl.1 rfl (lv_room (Nat.le_of_ble_eq_true rfl)) dX6_boat_65 ⟨by decide, by decide⟩) hW (fun r19 m20 H locs hw hW => ?_)
              refine W.eq (g2 := F0 m 70 ls [.int r19]) rfl ?_
              refine lv_bipush (v := (16 : Int32)) hx hb dX6_boat_70 (by decide) ?_
              refine lv_icmp_lt (tgt := 77) hx hb dX6_boat_72 (by decide) (fun c21 => ?_) (fun c21 => ?_)
              · have hw := hw.1 c21
                refine R_new (g := g) (mm := m20) (ci := 1) (C := RX0) (T := TX0) (N := 8) hx hb hts i1 tyX0 tyX0_ok hown (hts (.classLink RX6 119 RX0) (by decide +kernel)) (hts (.instantiable RX0 8) (by decide +kernel)) (hts (.initialized RX0) (by decide +kernel)) hK hW (by decide) rfl (fun j hj => by rcases (show j = 0 ∨ j = 1 ∨ j = 2 ∨ j = 3 ∨ j = 4 ∨ j = 5 ∨ j = 6 ∨ j = 7 by omega) with rfl | rfl | rfl | rfl | rfl | rfl | rfl | rfl <;> rfl) (by decide) (by decide) dX6_boat_77 (fun H hW => ?_)
                obtain ⟨m22, em22⟩ : ∃ z, z = nw m20 1 0 := ⟨_, rfl⟩
                rw [← em22] at hW
                have hw := hw m22 em22
                refine lv_dup hx hb dX6_boat_80 rfl ?_
                refine lv_aload_n hx hb dX6_boat_81 rfl (lv_at hl 0 rfl) ?_
                refine R_getP (C := RX6) (T := TX6) (N := 15) hx hb hts i7 hown hK hW 6 hw.1 (by decide) rfl (by decide) (hts (.fieldLink RX6 56 "BoatLift" "byNumber" "Ljava/util/List;") (by decide +kernel)) (fun _ h => h) (fun _ _ _ => rfl) hw.2.1 dX6_boat_82 ?_
                have hw := hw.2.2
                refine R_call5 (va_runF (As := []) (rest := [.ref (ad g (mS m20)), .ref (ad g (mS m20))]) (hK.1.1 0 (RJx4a65c, TJx4a65c, 3) rfl).2 ⟨hx, hb, hml, hown, hts⟩ (c_Jx4a65c_size_8abf5 l g m22 (mP m22 v0 6) _ hw.2) (va_cwF 0 hts gX6_boat_Jx4a65c_size_8abf5_f116Jx4a65c rfl rfl rfl hK.2.2.2.2.2.1.1 (by decide +kernel) ⟨by decide, by decide⟩) (PP.preV (q := (RJx4a65c, TJx4a65c, 3)) hK hW hw.1 (by decide) rfl) rfl rfl hl.1 rfl (lv_room (Nat.le_of_ble_eq_true rfl)) dX6_boat_85 ⟨by decide, by decide⟩) hW (fun r23 m24 H locs hw hW => ?_)
                refine W.eq (g2 := F0 m 90 ls [.int r23, .ref (ad g (mS m20)), .ref (ad g (mS m20))]) rfl ?_
                refine lv_iload_n hx hb dX6_boat_90 rfl (lv_at hl 1 rfl) ?_
                refine lv_iload_n hx hb dX6_boat_91 rfl (lv_at hl 2 rfl) ?_
                refine lv_iload_n hx hb dX6_boat_92 rfl (lv_at hl 3 rfl) ?_
                refine lv_iload hx hb dX6_boat_93 (lv_at hl 4 rfl) ?_
                refine lv_iload hx hb dX6_boat_95 (lv_at hl 5 rfl) ?_
                refine lv_iload hx hb dX6_boat_97 (lv_at hl 6 rfl) ?_
                refine R_call (va_runI (As := [.int r23, .int v1, .int v2, .int v3, .int v4, .int v5, .int v6]) (rest := [.ref (ad g (mS m20))]) ⟨hx, hb, hml, hown, hts⟩ (c_X0_init l g m24 (mS m20) r23 v1 v2 v3 v4 v5 v6 _ hw) (cwI 7 hts gX6_boat_X0_init rfl rfl rfl (hts (.initialized RX0) (by decide +kernel)) (hts (.methodLink RX6 121 yX0_init) (by decide +kernel)) (hts (.instanceMethod yX0_init) (by decide +kernel)) rfl (by decide +kernel) ⟨by decide, by decide⟩) (PP.pre hK hW) rfl rfl hl.1 rfl (lv_room (Nat.le_of_ble_eq_true rfl)) dX6_boat_99 ⟨by decide, by decide⟩) hW (fun _ m26 H locs hw hW => ?_)
                refine W.eq (g2 := F0 m 102 ls [.ref (ad g (mS m20))]) rfl ?_
                refine lv_astore (lv' := [(7, .ref (ad g (mS m20))), (0, .ref (ad g v0)), (1, .int v1), (2, .int v2), (3, .int v3), (4, .int v4), (5, .int v5), (6, .int v6)]) hx hb dX6_boat_102 hl (by decide) rfl (fun ls hl => ?_)
                refine lv_aload_n hx hb dX6_boat_104 rfl (lv_at hl 1 rfl) ?_
                refine R_getP (C := RX6) (T := TX6) (N := 15) hx hb hts i7 hown hK hW 6 hw.1 (by decide) rfl (by decide) (hts (.fieldLink RX6 56 "BoatLift" "byNumber" "Ljava/util/List;") (by decide +kernel)) (fun _ h => h) (fun _ _ _ => rfl) hw.2.1 dX6_boat_105 ?_
                have hw := hw.2.2
                refine lv_aload hx hb dX6_boat_108 (lv_at hl 0 rfl) ?_
                refine R_call5 (va_runF (As := [.ref (ad g (mS m20))]) (rest := []) (hK.1.1 0 (RJx4a65c, TJx4a65c, 3) rfl).2 ⟨hx, hb, hml, hown, hts⟩ (c_Jx4a65c_add_9ea2d l g m26 (mP m26 v0 6) (mS m20) _ hw.2) (va_cwF 1 hts gX6_boat_Jx4a65c_add_9ea2d_f124Jx4a65c rfl rfl rfl hK.2.2.2.2.2.1.2.2.1 (by decide +kernel) ⟨by decide, by decide⟩) (PP.preV (q := (RJx4a65c, TJx4a65c, 3)) hK hW hw.1 (by decide) rfl) rfl rfl hl.1 rfl (lv_room (Nat.le_of_ble_eq_true rfl)) dX6_boat_110 ⟨by decide, by decide⟩) hW (fun r27 m28 H locs hw hW => ?_)
                refine W.eq (g2 := F0 m 115 ls [.int r27]) rfl ?_
                refine lv_pop hx hb dX6_boat_115 rfl ?_
                refine lv_aload_n hx hb dX6_boat_116 rfl (lv_at hl 1 rfl) ?_
                refine R_getP (C := RX6) (T := TX6) (N := 15) hx hb hts i7 hown hK hW 7 hw.1 (by decide) rfl (by decide) (hts (.fieldLink RX6 60 "BoatLift" "byTurn" "Ljava/util/List;") (by decide +kernel)) (fun _ h => h) (fun _ _ _ => rfl) hw.2.1 dX6_boat_117 ?_
                have hw := hw.2.2
                refine lv_aload_n hx hb dX6_boat_120 rfl (lv_at hl 1 rfl) ?_
                refine lv_aload hx hb dX6_boat_121 (lv_at hl 0 rfl) ?_
                refine R_call (va_runV (As := [.ref (ad g (mS m20))]) (rest := [.ref (ad g (mP m28 v0 7))]) ⟨hx, hb, hml, hown, hts⟩ (c_X6_turnOf l g m28 v0 (mS m20) _ hw.2) (cwV 1 hts gX6_boat_X6_turnOf rfl rfl rfl (by decide +kernel) ⟨by decide, by decide⟩) (PP.preV (q := (RX6, TX6, 15)) hK hW hw.1 (by decide) rfl) rfl rfl hl.1 rfl (lv_room (Nat.le_of_ble_eq_true rfl)) dX6_boat_123 ⟨by decide, by decide⟩) hW (fun r29 m30 H locs hw hW => ?_)
                refine W.eq (g2 := F0 m 126 ls [.int r29, .ref (ad g (mP m28 v0 7))]) rfl ?_
                refine lv_aload hx hb dX6_boat_126 (lv_at hl 0 rfl) ?_
                refine R_call5 (va_runF (As := [.int r29, .ref (ad g (mS m20))]) (rest := []) (hK.1.1 0 (RJx4a65c, TJx4a65c, 3) rfl).2 ⟨hx, hb, hml, hown, hts⟩ (c_Jx4a65c_add_7a177 l g m30 (mP m28 v0 7) r29 (mS m20) _ hw.2) (va_cwF 2 hts gX6_boat_Jx4a65c_add_7a177_f132Jx4a65c rfl rfl rfl hK.2.2.2.2.2.1.2.2.2 (by decide +kernel) ⟨by decide, by decide⟩) (PP.preV (q := (RJx4a65c, TJx4a65c, 3)) hK hW hw.1 (by decide) rfl) rfl rfl hl.1 rfl (lv_room (Nat.le_of_ble_eq_true rfl)) dX6_boat_128 ⟨by decide, by decide⟩) hW (fun _ m32 H locs hw hW => ?_)
                refine W.eq (g2 := F0 m 133 ls []) rfl ?_
                refine lv_aload hx hb dX6_boat_133 (lv_at hl 0 rfl) ?_
                refine R_getI (C := RX0) (T := TX0) (N := 8) hx hb hts i1 hown hK hW 0 hw.1 (by decide) rfl (by decide) (hts (.fieldLink RX6 135 "BoatLift$Boat" "number" "I") (by decide +kernel)) (fun _ h => h) (fun _ _ _ => rfl) dX6_boat_135 ?_
                have hw := hw.2
                exact R_iret hx hb hr hlk hW hw dX6_boat_138
              · have hw := hw.2 c21
                refine lv_iconst (v := (-1 : Int32)) hx hb dX6_boat_75 (by decide) ?_
                refine W.widen (k := 3) (n := 72) (by decide) (by decide) ?_
                exact R_iret hx hb hr hlk hW hw dX6_boat_76
            · have hw := hw.2 c18
              refine lv_iconst (v := (-1 : Int32)) hx hb dX6_boat_59 (by decide) ?_
              refine W.widen (k := 3) (n := 72) (by decide) (by decide) ?_
              exact R_iret hx hb hr hlk hW hw dX6_boat_60
      · have hw := hw.2 c9
        refine lv_iconst (v := (-1 : Int32)) hx hb dX6_boat_24 (by decide) ?_
        refine W.widen (k := 3) (n := 72) (by decide) (by decide) ?_
        exact R_iret hx hb hr hlk hW hw dX6_boat_25
