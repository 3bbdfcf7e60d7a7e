def wp_X3_init (m0 : Mm) (v0 : Nat) (Φ : Unit → Mm → Prop) : Prop :=
  ∀ m1 : Mm, m1 = nw m0 9 60 → mT m1 v0 = 4 ∧ (mS m0) ≠ 0 ∧ ∀ m2 : Mm, m2 = sP m1 v0 0 (mS m0) → Φ () m2
abbrev rm_X3_init : Room := { frames := 1, cells := 1, slots := 60, locals := 20 }
set_option maxHeartbeats 4000000 in
set_option maxRecDepth 100000 in
theorem c_X3_init (l : Launch) (g : Gv) (m0 : Mm) (v0 : Nat) (Φ : Unit → Mm → Prop) (hw : wp_X3_init m0 v0 Φ) : Met l yX3_init wsX3_init rm_X3_init (PP g [.ref (ad g v0)] m0) (QQ g vV Φ) 1 60 (Ag g) := by
  refine CT_of (by decide +kernel) rfl (Nat.le_of_ble_eq_true rfl) ?_
  intro p e s m below meth c hx hb hr hml hown hts hlk hnm hK hW ls hl
  have hown : s.vm.findClass RX3 = some m.cls := hown
  have hl : lv_has ls 1 [(0, .ref (ad g v0))] := hl
  have i4 : ∀ w ∈ u_ws RX3 TX3 2, w ∈ wsX3_init := by decide +kernel
  unfold wp_X3_init at hw
  refine lv_aload_n hx hb dX3_init_0 rfl (lv_at hl 0 rfl) ?_
  refine W.objInit hx hb hown (hts (.methodLink RX3 3 objectInit) (by decide +kernel)) (hts (.instanceMethod objectInit) (by decide +kernel)) (hts (.code objectInit ⟨#[0xb1]⟩ 1 none) (by decide +kernel)) rfl (by rw [hml]; exact hl.1) rfl dX3_init_1 (Nat.le_of_ble_eq_true rfl) (Nat.le_of_ble_eq_true rfl) ?_
  refine W.eq (g2 := F0 m 4 ls []) rfl ?_
  refine lv_aload_n hx hb dX3_init_4 rfl (lv_at hl 0 rfl) ?_
  refine lv_bipush (v := (60 : Int32)) hx hb dX3_init_5 (by decide) ?_
  refine R_newI hx hb (hts (.arrayClass .int) (by decide +kernel)) hK hW 60 (by decide) (by decide) (by decide) (by decide) (by decide) dX3_init_7 (fun H hW => ?_)
  obtain ⟨m1, em1⟩ : ∃ z, z = nw m0 9 60 := ⟨_, rfl⟩
  rw [← em1] at hW
  have hw := hw m1 em1
  refine R_putP (C := RX3) (T := TX3) (N := 2) hx hb hts i4 tyX3 tyX3_ok nmX3 hown hK hW 0 hw.1 (by decide) rfl (by decide) (hts (.fieldLink RX3 11 "BoatLift$Tape" "bytes" "[I") (by decide +kernel)) (fun _ h => h) (Or.inr ⟨rfl, hnm, rfl⟩) (Or.inr ⟨_, rfl⟩) hw.2.1 (fun _ _ _ => rfl) (fun _ _ _ => rfl) dX3_init_9 (fun H locs hW => ?_)
  obtain ⟨m2, em2⟩ : ∃ z, z = sP m1 v0 0 (mS m0) := ⟨_, rfl⟩
  rw [← em2] at hW
  have hw := hw.2.2 m2 em2
  exact R_vret hx hb hr hlk hW hw dX3_init_12

def wp_X1_init (m0 : Mm) (v0 : Nat) (v1 : Nat) (Φ : Unit → Mm → Prop) : Prop :=
  ∀ m1 : Mm, m1 = rI (nw m0 9 6) (mS m0) (mI m0 3) → mT m1 (mS m0) = 9 ∧ mT m1 v0 = 2 ∧ (mS m0) ≠ 0 ∧ ∀ m2 : Mm, m2 = sP m1 v0 1 (mS m0) → ∀ m3 : Mm, m3 = rI (nw m2 9 6) (mS m2) (mI m2 3) → mT m3 (mS m2) = 9 ∧ mT m3 v0 = 2 ∧ (mS m2) ≠ 0 ∧ ∀ m4 : Mm, m4 = sP m3 v0 2 (mS m2) → mT m4 v0 = 2 ∧ v1 ≠ 0 ∧ ∀ m5 : Mm, m5 = sP m4 v0 0 v1 → Φ () m5
abbrev rm_X1_init : Room := { frames := 1, cells := 2, slots := 12, locals := 60 }
set_option maxHeartbeats 4000000 in
set_option maxRecDepth 100000 in
theorem c_X1_init (l : Launch) (g : Gv) (m0 : Mm) (v0 : Nat) (v1 : Nat) (Φ : Unit → Mm → Prop) (hw : wp_X1_init m0 v0 v1 Φ) : Met l yX1_init wsX1_init rm_X1_init (PP g [.ref (ad g v0), .ref (ad g v1)] m0) (QQ g vV Φ) 2 12 (Ag g) := by
  refine CT_of (by decide +kernel) rfl (Nat.le_of_ble_eq_true rfl) ?_
  intro p e s m below meth c hx hb hr hml hown hts hlk hnm hK hW ls hl
  have hown : s.vm.findClass RX1 = some m.cls := hown
  have hl : lv_has ls 2 [(0, .ref (ad g v0)), (1, .ref (ad g v1))] := hl
  have i2 : ∀ w ∈ u_ws RX1 TX1 5, w ∈ wsX1_init := by decide +kernel
  unfold wp_X1_init at hw
  refine lv_aload_n hx hb dX1_init_0 rfl (lv_at hl 0 rfl) ?_
  refine W.objInit hx hb hown (hts (.methodLink RX1 3 objectInit) (by decide +kernel)) (hts (.instanceMethod objectInit) (by decide +kernel)) (hts (.code objectInit ⟨#[0xb1]⟩ 1 none) (by decide +kernel)) rfl (by rw [hml]; exact hl.1) rfl dX1_init_1 (Nat.le_of_ble_eq_true rfl) (Nat.le_of_ble_eq_true rfl) ?_
  refine W.eq (g2 := F0 m 4 ls []) rfl ?_
  refine lv_aload_n hx hb dX1_init_4 rfl (lv_at hl 0 rfl) ?_
  refine R_gets hx hb hK.2.2.1.1 hW hown (hts (.fieldLink RX1 9 "BoatLift$Law" "FIRST" "[I") (by decide +kernel)) dX1_init_5 ?_
  refine R_cloneF hx hb (by rw [hml]; exact hl.1.symm) hown (hts (.methodLink RX1 15 ⟨"[I", "clone", "()Ljava/lang/Object;"⟩) (by decide +kernel)) (hts (.sameMethod "[I" "java/lang/Object" "clone" "()Ljava/lang/Object;") (by decide +kernel)) (hts (.native ⟨"java/lang/Object", "clone", "()Ljava/lang/Object;"⟩) (by decide +kernel)) (hts (.instanceMethod ⟨"java/lang/Object", "clone", "()Ljava/lang/Object;"⟩) (by decide +kernel)) (hts (.selects "[I" ⟨"[I", "clone", "()Ljava/lang/Object;"⟩ ⟨"java/lang/Object", "clone", "()Ljava/lang/Object;"⟩) (by decide +kernel)) hK hW (Nat.le_of_ble_eq_true rfl) (Nat.le_of_ble_eq_true rfl) (Nat.le_of_ble_eq_true rfl) (Nat.le_of_ble_eq_true rfl) dX1_init_8 (fun H hW => ?_)
  obtain ⟨m1, em1⟩ : ∃ z, z = rI (nw m0 9 6) (mS m0) (mI m0 3) := ⟨_, rfl⟩
  rw [← em1] at hW
  have hw := hw m1 em1
  refine R_castI hx hb hown (hts (.classLink RX1 16 "[I") (by decide +kernel)) hK hW hw.1 dX1_init_11 ?_
  have hw := hw.2
  refine R_putP (C := RX1) (T := TX1) (N := 5) hx hb hts i2 tyX1 tyX1_ok nmX1 hown hK hW 1 hw.1 (by decide) rfl (by decide) (hts (.fieldLink RX1 20 "BoatLift$Law" "numbers" "[I") (by decide +kernel)) (fun _ h => h) (Or.inr ⟨rfl, hnm, rfl⟩) (Or.inr ⟨_, rfl⟩) hw.2.1 (fun _ _ _ => rfl) (fun _ _ _ => rfl) dX1_init_14 (fun H locs hW => ?_)
  obtain ⟨m2, em2⟩ : ∃ z, z = sP m1 v0 1 (mS m0) := ⟨_, rfl⟩
  rw [← em2] at hW
  have hw := hw.2.2 m2 em2
  refine lv_aload_n hx hb dX1_init_17 rfl (lv_at hl 0 rfl) ?_
  refine R_gets hx hb hK.2.2.1.1 hW hown (hts (.fieldLink RX1 9 "BoatLift$Law" "FIRST" "[I") (by decide +kernel)) dX1_init_18 ?_
  refine R_cloneF hx hb (by rw [hml]; exact hl.1.symm) hown (hts (.methodLink RX1 15 ⟨"[I", "clone", "()Ljava/lang/Object;"⟩) (by decide +kernel)) (hts (.sameMethod "[I" "java/lang/Object" "clone" "()Ljava/lang/Object;") (by decide +kernel)) (hts (.native ⟨"java/lang/Object", "clone", "()Ljava/lang/Object;"⟩) (by decide +kernel)) (hts (.instanceMethod ⟨"java/lang/Object", "clone", "()Ljava/lang/Object;"⟩) (by decide +kernel)) (hts (.selects "[I" ⟨"[I", "clone", "()Ljava/lang/Object;"⟩ ⟨"java/lang/Object", "clone", "()Ljava/lang/Object;"⟩) (by decide +kernel)) hK hW (Nat.le_of_ble_eq_true rfl) (Nat.le_of_ble_eq_true rfl) (Nat.le_of_ble_eq_true rfl) (Nat.le_of_ble_eq_true rfl) dX1_init_21 (fun H hW => ?_)
  obtain ⟨m3, em3⟩ : ∃ z, z = rI (nw m2 9 6) (mS m2) (mI m2 3) := ⟨_, rfl⟩
  rw [← em3] at hW
  have hw := hw m3 em3
  refine R_castI hx hb hown (hts (.classLink RX1 16 "[I") (by decide +kernel)) hK hW hw.1 dX1_init_24 ?_
  have hw := hw.2
  refine R_putP (C := RX1) (T := TX1) (N := 5) hx hb hts i2 tyX1 tyX1_ok nmX1 hown hK hW 2 hw.1 (by decide) rfl (by decide) (hts (.fieldLink RX1 23 "BoatLift$Law" "draft" "[I") (by decide +kernel)) (fun _ h => h) (Or.inr ⟨rfl, hnm, rfl⟩) (Or.inr ⟨_, rfl⟩) hw.2.1 (fun _ _ _ => rfl) (fun _ _ _ => rfl) dX1_init_27 (fun H locs hW => ?_)
  obtain ⟨m4, em4⟩ : ∃ z, z = sP m3 v0 2 (mS m2) := ⟨_, rfl⟩
  rw [← em4] at hW
  have hw := hw.2.2 m4 em4
  refine lv_aload_n hx hb dX1_init_30 rfl (lv_at hl 0 rfl) ?_
  refine lv_aload_n hx hb dX1_init_31 rfl (lv_at hl 1 rfl) ?_
  refine R_putP (C := RX1) (T := TX1) (N := 5) hx hb hts i2 tyX1 tyX1_ok nmX1 hown hK hW 0 hw.1 (by decide) rfl (by decide) (hts (.fieldLink RX1 26 "BoatLift$Law" "tape" "LBoatLift$Tape;") (by decide +kernel)) (fun _ h => h) (Or.inr ⟨rfl, hnm, rfl⟩) (Or.inl ⟨_, rfl⟩) hw.2.1 (fun _ _ _ => rfl) (fun _ _ _ => rfl) dX1_init_32 (fun H locs hW => ?_)
  obtain ⟨m5, em5⟩ : ∃ z, z = sP m4 v0 0 v1 := ⟨_, rfl⟩
  rw [← em5] at hW
  have hw := hw.2.2 m5 em5
  exact R_vret hx hb hr hlk hW hw dX1_init_35

def wp_X4_init (m0 : Mm) (v0 : Nat) (v1 : Nat) (Φ : Unit → Mm → Prop) : Prop :=
  ∀ m1 : Mm, m1 = nw m0 9 8 → mT m1 v0 = 5 ∧ (mS m0) ≠ 0 ∧ ∀ m2 : Mm, m2 = sP m1 v0 1 (mS m0) → ∀ m3 : Mm, m3 = nw m2 9 8 → mT m3 v0 = 5 ∧ (mS m2) ≠ 0 ∧ ∀ m4 : Mm, m4 = sP m3 v0 2 (mS m2) → mT m4 v0 = 5 ∧ v1 ≠ 0 ∧ ∀ m5 : Mm, m5 = sP m4 v0 0 v1 → Φ () m5
abbrev rm_X4_init : Room := { frames := 1, cells := 2, slots := 16, locals := 20 }
set_option maxHeartbeats 4000000 in
set_option maxRecDepth 100000 in
theorem c_X4_init (l : Launch) (g : Gv) (m0 : Mm) (v0 : Nat) (v1 : Nat) (Φ : Unit → Mm → Prop) (hw : wp_X4_init m0 v0 v1 Φ) : Met l yX4_init wsX4_init rm_X4_init (PP g [.ref (ad g v0), .ref (ad g v1)] m0) (QQ g vV Φ) 2 16 (Ag g) := by
  refine CT_of (by decide +kernel) rfl (Nat.le_of_ble_eq_true rfl) ?_
  intro p e s m below meth c hx hb hr hml hown hts hlk hnm hK hW ls hl
  have hown : s.vm.findClass RX4 = some m.cls := hown
  have hl : lv_has ls 2 [(0, .ref (ad g v0)), (1, .ref (ad g v1))] := hl
  have i5 : ∀ w ∈ u_ws RX4 TX4 4, w ∈ wsX4_init := by decide +kernel
  unfold wp_X4_init at hw
  refine lv_aload_n hx hb dX4_init_0 rfl (lv_at hl 0 rfl) ?_
  refine W.objInit hx hb hown (hts (.methodLink RX4 1 objectInit) (by decide +kernel)) (hts (.instanceMethod objectInit) (by decide +kernel)) (hts (.code objectInit ⟨#[0xb1]⟩ 1 none) (by decide +kernel)) rfl (by rw [hml]; exact hl.1) rfl dX4_init_1 (Nat.le_of_ble_eq_true rfl) (Nat.le_of_ble_eq_true rfl) ?_
  refine W.eq (g2 := F0 m 4 ls []) rfl ?_
  refine lv_aload_n hx hb dX4_init_4 rfl (lv_at hl 0 rfl) ?_
  refine lv_bipush (v := (8 : Int32)) hx hb dX4_init_5 (by decide) ?_
  refine R_newI hx hb (hts (.arrayClass .int) (by decide +kernel)) hK hW 8 (by decide) (by decide) (by decide) (by decide) (by decide) dX4_init_7 (fun H hW => ?_)
  obtain ⟨m1, em1⟩ : ∃ z, z = nw m0 9 8 := ⟨_, rfl⟩
  rw [← em1] at hW
  have hw := hw m1 em1
  refine R_putP (C := RX4) (T := TX4) (N := 4) hx hb hts i5 tyX4 tyX4_ok nmX4 hown hK hW 1 hw.1 (by decide) rfl (by decide) (hts (.fieldLink RX4 9 "BoatLift$Timetable" "iceFrom" "[I") (by decide +kernel)) (fun _ h => h) (Or.inr ⟨rfl, hnm, rfl⟩) (Or.inr ⟨_, rfl⟩) hw.2.1 (fun _ _ _ => rfl) (fun _ _ _ => rfl) dX4_init_9 (fun H locs hW => ?_)
  obtain ⟨m2, em2⟩ : ∃ z, z = sP m1 v0 1 (mS m0) := ⟨_, rfl⟩
  rw [← em2] at hW
  have hw := hw.2.2 m2 em2
  refine lv_aload_n hx hb dX4_init_12 rfl (lv_at hl 0 rfl) ?_
  refine lv_bipush (v := (8 : Int32)) hx hb dX4_init_13 (by decide) ?_
  refine R_newI hx hb (hts (.arrayClass .int) (by decide +kernel)) hK hW 8 (by decide) (by decide) (by decide) (by decide) (by decide) dX4_init_15 (fun H hW => ?_)
  obtain ⟨m3, em3⟩ : ∃ z, z = nw m2 9 8 := ⟨_, rfl⟩
  rw [← em3] at hW
  have hw := hw m3 em3
  refine R_putP (C := RX4) (T := TX4) (N := 4) hx hb hts i5 tyX4 tyX4_ok nmX4 hown hK hW 2 hw.1 (by decide) rfl (by decide) (hts (.fieldLink RX4 13 "BoatLift$Timetable" "iceTo" "[I") (by decide +kernel)) (fun _ h => h) (Or.inr ⟨rfl, hnm, rfl⟩) (Or.inr ⟨_, rfl⟩) hw.2.1 (fun _ _ _ => rfl) (fun _ _ _ => rfl) dX4_init_17 (fun H locs hW => ?_)
  obtain ⟨m4, em4⟩ : ∃ z, z = sP m3 v0 2 (mS m2) := ⟨_, rfl⟩
  rw [← em4] at hW
  have hw := hw.2.2 m4 em4
  refine lv_aload_n hx hb dX4_init_20 rfl (lv_at hl 0 rfl) ?_
  refine lv_aload_n hx hb dX4_init_21 rfl (lv_at hl 1 rfl) ?_
  refine R_putP (C := RX4) (T := TX4) (N := 4) hx hb hts i5 tyX4 tyX4_ok nmX4 hown hK hW 0 hw.1 (by decide) rfl (by decide) (hts (.fieldLink RX4 16 "BoatLift$Timetable" "rules" "LBoatLift$Law;") (by decide +kernel)) (fun _ h => h) (Or.inr ⟨rfl, hnm, rfl⟩) (Or.inl ⟨_, rfl⟩) hw.2.1 (fun _ _ _ => rfl) (fun _ _ _ => rfl) dX4_init_22 (fun H locs hW => ?_)
  obtain ⟨m5, em5⟩ : ∃ z, z = sP m4 v0 0 v1 := ⟨_, rfl⟩
  rw [← em5] at hW
  have hw := hw.2.2 m5 em5
  exact R_vret hx hb hr hlk hW hw dX4_init_25

def wp_X2_init (m0 : Mm) (v0 : Nat) (v1 : Nat) (Φ : Unit → Mm → Prop) : Prop :=
  ∀ m1 : Mm, m1 = nw m0 9 6 → mT m1 v0 = 3 ∧ (mS m0) ≠ 0 ∧ ∀ m2 : Mm, m2 = sP m1 v0 1 (mS m0) → ∀ m3 : Mm, m3 = nw m2 9 6 → mT m3 v0 = 3 ∧ (mS m2) ≠ 0 ∧ ∀ m4 : Mm, m4 = sP m3 v0 2 (mS m2) → ∀ m5 : Mm, m5 = nw m4 9 6 → mT m5 v0 = 3 ∧ (mS m4) ≠ 0 ∧ ∀ m6 : Mm, m6 = sP m5 v0 3 (mS m4) → ∀ m7 : Mm, m7 = nw m6 9 91 → mT m7 v0 = 3 ∧ (mS m6) ≠ 0 ∧ ∀ m8 : Mm, m8 = sP m7 v0 4 (mS m6) → mT m8 v0 = 3 ∧ v1 ≠ 0 ∧ ∀ m9 : Mm, m9 = sP m8 v0 0 v1 → Φ () m9
abbrev rm_X2_init : Room := { frames := 1, cells := 4, slots := 109, locals := 20 }
set_option maxHeartbeats 4000000 in
set_option maxRecDepth 100000 in
theorem c_X2_init (l : Launch) (g : Gv) (m0 : Mm) (v0 : Nat) (v1 : Nat) (Φ : Unit → Mm → Prop) (hw : wp_X2_init m0 v0 v1 Φ) : Met l yX2_init wsX2_init rm_X2_init (PP g [.ref (ad g v0), .ref (ad g v1)] m0) (QQ g vV Φ) 4 109 (Ag g) := by
  refine CT_of (by decide +kernel) rfl (Nat.le_of_ble_eq_true rfl) ?_
  intro p e s m below meth c hx hb hr hml hown hts hlk hnm hK hW ls hl
  have hown : s.vm.findClass RX2 = some m.cls := hown
  have hl : lv_has ls 2 [(0, .ref (ad g v0)), (1, .ref (ad g v1))] := hl
  have i3 : ∀ w ∈ u_ws RX2 TX2 9, w ∈ wsX2_init := by decide +kernel
  unfold wp_X2_init at hw
  refine lv_aload_n hx hb dX2_init_0 rfl (lv_at hl 0 rfl) ?_
  refine W.objInit hx hb hown (hts (.methodLink RX2 5 objectInit) (by decide +kernel)) (hts (.instanceMethod objectInit) (by decide +kernel)) (hts (.code objectInit ⟨#[0xb1]⟩ 1 none) (by decide +kernel)) rfl (by rw [hml]; exact hl.1) rfl dX2_init_1 (Nat.le_of_ble_eq_true rfl) (Nat.le_of_ble_eq_true rfl) ?_
  refine W.eq (g2 := F0 m 4 ls []) rfl ?_
  refine lv_aload_n hx hb dX2_init_4 rfl (lv_at hl 0 rfl) ?_
  refine lv_bipush (v := (6 : Int32)) hx hb dX2_init_5 (by decide) ?_
  refine R_newI hx hb (hts (.arrayClass .int) (by decide +kernel)) hK hW 6 (by decide) (by decide) (by decide) (by decide) (by decide) dX2_init_7 (fun H hW => ?_)
  obtain ⟨m1, em1⟩ : ∃ z, z = nw m0 9 6 := ⟨_, rfl⟩
  rw [← em1] at hW
  have hw := hw m1 em1
  refine R_putP (C := RX2) (T := TX2) (N := 9) hx hb hts i3 tyX2 tyX2_ok nmX2 hown hK hW 1 hw.1 (by decide) rfl (by decide) (hts (.fieldLink RX2 11 "BoatLift$Planner" "sides" "[I") (by decide +kernel)) (fun _ h => h) (Or.inr ⟨rfl, hnm, rfl⟩) (Or.inr ⟨_, rfl⟩) hw.2.1 (fun _ _ _ => rfl) (fun _ _ _ => rfl) dX2_init_9 (fun H locs hW => ?_)
  obtain ⟨m2, em2⟩ : ∃ z, z = sP m1 v0 1 (mS m0) := ⟨_, rfl⟩
  rw [← em2] at hW
  have hw := hw.2.2 m2 em2
  refine lv_aload_n hx hb dX2_init_12 rfl (lv_at hl 0 rfl) ?_
  refine lv_bipush (v := (6 : Int32)) hx hb dX2_init_13 (by decide) ?_
  refine R_newI hx hb (hts (.arrayClass .int) (by decide +kernel)) hK hW 6 (by decide) (by decide) (by decide) (by decide) (by decide) dX2_init_15 (fun H hW => ?_)
  obtain ⟨m3, em3⟩ : ∃ z, z = nw m2 9 6 := ⟨_, rfl⟩
  rw [← em3] at hW
  have hw := hw m3 em3
  refine R_putP (C := RX2) (T := TX2) (N := 9) hx hb hts i3 tyX2 tyX2_ok nmX2 hown hK hW 2 hw.1 (by decide) rfl (by decide) (hts (.fieldLink RX2 15 "BoatLift$Planner" "comes" "[I") (by decide +kernel)) (fun _ h => h) (Or.inr ⟨rfl, hnm, rfl⟩) (Or.inr ⟨_, rfl⟩) hw.2.1 (fun _ _ _ => rfl) (fun _ _ _ => rfl) dX2_init_17 (fun H locs hW => ?_)
  obtain ⟨m4, em4⟩ : ∃ z, z = sP m3 v0 2 (mS m2) := ⟨_, rfl⟩
  rw [← em4] at hW
  have hw := hw.2.2 m4 em4
  refine lv_aload_n hx hb dX2_init_20 rfl (lv_at hl 0 rfl) ?_
  refine lv_bipush (v := (6 : Int32)) hx hb dX2_init_21 (by decide) ?_
  refine R_newI hx hb (hts (.arrayClass .int) (by decide +kernel)) hK hW 6 (by decide) (by decide) (by decide) (by decide) (by decide) dX2_init_23 (fun H hW => ?_)
  obtain ⟨m5, em5⟩ : ∃ z, z = nw m4 9 6 := ⟨_, rfl⟩
  rw [← em5] at hW
  have hw := hw m5 em5
  refine R_putP (C := RX2) (T := TX2) (N := 9) hx hb hts i3 tyX2 tyX2_ok nmX2 hown hK hW 3 hw.1 (by decide) rfl (by decide) (hts (.fieldLink RX2 18 "BoatLift$Planner" "lengths" "[I") (by decide +kernel)) (fun _ h => h) (Or.inr ⟨rfl, hnm, rfl⟩) (Or.inr ⟨_, rfl⟩) hw.2.1 (fun _ _ _ => rfl) (fun _ _ _ => rfl) dX2_init_25 (fun H locs hW => ?_)
  obtain ⟨m6, em6⟩ : ∃ z, z = sP m5 v0 3 (mS m4) := ⟨_, rfl⟩
  rw [← em6] at hW
  have hw := hw.2.2 m6 em6
  refine lv_aload_n hx hb dX2_init_28 rfl (lv_at hl 0 rfl) ?_
  refine lv_bipush (v := (91 : Int32)) hx hb dX2_init_29 (by decide) ?_
  refine R_newI hx hb (hts (.arrayClass .int) (by decide +kernel)) hK hW 91 (by decide) (by decide) (by decide) (by decide) (by decide) dX2_init_31 (fun H hW => ?_)
  obtain ⟨m7, em7⟩ : ∃ z, z = nw m6 9 91 := ⟨_, rfl⟩
  rw [← em7] at hW
  have hw := hw m7 em7
  refine R_putP (C := RX2) (T := TX2) (N := 9) hx hb hts i3 tyX2 tyX2_ok nmX2 hown hK hW 4 hw.1 (by decide) rfl (by decide) (hts (.fieldLink RX2 21 "BoatLift$Planner" "minutes" "[I") (by decide +kernel)) (fun _ h => h) (Or.inr ⟨rfl, hnm, rfl⟩) (Or.inr ⟨_, rfl⟩) hw.2.1 (fun _ _ _ => rfl) (fun _ _ _ => rfl) dX2_init_33 (fun H locs hW => ?_)
  obtain ⟨m8, em8⟩ : ∃ z, z = sP m7 v0 4 (mS m6) := ⟨_, rfl⟩
  rw [← em8] at hW
  have hw := hw.2.2 m8 em8
  refine lv_aload_n hx hb dX2_init_36 rfl (lv_at hl 0 rfl) ?_
  refine lv_aload_n hx hb dX2_init_37 rfl (lv_at hl 1 rfl) ?_
  refine R_putP (C := RX2) (T := TX2) (N := 9) hx hb hts i3 tyX2 tyX2_ok nmX2 hown hK hW 0 hw.1 (by decide) rfl (by decide) (hts (.fieldLink RX2 24 "BoatLift$Planner" "timetable" "LBoatLift$Timetable;") (by decide +kernel)) (fun _ h => h) (Or.inr ⟨rfl, hnm, rfl⟩) (Or.inl ⟨_, rfl⟩) hw.2.1 (fun _ _ _ => rfl) (fun _ _ _ => rfl) dX2_init_38 (fun H locs hW => ?_)
  obtain ⟨m9, em9⟩ : ∃ z, z = sP m8 v0 0 v1 := ⟨_, rfl⟩
  rw [← em9] at hW
  have hw := hw.2.2 m9 em9
  exact R_vret hx hb hr hlk hW hw dX2_init_41

def wp_X5_init (m0 : Mm) (v0 : Nat) (Φ : Unit → Mm → Prop) : Prop :=
  mT m0 v0 = 6 ∧ ∀ m1 : Mm, m1 = sI m0 v0 0 (1000 : Int32) → Φ () m1
abbrev rm_X5_init : Room := { frames := 1, cells := 0, slots := 0, locals := 20 }
set_option maxHeartbeats 4000000 in
set_option maxRecDepth 100000 in
theorem c_X5_init (l : Launch) (g : Gv) (m0 : Mm) (v0 : Nat) (Φ : Unit → Mm → Prop) (hw : wp_X5_init m0 v0 Φ) : Met l yX5_init wsX5_init rm_X5_init (PP g [.ref (ad g v0)] m0) (QQ g vV Φ) 0 0 (Ag g) := by
  refine CT_of (by decide +kernel) rfl (Nat.le_of_ble_eq_true rfl) ?_
  intro p e s m below meth c hx hb hr hml hown hts hlk hnm hK hW ls hl
  have hown : s.vm.findClass RX5 = some m.cls := hown
  have hl : lv_has ls 1 [(0, .ref (ad g v0))] := hl
  have i6 : ∀ w ∈ u_ws RX5 TX5 2, w ∈ wsX5_init := by decide +kernel
  unfold wp_X5_init at hw
  refine lv_aload_n hx hb dX5_init_0 rfl (lv_at hl 0 rfl) ?_
  refine W.objInit hx hb hown (hts (.methodLink RX5 1 objectInit) (by decide +kernel)) (hts (.instanceMethod objectInit) (by decide +kernel)) (hts (.code objectInit ⟨#[0xb1]⟩ 1 none) (by decide +kernel)) rfl (by rw [hml]; exact hl.1) rfl dX5_init_1 (Nat.le_of_ble_eq_true rfl) (Nat.le_of_ble_eq_true rfl) ?_
  refine W.eq (g2 := F0 m 4 ls []) rfl ?_
  refine lv_aload_n hx hb dX5_init_4 rfl (lv_at hl 0 rfl) ?_
  refine lv_sipush (v := (1000 : Int32)) hx hb dX5_init_5 (by decide) ?_
  refine R_putI (C := RX5) (T := TX5) (N := 2) hx hb hts i6 tyX5 tyX5_ok nmX5 hown hK hW 0 hw.1 (by decide) rfl (by decide) (hts (.fieldLink RX5 7 "BoatLift$Water" "area" "I") (by decide +kernel)) (fun _ h => h) (Or.inl rfl) rfl (fun _ _ _ => rfl) (fun _ _ _ => rfl) dX5_init_8 (fun H locs hW => ?_)
  obtain ⟨m1, em1⟩ : ∃ z, z = sI m0 v0 0 (1000 : Int32) := ⟨_, rfl⟩
  rw [← em1] at hW
  have hw := hw.2 m1 em1
  exact R_vret hx hb hr hlk hW hw dX5_init_11

def wp_Jxa1e45_init_da8c8 (m0 : Mm) (v0 : Nat) (Φ : Unit → Mm → Prop) : Prop :=
  Φ () m0
abbrev rm_Jxa1e45_init_da8c8 : Room := { frames := 1, cells := 0, slots := 0, locals := 20 }
set_option maxHeartbeats 4000000 in
set_option maxRecDepth 100000 in
theorem c_Jxa1e45_init_da8c8 (l : Launch) (g : Gv) (m0 : Mm) (v0 : Nat) (Φ : Unit → Mm → Prop) (hw : wp_Jxa1e45_init_da8c8 m0 v0 Φ) : Met l yJxa1e45_init_da8c8 wsJxa1e45_init_da8c8 rm_Jxa1e45_init_da8c8 (PP g [.ref (ad g v0)] m0) (QQ g vV Φ) 0 0 (Ag g) := by
  refine CT_of (by decide +kernel) rfl (Nat.le_of_ble_eq_true rfl) ?_
  intro p e s m below meth c hx hb hr hml hown hts hlk hnm hK hW ls hl
  have hown : s.vm.findClass RJxa1e45 = some m.cls := hown
  have hl : lv_has ls 1 [(0, .ref (ad g v0))] := hl
  unfold wp_Jxa1e45_init_da8c8 at hw
  refine lv_aload_n hx hb dJxa1e45_init_da8c8_0 rfl (lv_at hl 0 rfl) ?_
  refine W.objInit hx hb hown (hts (.methodLink RJxa1e45 1 objectInit) (by decide +kernel)) (hts (.instanceMethod objectInit) (by decide +kernel)) (hts (.code objectInit ⟨#[0xb1]⟩ 1 none) (by decide +kernel)) rfl (by rw [hml]; exact hl.1) rfl dJxa1e45_init_da8c8_1 (Nat.le_of_ble_eq_true rfl) (Nat.le_of_ble_eq_true rfl) ?_
  refine W.eq (g2 := F0 m 4 ls []) rfl ?_
  exact R_vret hx hb hr hlk hW hw dJxa1e45_init_da8c8_4

def wp_Jxc12de_init_da8c8 (m0 : Mm) (v0 : Nat) (Φ : Unit → Mm → Prop) : Prop :=
  wp_Jxa1e45_init_da8c8 m0 v0 (fun (_ : Unit) (m2 : Mm) => mT m2 v0 = 0 ∧ ∀ m3 : Mm, m3 = sI m2 v0 0 (0 : Int32) → Φ () m3)
abbrev rm_Jxc12de_init_da8c8 : Room := { frames := 2, cells := 0, slots := 0, locals := 40 }
set_option maxHeartbeats 4000000 in
set_option maxRecDepth 100000 in
theorem c_Jxc12de_init_da8c8 (l : Launch) (g : Gv) (m0 : Mm) (v0 : Nat) (Φ : Unit → Mm → Prop) (hw : wp_Jxc12de_init_da8c8 m0 v0 Φ) : Met l yJxc12de_init_da8c8 wsJxc12de_init_da8c8 rm_Jxc12de_init_da8c8 (PP g [.ref (ad g v0)] m0) (QQ g vV Φ) 0 0 (Ag g) := by
  refine CT_of (by decide +kernel) rfl (Nat.le_of_ble_eq_true rfl) ?_
  intro p e s m below meth c hx hb hr hml hown hts hlk hnm hK hW ls hl
  have hown : s.vm.findClass RJxc12de = some m.cls := hown
  have hl : lv_has ls 1 [(0, .ref (ad g v0))] := hl
  have i0 : ∀ w ∈ u_ws RJx4a65c TJx4a65c 3, w ∈ wsJxc12de_init_da8c8 := by decide +kernel
  unfold wp_Jxc12de_init_da8c8 at hw
  refine lv_aload_n hx hb dJxc12de_init_da8c8_0 rfl (lv_at hl 0 rfl) ?_
  refine R_call (va_runI (As := []) (rest := []) ⟨hx, hb, hml, hown, hts⟩ (c_Jxa1e45_init_da8c8 l g m0 v0 _ hw) (cwI 0 hts gJxc12de_init_da8c8_Jxa1e45_init_da8c8 rfl rfl rfl (hts (.initialized RJxa1e45) (by decide +kernel)) (hts (.methodLink RJxc12de 1 yJxa1e45_init_da8c8) (by decide +kernel)) (hts (.instanceMethod yJxa1e45_init_da8c8) (by decide +kernel)) rfl (by decide +kernel) ⟨by decide, by decide⟩) (PP.pre hK hW) rfl rfl hl.1 rfl (lv_room (Nat.le_of_ble_eq_true rfl)) dJxc12de_init_da8c8_1 ⟨by decide, by decide⟩) hW (fun _ m2 H locs hw hW => ?_)
  refine W.eq (g2 := F0 m 4 ls []) rfl ?_
  refine lv_aload_n hx hb dJxc12de_init_da8c8_4 rfl (lv_at hl 0 rfl) ?_
  refine lv_iconst (v := (0 : Int32)) hx hb dJxc12de_init_da8c8_5 (by decide) ?_
  refine R_putI (C := RJx4a65c) (T := TJx4a65c) (N := 3) hx hb hts i0 tyJx4a65c tyJx4a65c_ok nmJx4a65c hown hK hW 0 hw.1 (by decide) rfl (by decide) (hts (.fieldLink RJxc12de 7 "java/util/AbstractList" "modCount" "I") (by decide +kernel)) (fun _ h => h) (Or.inl rfl) rfl (fun _ _ _ => rfl) (fun _ _ _ => rfl) dJxc12de_init_da8c8_6 (fun H locs hW => ?_)
  obtain ⟨m3, em3⟩ : ∃ z, z = sI m2 v0 0 (0 : Int32) := ⟨_, rfl⟩
  rw [← em3] at hW
  have hw := hw.2 m3 em3
  exact R_vret hx hb hr hlk hW hw dJxc12de_init_da8c8_9

def wp_Jx4a65c_init_da8c8 (m0 : Mm) (v0 : Nat) (Φ : Unit → Mm → Prop) : Prop :=
  wp_Jxc12de_init_da8c8 m0 v0 (fun (_ : Unit) (m2 : Mm) => mT m2 v0 = 0 ∧ 1 ≠ 0 ∧ ∀ m3 : Mm, m3 = sP m2 v0 1 1 → Φ () m3)
abbrev rm_Jx4a65c_init_da8c8 : Room := { frames := 3, cells := 0, slots := 0, locals := 60 }
set_option maxHeartbeats 4000000 in
set_option maxRecDepth 100000 in
theorem c_Jx4a65c_init_da8c8 (l : Launch) (g : Gv) (m0 : Mm) (v0 : Nat) (Φ : Unit → Mm → Prop) (hw : wp_Jx4a65c_init_da8c8 m0 v0 Φ) : Met l yJx4a65c_init_da8c8 wsJx4a65c_init_da8c8 rm_Jx4a65c_init_da8c8 (PP g [.ref (ad g v0)] m0) (QQ g vV Φ) 0 0 (Ag g) := by
  refine CT_of (by decide +kernel) rfl (Nat.le_of_ble_eq_true rfl) ?_
  intro p e s m below meth c hx hb hr hml hown hts hlk hnm hK hW ls hl
  have hown : s.vm.findClass RJx4a65c = some m.cls := hown
  have hl : lv_has ls 1 [(0, .ref (ad g v0))] := hl
  have i0 : ∀ w ∈ u_ws RJx4a65c TJx4a65c 3, w ∈ wsJx4a65c_init_da8c8 := by decide +kernel
  unfold wp_Jx4a65c_init_da8c8 at hw
  refine lv_aload_n hx hb dJx4a65c_init_da8c8_0 rfl (lv_at hl 0 rfl) ?_
  refine R_call (va_runI (As := []) (rest := []) ⟨hx, hb, hml, hown, hts⟩ (c_Jxc12de_init_da8c8 l g m0 v0 _ hw) (cwI 0 hts gJx4a65c_init_da8c8_Jxc12de_init_da8c8 rfl rfl rfl (hts (.initialized RJxc12de) (by decide +kernel)) (hts (.methodLink RJx4a65c 1 yJxc12de_init_da8c8) (by decide +kernel)) (hts (.instanceMethod yJxc12de_init_da8c8) (by decide +kernel)) rfl (by decide +kernel) ⟨by decide, by decide⟩) (PP.pre hK hW) rfl rfl hl.1 rfl (lv_room (Nat.le_of_ble_eq_true rfl)) dJx4a65c_init_da8c8_1 ⟨by decide, by decide⟩) hW (fun _ m2 H locs hw hW => ?_)
  refine W.eq (g2 := F0 m 4 ls []) rfl ?_
  refine lv_aload_n hx hb dJx4a65c_init_da8c8_4 rfl (lv_at hl 0 rfl) ?_
  refine va_gets hx hb hK.2.2.2.1.1 hW.2 hown (hts (.fieldLink RJx4a65c 39 "java/util/ArrayList" "DEFAULTCAPACITY_EMPTY_ELEMENTDATA" "[Ljava/lang/Object;") (by decide +kernel)) (fun _ h => h) dJx4a65c_init_da8c8_5 ?_
  refine R_putP (C := RJx4a65c) (T := TJx4a65c) (N := 3) hx hb hts i0 tyJx4a65c tyJx4a65c_ok nmJx4a65c hown hK hW 1 hw.1 (by decide) rfl (by decide) (hts (.fieldLink RJx4a65c 9 "java/util/ArrayList" "elementData" "[Ljava/lang/Object;") (by decide +kernel)) (fun _ h => h) (Or.inl rfl) (Or.inr ⟨_, rfl⟩) hw.2.1 (fun _ _ _ => rfl) (fun _ _ _ => rfl) dJx4a65c_init_da8c8_8 (fun H locs hW => ?_)
  obtain ⟨m3, em3⟩ : ∃ z, z = sP m2 v0 1 1 := ⟨_, rfl⟩
  rw [← em3] at hW
  have hw := hw.2.2 m3 em3
  exact R_vret hx hb hr hlk hW hw dJx4a65c_init_da8c8_11

def wp_X6_init (m0 : Mm) (v0 : Nat) (Φ : Unit → Mm → Prop) : Prop :=
  ∀ m1 : Mm, m1 = nw m0 4 0 → wp_X3_init m1 (mS m0) (fun (_ : Unit) (m3 : Mm) => mT m3 v0 = 7 ∧ (mS m0) ≠ 0 ∧ ∀ m4 : Mm, m4 = sP m3 v0 0 (mS m0) → ∀ m5 : Mm, m5 = nw m4 2 0 → mT m5 v0 = 7 ∧ (mP m5 v0 0) ≠ 0 ∧ wp_X1_init m5 (mS m4) (mP m5 v0 0) (fun (_ : Unit) (m7 : Mm) => mT m7 v0 = 7 ∧ (mS m4) ≠ 0 ∧ ∀ m8 : Mm, m8 = sP m7 v0 1 (mS m4) → ∀ m9 : Mm, m9 = nw m8 5 0 → mT m9 v0 = 7 ∧ (mP m9 v0 1) ≠ 0 ∧ wp_X4_init m9 (mS m8) (mP m9 v0 1) (fun (_ : Unit) (m11 : Mm) => mT m11 v0 = 7 ∧ (mS m8) ≠ 0 ∧ ∀ m12 : Mm, m12 = sP m11 v0 2 (mS m8) → ∀ m13 : Mm, m13 = nw m12 3 0 → mT m13 v0 = 7 ∧ (mP m13 v0 2) ≠ 0 ∧ wp_X2_init m13 (mS m12) (mP m13 v0 2) (fun (_ : Unit) (m15 : Mm) => mT m15 v0 = 7 ∧ (mS m12) ≠ 0 ∧ ∀ m16 : Mm, m16 = sP m15 v0 3 (mS m12) → ∀ m17 : Mm, m17 = nw m16 6 0 → wp_X5_init m17 (mS m16) (fun (_ : Unit) (m19 : Mm) => mT m19 v0 = 7 ∧ (mS m16) ≠ 0 ∧ ∀ m20 : Mm, m20 = sP m19 v0 4 (mS m16) → ∀ m21 : Mm, m21 = nw m20 6 0 → wp_X5_init m21 (mS m20) (fun (_ : Unit) (m23 : Mm) => mT m23 v0 = 7 ∧ (mS m20) ≠ 0 ∧ ∀ m24 : Mm, m24 = sP m23 v0 5 (mS m20) → ∀ m25 : Mm, m25 = nw m24 0 0 → wp_Jx4a65c_init_da8c8 m25 (mS m24) (fun (_ : Unit) (m27 : Mm) => mT m27 v0 = 7 ∧ (mS m24) ≠ 0 ∧ ∀ m28 : Mm, m28 = sP m27 v0 6 (mS m24) → ∀ m29 : Mm, m29 = nw m28 0 0 → wp_Jx4a65c_init_da8c8 m29 (mS m28) (fun (_ : Unit) (m31 : Mm) => mT m31 v0 = 7 ∧ (mS m28) ≠ 0 ∧ ∀ m32 : Mm, m32 = sP m31 v0 7 (mS m28) → mT m32 v0 = 7 ∧ ∀ m33 : Mm, m33 = sI m32 v0 8 (100 : Int32) → mT m33 v0 = 7 ∧ ∀ m34 : Mm, m34 = sI m33 v0 9 (0 : Int32) → Φ () m34))))))))
abbrev rm_X6_init : Room := { frames := 4, cells := 17, slots := 227, locals := 81 }
set_option maxHeartbeats 4000000 in
set_option maxRecDepth 100000 in
theorem c_X6_init (l : Launch) (g : Gv) (m0 : Mm) (v0 : Nat) (Φ : Unit → Mm → Prop) (hw : wp_X6_init m0 v0 Φ) : Met l yX6_init wsX6_init rm_X6_init (PP g [.ref (ad g v0)] m0) (QQ g vV Φ) 17 227 (Ag g) := by
  refine CT_of (by decide +kernel) rfl (Nat.le_of_ble_eq_true rfl) ?_
  intro p e s m below meth c hx hb hr hml hown hts hlk hnm hK hW ls hl
  have hown : s.vm.findClass RX6 = some m.cls := hown
  have hl : lv_has ls 1 [(0, .ref (ad g v0))] := hl
  have i0 : ∀ w ∈ u_ws RJx4a65c TJx4a65c 3, w ∈ wsX6_init := by decide +kernel
  have i2 : ∀ w ∈ u_ws RX1 TX1 5, w ∈ wsX6_init := by decide +kernel
  have i3 : ∀ w ∈ u_ws RX2 TX2 9, w ∈ wsX6_init := by decide +kernel
  have i4 : ∀ w ∈ u_ws RX3 TX3 2, w ∈ wsX6_init := by decide +kernel
  have i5 : ∀ w ∈ u_ws RX4 TX4 4, w ∈ wsX6_init := by decide +kernel
  have i6 : ∀ w ∈ u_ws RX5 TX5 2, w ∈ wsX6_init := by decide +kernel
  have i7 : ∀ w ∈ u_ws RX6 TX6 15, w ∈ wsX6_init := by decide +kernel
  unfold wp_X6_init at hw
  refine lv_aload_n hx hb dX6_init_0 rfl (lv_at hl 0 rfl) ?_
  refine W.objInit hx hb hown (hts (.methodLink RX6 1 objectInit) (by decide +kernel)) (hts (.instanceMethod objectInit) (by decide +kernel)) (hts (.code objectInit ⟨#[0xb1]⟩ 1 none) (by decide +kernel)) rfl (by rw [hml]; exact hl.1) rfl dX6_init_1 (Nat.le_of_ble_eq_true rfl) (Nat.le_of_ble_eq_true rfl) ?_
  refine W.eq (g2 := F0 m 4 ls []) rfl ?_
  refine lv_aload_n hx hb dX6_init_4 rfl (lv_at hl 0 rfl) ?_
  refine R_new (g := g) (mm := m0) (ci := 4) (C := RX3) (T := TX3) (N := 2) hx hb hts i4 tyX3 tyX3_ok hown (hts (.classLink RX6 7 RX3) (by decide +kernel)) (hts (.instantiable RX3 2) (by decide +kernel)) (hts (.initialized RX3) (by decide +kernel)) hK hW (by decide) rfl (fun j hj => by rcases (show j = 0 ∨ j = 1 by omega) with rfl | rfl <;> rfl) (by decide) (by decide) dX6_init_5 (fun H hW => ?_)
  obtain ⟨m1, em1⟩ : ∃ z, z = nw m0 4 0 := ⟨_, rfl⟩
  rw [← em1] at hW
  have hw := hw m1 em1
  refine lv_dup hx hb dX6_init_8 rfl ?_
  refine R_call (va_runIN (As := []) (rest := [.ref (ad g (mS m0)), .ref (ad g v0)]) ⟨hx, hb, hml, hown, hts⟩ (c_X3_init l g m1 (mS m0) _ hw) ⟨va_cnB 0 hts gX6_init_X3_init_n9 rfl rfl rfl hK.2.2.2.2.2.2.1 (hts (.initialized RX3) (by decide +kernel)) (by decide +kernel) ⟨by decide, by decide⟩, rfl, hts (.instanceMethod yX3_init) (by decide +kernel)⟩ (PP.pre hK hW) rfl rfl hl.1 rfl (lv_room (Nat.le_of_ble_eq_true rfl)) dX6_init_9 ⟨by decide, by decide⟩) hW (fun _ m3 H locs hw hW => ?_)
  refine W.eq (g2 := F0 m 12 ls [.ref (ad g (mS m0)), .ref (ad g v0)]) rfl ?_
  refine R_putP (C := RX6) (T := TX6) (N := 15) hx hb hts i7 tyX6 tyX6_ok nmX6 hown hK hW 0 hw.1 (by decide) rfl (by decide) (hts (.fieldLink RX6 10 "BoatLift" "tape" "LBoatLift$Tape;") (by decide +kernel)) (fun _ h => h) (Or.inr ⟨rfl, hnm, rfl⟩) (Or.inl ⟨_, rfl⟩) hw.2.1 (fun _ _ _ => rfl) (fun _ _ _ => rfl) dX6_init_12 (fun H locs hW => ?_)
  obtain ⟨m4, em4⟩ : ∃ z, z = sP m3 v0 0 (mS m0) := ⟨_, rfl⟩
  rw [← em4] at hW
  have hw := hw.2.2 m4 em4
  refine lv_aload_n hx hb dX6_init_15 rfl (lv_at hl 0 rfl) ?_
  refine R_new (g := g) (mm := m4) (ci := 2) (C := RX1) (T := TX1) (N := 5) hx hb hts i2 tyX1 tyX1_ok hown (hts (.classLink RX6 16 RX1) (by decide +kernel)) (hts (.instantiable RX1 5) (by decide +kernel)) (hts (.initialized RX1) (by decide +kernel)) hK hW (by decide) rfl (fun j hj => by rcases (show j = 0 ∨ j = 1 ∨ j = 2 ∨ j = 3 ∨ j = 4 by omega) with rfl | rfl | rfl | rfl | rfl <;> rfl) (by decide) (by decide) dX6_init_16 (fun H hW => ?_)
  obtain ⟨m5, em5⟩ : ∃ z, z = nw m4 2 0 := ⟨_, rfl⟩
  rw [← em5] at hW
  have hw := hw m5 em5
  refine lv_dup hx hb dX6_init_19 rfl ?_
  refine lv_aload_n hx hb dX6_init_20 rfl (lv_at hl 0 rfl) ?_
  refine R_getP (C := RX6) (T := TX6) (N := 15) hx hb hts i7 hown hK hW 0 hw.1 (by decide) rfl (by decide) (hts (.fieldLink RX6 10 "BoatLift" "tape" "LBoatLift$Tape;") (by decide +kernel)) (fun _ h => h) (fun _ _ _ => rfl) hw.2.1 dX6_init_21 ?_
  have hw := hw.2.2
  refine R_call (va_runI (As := [.ref (ad g (mP m5 v0 0))]) (rest := [.ref (ad g (mS m4)), .ref (ad g v0)]) ⟨hx, hb, hml, hown, hts⟩ (c_X1_init l g m5 (mS m4) (mP m5 v0 0) _ hw) (cwI 1 hts gX6_init_X1_init rfl rfl rfl (hts (.initialized RX1) (by decide +kernel)) (hts (.methodLink RX6 18 yX1_init) (by decide +kernel)) (hts (.instanceMethod yX1_init) (by decide +kernel)) rfl (by decide +kernel) ⟨by decide, by decide⟩) (PP.pre hK hW) rfl rfl hl.1 rfl (lv_room (Nat.le_of_ble_eq_true rfl)) dX6_init_24 ⟨by decide, by decide⟩) hW (fun _ m7 H locs hw hW => ?_)
  refine W.eq (g2 := F0 m 27 ls [.ref (ad g (mS m4)), .ref (ad g v0)]) rfl ?_
  refine R_putP (C := RX6) (T := TX6) (N := 15) hx hb hts i7 tyX6 tyX6_ok nmX6 hown hK hW 1 hw.1 (by decide) rfl (by decide) (hts (.fieldLink RX6 21 "BoatLift" "rules" "LBoatLift$Law;") (by decide +kernel)) (fun _ h => h) (Or.inr ⟨rfl, hnm, rfl⟩) (Or.inl ⟨_, rfl⟩) hw.2.1 (fun _ _ _ => rfl) (fun _ _ _ => rfl) dX6_init_27 (fun H locs hW => ?_)
  obtain ⟨m8, em8⟩ : ∃ z, z = sP m7 v0 1 (mS m4) := ⟨_, rfl⟩
  rw [← em8] at hW
  have hw := hw.2.2 m8 em8
  refine lv_aload_n hx hb dX6_init_30 rfl (lv_at hl 0 rfl) ?_
  refine R_new (g := g) (mm := m8) (ci := 5) (C := RX4) (T := TX4) (N := 4) hx hb hts i5 tyX4 tyX4_ok hown (hts (.classLink RX6 25 RX4) (by decide +kernel)) (hts (.instantiable RX4 4) (by decide +kernel)) (hts (.initialized RX4) (by decide +kernel)) hK hW (by decide) rfl (fun j hj => by rcases (show j = 0 ∨ j = 1 ∨ j = 2 ∨ j = 3 by omega) with rfl | rfl | rfl | rfl <;> rfl) (by decide) (by decide) dX6_init_31 (fun H hW => ?_)
  obtain ⟨m9, em9⟩ : ∃ z, z = nw m8 5 0 := ⟨_, rfl⟩
  rw [← em9] at hW
  have hw := hw m9 em9
  refine lv_dup hx hb dX6_init_34 rfl ?_
  refine lv_aload_n hx hb dX6_init_35 rfl (lv_at hl 0 rfl) ?_
  refine R_getP (C := RX6) (T := TX6) (N := 15) hx hb hts i7 hown hK hW 1 hw.1 (by decide) rfl (by decide) (hts (.fieldLink RX6 21 "BoatLift" "rules" "LBoatLift$Law;") (by decide +kernel)) (fun _ h => h) (fun _ _ _ => rfl) hw.2.1 dX6_init_36 ?_
  have hw := hw.2.2
  refine R_call (va_runI (As := [.ref (ad g (mP m9 v0 1))]) (rest := [.ref (ad g (mS m8)), .ref (ad g v0)]) ⟨hx, hb, hml, hown, hts⟩ (c_X4_init l g m9 (mS m8) (mP m9 v0 1) _ hw) (cwI 1 hts gX6_init_X4_init rfl rfl rfl (hts (.initialized RX4) (by decide +kernel)) (hts (.methodLink RX6 27 yX4_init) (by decide +kernel)) (hts (.instanceMethod yX4_init) (by decide +kernel)) rfl (by decide +kernel) ⟨by decide, by decide⟩) (PP.pre hK hW) rfl rfl hl.1 rfl (lv_room (Nat.le_of_ble_eq_true rfl)) dX6_init_39 ⟨by decide, by decide⟩) hW (fun _ m11 H locs hw hW => ?_)
  refine W.eq (g2 := F0 m 42 ls [.ref (ad g (mS m8)), .ref (ad g v0)]) rfl ?_
  refine R_putP (C := RX6) (T := TX6) (N := 15) hx hb hts i7 tyX6 tyX6_ok nmX6 hown hK hW 2 hw.1 (by decide) rfl (by decide) (hts (.fieldLink RX6 30 "BoatLift" "timetable" "LBoatLift$Timetable;") (by decide +kernel)) (fun _ h => h) (Or.inr ⟨rfl, hnm, rfl⟩) (Or.inl ⟨_, rfl⟩) hw.2.1 (fun _ _ _ => rfl) (fun _ _ _ => rfl) dX6_init_42 (fun H locs hW => ?_)
  obtain ⟨m12, em12⟩ : ∃ z, z = sP m11 v0 2 (mS m8) := ⟨_, rfl⟩
  rw [← em12] at hW
  have hw := hw.2.2 m12 em12
  refine lv_aload_n hx hb dX6_init_45 rfl (lv_at hl 0 rfl) ?_
  refine R_new (g := g) (mm := m12) (ci := 3) (C := RX2) (T := TX2) (N := 9) hx hb hts i3 tyX2 tyX2_ok hown (hts (.classLink RX6 34 RX2) (by decide +kernel)) (hts (.instantiable RX2 9) (by decide +kernel)) (hts (.initialized RX2) (by decide +kernel)) hK hW (by decide) rfl (fun j hj => by rcases (show j = 0 ∨ j = 1 ∨ j = 2 ∨ j = 3 ∨ j = 4 ∨ j = 5 ∨ j = 6 ∨ j = 7 ∨ j = 8 by omega) with rfl | rfl | rfl | rfl | rfl | rfl | rfl | rfl | rfl <;> rfl) (by decide) (by decide) dX6_init_46 (fun H hW => ?_)
  obtain ⟨m13, em13⟩ : ∃ z, z = nw m12 3 0 := ⟨_, rfl⟩
  rw [← em13] at hW
  have hw := hw m13 em13
  refine lv_dup hx hb dX6_init_49 rfl ?_
  refine lv_aload_n hx hb dX6_init_50 rfl (lv_at hl 0 rfl) ?_
  refine R_getP (C := RX6) (T := TX6) (N := 15) hx hb hts i7 hown hK hW 2 hw.1 (by decide) rfl (by decide) (hts (.fieldLink RX6 30 "BoatLift" "timetable" "LBoatLift$Timetable;") (by decide +kernel)) (fun _ h => h) (fun _ _ _ => rfl) hw.2.1 dX6_init_51 ?_
  have hw := hw.2.2
  refine R_call (va_runI (As := [.ref (ad g (mP m13 v0 2))]) (rest := [.ref (ad g (mS m12)), .ref (ad g v0)]) ⟨hx, hb, hml, hown, hts⟩ (c_X2_init l g m13 (mS m12) (mP m13 v0 2) _ hw) (cwI 1 hts gX6_init_X2_init rfl rfl rfl (hts (.initialized RX2) (by decide +kernel)) (hts (.methodLink RX6 36 yX2_init) (by decide +kernel)) (hts (.instanceMethod yX2_init) (by decide +kernel)) rfl (by decide +kernel) ⟨by decide, by decide⟩) (PP.pre hK hW) rfl rfl hl.1 rfl (lv_room (Nat.le_of_ble_eq_true rfl)) dX6_init_54 ⟨by decide, by decide⟩) hW (fun _ m15 H locs hw hW => ?_)
  refine W.eq (g2 := F0 m 57 ls [.ref (ad g (mS m12)), .ref (ad g v0)]) rfl ?_
  refine R_putP (C := RX6) (T := TX6) (N := 15) hx hb hts i7 tyX6 tyX6_ok nmX6 hown hK hW 3 hw.1 (by decide) rfl (by decide) (hts (.fieldLink RX6 39 "BoatLift" "planner" "LBoatLift$Planner;") (by decide +kernel)) (fun _ h => h) (Or.inr ⟨rfl, hnm, rfl⟩) (Or.inl ⟨_, rfl⟩) hw.2.1 (fun _ _ _ => rfl) (fun _ _ _ => rfl) dX6_init_57 (fun H locs hW => ?_)
  obtain ⟨m16, em16⟩ : ∃ z, z = sP m15 v0 3 (mS m12) := ⟨_, rfl⟩
  rw [← em16] at hW
  have hw := hw.2.2 m16 em16
  refine lv_aload_n hx hb dX6_init_60 rfl (lv_at hl 0 rfl) ?_
  refine R_new (g := g) (mm := m16) (ci := 6) (C := RX5) (T := TX5) (N := 2) hx hb hts i6 tyX5 tyX5_ok hown (hts (.classLink RX6 43 RX5) (by decide +kernel)) (hts (.instantiable RX5 2) (by decide +kernel)) (hts (.initialized RX5) (by decide +kernel)) hK hW (by decide) rfl (fun j hj => by rcases (show j = 0 ∨ j = 1 by omega) with rfl | rfl <;> rfl) (by decide) (by decide) dX6_init_61 (fun H hW => ?_)
  obtain ⟨m17, em17⟩ : ∃ z, z = nw m16 6 0 := ⟨_, rfl⟩
  rw [← em17] at hW
  have hw := hw m17 em17
  refine lv_dup hx hb dX6_init_64 rfl ?_
  refine R_call (va_runIN (As := []) (rest := [.ref (ad g (mS m16)), .ref (ad g v0)]) ⟨hx, hb, hml, hown, hts⟩ (c_X5_init l g m17 (mS m16) _ hw) ⟨va_cnB 0 hts gX6_init_X5_init_n45 rfl rfl rfl hK.2.2.2.2.2.2.2.1 (hts (.initialized RX5) (by decide +kernel)) (by decide +kernel) ⟨by decide, by decide⟩, rfl, hts (.instanceMethod yX5_init) (by decide +kernel)⟩ (PP.pre hK hW) rfl rfl hl.1 rfl (lv_room (Nat.le_of_ble_eq_true rfl)) dX6_init_65 ⟨by decide, by decide⟩) hW (fun _ m19 H locs hw hW => ?_)
  refine W.eq (g2 := F0 m 68 ls [.ref (ad g (mS m16)), .ref (ad g v0)]) rfl ?_
  refine R_putP (C := RX6) (T := TX6) (N := 15) hx hb hts i7 tyX6 tyX6_ok nmX6 hown hK hW 4 hw.1 (by decide) rfl (by decide) (hts (.fieldLink RX6 46 "BoatLift" "lower" "LBoatLift$Water;") (by decide +kernel)) (fun _ h => h) (Or.inr ⟨rfl, hnm, rfl⟩) (Or.inl ⟨_, rfl⟩) hw.2.1 (fun _ _ _ => rfl) (fun _ _ _ => rfl) dX6_init_68 (fun H locs hW => ?_)
  obtain ⟨m20, em20⟩ : ∃ z, z = sP m19 v0 4 (mS m16) := ⟨_, rfl⟩
  rw [← em20] at hW
  have hw := hw.2.2 m20 em20
  refine lv_aload_n hx hb dX6_init_71 rfl (lv_at hl 0 rfl) ?_
  refine R_new (g := g) (mm := m20) (ci := 6) (C := RX5) (T := TX5) (N := 2) hx hb hts i6 tyX5 tyX5_ok hown (hts (.classLink RX6 43 RX5) (by decide +kernel)) (hts (.instantiable RX5 2) (by decide +kernel)) (hts (.initialized RX5) (by decide +kernel)) hK hW (by decide) rfl (fun j hj => by rcases (show j = 0 ∨ j = 1 by omega) with rfl | rfl <;> rfl) (by decide) (by decide) dX6_init_72 (fun H hW => ?_)
  obtain ⟨m21, em21⟩ : ∃ z, z = nw m20 6 0 := ⟨_, rfl⟩
  rw [← em21] at hW
  have hw := hw m21 em21
  refine lv_dup hx hb dX6_init_75 rfl ?_
  refine R_call (va_runIN (As := []) (rest := [.ref (ad g (mS m20)), .ref (ad g v0)]) ⟨hx, hb, hml, hown, hts⟩ (c_X5_init l g m21 (mS m20) _ hw) ⟨va_cnB 0 hts gX6_init_X5_init_n45 rfl rfl rfl hK.2.2.2.2.2.2.2.1 (hts (.initialized RX5) (by decide +kernel)) (by decide +kernel) ⟨by decide, by decide⟩, rfl, hts (.instanceMethod yX5_init) (by decide +kernel)⟩ (PP.pre hK hW) rfl rfl hl.1 rfl (lv_room (Nat.le_of_ble_eq_true rfl)) dX6_init_76 ⟨by decide, by decide⟩) hW (fun _ m23 H locs hw hW => ?_)
  refine W.eq (g2 := F0 m 79 ls [.ref (ad g (mS m20)), .ref (ad g v0)]) rfl ?_
  refine R_putP (C := RX6) (T := TX6) (N := 15) hx hb hts i7 tyX6 tyX6_ok nmX6 hown hK hW 5 hw.1 (by decide) rfl (by decide) (hts (.fieldLink RX6 50 "BoatLift" "upper" "LBoatLift$Water;") (by decide +kernel)) (fun _ h => h) (Or.inr ⟨rfl, hnm, rfl⟩) (Or.inl ⟨_, rfl⟩) hw.2.1 (fun _ _ _ => rfl) (fun _ _ _ => rfl) dX6_init_79 (fun H locs hW => ?_)
  obtain ⟨m24, em24⟩ : ∃ z, z = sP m23 v0 5 (mS m20) := ⟨_, rfl⟩
  rw [← em24] at hW
  have hw := hw.2.2 m24 em24
  refine lv_aload_n hx hb dX6_init_82 rfl (lv_at hl 0 rfl) ?_
  refine R_new (g := g) (mm := m24) (ci := 0) (C := RJx4a65c) (T := TJx4a65c) (N := 3) hx hb hts i0 tyJx4a65c tyJx4a65c_ok hown (hts (.classLink RX6 53 RJx4a65c) (by decide +kernel)) (hts (.instantiable RJx4a65c 3) (by decide +kernel)) (hts (.initialized RJx4a65c) (by decide +kernel)) hK hW (by decide) rfl (fun j hj => by rcases (show j = 0 ∨ j = 1 ∨ j = 2 by omega) with rfl | rfl | rfl <;> rfl) (by decide) (by decide) dX6_init_83 (fun H hW => ?_)
  obtain ⟨m25, em25⟩ : ∃ z, z = nw m24 0 0 := ⟨_, rfl⟩
  rw [← em25] at hW
  have hw := hw m25 em25
  refine lv_dup hx hb dX6_init_86 rfl ?_
  refine R_call (va_runI (As := []) (rest := [.ref (ad g (mS m24)), .ref (ad g v0)]) ⟨hx, hb, hml, hown, hts⟩ (c_Jx4a65c_init_da8c8 l g m25 (mS m24) _ hw) (cwI 0 hts gX6_init_Jx4a65c_init_da8c8 rfl rfl rfl (hts (.initialized RJx4a65c) (by decide +kernel)) (hts (.methodLink RX6 55 yJx4a65c_init_da8c8) (by decide +kernel)) (hts (.instanceMethod yJx4a65c_init_da8c8) (by decide +kernel)) rfl (by decide +kernel) ⟨by decide, by decide⟩) (PP.pre hK hW) rfl rfl hl.1 rfl (lv_room (Nat.le_of_ble_eq_true rfl)) dX6_init_87 ⟨by decide, by decide⟩) hW (fun _ m27 H locs hw hW => ?_)
  refine W.eq (g2 := F0 m 90 ls [.ref (ad g (mS m24)), .ref (ad g v0)]) rfl ?_
  refine R_putP (C := RX6) (T := TX6) (N := 15) hx hb hts i7 tyX6 tyX6_ok nmX6 hown hK hW 6 hw.1 (by decide) rfl (by decide) (hts (.fieldLink RX6 56 "BoatLift" "byNumber" "Ljava/util/List;") (by decide +kernel)) (fun _ h => h) (Or.inr ⟨rfl, hnm, rfl⟩) (Or.inl ⟨_, rfl⟩) hw.2.1 (fun _ _ _ => rfl) (fun _ _ _ => rfl) dX6_init_90 (fun H locs hW => ?_)
  obtain ⟨m28, em28⟩ : ∃ z, z = sP m27 v0 6 (mS m24) := ⟨_, rfl⟩
  rw [← em28] at hW
  have hw := hw.2.2 m28 em28
  refine lv_aload_n hx hb dX6_init_93 rfl (lv_at hl 0 rfl) ?_
  refine R_new (g := g) (mm := m28) (ci := 0) (C := RJx4a65c) (T := TJx4a65c) (N := 3) hx hb hts i0 tyJx4a65c tyJx4a65c_ok hown (hts (.classLink RX6 53 RJx4a65c) (by decide +kernel)) (hts (.instantiable RJx4a65c 3) (by decide +kernel)) (hts (.initialized RJx4a65c) (by decide +kernel)) hK hW (by decide) rfl (fun j hj => by rcases (show j = 0 ∨ j = 1 ∨ j = 2 by omega) with rfl | rfl | rfl <;> rfl) (by decide) (by decide) dX6_init_94 (fun H hW => ?_)
  obtain ⟨m29, em29⟩ : ∃ z, z = nw m28 0 0 := ⟨_, rfl⟩
  rw [← em29] at hW
  have hw := hw m29 em29
  refine lv_dup hx hb dX6_init_97 rfl ?_
  refine R_call (va_runI (As := []) (rest := [.ref (ad g (mS m28)), .ref (ad g v0)]) ⟨hx, hb, hml, hown, hts⟩ (c_Jx4a65c_init_da8c8 l g m29 (mS m28) _ hw) (cwI 0 hts gX6_init_Jx4a65c_init_da8c8 rfl rfl rfl (hts (.initialized RJx4a65c) (by decide +kernel)) (hts (.methodLink RX6 55 yJx4a65c_init_da8c8) (by decide +kernel)) (hts (.instanceMethod yJx4a65c_init_da8c8) (by decide +kernel)) rfl (by decide +kernel) ⟨by decide, by decide⟩) (PP.pre hK hW) rfl rfl hl.1 rfl (lv_room (Nat.le_of_ble_eq_true rfl)) dX6_init_98 ⟨by decide, by decide⟩) hW (fun _ m31 H locs hw hW => ?_)
  refine W.eq (g2 := F0 m 101 ls [.ref (ad g (mS m28)), .ref (ad g v0)]) rfl ?_
  refine R_putP (C := RX6) (T := TX6) (N := 15) hx hb hts i7 tyX6 tyX6_ok nmX6 hown hK hW 7 hw.1 (by decide) rfl (by decide) (hts (.fieldLink RX6 60 "BoatLift" "byTurn" "Ljava/util/List;") (by decide +kernel)) (fun _ h => h) (Or.inr ⟨rfl, hnm, rfl⟩) (Or.inl ⟨_, rfl⟩) hw.2.1 (fun _ _ _ => rfl) (fun _ _ _ => rfl) dX6_init_101 (fun H locs hW => ?_)
  obtain ⟨m32, em32⟩ : ∃ z, z = sP m31 v0 7 (mS m28) := ⟨_, rfl⟩
  rw [← em32] at hW
  have hw := hw.2.2 m32 em32
  refine lv_aload_n hx hb dX6_init_104 rfl (lv_at hl 0 rfl) ?_
  refine lv_bipush (v := (100 : Int32)) hx hb dX6_init_105 (by decide) ?_
  refine R_putI (C := RX6) (T := TX6) (N := 15) hx hb hts i7 tyX6 tyX6_ok nmX6 hown hK hW 8 hw.1 (by decide) rfl (by decide) (hts (.fieldLink RX6 63 "BoatLift" "troughLength" "I") (by decide +kernel)) (fun _ h => h) (Or.inl rfl) rfl (fun _ _ _ => rfl) (fun _ _ _ => rfl) dX6_init_107 (fun H locs hW => ?_)
  obtain ⟨m33, em33⟩ : ∃ z, z = sI m32 v0 8 (100 : Int32) := ⟨_, rfl⟩
  rw [← em33] at hW
  have hw := hw.2 m33 em33
  refine lv_aload_n hx hb dX6_init_110 rfl (lv_at hl 0 rfl) ?_
  refine lv_iconst (v := (0 : Int32)) hx hb dX6_init_111 (by decide) ?_
  refine R_putI (C := RX6) (T := TX6) (N := 15) hx hb hts i7 tyX6 tyX6_ok nmX6 hown hK hW 9 hw.1 (by decide) rfl (by decide) (hts (.fieldLink RX6 67 "BoatLift" "troughSide" "I") (by decide +kernel)) (fun _ h => h) (Or.inl rfl) rfl (fun _ _ _ => rfl) (fun _ _ _ => rfl) dX6_init_112 (fun H locs hW => ?_)
  obtain ⟨m34, em34⟩ : ∃ z, z = sI m33 v0 9 (0 : Int32) := ⟨_, rfl⟩
  rw [← em34] at hW
  have hw := hw.2 m34 em34
  exact R_vret hx hb hr hlk hW hw dX6_init_115
