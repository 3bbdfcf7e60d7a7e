def wp_X7_init (m0 : Mm) (v0 : Nat) (Φ : Unit → Mm → Prop) : Prop :=
  ∀ m1 : Mm, m1 = nw m0 11 60 → mT m1 v0 = 8 ∧ (mS m0) ≠ 0 ∧ ∀ m2 : Mm, m2 = sP m1 v0 0 (mS m0) → mT m2 v0 = 8 ∧ ∀ m3 : Mm, m3 = sI m2 v0 2 (100 : Int32) → ∀ m4 : Mm, m4 = nw m3 9 6 → mT m4 v0 = 8 ∧ (mS m3) ≠ 0 ∧ ∀ m5 : Mm, m5 = sP m4 v0 9 (mS m3) → ∀ m6 : Mm, m6 = nw m5 9 6 → mT m6 v0 = 8 ∧ (mS m5) ≠ 0 ∧ ∀ m7 : Mm, m7 = sP m6 v0 10 (mS m5) → ∀ m8 : Mm, m8 = nw m7 9 2 → mT m8 v0 = 8 ∧ (mS m7) ≠ 0 ∧ ∀ m9 : Mm, m9 = sP m8 v0 11 (mS m7) → ∀ m10 : Mm, m10 = nw m9 10 2 → mT m10 v0 = 8 ∧ (mS m9) ≠ 0 ∧ ∀ m11 : Mm, m11 = sP m10 v0 12 (mS m9) → ∀ m12 : Mm, m12 = nw m11 9 8 → mT m12 v0 = 8 ∧ (mS m11) ≠ 0 ∧ ∀ m13 : Mm, m13 = sP m12 v0 13 (mS m11) → ∀ m14 : Mm, m14 = nw m13 9 8 → mT m14 v0 = 8 ∧ (mS m13) ≠ 0 ∧ ∀ m15 : Mm, m15 = sP m14 v0 14 (mS m13) → ∀ m16 : Mm, m16 = nw m15 9 16 → mT m16 v0 = 8 ∧ (mS m15) ≠ 0 ∧ ∀ m17 : Mm, m17 = sP m16 v0 15 (mS m15) → ∀ m18 : Mm, m18 = nw m17 9 16 → mT m18 v0 = 8 ∧ (mS m17) ≠ 0 ∧ ∀ m19 : Mm, m19 = sP m18 v0 16 (mS m17) → ∀ m20 : Mm, m20 = nw m19 9 16 → mT m20 v0 = 8 ∧ (mS m19) ≠ 0 ∧ ∀ m21 : Mm, m21 = sP m20 v0 17 (mS m19) → ∀ m22 : Mm, m22 = nw m21 9 16 → mT m22 v0 = 8 ∧ (mS m21) ≠ 0 ∧ ∀ m23 : Mm, m23 = sP m22 v0 18 (mS m21) → ∀ m24 : Mm, m24 = nw m23 9 16 → mT m24 v0 = 8 ∧ (mS m23) ≠ 0 ∧ ∀ m25 : Mm, m25 = sP m24 v0 19 (mS m23) → ∀ m26 : Mm, m26 = nw m25 9 16 → mT m26 v0 = 8 ∧ (mS m25) ≠ 0 ∧ ∀ m27 : Mm, m27 = sP m26 v0 20 (mS m25) → ∀ m28 : Mm, m28 = nw m27 9 16 → mT m28 v0 = 8 ∧ (mS m27) ≠ 0 ∧ ∀ m29 : Mm, m29 = sP m28 v0 21 (mS m27) → ∀ m30 : Mm, m30 = nw m29 9 16 → mT m30 v0 = 8 ∧ (mS m29) ≠ 0 ∧ ∀ m31 : Mm, m31 = sP m30 v0 23 (mS m29) → ∀ m32 : Mm, m32 = nw m31 9 262144 → mT m32 v0 = 8 ∧ (mS m31) ≠ 0 ∧ ∀ m33 : Mm, m33 = sP m32 v0 29 (mS m31) → ∀ m34 : Mm, m34 = nw m33 9 262144 → mT m34 v0 = 8 ∧ (mS m33) ≠ 0 ∧ ∀ m35 : Mm, m35 = sP m34 v0 30 (mS m33) → ∀ m36 : Mm, m36 = nw m35 9 262144 → mT m36 v0 = 8 ∧ (mS m35) ≠ 0 ∧ ∀ m37 : Mm, m37 = sP m36 v0 31 (mS m35) → ∀ m38 : Mm, m38 = nw m37 9 262144 → mT m38 v0 = 8 ∧ (mS m37) ≠ 0 ∧ ∀ m39 : Mm, m39 = sP m38 v0 32 (mS m37) → ∀ m40 : Mm, m40 = nw m39 9 262144 → mT m40 v0 = 8 ∧ (mS m39) ≠ 0 ∧ ∀ m41 : Mm, m41 = sP m40 v0 33 (mS m39) → ∀ m42 : Mm, m42 = nw m41 9 40000 → mT m42 v0 = 8 ∧ (mS m41) ≠ 0 ∧ ∀ m43 : Mm, m43 = sP m42 v0 34 (mS m41) → ∀ m44 : Mm, m44 = nw m43 9 6 → mT m44 v0 = 8 ∧ (mS m43) ≠ 0 ∧ ∀ m45 : Mm, m45 = sP m44 v0 35 (mS m43) → mT m45 v0 = 8 ∧ (mP m45 v0 9) ≠ 0 ∧ wp_X7_asAtFirst m45 (mP m45 v0 9) (fun (_ : Unit) (m47 : Mm) => mT m47 v0 = 8 ∧ (mP m47 v0 11) ≠ 0 ∧ mT m47 (mP m47 v0 11) = 9 ∧ vp_in (0 : Int32) (mN m47 (mP m47 v0 11)) ∧ ∀ m48 : Mm, m48 = sI m47 (mP m47 v0 11) (0 : Int32).toNatClampNeg (1000 : Int32) → mT m48 v0 = 8 ∧ (mP m48 v0 11) ≠ 0 ∧ mT m48 (mP m48 v0 11) = 9 ∧ vp_in (1 : Int32) (mN m48 (mP m48 v0 11)) ∧ ∀ m49 : Mm, m49 = sI m48 (mP m48 v0 11) (1 : Int32).toNatClampNeg (1000 : Int32) → Φ () m49)
abbrev rm_X7_init : Room := { frames := 1, cells := 22, slots := 1350946, locals := 20 }
set_option maxHeartbeats 4000000 in
set_option maxRecDepth 100000 in
theorem c_X7_init (l : Launch) (g : Gv) (m0 : Mm) (v0 : Nat) (Φ : Unit → Mm → Prop) (hw : wp_X7_init m0 v0 Φ) : Met l yX7_init wsX7_init rm_X7_init (PP g [.ref (ad g v0)] m0) (QQ g vV Φ) 22 1350946 (Ag g) := by
  refine CT_of (by decide +kernel) rfl (Nat.le_of_ble_eq_true rfl) ?_
  intro p e s m below meth c hx hb hr hml hown hts hlk hnm hK hW ls hl
  have hown : s.vm.findClass RX7 = some m.cls := hown
  have hl : lv_has ls 1 [(0, .ref (ad g v0))] := hl
  have i8 : ∀ w ∈ u_ws RX7 TX7 36, w ∈ wsX7_init := by decide +kernel
  unfold wp_X7_init at hw
  refine lv_aload_n hx hb dX7_init_0 rfl (lv_at hl 0 rfl) ?_
  refine W.objInit hx hb hown (hts (.methodLink RX7 1 objectInit) (by decide +kernel)) (hts (.instanceMethod objectInit) (by decide +kernel)) (hts (.code objectInit ⟨#[0xb1]⟩ 1 none) (by decide +kernel)) rfl (by rw [hml]; exact hl.1) rfl dX7_init_1 (Nat.le_of_ble_eq_true rfl) (Nat.le_of_ble_eq_true rfl) ?_
  refine W.eq (g2 := F0 m 4 ls []) rfl ?_
  refine lv_aload_n hx hb dX7_init_4 rfl (lv_at hl 0 rfl) ?_
  refine lv_bipush (v := (60 : Int32)) hx hb dX7_init_5 (by decide) ?_
  refine R_newB hx hb (hts (.arrayClass .byte) (by decide +kernel)) hK hW 60 (by decide) (by decide) (by decide) (by decide) (by decide) dX7_init_7 (fun H hW => ?_)
  obtain ⟨m1, em1⟩ : ∃ z, z = nw m0 11 60 := ⟨_, rfl⟩
  rw [← em1] at hW
  have hw := hw m1 em1
  refine R_putP (C := RX7) (T := TX7) (N := 36) hx hb hts i8 tyX7 tyX7_ok nmX7 hown hK hW 0 hw.1 (by decide) rfl (by decide) (hts (.fieldLink RX7 7 "BoatLiftModel" "tape" "[B") (by decide +kernel)) (fun _ h => h) (Or.inr ⟨rfl, hnm, rfl⟩) (Or.inr ⟨_, rfl⟩) hw.2.1 (fun _ _ _ => rfl) (fun _ _ _ => rfl) dX7_init_9 (fun H locs hW => ?_)
  obtain ⟨m2, em2⟩ : ∃ z, z = sP m1 v0 0 (mS m0) := ⟨_, rfl⟩
  rw [← em2] at hW
  have hw := hw.2.2 m2 em2
  refine lv_aload_n hx hb dX7_init_12 rfl (lv_at hl 0 rfl) ?_
  refine lv_bipush (v := (100 : Int32)) hx hb dX7_init_13 (by decide) ?_
  refine R_putI (C := RX7) (T := TX7) (N := 36) hx hb hts i8 tyX7 tyX7_ok nmX7 hown hK hW 2 hw.1 (by decide) rfl (by decide) (hts (.fieldLink RX7 13 "BoatLiftModel" "length" "I") (by decide +kernel)) (fun _ h => h) (Or.inl rfl) rfl (fun _ _ _ => rfl) (fun _ _ _ => rfl) dX7_init_15 (fun H locs hW => ?_)
  obtain ⟨m3, em3⟩ : ∃ z, z = sI m2 v0 2 (100 : Int32) := ⟨_, rfl⟩
  rw [← em3] at hW
  have hw := hw.2 m3 em3
  refine lv_aload_n hx hb dX7_init_18 rfl (lv_at hl 0 rfl) ?_
  refine lv_bipush (v := (6 : Int32)) hx hb dX7_init_19 (by decide) ?_
  refine R_newI hx hb (hts (.arrayClass .int) (by decide +kernel)) hK hW 6 (by decide) (by decide) (by decide) (by decide) (by decide) dX7_init_21 (fun H hW => ?_)
  obtain ⟨m4, em4⟩ : ∃ z, z = nw m3 9 6 := ⟨_, rfl⟩
  rw [← em4] at hW
  have hw := hw m4 em4
  refine R_putP (C := RX7) (T := TX7) (N := 36) hx hb hts i8 tyX7 tyX7_ok nmX7 hown hK hW 9 hw.1 (by decide) rfl (by decide) (hts (.fieldLink RX7 17 "BoatLiftModel" "law" "[I") (by decide +kernel)) (fun _ h => h) (Or.inr ⟨rfl, hnm, rfl⟩) (Or.inr ⟨_, rfl⟩) hw.2.1 (fun _ _ _ => rfl) (fun _ _ _ => rfl) dX7_init_23 (fun H locs hW => ?_)
  obtain ⟨m5, em5⟩ : ∃ z, z = sP m4 v0 9 (mS m3) := ⟨_, rfl⟩
  rw [← em5] at hW
  have hw := hw.2.2 m5 em5
  refine lv_aload_n hx hb dX7_init_26 rfl (lv_at hl 0 rfl) ?_
  refine lv_bipush (v := (6 : Int32)) hx hb dX7_init_27 (by decide) ?_
  refine R_newI hx hb (hts (.arrayClass .int) (by decide +kernel)) hK hW 6 (by decide) (by decide) (by decide) (by decide) (by decide) dX7_init_29 (fun H hW => ?_)
  obtain ⟨m6, em6⟩ : ∃ z, z = nw m5 9 6 := ⟨_, rfl⟩
  rw [← em6] at hW
  have hw := hw m6 em6
  refine R_putP (C := RX7) (T := TX7) (N := 36) hx hb hts i8 tyX7 tyX7_ok nmX7 hown hK hW 10 hw.1 (by decide) rfl (by decide) (hts (.fieldLink RX7 21 "BoatLiftModel" "read" "[I") (by decide +kernel)) (fun _ h => h) (Or.inr ⟨rfl, hnm, rfl⟩) (Or.inr ⟨_, rfl⟩) hw.2.1 (fun _ _ _ => rfl) (fun _ _ _ => rfl) dX7_init_31 (fun H locs hW => ?_)
  obtain ⟨m7, em7⟩ : ∃ z, z = sP m6 v0 10 (mS m5) := ⟨_, rfl⟩
  rw [← em7] at hW
  have hw := hw.2.2 m7 em7
  refine lv_aload_n hx hb dX7_init_34 rfl (lv_at hl 0 rfl) ?_
  refine lv_iconst (v := (2 : Int32)) hx hb dX7_init_35 (by decide) ?_
  refine R_newI hx hb (hts (.arrayClass .int) (by decide +kernel)) hK hW 2 (by decide) (by decide) (by decide) (by decide) (by decide) dX7_init_36 (fun H hW => ?_)
  obtain ⟨m8, em8⟩ : ∃ z, z = nw m7 9 2 := ⟨_, rfl⟩
  rw [← em8] at hW
  have hw := hw m8 em8
  refine R_putP (C := RX7) (T := TX7) (N := 36) hx hb hts i8 tyX7 tyX7_ok nmX7 hown hK hW 11 hw.1 (by decide) rfl (by decide) (hts (.fieldLink RX7 24 "BoatLiftModel" "area" "[I") (by decide +kernel)) (fun _ h => h) (Or.inr ⟨rfl, hnm, rfl⟩) (Or.inr ⟨_, rfl⟩) hw.2.1 (fun _ _ _ => rfl) (fun _ _ _ => rfl) dX7_init_38 (fun H locs hW => ?_)
  obtain ⟨m9, em9⟩ : ∃ z, z = sP m8 v0 11 (mS m7) := ⟨_, rfl⟩
  rw [← em9] at hW
  have hw := hw.2.2 m9 em9
  refine lv_aload_n hx hb dX7_init_41 rfl (lv_at hl 0 rfl) ?_
  refine lv_iconst (v := (2 : Int32)) hx hb dX7_init_42 (by decide) ?_
  refine R_newJ hx hb (hts (.arrayClass .long) (by decide +kernel)) hK hW 2 (by decide) (by decide) (by decide) (by decide) (by decide) dX7_init_43 (fun H hW => ?_)
  obtain ⟨m10, em10⟩ : ∃ z, z = nw m9 10 2 := ⟨_, rfl⟩
  rw [← em10] at hW
  have hw := hw m10 em10
  refine R_putP (C := RX7) (T := TX7) (N := 36) hx hb hts i8 tyX7 tyX7_ok nmX7 hown hK hW 12 hw.1 (by decide) rfl (by decide) (hts (.fieldLink RX7 27 "BoatLiftModel" "stock" "[J") (by decide +kernel)) (fun _ h => h) (Or.inr ⟨rfl, hnm, rfl⟩) (Or.inr ⟨_, rfl⟩) hw.2.1 (fun _ _ _ => rfl) (fun _ _ _ => rfl) dX7_init_45 (fun H locs hW => ?_)
  obtain ⟨m11, em11⟩ : ∃ z, z = sP m10 v0 12 (mS m9) := ⟨_, rfl⟩
  rw [← em11] at hW
  have hw := hw.2.2 m11 em11
  refine lv_aload_n hx hb dX7_init_48 rfl (lv_at hl 0 rfl) ?_
  refine lv_bipush (v := (8 : Int32)) hx hb dX7_init_49 (by decide) ?_
  refine R_newI hx hb (hts (.arrayClass .int) (by decide +kernel)) hK hW 8 (by decide) (by decide) (by decide) (by decide) (by decide) dX7_init_51 (fun H hW => ?_)
  obtain ⟨m12, em12⟩ : ∃ z, z = nw m11 9 8 := ⟨_, rfl⟩
  rw [← em12] at hW
  have hw := hw m12 em12
  refine R_putP (C := RX7) (T := TX7) (N := 36) hx hb hts i8 tyX7 tyX7_ok nmX7 hown hK hW 13 hw.1 (by decide) rfl (by decide) (hts (.fieldLink RX7 31 "BoatLiftModel" "iceFrom" "[I") (by decide +kernel)) (fun _ h => h) (Or.inr ⟨rfl, hnm, rfl⟩) (Or.inr ⟨_, rfl⟩) hw.2.1 (fun _ _ _ => rfl) (fun _ _ _ => rfl) dX7_init_53 (fun H locs hW => ?_)
  obtain ⟨m13, em13⟩ : ∃ z, z = sP m12 v0 13 (mS m11) := ⟨_, rfl⟩
  rw [← em13] at hW
  have hw := hw.2.2 m13 em13
  refine lv_aload_n hx hb dX7_init_56 rfl (lv_at hl 0 rfl) ?_
  refine lv_bipush (v := (8 : Int32)) hx hb dX7_init_57 (by decide) ?_
  refine R_newI hx hb (hts (.arrayClass .int) (by decide +kernel)) hK hW 8 (by decide) (by decide) (by decide) (by decide) (by decide) dX7_init_59 (fun H hW => ?_)
  obtain ⟨m14, em14⟩ : ∃ z, z = nw m13 9 8 := ⟨_, rfl⟩
  rw [← em14] at hW
  have hw := hw m14 em14
  refine R_putP (C := RX7) (T := TX7) (N := 36) hx hb hts i8 tyX7 tyX7_ok nmX7 hown hK hW 14 hw.1 (by decide) rfl (by decide) (hts (.fieldLink RX7 34 "BoatLiftModel" "iceTo" "[I") (by decide +kernel)) (fun _ h => h) (Or.inr ⟨rfl, hnm, rfl⟩) (Or.inr ⟨_, rfl⟩) hw.2.1 (fun _ _ _ => rfl) (fun _ _ _ => rfl) dX7_init_61 (fun H locs hW => ?_)
  obtain ⟨m15, em15⟩ : ∃ z, z = sP m14 v0 14 (mS m13) := ⟨_, rfl⟩
  rw [← em15] at hW
  have hw := hw.2.2 m15 em15
  refine lv_aload_n hx hb dX7_init_64 rfl (lv_at hl 0 rfl) ?_
  refine lv_bipush (v := (16 : Int32)) hx hb dX7_init_65 (by decide) ?_
  refine R_newI hx hb (hts (.arrayClass .int) (by decide +kernel)) hK hW 16 (by decide) (by decide) (by decide) (by decide) (by decide) dX7_init_67 (fun H hW => ?_)
  obtain ⟨m16, em16⟩ : ∃ z, z = nw m15 9 16 := ⟨_, rfl⟩
  rw [← em16] at hW
  have hw := hw m16 em16
  refine R_putP (C := RX7) (T := TX7) (N := 36) hx hb hts i8 tyX7 tyX7_ok nmX7 hown hK hW 15 hw.1 (by decide) rfl (by decide) (hts (.fieldLink RX7 37 "BoatLiftModel" "at" "[I") (by decide +kernel)) (fun _ h => h) (Or.inr ⟨rfl, hnm, rfl⟩) (Or.inr ⟨_, rfl⟩) hw.2.1 (fun _ _ _ => rfl) (fun _ _ _ => rfl) dX7_init_69 (fun H locs hW => ?_)
  obtain ⟨m17, em17⟩ : ∃ z, z = sP m16 v0 15 (mS m15) := ⟨_, rfl⟩
  rw [← em17] at hW
  have hw := hw.2.2 m17 em17
  refine lv_aload_n hx hb dX7_init_72 rfl (lv_at hl 0 rfl) ?_
  refine lv_bipush (v := (16 : Int32)) hx hb dX7_init_73 (by decide) ?_
  refine R_newI hx hb (hts (.arrayClass .int) (by decide +kernel)) hK hW 16 (by decide) (by decide) (by decide) (by decide) (by decide) dX7_init_75 (fun H hW => ?_)
  obtain ⟨m18, em18⟩ : ∃ z, z = nw m17 9 16 := ⟨_, rfl⟩
  rw [← em18] at hW
  have hw := hw m18 em18
  refine R_putP (C := RX7) (T := TX7) (N := 36) hx hb hts i8 tyX7 tyX7_ok nmX7 hown hK hW 16 hw.1 (by decide) rfl (by decide) (hts (.fieldLink RX7 40 "BoatLiftModel" "there" "[I") (by decide +kernel)) (fun _ h => h) (Or.inr ⟨rfl, hnm, rfl⟩) (Or.inr ⟨_, rfl⟩) hw.2.1 (fun _ _ _ => rfl) (fun _ _ _ => rfl) dX7_init_77 (fun H locs hW => ?_)
  obtain ⟨m19, em19⟩ : ∃ z, z = sP m18 v0 16 (mS m17) := ⟨_, rfl⟩
  rw [← em19] at hW
  have hw := hw.2.2 m19 em19
  refine lv_aload_n hx hb dX7_init_80 rfl (lv_at hl 0 rfl) ?_
  refine lv_bipush (v := (16 : Int32)) hx hb dX7_init_81 (by decide) ?_
  refine R_newI hx hb (hts (.arrayClass .int) (by decide +kernel)) hK hW 16 (by decide) (by decide) (by decide) (by decide) (by decide) dX7_init_83 (fun H hW => ?_)
  obtain ⟨m20, em20⟩ : ∃ z, z = nw m19 9 16 := ⟨_, rfl⟩
  rw [← em20] at hW
  have hw := hw m20 em20
  refine R_putP (C := RX7) (T := TX7) (N := 36) hx hb hts i8 tyX7 tyX7_ok nmX7 hown hK hW 17 hw.1 (by decide) rfl (by decide) (hts (.fieldLink RX7 43 "BoatLiftModel" "size" "[I") (by decide +kernel)) (fun _ h => h) (Or.inr ⟨rfl, hnm, rfl⟩) (Or.inr ⟨_, rfl⟩) hw.2.1 (fun _ _ _ => rfl) (fun _ _ _ => rfl) dX7_init_85 (fun H locs hW => ?_)
  obtain ⟨m21, em21⟩ : ∃ z, z = sP m20 v0 17 (mS m19) := ⟨_, rfl⟩
  rw [← em21] at hW
  have hw := hw.2.2 m21 em21
  refine lv_aload_n hx hb dX7_init_88 rfl (lv_at hl 0 rfl) ?_
  refine lv_bipush (v := (16 : Int32)) hx hb dX7_init_89 (by decide) ?_
  refine R_newI hx hb (hts (.arrayClass .int) (by decide +kernel)) hK hW 16 (by decide) (by decide) (by decide) (by decide) (by decide) dX7_init_91 (fun H hW => ?_)
  obtain ⟨m22, em22⟩ : ∃ z, z = nw m21 9 16 := ⟨_, rfl⟩
  rw [← em22] at hW
  have hw := hw m22 em22
  refine R_putP (C := RX7) (T := TX7) (N := 36) hx hb hts i8 tyX7 tyX7_ok nmX7 hown hK hW 18 hw.1 (by decide) rfl (by decide) (hts (.fieldLink RX7 46 "BoatLiftModel" "draught" "[I") (by decide +kernel)) (fun _ h => h) (Or.inr ⟨rfl, hnm, rfl⟩) (Or.inr ⟨_, rfl⟩) hw.2.1 (fun _ _ _ => rfl) (fun _ _ _ => rfl) dX7_init_93 (fun H locs hW => ?_)
  obtain ⟨m23, em23⟩ : ∃ z, z = sP m22 v0 18 (mS m21) := ⟨_, rfl⟩
  rw [← em23] at hW
  have hw := hw.2.2 m23 em23
  refine lv_aload_n hx hb dX7_init_96 rfl (lv_at hl 0 rfl) ?_
  refine lv_bipush (v := (16 : Int32)) hx hb dX7_init_97 (by decide) ?_
  refine R_newI hx hb (hts (.arrayClass .int) (by decide +kernel)) hK hW 16 (by decide) (by decide) (by decide) (by decide) (by decide) dX7_init_99 (fun H hW => ?_)
  obtain ⟨m24, em24⟩ : ∃ z, z = nw m23 9 16 := ⟨_, rfl⟩
  rw [← em24] at hW
  have hw := hw m24 em24
  refine R_putP (C := RX7) (T := TX7) (N := 36) hx hb hts i8 tyX7 tyX7_ok nmX7 hown hK hW 19 hw.1 (by decide) rfl (by decide) (hts (.fieldLink RX7 49 "BoatLiftModel" "weight" "[I") (by decide +kernel)) (fun _ h => h) (Or.inr ⟨rfl, hnm, rfl⟩) (Or.inr ⟨_, rfl⟩) hw.2.1 (fun _ _ _ => rfl) (fun _ _ _ => rfl) dX7_init_101 (fun H locs hW => ?_)
  obtain ⟨m25, em25⟩ : ∃ z, z = sP m24 v0 19 (mS m23) := ⟨_, rfl⟩
  rw [← em25] at hW
  have hw := hw.2.2 m25 em25
  refine lv_aload_n hx hb dX7_init_104 rfl (lv_at hl 0 rfl) ?_
  refine lv_bipush (v := (16 : Int32)) hx hb dX7_init_105 (by decide) ?_
  refine R_newI hx hb (hts (.arrayClass .int) (by decide +kernel)) hK hW 16 (by decide) (by decide) (by decide) (by decide) (by decide) dX7_init_107 (fun H hW => ?_)
  obtain ⟨m26, em26⟩ : ∃ z, z = nw m25 9 16 := ⟨_, rfl⟩
  rw [← em26] at hW
  have hw := hw m26 em26
  refine R_putP (C := RX7) (T := TX7) (N := 36) hx hb hts i8 tyX7 tyX7_ok nmX7 hown hK hW 20 hw.1 (by decide) rfl (by decide) (hts (.fieldLink RX7 52 "BoatLiftModel" "rank" "[I") (by decide +kernel)) (fun _ h => h) (Or.inr ⟨rfl, hnm, rfl⟩) (Or.inr ⟨_, rfl⟩) hw.2.1 (fun _ _ _ => rfl) (fun _ _ _ => rfl) dX7_init_109 (fun H locs hW => ?_)
  obtain ⟨m27, em27⟩ : ∃ z, z = sP m26 v0 20 (mS m25) := ⟨_, rfl⟩
  rw [← em27] at hW
  have hw := hw.2.2 m27 em27
  refine lv_aload_n hx hb dX7_init_112 rfl (lv_at hl 0 rfl) ?_
  refine lv_bipush (v := (16 : Int32)) hx hb dX7_init_113 (by decide) ?_
  refine R_newI hx hb (hts (.arrayClass .int) (by decide +kernel)) hK hW 16 (by decide) (by decide) (by decide) (by decide) (by decide) dX7_init_115 (fun H hW => ?_)
  obtain ⟨m28, em28⟩ : ∃ z, z = nw m27 9 16 := ⟨_, rfl⟩
  rw [← em28] at hW
  have hw := hw m28 em28
  refine R_putP (C := RX7) (T := TX7) (N := 36) hx hb hts i8 tyX7 tyX7_ok nmX7 hown hK hW 21 hw.1 (by decide) rfl (by decide) (hts (.fieldLink RX7 55 "BoatLiftModel" "began" "[I") (by decide +kernel)) (fun _ h => h) (Or.inr ⟨rfl, hnm, rfl⟩) (Or.inr ⟨_, rfl⟩) hw.2.1 (fun _ _ _ => rfl) (fun _ _ _ => rfl) dX7_init_117 (fun H locs hW => ?_)
  obtain ⟨m29, em29⟩ : ∃ z, z = sP m28 v0 21 (mS m27) := ⟨_, rfl⟩
  rw [← em29] at hW
  have hw := hw.2.2 m29 em29
  refine lv_aload_n hx hb dX7_init_120 rfl (lv_at hl 0 rfl) ?_
  refine lv_bipush (v := (16 : Int32)) hx hb dX7_init_121 (by decide) ?_
  refine R_newI hx hb (hts (.arrayClass .int) (by decide +kernel)) hK hW 16 (by decide) (by decide) (by decide) (by decide) (by decide) dX7_init_123 (fun H hW => ?_)
  obtain ⟨m30, em30⟩ : ∃ z, z = nw m29 9 16 := ⟨_, rfl⟩
  rw [← em30] at hW
  have hw := hw m30 em30
  refine R_putP (C := RX7) (T := TX7) (N := 36) hx hb hts i8 tyX7 tyX7_ok nmX7 hown hK hW 23 hw.1 (by decide) rfl (by decide) (hts (.fieldLink RX7 58 "BoatLiftModel" "queue" "[I") (by decide +kernel)) (fun _ h => h) (Or.inr ⟨rfl, hnm, rfl⟩) (Or.inr ⟨_, rfl⟩) hw.2.1 (fun _ _ _ => rfl) (fun _ _ _ => rfl) dX7_init_125 (fun H locs hW => ?_)
  obtain ⟨m31, em31⟩ : ∃ z, z = sP m30 v0 23 (mS m29) := ⟨_, rfl⟩
  rw [← em31] at hW
  have hw := hw.2.2 m31 em31
  refine lv_aload_n hx hb dX7_init_128 rfl (lv_at hl 0 rfl) ?_
  refine lv_ldc hx hb hown (hts (.constant RX7 61 (262144)) (by decide +kernel)) dX7_init_129 ?_
  refine R_newI hx hb (hts (.arrayClass .int) (by decide +kernel)) hK hW 262144 (by decide) (by decide) (by decide) (by decide) (by decide) dX7_init_131 (fun H hW => ?_)
  obtain ⟨m32, em32⟩ : ∃ z, z = nw m31 9 262144 := ⟨_, rfl⟩
  rw [← em32] at hW
  have hw := hw m32 em32
  refine R_putP (C := RX7) (T := TX7) (N := 36) hx hb hts i8 tyX7 tyX7_ok nmX7 hown hK hW 29 hw.1 (by decide) rfl (by decide) (hts (.fieldLink RX7 62 "BoatLiftModel" "slot" "[I") (by decide +kernel)) (fun _ h => h) (Or.inr ⟨rfl, hnm, rfl⟩) (Or.inr ⟨_, rfl⟩) hw.2.1 (fun _ _ _ => rfl) (fun _ _ _ => rfl) dX7_init_133 (fun H locs hW => ?_)
  obtain ⟨m33, em33⟩ : ∃ z, z = sP m32 v0 29 (mS m31) := ⟨_, rfl⟩
  rw [← em33] at hW
  have hw := hw.2.2 m33 em33
  refine lv_aload_n hx hb dX7_init_136 rfl (lv_at hl 0 rfl) ?_
  refine lv_ldc hx hb hown (hts (.constant RX7 61 (262144)) (by decide +kernel)) dX7_init_137 ?_
  refine R_newI hx hb (hts (.arrayClass .int) (by decide +kernel)) hK hW 262144 (by decide) (by decide) (by decide) (by decide) (by decide) dX7_init_139 (fun H hW => ?_)
  obtain ⟨m34, em34⟩ : ∃ z, z = nw m33 9 262144 := ⟨_, rfl⟩
  rw [← em34] at hW
  have hw := hw m34 em34
  refine R_putP (C := RX7) (T := TX7) (N := 36) hx hb hts i8 tyX7 tyX7_ok nmX7 hown hK hW 30 hw.1 (by decide) rfl (by decide) (hts (.fieldLink RX7 65 "BoatLiftModel" "slotTurn" "[I") (by decide +kernel)) (fun _ h => h) (Or.inr ⟨rfl, hnm, rfl⟩) (Or.inr ⟨_, rfl⟩) hw.2.1 (fun _ _ _ => rfl) (fun _ _ _ => rfl) dX7_init_141 (fun H locs hW => ?_)
  obtain ⟨m35, em35⟩ : ∃ z, z = sP m34 v0 30 (mS m33) := ⟨_, rfl⟩
  rw [← em35] at hW
  have hw := hw.2.2 m35 em35
  refine lv_aload_n hx hb dX7_init_144 rfl (lv_at hl 0 rfl) ?_
  refine lv_ldc hx hb hown (hts (.constant RX7 61 (262144)) (by decide +kernel)) dX7_init_145 ?_
  refine R_newI hx hb (hts (.arrayClass .int) (by decide +kernel)) hK hW 262144 (by decide) (by decide) (by decide) (by decide) (by decide) dX7_init_147 (fun H hW => ?_)
  obtain ⟨m36, em36⟩ : ∃ z, z = nw m35 9 262144 := ⟨_, rfl⟩
  rw [← em36] at hW
  have hw := hw m36 em36
  refine R_putP (C := RX7) (T := TX7) (N := 36) hx hb hts i8 tyX7 tyX7_ok nmX7 hown hK hW 31 hw.1 (by decide) rfl (by decide) (hts (.fieldLink RX7 68 "BoatLiftModel" "wayKey" "[I") (by decide +kernel)) (fun _ h => h) (Or.inr ⟨rfl, hnm, rfl⟩) (Or.inr ⟨_, rfl⟩) hw.2.1 (fun _ _ _ => rfl) (fun _ _ _ => rfl) dX7_init_149 (fun H locs hW => ?_)
  obtain ⟨m37, em37⟩ : ∃ z, z = sP m36 v0 31 (mS m35) := ⟨_, rfl⟩
  rw [← em37] at hW
  have hw := hw.2.2 m37 em37
  refine lv_aload_n hx hb dX7_init_152 rfl (lv_at hl 0 rfl) ?_
  refine lv_ldc hx hb hown (hts (.constant RX7 61 (262144)) (by decide +kernel)) dX7_init_153 ?_
  refine R_newI hx hb (hts (.arrayClass .int) (by decide +kernel)) hK hW 262144 (by decide) (by decide) (by decide) (by decide) (by decide) dX7_init_155 (fun H hW => ?_)
  obtain ⟨m38, em38⟩ : ∃ z, z = nw m37 9 262144 := ⟨_, rfl⟩
  rw [← em38] at hW
  have hw := hw m38 em38
  refine R_putP (C := RX7) (T := TX7) (N := 36) hx hb hts i8 tyX7 tyX7_ok nmX7 hown hK hW 32 hw.1 (by decide) rfl (by decide) (hts (.fieldLink RX7 71 "BoatLiftModel" "wayWait" "[I") (by decide +kernel)) (fun _ h => h) (Or.inr ⟨rfl, hnm, rfl⟩) (Or.inr ⟨_, rfl⟩) hw.2.1 (fun _ _ _ => rfl) (fun _ _ _ => rfl) dX7_init_157 (fun H locs hW => ?_)
  obtain ⟨m39, em39⟩ : ∃ z, z = sP m38 v0 32 (mS m37) := ⟨_, rfl⟩
  rw [← em39] at hW
  have hw := hw.2.2 m39 em39
  refine lv_aload_n hx hb dX7_init_160 rfl (lv_at hl 0 rfl) ?_
  refine lv_ldc hx hb hown (hts (.constant RX7 61 (262144)) (by decide +kernel)) dX7_init_161 ?_
  refine R_newI hx hb (hts (.arrayClass .int) (by decide +kernel)) hK hW 262144 (by decide) (by decide) (by decide) (by decide) (by decide) dX7_init_163 (fun H hW => ?_)
  obtain ⟨m40, em40⟩ : ∃ z, z = nw m39 9 262144 := ⟨_, rfl⟩
  rw [← em40] at hW
  have hw := hw m40 em40
  refine R_putP (C := RX7) (T := TX7) (N := 36) hx hb hts i8 tyX7 tyX7_ok nmX7 hown hK hW 33 hw.1 (by decide) rfl (by decide) (hts (.fieldLink RX7 74 "BoatLiftModel" "next" "[I") (by decide +kernel)) (fun _ h => h) (Or.inr ⟨rfl, hnm, rfl⟩) (Or.inr ⟨_, rfl⟩) hw.2.1 (fun _ _ _ => rfl) (fun _ _ _ => rfl) dX7_init_165 (fun H locs hW => ?_)
  obtain ⟨m41, em41⟩ : ∃ z, z = sP m40 v0 33 (mS m39) := ⟨_, rfl⟩
  rw [← em41] at hW
  have hw := hw.2.2 m41 em41
  refine lv_aload_n hx hb dX7_init_168 rfl (lv_at hl 0 rfl) ?_
  refine lv_ldc hx hb hown (hts (.constant RX7 77 (40000)) (by decide +kernel)) dX7_init_169 ?_
  refine R_newI hx hb (hts (.arrayClass .int) (by decide +kernel)) hK hW 40000 (by decide) (by decide) (by decide) (by decide) (by decide) dX7_init_171 (fun H hW => ?_)
  obtain ⟨m42, em42⟩ : ∃ z, z = nw m41 9 40000 := ⟨_, rfl⟩
  rw [← em42] at hW
  have hw := hw m42 em42
  refine R_putP (C := RX7) (T := TX7) (N := 36) hx hb hts i8 tyX7 tyX7_ok nmX7 hown hK hW 34 hw.1 (by decide) rfl (by decide) (hts (.fieldLink RX7 78 "BoatLiftModel" "head" "[I") (by decide +kernel)) (fun _ h => h) (Or.inr ⟨rfl, hnm, rfl⟩) (Or.inr ⟨_, rfl⟩) hw.2.1 (fun _ _ _ => rfl) (fun _ _ _ => rfl) dX7_init_173 (fun H locs hW => ?_)
  obtain ⟨m43, em43⟩ : ∃ z, z = sP m42 v0 34 (mS m41) := ⟨_, rfl⟩
  rw [← em43] at hW
  have hw := hw.2.2 m43 em43
  refine lv_aload_n hx hb dX7_init_176 rfl (lv_at hl 0 rfl) ?_
  refine lv_bipush (v := (6 : Int32)) hx hb dX7_init_177 (by decide) ?_
  refine R_newI hx hb (hts (.arrayClass .int) (by decide +kernel)) hK hW 6 (by decide) (by decide) (by decide) (by decide) (by decide) dX7_init_179 (fun H hW => ?_)
  obtain ⟨m44, em44⟩ : ∃ z, z = nw m43 9 6 := ⟨_, rfl⟩
  rw [← em44] at hW
  have hw := hw m44 em44
  refine R_putP (C := RX7) (T := TX7) (N := 36) hx hb hts i8 tyX7 tyX7_ok nmX7 hown hK hW 35 hw.1 (by decide) rfl (by decide) (hts (.fieldLink RX7 81 "BoatLiftModel" "plan" "[I") (by decide +kernel)) (fun _ h => h) (Or.inr ⟨rfl, hnm, rfl⟩) (Or.inr ⟨_, rfl⟩) hw.2.1 (fun _ _ _ => rfl) (fun _ _ _ => rfl) dX7_init_181 (fun H locs hW => ?_)
  obtain ⟨m45, em45⟩ : ∃ z, z = sP m44 v0 35 (mS m43) := ⟨_, rfl⟩
  rw [← em45] at hW
  have hw := hw.2.2 m45 em45
  refine lv_aload_n hx hb dX7_init_184 rfl (lv_at hl 0 rfl) ?_
  refine R_getP (C := RX7) (T := TX7) (N := 36) hx hb hts i8 hown hK hW 9 hw.1 (by decide) rfl (by decide) (hts (.fieldLink RX7 17 "BoatLiftModel" "law" "[I") (by decide +kernel)) (fun _ h => h) (fun _ _ _ => rfl) hw.2.1 dX7_init_185 ?_
  have hw := hw.2.2
  refine R_call (va_runS (As := [.ref (ad g (mP m45 v0 9))]) (rest := []) ⟨hx, hb, hml, hown, hts⟩ (c_X7_asAtFirst l g m45 (mP m45 v0 9) _ hw) (va_cwS 1 hts gX7_init_X7_asAtFirst rfl rfl rfl (by decide +kernel) ⟨by decide, by decide⟩) (PP.pre hK hW) rfl rfl hl.1 rfl (lv_room (Nat.le_of_ble_eq_true rfl)) dX7_init_188 ⟨by decide, by decide⟩) hW (fun _ m47 H locs hw hW => ?_)
  refine W.eq (g2 := F0 m 191 ls []) rfl ?_
  refine lv_aload_n hx hb dX7_init_191 rfl (lv_at hl 0 rfl) ?_
  refine R_getP (C := RX7) (T := TX7) (N := 36) hx hb hts i8 hown hK hW 11 hw.1 (by decide) rfl (by decide) (hts (.fieldLink RX7 24 "BoatLiftModel" "area" "[I") (by decide +kernel)) (fun _ h => h) (fun _ _ _ => rfl) hw.2.1 dX7_init_192 ?_
  have hw := hw.2.2
  refine lv_iconst (v := (0 : Int32)) hx hb dX7_init_195 (by decide) ?_
  refine lv_sipush (v := (1000 : Int32)) hx hb dX7_init_196 (by decide) ?_
  refine R_iast hx hb hK hW hw.1 hw.2.1 dX7_init_199 (fun H locs hW => ?_)
  obtain ⟨m48, em48⟩ : ∃ z, z = sI m47 (mP m47 v0 11) (0 : Int32).toNatClampNeg (1000 : Int32) := ⟨_, rfl⟩
  rw [← em48] at hW
  have hw := hw.2.2 m48 em48
  refine lv_aload_n hx hb dX7_init_200 rfl (lv_at hl 0 rfl) ?_
  refine R_getP (C := RX7) (T := TX7) (N := 36) hx hb hts i8 hown hK hW 11 hw.1 (by decide) rfl (by decide) (hts (.fieldLink RX7 24 "BoatLiftModel" "area" "[I") (by decide +kernel)) (fun _ h => h) (fun _ _ _ => rfl) hw.2.1 dX7_init_201 ?_
  have hw := hw.2.2
  refine lv_iconst (v := (1 : Int32)) hx hb dX7_init_204 (by decide) ?_
  refine lv_sipush (v := (1000 : Int32)) hx hb dX7_init_205 (by decide) ?_
  refine R_iast hx hb hK hW hw.1 hw.2.1 dX7_init_208 (fun H locs hW => ?_)
  obtain ⟨m49, em49⟩ : ∃ z, z = sI m48 (mP m48 v0 11) (1 : Int32).toNatClampNeg (1000 : Int32) := ⟨_, rfl⟩
  rw [← em49] at hW
  have hw := hw.2.2 m49 em49
  exact R_vret hx hb hr hlk hW hw dX7_init_209
