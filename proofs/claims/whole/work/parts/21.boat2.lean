def wp_X6_turnOf_2 (K2 : Int32 → Mm → Prop) (v0 : Nat) (v1 : Nat) (v2 : Int32) (mm : Mm) (Φ : Int32 → Mm → Prop) : Prop :=
  mT mm v0 = 7 ∧ (mP mm v0 7) ≠ 0 ∧ mT mm (mP mm v0 7) = 0 ∧ wp_Jx4a65c_size_8abf5 mm (mP mm v0 7) (fun (r1 : Int32) (m2 : Mm) => ((r1 ≤ v2 → Φ v2 m2) ∧ (¬ r1 ≤ v2 → mT m2 v0 = 7 ∧ (mP m2 v0 7) ≠ 0 ∧ mT m2 (mP m2 v0 7) = 0 ∧ wp_Jx4a65c_get_915e3 m2 (mP m2 v0 7) v2 (fun (r4 : Nat) (m5 : Mm) => mT m5 r4 = 1 ∧ mT m5 v1 = 1 ∧ wp_X0_goesAheadOf m5 v1 r4 (fun (r6 : Int32) (m7 : Mm) => ((¬ r6 = 0 → Φ v2 m7) ∧ (r6 = 0 → K2 (v2 + (1 : Int32)) m7)))))))
def wp_X6_turnOf (m0 : Mm) (v0 : Nat) (v1 : Nat) (Φ : Int32 → Mm → Prop) : Prop :=
  ∃ n, LOp (fun K x => wp_X6_turnOf_2  (fun z0 z1 => K (z0, z1)) v0 v1 x.1 x.2 Φ) n ((0 : Int32), m0)
abbrev rm_X6_turnOf : Room := { frames := 3, cells := 0, slots := 0, locals := 64 }
set_option maxHeartbeats 4000000 in
set_option maxRecDepth 100000 in
theorem c_X6_turnOf (l : Launch) (g : Gv) (m0 : Mm) (v0 : Nat) (v1 : Nat) (Φ : Int32 → Mm → Prop) (hw : wp_X6_turnOf m0 v0 v1 Φ) : Met l yX6_turnOf wsX6_turnOf rm_X6_turnOf (PP g [.ref (ad g v0), .ref (ad g v1)] m0) (QQ g vI Φ) 0 0 (Ag g) := by
  refine CT_of (by decide +kernel) rfl (Nat.le_of_ble_eq_true rfl) ?_
  intro p e s m below meth c hx hb hr hml hown hts hlk hnm hK hW ls hl
  have hown : s.vm.findClass RX6 = some m.cls := hown
  have hl : lv_has ls 3 [(0, .ref (ad g v0)), (1, .ref (ad g v1))] := hl
  have i7 : ∀ w ∈ u_ws RX6 TX6 15, w ∈ wsX6_turnOf := by decide +kernel
  have L2 : ∀ (n : Nat) (v2 : Int32) (mm : Mm), LOp (fun K x => wp_X6_turnOf_2  (fun z0 z1 => K (z0, z1)) v0 v1 x.1 x.2 Φ) n (v2, mm) → WW p l e rm_X6_turnOf s m ([.ref (ad g v0), .ref (ad g v1)] : List Value).toArray below meth c (MQ below (QQ g vI Φ) ([.ref (ad g v0), .ref (ad g v1)] : List Value).toArray s 0 0 (Ag g)) g mm 3 0 0 2 [(0, .ref (ad g v0)), (1, .ref (ad g v1)), (2, .int v2)] [] := by
    intro  n
    induction n with
    | zero => intro v2 mm hw; exact hw.elim
    | succ n ih2 =>
      obtain ⟨K2, eK2⟩ : ∃ K : Int32 → Mm → Prop, K = fun v2 mm => LOp (fun K x => wp_X6_turnOf_2  (fun z0 z1 => K (z0, z1)) v0 v1 x.1 x.2 Φ) n (v2, mm) := ⟨_, rfl⟩
      have ih2 : ∀ (v2 : Int32) (mm : Mm), K2 v2 mm → WW p l e rm_X6_turnOf s m ([.ref (ad g v0), .ref (ad g v1)] : List Value).toArray below meth c (MQ below (QQ g vI Φ) ([.ref (ad g v0), .ref (ad g v1)] : List Value).toArray s 0 0 (Ag g)) g mm 3 0 0 2 [(0, .ref (ad g v0)), (1, .ref (ad g v1)), (2, .int v2)] [] := by rw [eK2]; exact ih2
      intro v2 mm hw H locs ls hW hl
      have hw : wp_X6_turnOf_2 K2 v0 v1 v2 mm Φ := by rw [eK2]; exact hw
      unfold wp_X6_turnOf_2 at hw
      refine lv_iload_n hx hb dX6_turnOf_2 rfl (lv_at hl 2 rfl) ?_
      refine lv_aload_n hx hb dX6_turnOf_3 rfl (lv_at hl 0 rfl) ?_
      refine R_getP (C := RX6) (T := TX6) (N := 15) hx hb hts i7 hown hK hW 7 hw.1 (by decide) rfl (by decide) (hts (.fieldLink RX6 60 "BoatLift" "byTurn" "Ljava/util/List;") (by decide +kernel)) (fun _ h => h) (fun _ _ _ => rfl) hw.2.1 dX6_turnOf_4 ?_
      have hw := hw.2.2
      refine R_call5 (va_runF (As := []) (rest := [.int v2]) (hK.1.1 0 (RJx4a65c, TJx4a65c, 3) rfl).2 ⟨hx, hb, hml, hown, hts⟩ (c_Jx4a65c_size_8abf5 l g mm (mP mm v0 7) _ hw.2) (va_cwF 0 hts gX6_turnOf_Jx4a65c_size_8abf5_f116Jx4a65c rfl rfl rfl hK.2.2.2.2.2.1.1 (by decide +kernel) ⟨by decide, by decide⟩) (PP.preV (q := (RJx4a65c, TJx4a65c, 3)) hK hW hw.1 (by decide) rfl) rfl rfl hl.1 rfl (lv_room (Nat.le_of_ble_eq_true rfl)) dX6_turnOf_7 ⟨by decide, by decide⟩) hW (fun r1 m2 H locs hw hW => ?_)
      refine W.eq (g2 := F0 m 12 ls [.int r1, .int v2]) rfl ?_
      refine lv_icmp_ge (tgt := 41) hx hb dX6_turnOf_12 (by decide) (fun c3 => ?_) (fun c3 => ?_)
      · have hw := hw.1 c3
        refine lv_iload_n hx hb dX6_turnOf_41 rfl (lv_at hl 2 rfl) ?_
        exact R_iret hx hb hr hlk hW hw dX6_turnOf_42
      · have hw := hw.2 c3
        refine lv_aload_n hx hb dX6_turnOf_15 rfl (lv_at hl 1 rfl) ?_
        refine lv_aload_n hx hb dX6_turnOf_16 rfl (lv_at hl 0 rfl) ?_
        refine R_getP (C := RX6) (T := TX6) (N := 15) hx hb hts i7 hown hK hW 7 hw.1 (by decide) rfl (by decide) (hts (.fieldLink RX6 60 "BoatLift" "byTurn" "Ljava/util/List;") (by decide +kernel)) (fun _ h => h) (fun _ _ _ => rfl) hw.2.1 dX6_turnOf_17 ?_
        have hw := hw.2.2
        refine lv_iload_n hx hb dX6_turnOf_20 rfl (lv_at hl 2 rfl) ?_
        refine R_call5 (va_runF (As := [.int v2]) (rest := [.ref (ad g v1)]) (hK.1.1 0 (RJx4a65c, TJx4a65c, 3) rfl).2 ⟨hx, hb, hml, hown, hts⟩ (c_Jx4a65c_get_915e3 l g m2 (mP m2 v0 7) v2 _ hw.2) (va_cwF 1 hts gX6_turnOf_Jx4a65c_get_915e3_f138Jx4a65c rfl rfl rfl hK.2.2.2.2.2.1.2.1 (by decide +kernel) ⟨by decide, by decide⟩) (PP.preV (q := (RJx4a65c, TJx4a65c, 3)) hK hW hw.1 (by decide) rfl) rfl rfl hl.1 rfl (lv_room (Nat.le_of_ble_eq_true rfl)) dX6_turnOf_21 ⟨by decide, by decide⟩) hW (fun r4 m5 H locs hw hW => ?_)
        refine W.eq (g2 := F0 m 26 ls [.ref (ad g r4), .ref (ad g v1)]) rfl ?_
        refine va_castS hx hb hown (hts (.classLink RX6 119 "BoatLift$Boat") (by decide +kernel)) (hK.1.1 1 (RX0, TX0, 8) rfl).2 (R_recv (q := (RX0, TX0, 8)) hK hW hw.1 (by decide) rfl) dX6_turnOf_26 ?_
        have hw := hw.2
        refine R_call (va_runV (As := [.ref (ad g r4)]) (rest := []) ⟨hx, hb, hml, hown, hts⟩ (c_X0_goesAheadOf l g m5 v1 r4 _ hw.2) (cwV 1 hts gX6_turnOf_X0_goesAheadOf rfl rfl rfl (by decide +kernel) ⟨by decide, by decide⟩) (PP.preV (q := (RX0, TX0, 8)) hK hW hw.1 (by decide) rfl) rfl rfl hl.1 rfl (lv_room (Nat.le_of_ble_eq_true rfl)) dX6_turnOf_29 ⟨by decide, by decide⟩) hW (fun r6 m7 H locs hw hW => ?_)
        refine W.eq (g2 := F0 m 32 ls [.int r6]) rfl ?_
        refine lv_if_ne (tgt := 41) hx hb dX6_turnOf_32 (by decide) (fun c8 => ?_) (fun c8 => ?_)
        · have hw := hw.1 c8
          refine lv_iload_n hx hb dX6_turnOf_41 rfl (lv_at hl 2 rfl) ?_
          exact R_iret hx hb hr hlk hW hw dX6_turnOf_42
        · have hw := hw.2 c8
          refine lv_iinc (v := (v2 + (1 : Int32))) (lv' := [(2, .int (v2 + (1 : Int32))), (0, .ref (ad g v0)), (1, .ref (ad g v1))]) hx hb dX6_turnOf_35 hl (k := 2) rfl rfl (by decide) rfl (fun ls hl => ?_)
          refine lv_goto (tgt := 2) hx hb dX6_turnOf_38 (by decide) ?_
          exact ih2 (v2 + (1 : Int32)) m7 hw _ _ _ hW (lv_sub hl [1, 2, 0] rfl)
  unfold wp_X6_turnOf at hw
  refine lv_iconst (v := (0 : Int32)) hx hb dX6_turnOf_0 (by decide) ?_
  refine lv_istore_n (lv' := [(2, .int (0 : Int32)), (0, .ref (ad g v0)), (1, .ref (ad g v1))]) hx hb dX6_turnOf_1 rfl hl (by decide) rfl (fun ls hl => ?_)
  obtain ⟨n, hw⟩ := hw
  exact L2  n (0 : Int32) m0 hw _ _ _ hW (lv_sub hl [1, 2, 0] rfl)

def wp_X6_fittingAt_71 (K10 : Int32 → Int32 → Int32 → Mm → Prop) (v0 : Nat) (v1 : Int32) (v2 : Int32) (v3 : Int32) (v4 : Int32) (mm : Mm) (Φ : Int32 → Mm → Prop) : Prop :=
  K10 v2 v3 (v4 + (1 : Int32)) mm
def wp_X6_fittingAt_10 (K10 : Int32 → Int32 → Int32 → Mm → Prop) (v0 : Nat) (v1 : Int32) (v2 : Int32) (v3 : Int32) (v4 : Int32) (mm : Mm) (Φ : Int32 → Mm → Prop) : Prop :=
  mT mm v0 = 7 ∧ (mP mm v0 7) ≠ 0 ∧ mT mm (mP mm v0 7) = 0 ∧ wp_Jx4a65c_size_8abf5 mm (mP mm v0 7) (fun (r1 : Int32) (m2 : Mm) => ((r1 ≤ v4 → Φ v3 m2) ∧ (¬ r1 ≤ v4 → mT m2 v0 = 7 ∧ (mP m2 v0 7) ≠ 0 ∧ mT m2 (mP m2 v0 7) = 0 ∧ wp_Jx4a65c_get_915e3 m2 (mP m2 v0 7) v4 (fun (r4 : Nat) (m5 : Mm) => mT m5 r4 = 1 ∧ mT m5 v0 = 7 ∧ mT m5 v0 = 7 ∧ wp_X6_isQueued m5 v0 r4 (mI m5 v0 9) v1 (fun (r6 : Int32) (m7 : Mm) => ((r6 = 0 → wp_X6_fittingAt_71 K10 v0 v1 v2 v3 v4 m7 Φ) ∧ (¬ r6 = 0 → mT m7 r4 = 1 ∧ ((0 ≤ (v2 - (mI m7 r4 3)) → wp_X6_fittingAt_71 K10 v0 v1 (v2 - (mI m7 r4 3)) (v3 + (1 : Int32)) v4 m7 Φ) ∧ (¬ 0 ≤ (v2 - (mI m7 r4 3)) → Φ v3 m7)))))))))
def wp_X6_fittingAt (m0 : Mm) (v0 : Nat) (v1 : Int32) (Φ : Int32 → Mm → Prop) : Prop :=
  mT m0 v0 = 7 ∧ ∃ n, LOp (fun K x => wp_X6_fittingAt_10  (fun z0 z1 z2 z3 => K (z0, z1, z2, z3)) v0 v1 x.1 x.2.1 x.2.2.1 x.2.2.2 Φ) n ((mI m0 v0 8), (0 : Int32), (0 : Int32), m0)
abbrev rm_X6_fittingAt : Room := { frames := 6, cells := 0, slots := 0, locals := 131 }
set_option maxHeartbeats 4000000 in
set_option maxRecDepth 100000 in
theorem c_X6_fittingAt (l : Launch) (g : Gv) (m0 : Mm) (v0 : Nat) (v1 : Int32) (Φ : Int32 → Mm → Prop) (hw : wp_X6_fittingAt m0 v0 v1 Φ) : Met l yX6_fittingAt wsX6_fittingAt rm_X6_fittingAt (PP g [.ref (ad g v0), .int v1] m0) (QQ g vI Φ) 0 0 (Ag g) := by
  refine CT_of (by decide +kernel) rfl (Nat.le_of_ble_eq_true rfl) ?_
  intro p e s m below meth c hx hb hr hml hown hts hlk hnm hK hW ls hl
  have hown : s.vm.findClass RX6 = some m.cls := hown
  have hl : lv_has ls 6 [(0, .ref (ad g v0)), (1, .int v1)] := hl
  have i1 : ∀ w ∈ u_ws RX0 TX0 8, w ∈ wsX6_fittingAt := by decide +kernel
  have i7 : ∀ w ∈ u_ws RX6 TX6 15, w ∈ wsX6_fittingAt := by decide +kernel
  have L10 : ∀ (n : Nat) (v2 : Int32) (v3 : Int32) (v4 : Int32) (mm : Mm), LOp (fun K x => wp_X6_fittingAt_10  (fun z0 z1 z2 z3 => K (z0, z1, z2, z3)) v0 v1 x.1 x.2.1 x.2.2.1 x.2.2.2 Φ) n (v2, v3, v4, mm) → WW p l e rm_X6_fittingAt s m ([.ref (ad g v0), .int v1] : List Value).toArray below meth c (MQ below (QQ g vI Φ) ([.ref (ad g v0), .int v1] : List Value).toArray s 0 0 (Ag g)) g mm 6 0 0 10 [(0, .ref (ad g v0)), (1, .int v1), (2, .int v2), (3, .int v3), (4, .int v4)] [] := by
    intro  n
    induction n with
    | zero => intro v2 v3 v4 mm hw; exact hw.elim
    | succ n ih10 =>
      obtain ⟨K10, eK10⟩ : ∃ K : Int32 → Int32 → Int32 → Mm → Prop, K = fun v2 v3 v4 mm => LOp (fun K x => wp_X6_fittingAt_10  (fun z0 z1 z2 z3 => K (z0, z1, z2, z3)) v0 v1 x.1 x.2.1 x.2.2.1 x.2.2.2 Φ) n (v2, v3, v4, mm) := ⟨_, rfl⟩
      have ih10 : ∀ (v2 : Int32) (v3 : Int32) (v4 : Int32) (mm : Mm), K10 v2 v3 v4 mm → WW p l e rm_X6_fittingAt s m ([.ref (ad g v0), .int v1] : List Value).toArray below meth c (MQ below (QQ g vI Φ) ([.ref (ad g v0), .int v1] : List Value).toArray s 0 0 (Ag g)) g mm 6 0 0 10 [(0, .ref (ad g v0)), (1, .int v1), (2, .int v2), (3, .int v3), (4, .int v4)] [] := by rw [eK10]; exact ih10
      have B71 : ∀ (v2 : Int32) (v3 : Int32) (v4 : Int32) (mm : Mm), wp_X6_fittingAt_71 K10 v0 v1 v2 v3 v4 mm Φ → WW p l e rm_X6_fittingAt s m ([.ref (ad g v0), .int v1] : List Value).toArray below meth c (MQ below (QQ g vI Φ) ([.ref (ad g v0), .int v1] : List Value).toArray s 0 0 (Ag g)) g mm 6 0 0 71 [(0, .ref (ad g v0)), (1, .int v1), (2, .int v2), (3, .int v3), (4, .int v4)] [] := by
        intro v2 v3 v4 mm hw H locs ls hW hl
        unfold wp_X6_fittingAt_71 at hw
        refine lv_iinc (v := (v4 + (1 : Int32))) (lv' := [(4, .int (v4 + (1 : Int32))), (0, .ref (ad g v0)), (1, .int v1), (2, .int v2), (3, .int v3)]) hx hb dX6_fittingAt_71 hl (k := 4) rfl rfl (by decide) rfl (fun ls hl => ?_)
        refine lv_goto (tgt := 10) hx hb dX6_fittingAt_74 (by decide) ?_
        exact ih10 v2 v3 (v4 + (1 : Int32)) mm hw _ _ _ hW (lv_sub hl [1, 2, 3, 4, 0] rfl)
      intro v2 v3 v4 mm hw H locs ls hW hl
      have hw : wp_X6_fittingAt_10 K10 v0 v1 v2 v3 v4 mm Φ := by rw [eK10]; exact hw
      unfold wp_X6_fittingAt_10 at hw
      refine lv_iload hx hb dX6_fittingAt_10 (lv_at hl 4 rfl) ?_
      refine lv_aload_n hx hb dX6_fittingAt_12 rfl (lv_at hl 0 rfl) ?_
      refine R_getP (C := RX6) (T := TX6) (N := 15) hx hb hts i7 hown hK hW 7 hw.1 (by decide) rfl (by decide) (hts (.fieldLink RX6 60 "BoatLift" "byTurn" "Ljava/util/List;") (by decide +kernel)) (fun _ h => h) (fun _ _ _ => rfl) hw.2.1 dX6_fittingAt_13 ?_
      have hw := hw.2.2
      refine R_call5 (va_runF (As := []) (rest := [.int v4]) (hK.1.1 0 (RJx4a65c, TJx4a65c, 3) rfl).2 ⟨hx, hb, hml, hown, hts⟩ (c_Jx4a65c_size_8abf5 l g mm (mP mm v0 7) _ hw.2) (va_cwF 0 hts gX6_fittingAt_Jx4a65c_size_8abf5_f116Jx4a65c rfl rfl rfl hK.2.2.2.2.2.1.1 (by decide +kernel) ⟨by decide, by decide⟩) (PP.preV (q := (RJx4a65c, TJx4a65c, 3)) hK hW hw.1 (by decide) rfl) rfl rfl hl.1 rfl (lv_room (Nat.le_of_ble_eq_true rfl)) dX6_fittingAt_16 ⟨by decide, by decide⟩) hW (fun r1 m2 H locs hw hW => ?_)
      refine W.eq (g2 := F0 m 21 ls [.int r1, .int v4]) rfl ?_
      refine lv_icmp_ge (tgt := 77) hx hb dX6_fittingAt_21 (by decide) (fun c3 => ?_) (fun c3 => ?_)
      · have hw := hw.1 c3
        refine lv_iload_n hx hb dX6_fittingAt_77 rfl (lv_at hl 3 rfl) ?_
        exact R_iret hx hb hr hlk hW hw dX6_fittingAt_78
      · have hw := hw.2 c3
        refine lv_aload_n hx hb dX6_fittingAt_24 rfl (lv_at hl 0 rfl) ?_
        refine R_getP (C := RX6) (T := TX6) (N := 15) hx hb hts i7 hown hK hW 7 hw.1 (by decide) rfl (by decide) (hts (.fieldLink RX6 60 "BoatLift" "byTurn" "Ljava/util/List;") (by decide +kernel)) (fun _ h => h) (fun _ _ _ => rfl) hw.2.1 dX6_fittingAt_25 ?_
        have hw := hw.2.2
        refine lv_iload hx hb dX6_fittingAt_28 (lv_at hl 4 rfl) ?_
        refine R_call5 (va_runF (As := [.int v4]) (rest := []) (hK.1.1 0 (RJx4a65c, TJx4a65c, 3) rfl).2 ⟨hx, hb, hml, hown, hts⟩ (c_Jx4a65c_get_915e3 l g m2 (mP m2 v0 7) v4 _ hw.2) (va_cwF 1 hts gX6_fittingAt_Jx4a65c_get_915e3_f138Jx4a65c rfl rfl rfl hK.2.2.2.2.2.1.2.1 (by decide +kernel) ⟨by decide, by decide⟩) (PP.preV (q := (RJx4a65c, TJx4a65c, 3)) hK hW hw.1 (by decide) rfl) rfl rfl hl.1 rfl (lv_room (Nat.le_of_ble_eq_true rfl)) dX6_fittingAt_30 ⟨by decide, by decide⟩) hW (fun r4 m5 H locs hw hW => ?_)
        refine W.eq (g2 := F0 m 35 ls [.ref (ad g r4)]) rfl ?_
        refine va_castS hx hb hown (hts (.classLink RX6 119 "BoatLift$Boat") (by decide +kernel)) (hK.1.1 1 (RX0, TX0, 8) rfl).2 (R_recv (q := (RX0, TX0, 8)) hK hW hw.1 (by decide) rfl) dX6_fittingAt_35 ?_
        have hw := hw.2
        refine lv_astore (lv' := [(5, .ref (ad g r4)), (0, .ref (ad g v0)), (1, .int v1), (2, .int v2), (3, .int v3), (4, .int v4)]) hx hb dX6_fittingAt_38 hl (by decide) rfl (fun ls hl => ?_)
        refine lv_aload_n hx hb dX6_fittingAt_40 rfl (lv_at hl 1 rfl) ?_
        refine lv_aload hx hb dX6_fittingAt_41 (lv_at hl 0 rfl) ?_
        refine lv_aload_n hx hb dX6_fittingAt_43 rfl (lv_at hl 1 rfl) ?_
        refine R_getI (C := RX6) (T := TX6) (N := 15) hx hb hts i7 hown hK hW 9 hw.1 (by decide) rfl (by decide) (hts (.fieldLink RX6 67 "BoatLift" "troughSide" "I") (by decide +kernel)) (fun _ h => h) (fun _ _ _ => rfl) dX6_fittingAt_44 ?_
        have hw := hw.2
        refine lv_iload_n hx hb dX6_fittingAt_47 rfl (lv_at hl 2 rfl) ?_
        refine R_call (va_runV (As := [.ref (ad g r4), .int (mI m5 v0 9), .int v1]) (rest := []) ⟨hx, hb, hml, hown, hts⟩ (c_X6_isQueued l g m5 v0 r4 (mI m5 v0 9) v1 _ hw.2) (cwV 3 hts gX6_fittingAt_X6_isQueued rfl rfl rfl (by decide +kernel) ⟨by decide, by decide⟩) (PP.preV (q := (RX6, TX6, 15)) hK hW hw.1 (by decide) rfl) rfl rfl hl.1 rfl (lv_room (Nat.le_of_ble_eq_true rfl)) dX6_fittingAt_48 ⟨by decide, by decide⟩) hW (fun r6 m7 H locs hw hW => ?_)
        refine W.eq (g2 := F0 m 51 ls [.int r6]) rfl ?_
        refine lv_if_eq (tgt := 71) hx hb dX6_fittingAt_51 (by decide) (fun c8 => ?_) (fun c8 => ?_)
        · have hw := hw.1 c8
          exact B71 v2 v3 v4 m7 hw _ _ _ hW (lv_sub hl [1, 2, 3, 4, 5] rfl)
        · have hw := hw.2 c8
          refine lv_iload_n hx hb dX6_fittingAt_54 rfl (lv_at hl 3 rfl) ?_
          refine lv_aload hx hb dX6_fittingAt_55 (lv_at hl 0 rfl) ?_
          refine R_getI (C := RX0) (T := TX0) (N := 8) hx hb hts i1 hown hK hW 3 hw.1 (by decide) rfl (by decide) (hts (.fieldLink RX6 201 "BoatLift$Boat" "length" "I") (by decide +kernel)) (fun _ h => h) (fun _ _ _ => rfl) dX6_fittingAt_57 ?_
          have hw := hw.2
          refine lv_isub hx hb dX6_fittingAt_60 ?_
          refine lv_istore_n (lv' := [(2, .int (v2 - (mI m7 r4 3))), (5, .ref (ad g r4)), (0, .ref (ad g v0)), (1, .int v1), (3, .int v3), (4, .int v4)]) hx hb dX6_fittingAt_61 rfl hl (by decide) rfl (fun ls hl => ?_)
          refine lv_iload_n hx hb dX6_fittingAt_62 rfl (lv_at hl 0 rfl) ?_
          refine lv_if_ge (tgt := 68) hx hb dX6_fittingAt_63 (by decide) (fun c9 => ?_) (fun c9 => ?_)
          · have hw := hw.1 c9
            refine lv_iinc (v := (v3 + (1 : Int32))) (lv' := [(3, .int (v3 + (1 : Int32))), (2, .int (v2 - (mI m7 r4 3))), (5, .ref (ad g r4)), (0, .ref (ad g v0)), (1, .int v1), (4, .int v4)]) hx hb dX6_fittingAt_68 hl (k := 4) rfl rfl (by decide) rfl (fun ls hl => ?_)
            exact B71 (v2 - (mI m7 r4 3)) (v3 + (1 : Int32)) v4 m7 hw _ _ _ hW (lv_sub hl [3, 4, 1, 0, 5] rfl)
          · have hw := hw.2 c9
            refine lv_iload_n hx hb dX6_fittingAt_66 rfl (lv_at hl 4 rfl) ?_
            exact R_iret hx hb hr hlk hW hw dX6_fittingAt_67
  unfold wp_X6_fittingAt at hw
  refine lv_aload_n hx hb dX6_fittingAt_0 rfl (lv_at hl 0 rfl) ?_
  refine R_getI (C := RX6) (T := TX6) (N := 15) hx hb hts i7 hown hK hW 8 hw.1 (by decide) rfl (by decide) (hts (.fieldLink RX6 63 "BoatLift" "troughLength" "I") (by decide +kernel)) (fun _ h => h) (fun _ _ _ => rfl) dX6_fittingAt_1 ?_
  have hw := hw.2
  refine lv_istore_n (lv' := [(2, .int (mI m0 v0 8)), (0, .ref (ad g v0)), (1, .int v1)]) hx hb dX6_fittingAt_4 rfl hl (by decide) rfl (fun ls hl => ?_)
  refine lv_iconst (v := (0 : Int32)) hx hb dX6_fittingAt_5 (by decide) ?_
  refine lv_istore_n (lv' := [(3, .int (0 : Int32)), (2, .int (mI m0 v0 8)), (0, .ref (ad g v0)), (1, .int v1)]) hx hb dX6_fittingAt_6 rfl hl (by decide) rfl (fun ls hl => ?_)
  refine lv_iconst (v := (0 : Int32)) hx hb dX6_fittingAt_7 (by decide) ?_
  refine lv_istore (lv' := [(4, .int (0 : Int32)), (3, .int (0 : Int32)), (2, .int (mI m0 v0 8)), (0, .ref (ad g v0)), (1, .int v1)]) hx hb dX6_fittingAt_8 hl (by decide) rfl (fun ls hl => ?_)
  obtain ⟨n, hw⟩ := hw
  exact L10  n (mI m0 v0 8) (0 : Int32) (0 : Int32) m0 hw _ _ _ hW (lv_sub hl [3, 4, 2, 1, 0] rfl)

def wp_X6_carryFirst_95 (v0 : Nat) (v3 : Int32) (v4 : Int32) (mm : Mm) (Φ : Int32 → Mm → Prop) : Prop :=
  mT mm v0 = 7 ∧ mT mm v0 = 7 ∧ ∀ m1 : Mm, m1 = sI mm v0 13 ((mI mm v0 13) + v4) → Φ v3 m1
def wp_X6_carryFirst_89 (K8 : Int32 → Int32 → Int32 → Mm → Prop) (v0 : Nat) (v1 : Int32) (v2 : Int32) (v3 : Int32) (v4 : Int32) (v5 : Int32) (mm : Mm) (Φ : Int32 → Mm → Prop) : Prop :=
  K8 v3 v4 (v5 + (1 : Int32)) mm
def wp_X6_carryFirst_8 (K8 : Int32 → Int32 → Int32 → Mm → Prop) (v0 : Nat) (v1 : Int32) (v2 : Int32) (v3 : Int32) (v4 : Int32) (v5 : Int32) (mm : Mm) (Φ : Int32 → Mm → Prop) : Prop :=
  mT mm v0 = 7 ∧ (mP mm v0 7) ≠ 0 ∧ mT mm (mP mm v0 7) = 0 ∧ wp_Jx4a65c_size_8abf5 mm (mP mm v0 7) (fun (r2 : Int32) (m3 : Mm) => ((r2 ≤ v5 → wp_X6_carryFirst_95 v0 v3 v4 m3 Φ) ∧ (¬ r2 ≤ v5 → ((v1 ≤ v4 → wp_X6_carryFirst_95 v0 v3 v4 m3 Φ) ∧ (¬ v1 ≤ v4 → mT m3 v0 = 7 ∧ (mP m3 v0 7) ≠ 0 ∧ mT m3 (mP m3 v0 7) = 0 ∧ wp_Jx4a65c_get_915e3 m3 (mP m3 v0 7) v5 (fun (r6 : Nat) (m7 : Mm) => mT m7 r6 = 1 ∧ mT m7 v0 = 7 ∧ mT m7 v0 = 7 ∧ wp_X6_isQueued m7 v0 r6 (mI m7 v0 9) v2 (fun (r8 : Int32) (m9 : Mm) => ((r8 = 0 → wp_X6_carryFirst_89 K8 v0 v1 v2 v3 v4 v5 m9 Φ) ∧ (¬ r8 = 0 → mT m9 r6 = 1 ∧ ∀ m11 : Mm, m11 = sI m9 r6 7 v2 → mT m11 r6 = 1 ∧ mT m11 v0 = 7 ∧ mT m11 r6 = 1 ∧ wp_X0_waited m11 r6 (fun (r12 : Int32) (m13 : Mm) => mT m13 v0 = 7 ∧ ∀ m14 : Mm, m14 = sI m13 v0 14 ((mI m11 v0 14) + r12) → wp_X6_carryFirst_89 K8 v0 v1 v2 (v3 + (mI m11 r6 5)) (v4 + (1 : Int32)) v5 m14 Φ))))))))))
def wp_X6_carryFirst (m0 : Mm) (v0 : Nat) (v1 : Int32) (v2 : Int32) (Φ : Int32 → Mm → Prop) : Prop :=
  ∃ n, LOp (fun K x => wp_X6_carryFirst_8  (fun z0 z1 z2 z3 => K (z0, z1, z2, z3)) v0 v1 v2 x.1 x.2.1 x.2.2.1 x.2.2.2 Φ) n ((0 : Int32), (0 : Int32), (0 : Int32), m0)
abbrev rm_X6_carryFirst : Room := { frames := 6, cells := 0, slots := 0, locals := 131 }
set_option maxHeartbeats 4000000 in
set_option maxRecDepth 100000 in
theorem c_X6_carryFirst (l : Launch) (g : Gv) (m0 : Mm) (v0 : Nat) (v1 : Int32) (v2 : Int32) (Φ : Int32 → Mm → Prop) (hw : wp_X6_carryFirst m0 v0 v1 v2 Φ) : Met l yX6_carryFirst wsX6_carryFirst rm_X6_carryFirst (PP g [.ref (ad g v0), .int v1, .int v2] m0) (QQ g vI Φ) 0 0 (Ag g) := by
  refine CT_of (by decide +kernel) rfl (Nat.le_of_ble_eq_true rfl) ?_
  intro p e s m below meth c hx hb hr hml hown hts hlk hnm hK hW ls hl
  have hown : s.vm.findClass RX6 = some m.cls := hown
  have hl : lv_has ls 7 [(0, .ref (ad g v0)), (1, .int v1), (2, .int v2)] := hl
  have i1 : ∀ w ∈ u_ws RX0 TX0 8, w ∈ wsX6_carryFirst := by decide +kernel
  have i7 : ∀ w ∈ u_ws RX6 TX6 15, w ∈ wsX6_carryFirst := by decide +kernel
  have B95 : ∀ (v3 : Int32) (v4 : Int32) (mm : Mm), wp_X6_carryFirst_95 v0 v3 v4 mm Φ → WW p l e rm_X6_carryFirst s m ([.ref (ad g v0), .int v1, .int v2] : List Value).toArray below meth c (MQ below (QQ g vI Φ) ([.ref (ad g v0), .int v1, .int v2] : List Value).toArray s 0 0 (Ag g)) g mm 7 0 0 95 [(0, .ref (ad g v0)), (3, .int v3), (4, .int v4)] [] := by
    intro v3 v4 mm hw H locs ls hW hl
    unfold wp_X6_carryFirst_95 at hw
    refine lv_aload_n hx hb dX6_carryFirst_95 rfl (lv_at hl 0 rfl) ?_
    refine lv_dup hx hb dX6_carryFirst_96 rfl ?_
    refine R_getI (C := RX6) (T := TX6) (N := 15) hx hb hts i7 hown hK hW 13 hw.1 (by decide) rfl (by decide) (hts (.fieldLink RX6 223 "BoatLift" "carried" "I") (by decide +kernel)) (fun _ h => h) (fun _ _ _ => rfl) dX6_carryFirst_97 ?_
    have hw := hw.2
    refine lv_iload hx hb dX6_carryFirst_100 (lv_at hl 2 rfl) ?_
    refine lv_iadd hx hb dX6_carryFirst_102 ?_
    refine R_putI (C := RX6) (T := TX6) (N := 15) hx hb hts i7 tyX6 tyX6_ok nmX6 hown hK hW 13 hw.1 (by decide) rfl (by decide) (hts (.fieldLink RX6 223 "BoatLift" "carried" "I") (by decide +kernel)) (fun _ h => h) (Or.inl rfl) rfl (fun _ _ _ => rfl) (fun _ _ _ => rfl) dX6_carryFirst_103 (fun H locs hW => ?_)
    obtain ⟨m1, em1⟩ : ∃ z, z = sI mm v0 13 ((mI mm v0 13) + v4) := ⟨_, rfl⟩
    rw [← em1] at hW
    have hw := hw.2 m1 em1
    refine lv_iload_n hx hb dX6_carryFirst_106 rfl (lv_at hl 1 rfl) ?_
    exact R_iret hx hb hr hlk hW hw dX6_carryFirst_107
  have L8 : ∀ (n : Nat) (v3 : Int32) (v4 : Int32) (v5 : Int32) (mm : Mm), LOp (fun K x => wp_X6_carryFirst_8  (fun z0 z1 z2 z3 => K (z0, z1, z2, z3)) v0 v1 v2 x.1 x.2.1 x.2.2.1 x.2.2.2 Φ) n (v3, v4, v5, mm) → WW p l e rm_X6_carryFirst s m ([.ref (ad g v0), .int v1, .int v2] : List Value).toArray below meth c (MQ below (QQ g vI Φ) ([.ref (ad g v0), .int v1, .int v2] : List Value).toArray s 0 0 (Ag g)) g mm 7 0 0 8 [(0, .ref (ad g v0)), (1, .int v1), (2, .int v2), (3, .int v3), (4, .int v4), (5, .int v5)] [] := by
    intro  n
    induction n with
    | zero => intro v3 v4 v5 mm hw; exact hw.elim
    | succ n ih8 =>
      obtain ⟨K8, eK8⟩ : ∃ K : Int32 → Int32 → Int32 → Mm → Prop, K = fun v3 v4 v5 mm => LOp (fun K x => wp_X6_carryFirst_8  (fun z0 z1 z2 z3 => K (z0, z1, z2, z3)) v0 v1 v2 x.1 x.2.1 x.2.2.1 x.2.2.2 Φ) n (v3, v4, v5, mm) := ⟨_, rfl⟩
      have ih8 : ∀ (v3 : Int32) (v4 : Int32) (v5 : Int32) (mm : Mm), K8 v3 v4 v5 mm → WW p l e rm_X6_carryFirst s m ([.ref (ad g v0), .int v1, .int v2] : List Value).toArray below meth c (MQ below (QQ g vI Φ) ([.ref (ad g v0), .int v1, .int v2] : List Value).toArray s 0 0 (Ag g)) g mm 7 0 0 8 [(0, .ref (ad g v0)), (1, .int v1), (2, .int v2), (3, .int v3), (4, .int v4), (5, .int v5)] [] := by rw [eK8]; exact ih8
      have B89 : ∀ (v3 : Int32) (v4 : Int32) (v5 : Int32) (mm : Mm), wp_X6_carryFirst_89 K8 v0 v1 v2 v3 v4 v5 mm Φ → WW p l e rm_X6_carryFirst s m ([.ref (ad g v0), .int v1, .int v2] : List Value).toArray below meth c (MQ below (QQ g vI Φ) ([.ref (ad g v0), .int v1, .int v2] : List Value).toArray s 0 0 (Ag g)) g mm 7 0 0 89 [(0, .ref (ad g v0)), (1, .int v1), (2, .int v2), (3, .int v3), (4, .int v4), (5, .int v5)] [] := by
        intro v3 v4 v5 mm hw H locs ls hW hl
        unfold wp_X6_carryFirst_89 at hw
        refine lv_iinc (v := (v5 + (1 : Int32))) (lv' := [(5, .int (v5 + (1 : Int32))), (0, .ref (ad g v0)), (1, .int v1), (2, .int v2), (3, .int v3), (4, .int v4)]) hx hb dX6_carryFirst_89 hl (k := 5) rfl rfl (by decide) rfl (fun ls hl => ?_)
        refine lv_goto (tgt := 8) hx hb dX6_carryFirst_92 (by decide) ?_
        exact ih8 v3 v4 (v5 + (1 : Int32)) mm hw _ _ _ hW (lv_sub hl [1, 2, 3, 4, 5, 0] rfl)
      intro v3 v4 v5 mm hw H locs ls hW hl
      have hw : wp_X6_carryFirst_8 K8 v0 v1 v2 v3 v4 v5 mm Φ := by rw [eK8]; exact hw
      unfold wp_X6_carryFirst_8 at hw
      refine lv_iload hx hb dX6_carryFirst_8 (lv_at hl 5 rfl) ?_
      refine lv_aload_n hx hb dX6_carryFirst_10 rfl (lv_at hl 0 rfl) ?_
      refine R_getP (C := RX6) (T := TX6) (N := 15) hx hb hts i7 hown hK hW 7 hw.1 (by decide) rfl (by decide) (hts (.fieldLink RX6 60 "BoatLift" "byTurn" "Ljava/util/List;") (by decide +kernel)) (fun _ h => h) (fun _ _ _ => rfl) hw.2.1 dX6_carryFirst_11 ?_
      have hw := hw.2.2
      refine R_call5 (va_runF (As := []) (rest := [.int v5]) (hK.1.1 0 (RJx4a65c, TJx4a65c, 3) rfl).2 ⟨hx, hb, hml, hown, hts⟩ (c_Jx4a65c_size_8abf5 l g mm (mP mm v0 7) _ hw.2) (va_cwF 0 hts gX6_carryFirst_Jx4a65c_size_8abf5_f116Jx4a65c rfl rfl rfl hK.2.2.2.2.2.1.1 (by decide +kernel) ⟨by decide, by decide⟩) (PP.preV (q := (RJx4a65c, TJx4a65c, 3)) hK hW hw.1 (by decide) rfl) rfl rfl hl.1 rfl (lv_room (Nat.le_of_ble_eq_true rfl)) dX6_carryFirst_14 ⟨by decide, by decide⟩) hW (fun r2 m3 H locs hw hW => ?_)
      refine W.eq (g2 := F0 m 19 ls [.int r2, .int v5]) rfl ?_
      refine lv_icmp_ge (tgt := 95) hx hb dX6_carryFirst_19 (by decide) (fun c4 => ?_) (fun c4 => ?_)
      · have hw := hw.1 c4
        exact B95 v3 v4 m3 hw _ _ _ hW (lv_sub hl [0, 3, 4] rfl)
      · have hw := hw.2 c4
        refine lv_iload hx hb dX6_carryFirst_22 (lv_at hl 4 rfl) ?_
        refine lv_iload_n hx hb dX6_carryFirst_24 rfl (lv_at hl 1 rfl) ?_
        refine lv_icmp_ge (tgt := 95) hx hb dX6_carryFirst_25 (by decide) (fun c5 => ?_) (fun c5 => ?_)
        · have hw := hw.1 c5
          exact B95 v3 v4 m3 hw _ _ _ hW (lv_sub hl [0, 3, 4] rfl)
        · have hw := hw.2 c5
          refine lv_aload_n hx hb dX6_carryFirst_28 rfl (lv_at hl 0 rfl) ?_
          refine R_getP (C := RX6) (T := TX6) (N := 15) hx hb hts i7 hown hK hW 7 hw.1 (by decide) rfl (by decide) (hts (.fieldLink RX6 60 "BoatLift" "byTurn" "Ljava/util/List;") (by decide +kernel)) (fun _ h => h) (fun _ _ _ => rfl) hw.2.1 dX6_carryFirst_29 ?_
          have hw := hw.2.2
          refine lv_iload hx hb dX6_carryFirst_32 (lv_at hl 5 rfl) ?_
          refine R_call5 (va_runF (As := [.int v5]) (rest := []) (hK.1.1 0 (RJx4a65c, TJx4a65c, 3) rfl).2 ⟨hx, hb, hml, hown, hts⟩ (c_Jx4a65c_get_915e3 l g m3 (mP m3 v0 7) v5 _ hw.2) (va_cwF 1 hts gX6_carryFirst_Jx4a65c_get_915e3_f138Jx4a65c rfl rfl rfl hK.2.2.2.2.2.1.2.1 (by decide +kernel) ⟨by decide, by decide⟩) (PP.preV (q := (RJx4a65c, TJx4a65c, 3)) hK hW hw.1 (by decide) rfl) rfl rfl hl.1 rfl (lv_room (Nat.le_of_ble_eq_true rfl)) dX6_carryFirst_34 ⟨by decide, by decide⟩) hW (fun r6 m7 H locs hw hW => ?_)
          refine W.eq (g2 := F0 m 39 ls [.ref (ad g r6)]) rfl ?_
          refine va_castS hx hb hown (hts (.classLink RX6 119 "BoatLift$Boat") (by decide +kernel)) (hK.1.1 1 (RX0, TX0, 8) rfl).2 (R_recv (q := (RX0, TX0, 8)) hK hW hw.1 (by decide) rfl) dX6_carryFirst_39 ?_
          have hw := hw.2
          refine lv_astore (lv' := [(6, .ref (ad g r6)), (0, .ref (ad g v0)), (1, .int v1), (2, .int v2), (3, .int v3), (4, .int v4), (5, .int v5)]) hx hb dX6_carryFirst_42 hl (by decide) rfl (fun ls hl => ?_)
          refine lv_aload_n hx hb dX6_carryFirst_44 rfl (lv_at hl 1 rfl) ?_
          refine lv_aload hx hb dX6_carryFirst_45 (lv_at hl 0 rfl) ?_
          refine lv_aload_n hx hb dX6_carryFirst_47 rfl (lv_at hl 1 rfl) ?_
          refine R_getI (C := RX6) (T := TX6) (N := 15) hx hb hts i7 hown hK hW 9 hw.1 (by decide) rfl (by decide) (hts (.fieldLink RX6 67 "BoatLift" "troughSide" "I") (by decide +kernel)) (fun _ h => h) (fun _ _ _ => rfl) dX6_carryFirst_48 ?_
          have hw := hw.2
          refine lv_iload_n hx hb dX6_carryFirst_51 rfl (lv_at hl 3 rfl) ?_
          refine R_call (va_runV (As := [.ref (ad g r6), .int (mI m7 v0 9), .int v2]) (rest := []) ⟨hx, hb, hml, hown, hts⟩ (c_X6_isQueued l g m7 v0 r6 (mI m7 v0 9) v2 _ hw.2) (cwV 3 hts gX6_carryFirst_X6_isQueued rfl rfl rfl (by decide +kernel) ⟨by decide, by decide⟩) (PP.preV (q := (RX6, TX6, 15)) hK hW hw.1 (by decide) rfl) rfl rfl hl.1 rfl (lv_room (Nat.le_of_ble_eq_true rfl)) dX6_carryFirst_52 ⟨by decide, by decide⟩) hW (fun r8 m9 H locs hw hW => ?_)
          refine W.eq (g2 := F0 m 55 ls [.int r8]) rfl ?_
          refine lv_if_eq (tgt := 89) hx hb dX6_carryFirst_55 (by decide) (fun c10 => ?_) (fun c10 => ?_)
          · have hw := hw.1 c10
            exact B89 v3 v4 v5 m9 hw _ _ _ hW (lv_sub hl [1, 2, 3, 4, 5, 6] rfl)
          · have hw := hw.2 c10
            refine lv_aload hx hb dX6_carryFirst_58 (lv_at hl 0 rfl) ?_
            refine lv_iload_n hx hb dX6_carryFirst_60 rfl (lv_at hl 3 rfl) ?_
            refine R_putI (C := RX0) (T := TX0) (N := 8) hx hb hts i1 tyX0 tyX0_ok nmX0 hown hK hW 7 hw.1 (by decide) rfl (by decide) (hts (.fieldLink RX6 217 "BoatLift$Boat" "began" "I") (by decide +kernel)) (fun _ h => h) (Or.inl rfl) rfl (fun _ _ _ => rfl) (fun _ _ _ => rfl) dX6_carryFirst_61 (fun H locs hW => ?_)
            obtain ⟨m11, em11⟩ : ∃ z, z = sI m9 r6 7 v2 := ⟨_, rfl⟩
            rw [← em11] at hW
            have hw := hw.2 m11 em11
            refine lv_iload_n hx hb dX6_carryFirst_64 rfl (lv_at hl 4 rfl) ?_
            refine lv_aload hx hb dX6_carryFirst_65 (lv_at hl 0 rfl) ?_
            refine R_getI (C := RX0) (T := TX0) (N := 8) hx hb hts i1 hown hK hW 5 hw.1 (by decide) rfl (by decide) (hts (.fieldLink RX6 207 "BoatLift$Boat" "weight" "I") (by decide +kernel)) (fun _ h => h) (fun _ _ _ => rfl) dX6_carryFirst_67 ?_
            have hw := hw.2
            refine lv_iadd hx hb dX6_carryFirst_70 ?_
            refine lv_istore_n (lv' := [(3, .int (v3 + (mI m11 r6 5))), (6, .ref (ad g r6)), (0, .ref (ad g v0)), (1, .int v1), (2, .int v2), (4, .int v4), (5, .int v5)]) hx hb dX6_carryFirst_71 rfl hl (by decide) rfl (fun ls hl => ?_)
            refine lv_aload_n hx hb dX6_carryFirst_72 rfl (lv_at hl 2 rfl) ?_
            refine lv_dup hx hb dX6_carryFirst_73 rfl ?_
            refine R_getI (C := RX6) (T := TX6) (N := 15) hx hb hts i7 hown hK hW 14 hw.1 (by decide) rfl (by decide) (hts (.fieldLink RX6 226 "BoatLift" "waitedTogether" "I") (by decide +kernel)) (fun _ h => h) (fun _ _ _ => rfl) dX6_carryFirst_74 ?_
            have hw := hw.2
            refine lv_aload hx hb dX6_carryFirst_77 (lv_at hl 1 rfl) ?_
            refine R_call (va_runV (As := []) (rest := [.int (mI m11 v0 14), .ref (ad g v0)]) ⟨hx, hb, hml, hown, hts⟩ (c_X0_waited l g m11 r6 _ hw.2) (cwV 0 hts gX6_carryFirst_X0_waited rfl rfl rfl (by decide +kernel) ⟨by decide, by decide⟩) (PP.preV (q := (RX0, TX0, 8)) hK hW hw.1 (by decide) rfl) rfl rfl hl.1 rfl (lv_room (Nat.le_of_ble_eq_true rfl)) dX6_carryFirst_79 ⟨by decide, by decide⟩) hW (fun r12 m13 H locs hw hW => ?_)
            refine W.eq (g2 := F0 m 82 ls [.int r12, .int (mI m11 v0 14), .ref (ad g v0)]) rfl ?_
            refine lv_iadd hx hb dX6_carryFirst_82 ?_
            refine R_putI (C := RX6) (T := TX6) (N := 15) hx hb hts i7 tyX6 tyX6_ok nmX6 hown hK hW 14 hw.1 (by decide) rfl (by decide) (hts (.fieldLink RX6 226 "BoatLift" "waitedTogether" "I") (by decide +kernel)) (fun _ h => h) (Or.inl rfl) rfl (fun _ _ _ => rfl) (fun _ _ _ => rfl) dX6_carryFirst_83 (fun H locs hW => ?_)
            obtain ⟨m14, em14⟩ : ∃ z, z = sI m13 v0 14 ((mI m11 v0 14) + r12) := ⟨_, rfl⟩
            rw [← em14] at hW
            have hw := hw.2 m14 em14
            refine lv_iinc (v := (v4 + (1 : Int32))) (lv' := [(4, .int (v4 + (1 : Int32))), (3, .int (v3 + (mI m11 r6 5))), (6, .ref (ad g r6)), (0, .ref (ad g v0)), (1, .int v1), (2, .int v2), (5, .int v5)]) hx hb dX6_carryFirst_86 hl (k := 5) rfl rfl (by decide) rfl (fun ls hl => ?_)
            exact B89 (v3 + (mI m11 r6 5)) (v4 + (1 : Int32)) v5 m14 hw _ _ _ hW (lv_sub hl [3, 4, 5, 1, 0, 6] rfl)
  unfold wp_X6_carryFirst at hw
  refine lv_iconst (v := (0 : Int32)) hx hb dX6_carryFirst_0 (by decide) ?_
  refine lv_istore_n (lv' := [(3, .int (0 : Int32)), (0, .ref (ad g v0)), (1, .int v1), (2, .int v2)]) hx hb dX6_carryFirst_1 rfl hl (by decide) rfl (fun ls hl => ?_)
  refine lv_iconst (v := (0 : Int32)) hx hb dX6_carryFirst_2 (by decide) ?_
  refine lv_istore (lv' := [(4, .int (0 : Int32)), (3, .int (0 : Int32)), (0, .ref (ad g v0)), (1, .int v1), (2, .int v2)]) hx hb dX6_carryFirst_3 hl (by decide) rfl (fun ls hl => ?_)
  refine lv_iconst (v := (0 : Int32)) hx hb dX6_carryFirst_5 (by decide) ?_
  refine lv_istore (lv' := [(5, .int (0 : Int32)), (4, .int (0 : Int32)), (3, .int (0 : Int32)), (0, .ref (ad g v0)), (1, .int v1), (2, .int v2)]) hx hb dX6_carryFirst_6 hl (by decide) rfl (fun ls hl => ?_)
  obtain ⟨n, hw⟩ := hw
  exact L8  n (0 : Int32) (0 : Int32) (0 : Int32) m0 hw _ _ _ hW (lv_sub hl [3, 4, 5, 2, 1, 0] rfl)

def wp_X6_queue_82 (K26 : Int32 → Int32 → Mm → Prop) (v0 : Nat) (v1 : Int32) (v2 : Int32) (v3 : Int32) (v4 : Int32) (v5 : Int32) (mm : Mm) (Φ : Int32 → Mm → Prop) : Prop :=
  K26 v4 (v5 + (1 : Int32)) mm
def wp_X6_queue_26 (K26 : Int32 → Int32 → Mm → Prop) (v0 : Nat) (v1 : Int32) (v2 : Int32) (v3 : Int32) (v4 : Int32) (v5 : Int32) (mm : Mm) (Φ : Int32 → Mm → Prop) : Prop :=
  mT mm v0 = 7 ∧ (mP mm v0 7) ≠ 0 ∧ mT mm (mP mm v0 7) = 0 ∧ wp_Jx4a65c_size_8abf5 mm (mP mm v0 7) (fun (r1 : Int32) (m2 : Mm) => ((r1 ≤ v5 → Φ (-1 : Int32) m2) ∧ (¬ r1 ≤ v5 → mT m2 v0 = 7 ∧ (mP m2 v0 7) ≠ 0 ∧ mT m2 (mP m2 v0 7) = 0 ∧ wp_Jx4a65c_get_915e3 m2 (mP m2 v0 7) v5 (fun (r4 : Nat) (m5 : Mm) => mT m5 r4 = 1 ∧ mT m5 v0 = 7 ∧ wp_X6_isQueued m5 v0 r4 v1 v2 (fun (r6 : Int32) (m7 : Mm) => ((r6 = 0 → wp_X6_queue_82 K26 v0 v1 v2 v3 v4 v5 m7 Φ) ∧ (¬ r6 = 0 → ((¬ v4 = v3 → wp_X6_queue_82 K26 v0 v1 v2 v3 (v4 + (1 : Int32)) v5 m7 Φ) ∧ (v4 = v3 → mT m7 r4 = 1 ∧ Φ (mI m7 r4 0) m7)))))))))
def wp_X6_queue (m0 : Mm) (v0 : Nat) (v1 : Int32) (v2 : Int32) (v3 : Int32) (Φ : Int32 → Mm → Prop) : Prop :=
  wp_X6_isSide m0 v1 (fun (r10 : Int32) (m11 : Mm) => ((r10 = 0 → Φ (-1 : Int32) m11) ∧ (¬ r10 = 0 → wp_X6_isMinute m11 v2 (fun (r13 : Int32) (m14 : Mm) => ((r13 = 0 → Φ (-1 : Int32) m14) ∧ (¬ r13 = 0 → ((0 ≤ v3 → ∃ n, LOp (fun K x => wp_X6_queue_26  (fun z0 z1 z2 => K (z0, z1, z2)) v0 v1 v2 v3 x.1 x.2.1 x.2.2 Φ) n ((0 : Int32), (0 : Int32), m14)) ∧ (¬ 0 ≤ v3 → Φ (-1 : Int32) m14))))))))
abbrev rm_X6_queue : Room := { frames := 6, cells := 0, slots := 0, locals := 131 }
set_option maxHeartbeats 4000000 in
set_option maxRecDepth 100000 in
theorem c_X6_queue (l : Launch) (g : Gv) (m0 : Mm) (v0 : Nat) (v1 : Int32) (v2 : Int32) (v3 : Int32) (Φ : Int32 → Mm → Prop) (hw : wp_X6_queue m0 v0 v1 v2 v3 Φ) : Met l yX6_queue wsX6_queue rm_X6_queue (PP g [.ref (ad g v0), .int v1, .int v2, .int v3] m0) (QQ g vI Φ) 0 0 (Ag g) := by
  refine CT_of (by decide +kernel) rfl (Nat.le_of_ble_eq_true rfl) ?_
  intro p e s m below meth c hx hb hr hml hown hts hlk hnm hK hW ls hl
  have hown : s.vm.findClass RX6 = some m.cls := hown
  have hl : lv_has ls 7 [(0, .ref (ad g v0)), (1, .int v1), (2, .int v2), (3, .int v3)] := hl
  have i1 : ∀ w ∈ u_ws RX0 TX0 8, w ∈ wsX6_queue := by decide +kernel
  have i7 : ∀ w ∈ u_ws RX6 TX6 15, w ∈ wsX6_queue := by decide +kernel
  have L26 : ∀ (n : Nat) (v4 : Int32) (v5 : Int32) (mm : Mm), LOp (fun K x => wp_X6_queue_26  (fun z0 z1 z2 => K (z0, z1, z2)) v0 v1 v2 v3 x.1 x.2.1 x.2.2 Φ) n (v4, v5, mm) → WW p l e rm_X6_queue s m ([.ref (ad g v0), .int v1, .int v2, .int v3] : List Value).toArray below meth c (MQ below (QQ g vI Φ) ([.ref (ad g v0), .int v1, .int v2, .int v3] : List Value).toArray s 0 0 (Ag g)) g mm 7 0 0 26 [(0, .ref (ad g v0)), (1, .int v1), (2, .int v2), (3, .int v3), (4, .int v4), (5, .int v5)] [] := by
    intro  n
    induction n with
    | zero => intro v4 v5 mm hw; exact hw.elim
    | succ n ih26 =>
      obtain ⟨K26, eK26⟩ : ∃ K : Int32 → Int32 → Mm → Prop, K = fun v4 v5 mm => LOp (fun K x => wp_X6_queue_26  (fun z0 z1 z2 => K (z0, z1, z2)) v0 v1 v2 v3 x.1 x.2.1 x.2.2 Φ) n (v4, v5, mm) := ⟨_, rfl⟩
      have ih26 : ∀ (v4 : Int32) (v5 : Int32) (mm : Mm), K26 v4 v5 mm → WW p l e rm_X6_queue s m ([.ref (ad g v0), .int v1, .int v2, .int v3] : List Value).toArray below meth c (MQ below (QQ g vI Φ) ([.ref (ad g v0), .int v1, .int v2, .int v3] : List Value).toArray s 0 0 (Ag g)) g mm 7 0 0 26 [(0, .ref (ad g v0)), (1, .int v1), (2, .int v2), (3, .int v3), (4, .int v4), (5, .int v5)] [] := by rw [eK26]; exact ih26
      have B82 : ∀ (v4 : Int32) (v5 : Int32) (mm : Mm), wp_X6_queue_82 K26 v0 v1 v2 v3 v4 v5 mm Φ → WW p l e rm_X6_queue s m ([.ref (ad g v0), .int v1, .int v2, .int v3] : List Value).toArray below meth c (MQ below (QQ g vI Φ) ([.ref (ad g v0), .int v1, .int v2, .int v3] : List Value).toArray s 0 0 (Ag g)) g mm 7 0 0 82 [(0, .ref (ad g v0)), (1, .int v1), (2, .int v2), (3, .int v3), (4, .int v4), (5, .int v5)] [] := by
        intro v4 v5 mm hw H locs ls hW hl
        unfold wp_X6_queue_82 at hw
        refine lv_iinc (v := (v5 + (1 : Int32))) (lv' := [(5, .int (v5 + (1 : Int32))), (0, .ref (ad g v0)), (1, .int v1), (2, .int v2), (3, .int v3), (4, .int v4)]) hx hb dX6_queue_82 hl (k := 5) rfl rfl (by decide) rfl (fun ls hl => ?_)
        refine lv_goto (tgt := 26) hx hb dX6_queue_85 (by decide) ?_
        exact ih26 v4 (v5 + (1 : Int32)) mm hw _ _ _ hW (lv_sub hl [1, 2, 3, 4, 5, 0] rfl)
      intro v4 v5 mm hw H locs ls hW hl
      have hw : wp_X6_queue_26 K26 v0 v1 v2 v3 v4 v5 mm Φ := by rw [eK26]; exact hw
      unfold wp_X6_queue_26 at hw
      refine lv_iload hx hb dX6_queue_26 (lv_at hl 5 rfl) ?_
      refine lv_aload_n hx hb dX6_queue_28 rfl (lv_at hl 0 rfl) ?_
      refine R_getP (C := RX6) (T := TX6) (N := 15) hx hb hts i7 hown hK hW 7 hw.1 (by decide) rfl (by decide) (hts (.fieldLink RX6 60 "BoatLift" "byTurn" "Ljava/util/List;") (by decide +kernel)) (fun _ h => h) (fun _ _ _ => rfl) hw.2.1 dX6_queue_29 ?_
      have hw := hw.2.2
      refine R_call5 (va_runF (As := []) (rest := [.int v5]) (hK.1.1 0 (RJx4a65c, TJx4a65c, 3) rfl).2 ⟨hx, hb, hml, hown, hts⟩ (c_Jx4a65c_size_8abf5 l g mm (mP mm v0 7) _ hw.2) (va_cwF 0 hts gX6_queue_Jx4a65c_size_8abf5_f116Jx4a65c rfl rfl rfl hK.2.2.2.2.2.1.1 (by decide +kernel) ⟨by decide, by decide⟩) (PP.preV (q := (RJx4a65c, TJx4a65c, 3)) hK hW hw.1 (by decide) rfl) rfl rfl hl.1 rfl (lv_room (Nat.le_of_ble_eq_true rfl)) dX6_queue_32 ⟨by decide, by decide⟩) hW (fun r1 m2 H locs hw hW => ?_)
      refine W.eq (g2 := F0 m 37 ls [.int r1, .int v5]) rfl ?_
      refine lv_icmp_ge (tgt := 88) hx hb dX6_queue_37 (by decide) (fun c3 => ?_) (fun c3 => ?_)
      · have hw := hw.1 c3
        refine lv_iconst (v := (-1 : Int32)) hx hb dX6_queue_88 (by decide) ?_
        exact R_iret hx hb hr hlk hW hw dX6_queue_89
      · have hw := hw.2 c3
        refine lv_aload_n hx hb dX6_queue_40 rfl (lv_at hl 0 rfl) ?_
        refine R_getP (C := RX6) (T := TX6) (N := 15) hx hb hts i7 hown hK hW 7 hw.1 (by decide) rfl (by decide) (hts (.fieldLink RX6 60 "BoatLift" "byTurn" "Ljava/util/List;") (by decide +kernel)) (fun _ h => h) (fun _ _ _ => rfl) hw.2.1 dX6_queue_41 ?_
        have hw := hw.2.2
        refine lv_iload hx hb dX6_queue_44 (lv_at hl 5 rfl) ?_
        refine R_call5 (va_runF (As := [.int v5]) (rest := []) (hK.1.1 0 (RJx4a65c, TJx4a65c, 3) rfl).2 ⟨hx, hb, hml, hown, hts⟩ (c_Jx4a65c_get_915e3 l g m2 (mP m2 v0 7) v5 _ hw.2) (va_cwF 1 hts gX6_queue_Jx4a65c_get_915e3_f138Jx4a65c rfl rfl rfl hK.2.2.2.2.2.1.2.1 (by decide +kernel) ⟨by decide, by decide⟩) (PP.preV (q := (RJx4a65c, TJx4a65c, 3)) hK hW hw.1 (by decide) rfl) rfl rfl hl.1 rfl (lv_room (Nat.le_of_ble_eq_true rfl)) dX6_queue_46 ⟨by decide, by decide⟩) hW (fun r4 m5 H locs hw hW => ?_)
        refine W.eq (g2 := F0 m 51 ls [.ref (ad g r4)]) rfl ?_
        refine va_castS hx hb hown (hts (.classLink RX6 119 "BoatLift$Boat") (by decide +kernel)) (hK.1.1 1 (RX0, TX0, 8) rfl).2 (R_recv (q := (RX0, TX0, 8)) hK hW hw.1 (by decide) rfl) dX6_queue_51 ?_
        have hw := hw.2
        refine lv_astore (lv' := [(6, .ref (ad g r4)), (0, .ref (ad g v0)), (1, .int v1), (2, .int v2), (3, .int v3), (4, .int v4), (5, .int v5)]) hx hb dX6_queue_54 hl (by decide) rfl (fun ls hl => ?_)
        refine lv_aload_n hx hb dX6_queue_56 rfl (lv_at hl 1 rfl) ?_
        refine lv_aload hx hb dX6_queue_57 (lv_at hl 0 rfl) ?_
        refine lv_iload_n hx hb dX6_queue_59 rfl (lv_at hl 2 rfl) ?_
        refine lv_iload_n hx hb dX6_queue_60 rfl (lv_at hl 3 rfl) ?_
        refine R_call (va_runV (As := [.ref (ad g r4), .int v1, .int v2]) (rest := []) ⟨hx, hb, hml, hown, hts⟩ (c_X6_isQueued l g m5 v0 r4 v1 v2 _ hw.2) (cwV 3 hts gX6_queue_X6_isQueued rfl rfl rfl (by decide +kernel) ⟨by decide, by decide⟩) (PP.preV (q := (RX6, TX6, 15)) hK hW hw.1 (by decide) rfl) rfl rfl hl.1 rfl (lv_room (Nat.le_of_ble_eq_true rfl)) dX6_queue_61 ⟨by decide, by decide⟩) hW (fun r6 m7 H locs hw hW => ?_)
        refine W.eq (g2 := F0 m 64 ls [.int r6]) rfl ?_
        refine lv_if_eq (tgt := 82) hx hb dX6_queue_64 (by decide) (fun c8 => ?_) (fun c8 => ?_)
        · have hw := hw.1 c8
          exact B82 v4 v5 m7 hw _ _ _ hW (lv_sub hl [1, 2, 3, 4, 5, 6] rfl)
        · have hw := hw.2 c8
          refine lv_iload hx hb dX6_queue_67 (lv_at hl 5 rfl) ?_
          refine lv_iload_n hx hb dX6_queue_69 rfl (lv_at hl 4 rfl) ?_
          refine lv_icmp_ne (tgt := 79) hx hb dX6_queue_70 (by decide) (fun c9 => ?_) (fun c9 => ?_)
          · have hw := hw.1 c9
            refine lv_iinc (v := (v4 + (1 : Int32))) (lv' := [(4, .int (v4 + (1 : Int32))), (6, .ref (ad g r4)), (0, .ref (ad g v0)), (1, .int v1), (2, .int v2), (3, .int v3), (5, .int v5)]) hx hb dX6_queue_79 hl (k := 5) rfl rfl (by decide) rfl (fun ls hl => ?_)
            exact B82 (v4 + (1 : Int32)) v5 m7 hw _ _ _ hW (lv_sub hl [2, 3, 4, 5, 0, 6] rfl)
          · have hw := hw.2 c9
            refine lv_aload hx hb dX6_queue_73 (lv_at hl 0 rfl) ?_
            refine R_getI (C := RX0) (T := TX0) (N := 8) hx hb hts i1 hown hK hW 0 hw.1 (by decide) rfl (by decide) (hts (.fieldLink RX6 135 "BoatLift$Boat" "number" "I") (by decide +kernel)) (fun _ h => h) (fun _ _ _ => rfl) dX6_queue_75 ?_
            have hw := hw.2
            exact R_iret hx hb hr hlk hW hw dX6_queue_78
  unfold wp_X6_queue at hw
  refine lv_iload_n hx hb dX6_queue_0 rfl (lv_at hl 1 rfl) ?_
  refine R_call (va_runS (As := [.int v1]) (rest := []) ⟨hx, hb, hml, hown, hts⟩ (c_X6_isSide l g m0 v1 _ hw) (va_cwS 1 hts gX6_queue_X6_isSide rfl rfl rfl (by decide +kernel) ⟨by decide, by decide⟩) (PP.pre hK hW) rfl rfl hl.1 rfl (lv_room (Nat.le_of_ble_eq_true rfl)) dX6_queue_1 ⟨by decide, by decide⟩) hW (fun r10 m11 H locs hw hW => ?_)
  refine W.eq (g2 := F0 m 4 ls [.int r10]) rfl ?_
  refine lv_if_eq (tgt := 18) hx hb dX6_queue_4 (by decide) (fun c12 => ?_) (fun c12 => ?_)
  · have hw := hw.1 c12
    refine lv_iconst (v := (-1 : Int32)) hx hb dX6_queue_18 (by decide) ?_
    exact R_iret hx hb hr hlk hW hw dX6_queue_19
  · have hw := hw.2 c12
    refine lv_iload_n hx hb dX6_queue_7 rfl (lv_at hl 2 rfl) ?_
    refine R_call (va_runS (As := [.int v2]) (rest := []) ⟨hx, hb, hml, hown, hts⟩ (c_X6_isMinute l g m11 v2 _ hw) (va_cwS 1 hts gX6_queue_X6_isMinute rfl rfl rfl (by decide +kernel) ⟨by decide, by decide⟩) (PP.pre hK hW) rfl rfl hl.1 rfl (lv_room (Nat.le_of_ble_eq_true rfl)) dX6_queue_8 ⟨by decide, by decide⟩) hW (fun r13 m14 H locs hw hW => ?_)
    refine W.eq (g2 := F0 m 11 ls [.int r13]) rfl ?_
    refine lv_if_eq (tgt := 18) hx hb dX6_queue_11 (by decide) (fun c15 => ?_) (fun c15 => ?_)
    · have hw := hw.1 c15
      refine lv_iconst (v := (-1 : Int32)) hx hb dX6_queue_18 (by decide) ?_
      exact R_iret hx hb hr hlk hW hw dX6_queue_19
    · have hw := hw.2 c15
      refine lv_iload_n hx hb dX6_queue_14 rfl (lv_at hl 3 rfl) ?_
      refine lv_if_ge (tgt := 20) hx hb dX6_queue_15 (by decide) (fun c16 => ?_) (fun c16 => ?_)
      · have hw := hw.1 c16
        refine lv_iconst (v := (0 : Int32)) hx hb dX6_queue_20 (by decide) ?_
        refine lv_istore (lv' := [(4, .int (0 : Int32)), (0, .ref (ad g v0)), (1, .int v1), (2, .int v2), (3, .int v3)]) hx hb dX6_queue_21 hl (by decide) rfl (fun ls hl => ?_)
        refine lv_iconst (v := (0 : Int32)) hx hb dX6_queue_23 (by decide) ?_
        refine lv_istore (lv' := [(5, .int (0 : Int32)), (4, .int (0 : Int32)), (0, .ref (ad g v0)), (1, .int v1), (2, .int v2), (3, .int v3)]) hx hb dX6_queue_24 hl (by decide) rfl (fun ls hl => ?_)
        obtain ⟨n, hw⟩ := hw
        exact L26  n (0 : Int32) (0 : Int32) m14 hw _ _ _ hW (lv_sub hl [2, 3, 4, 5, 1, 0] rfl)
      · have hw := hw.2 c16
        refine lv_iconst (v := (-1 : Int32)) hx hb dX6_queue_18 (by decide) ?_
        exact R_iret hx hb hr hlk hW hw dX6_queue_19

def wp_X6_fitting (m0 : Mm) (v0 : Nat) (v1 : Int32) (Φ : Int32 → Mm → Prop) : Prop :=
  wp_X6_isMinute m0 v1 (fun (r1 : Int32) (m2 : Mm) => ((r1 = 0 → Φ (-1 : Int32) m2) ∧ (¬ r1 = 0 → mT m2 v0 = 7 ∧ wp_X6_fittingAt m2 v0 v1 (fun (r4 : Int32) (m5 : Mm) => Φ r4 m5))))
abbrev rm_X6_fitting : Room := { frames := 7, cells := 0, slots := 0, locals := 156 }
set_option maxHeartbeats 4000000 in
set_option maxRecDepth 100000 in
theorem c_X6_fitting (l : Launch) (g : Gv) (m0 : Mm) (v0 : Nat) (v1 : Int32) (Φ : Int32 → Mm → Prop) (hw : wp_X6_fitting m0 v0 v1 Φ) : Met l yX6_fitting wsX6_fitting rm_X6_fitting (PP g [.ref (ad g v0), .int v1] m0) (QQ g vI Φ) 0 0 (Ag g) := by
  refine CT_of (by decide +kernel) rfl (Nat.le_of_ble_eq_true rfl) ?_
  intro p e s m below meth c hx hb hr hml hown hts hlk hnm hK hW ls hl
  have hown : s.vm.findClass RX6 = some m.cls := hown
  have hl : lv_has ls 2 [(0, .ref (ad g v0)), (1, .int v1)] := hl
  unfold wp_X6_fitting at hw
  refine lv_iload_n hx hb dX6_fitting_0 rfl (lv_at hl 1 rfl) ?_
  refine R_call (va_runS (As := [.int v1]) (rest := []) ⟨hx, hb, hml, hown, hts⟩ (c_X6_isMinute l g m0 v1 _ hw) (va_cwS 1 hts gX6_fitting_X6_isMinute rfl rfl rfl (by decide +kernel) ⟨by decide, by decide⟩) (PP.pre hK hW) rfl rfl hl.1 rfl (lv_room (Nat.le_of_ble_eq_true rfl)) dX6_fitting_1 ⟨by decide, by decide⟩) hW (fun r1 m2 H locs hw hW => ?_)
  refine W.eq (g2 := F0 m 4 ls [.int r1]) rfl ?_
  refine lv_if_eq (tgt := 15) hx hb dX6_fitting_4 (by decide) (fun c3 => ?_) (fun c3 => ?_)
  · have hw := hw.1 c3
    refine lv_iconst (v := (-1 : Int32)) hx hb dX6_fitting_15 (by decide) ?_
    exact R_iret hx hb hr hlk hW hw dX6_fitting_16
  · have hw := hw.2 c3
    refine lv_aload_n hx hb dX6_fitting_7 rfl (lv_at hl 0 rfl) ?_
    refine lv_iload_n hx hb dX6_fitting_8 rfl (lv_at hl 1 rfl) ?_
    refine R_call (va_runV (As := [.int v1]) (rest := []) ⟨hx, hb, hml, hown, hts⟩ (c_X6_fittingAt l g m2 v0 v1 _ hw.2) (cwV 1 hts gX6_fitting_X6_fittingAt rfl rfl rfl (by decide +kernel) ⟨by decide, by decide⟩) (PP.preV (q := (RX6, TX6, 15)) hK hW hw.1 (by decide) rfl) rfl rfl hl.1 rfl (lv_room (Nat.le_of_ble_eq_true rfl)) dX6_fitting_9 ⟨by decide, by decide⟩) hW (fun r4 m5 H locs hw hW => ?_)
    refine W.eq (g2 := F0 m 12 ls [.int r4]) rfl ?_
    refine lv_goto (tgt := 16) hx hb dX6_fitting_12 (by decide) ?_
    exact R_iret hx hb hr hlk hW hw dX6_fitting_16

def wp_X6_ride_87 (v0 : Nat) (v3 : Int32) (s0 : Nat) (s1 : Int32) (mm : Mm) (Φ : Int32 → Mm → Prop) : Prop :=
  mT mm v0 = 7 ∧ mT mm s0 = 7 ∧ wp_X6_sendDown mm s0 (s1 + (mI mm v0 11)) (fun (_ : Unit) (m2 : Mm) => mT m2 v0 = 7 ∧ wp_X6_otherSide m2 (mI m2 v0 9) (fun (r3 : Int32) (m4 : Mm) => mT m4 v0 = 7 ∧ ∀ m5 : Mm, m5 = sI m4 v0 9 r3 → mT m5 v0 = 7 ∧ ∀ m6 : Mm, m6 = sI m5 v0 10 v3 → mT m6 v0 = 7 ∧ mT m6 v0 = 7 ∧ ∀ m7 : Mm, m7 = sI m6 v0 11 ((mI m6 v0 11) + (1 : Int32)) → mT m7 v0 = 7 ∧ mT m7 v0 = 7 ∧ ∀ m8 : Mm, m8 = sI m7 v0 12 ((mI m7 v0 12) + (1 : Int32)) → Φ v3 m8))
def wp_X6_ride (m0 : Mm) (v0 : Nat) (v1 : Int32) (v2 : Int32) (Φ : Int32 → Mm → Prop) : Prop :=
  wp_X6_isMinute m0 v1 (fun (r9 : Int32) (m10 : Mm) => ((r9 = 0 → Φ (-1 : Int32) m10) ∧ (¬ r9 = 0 → mT m10 v0 = 7 ∧ ((v1 < (mI m10 v0 10) → Φ (-1 : Int32) m10) ∧ (¬ v1 < (mI m10 v0 10) → ((v2 < 0 → Φ (-1 : Int32) m10) ∧ (¬ v2 < 0 → mT m10 v0 = 7 ∧ wp_X6_fittingAt m10 v0 v1 (fun (r14 : Int32) (m15 : Mm) => ((v2 ≤ r14 → mT m15 v0 = 7 ∧ (mP m15 v0 2) ≠ 0 ∧ mT m15 (mP m15 v0 2) = 5 ∧ wp_X4_endOf m15 (mP m15 v0 2) v1 (fun (r17 : Int32) (m18 : Mm) => mT m18 v0 = 7 ∧ mT m18 v0 = 7 ∧ (mP m18 v0 1) ≠ 0 ∧ mT m18 (mP m18 v0 1) = 2 ∧ wp_X1_number m18 (mP m18 v0 1) (4 : Int32) (fun (r19 : Int32) (m20 : Mm) => ((r19 ≤ (mI m18 v0 11) → Φ (-1 : Int32) m20) ∧ (¬ r19 ≤ (mI m18 v0 11) → ((r17 ≤ (20000 : Int32) → mT m20 v0 = 7 ∧ wp_X6_carryFirst m20 v0 v2 v1 (fun (r23 : Int32) (m24 : Mm) => mT m24 v0 = 7 ∧ ((¬ (mI m24 v0 9) = 0 → wp_X6_ride_87 v0 r17 v0 (-r23) m24 Φ) ∧ ((mI m24 v0 9) = 0 → wp_X6_ride_87 v0 r17 v0 r23 m24 Φ)))) ∧ (¬ r17 ≤ (20000 : Int32) → Φ (-1 : Int32) m20))))))) ∧ (¬ v2 ≤ r14 → Φ (-1 : Int32) m15))))))))))
abbrev rm_X6_ride : Room := { frames := 7, cells := 0, slots := 0, locals := 157 }
set_option maxHeartbeats 4000000 in
set_option maxRecDepth 100000 in
theorem c_X6_ride (l : Launch) (g : Gv) (m0 : Mm) (v0 : Nat) (v1 : Int32) (v2 : Int32) (Φ : Int32 → Mm → Prop) (hw : wp_X6_ride m0 v0 v1 v2 Φ) : Met l yX6_ride wsX6_ride rm_X6_ride (PP g [.ref (ad g v0), .int v1, .int v2] m0) (QQ g vI Φ) 0 0 (Ag g) := by
  refine CT_of (by decide +kernel) rfl (Nat.le_of_ble_eq_true rfl) ?_
  intro p e s m below meth c hx hb hr hml hown hts hlk hnm hK hW ls hl
  have hown : s.vm.findClass RX6 = some m.cls := hown
  have hl : lv_has ls 5 [(0, .ref (ad g v0)), (1, .int v1), (2, .int v2)] := hl
  have i7 : ∀ w ∈ u_ws RX6 TX6 15, w ∈ wsX6_ride := by decide +kernel
  have B87 : ∀ (v3 : Int32) (s0 : Nat) (s1 : Int32) (mm : Mm), wp_X6_ride_87 v0 v3 s0 s1 mm Φ → WW p l e rm_X6_ride s m ([.ref (ad g v0), .int v1, .int v2] : List Value).toArray below meth c (MQ below (QQ g vI Φ) ([.ref (ad g v0), .int v1, .int v2] : List Value).toArray s 0 0 (Ag g)) g mm 5 0 0 87 [(0, .ref (ad g v0)), (3, .int v3)] [.int s1, .ref (ad g s0)] := by
    intro v3 s0 s1 mm hw H locs ls hW hl
    unfold wp_X6_ride_87 at hw
    refine lv_aload_n hx hb dX6_ride_87 rfl (lv_at hl 0 rfl) ?_
    refine R_getI (C := RX6) (T := TX6) (N := 15) hx hb hts i7 hown hK hW 11 hw.1 (by decide) rfl (by decide) (hts (.fieldLink RX6 155 "BoatLift" "sealRides" "I") (by decide +kernel)) (fun _ h => h) (fun _ _ _ => rfl) dX6_ride_88 ?_
    have hw := hw.2
    refine lv_iadd hx hb dX6_ride_91 ?_
    refine R_call (va_runV (As := [.int (s1 + (mI mm v0 11))]) (rest := []) ⟨hx, hb, hml, hown, hts⟩ (c_X6_sendDown l g mm s0 (s1 + (mI mm v0 11)) _ hw.2) (cwV 1 hts gX6_ride_X6_sendDown rfl rfl rfl (by decide +kernel) ⟨by decide, by decide⟩) (PP.preV (q := (RX6, TX6, 15)) hK hW hw.1 (by decide) rfl) rfl rfl hl.1 rfl (lv_room (Nat.le_of_ble_eq_true rfl)) dX6_ride_92 ⟨by decide, by decide⟩) hW (fun _ m2 H locs hw hW => ?_)
    refine W.eq (g2 := F0 m 95 ls []) rfl ?_
    refine lv_aload_n hx hb dX6_ride_95 rfl (lv_at hl 0 rfl) ?_
    refine lv_aload_n hx hb dX6_ride_96 rfl (lv_at hl 0 rfl) ?_
    refine R_getI (C := RX6) (T := TX6) (N := 15) hx hb hts i7 hown hK hW 9 hw.1 (by decide) rfl (by decide) (hts (.fieldLink RX6 67 "BoatLift" "troughSide" "I") (by decide +kernel)) (fun _ h => h) (fun _ _ _ => rfl) dX6_ride_97 ?_
    have hw := hw.2
    refine R_call (va_runS (As := [.int (mI m2 v0 9)]) (rest := [.ref (ad g v0)]) ⟨hx, hb, hml, hown, hts⟩ (c_X6_otherSide l g m2 (mI m2 v0 9) _ hw) (va_cwS 1 hts gX6_ride_X6_otherSide rfl rfl rfl (by decide +kernel) ⟨by decide, by decide⟩) (PP.pre hK hW) rfl rfl hl.1 rfl (lv_room (Nat.le_of_ble_eq_true rfl)) dX6_ride_100 ⟨by decide, by decide⟩) hW (fun r3 m4 H locs hw hW => ?_)
    refine W.eq (g2 := F0 m 103 ls [.int r3, .ref (ad g v0)]) rfl ?_
    refine R_putI (C := RX6) (T := TX6) (N := 15) hx hb hts i7 tyX6 tyX6_ok nmX6 hown hK hW 9 hw.1 (by decide) rfl (by decide) (hts (.fieldLink RX6 67 "BoatLift" "troughSide" "I") (by decide +kernel)) (fun _ h => h) (Or.inl rfl) rfl (fun _ _ _ => rfl) (fun _ _ _ => rfl) dX6_ride_103 (fun H locs hW => ?_)
    obtain ⟨m5, em5⟩ : ∃ z, z = sI m4 v0 9 r3 := ⟨_, rfl⟩
    rw [← em5] at hW
    have hw := hw.2 m5 em5
    refine lv_aload_n hx hb dX6_ride_106 rfl (lv_at hl 0 rfl) ?_
    refine lv_iload_n hx hb dX6_ride_107 rfl (lv_at hl 1 rfl) ?_
    refine R_putI (C := RX6) (T := TX6) (N := 15) hx hb hts i7 tyX6 tyX6_ok nmX6 hown hK hW 10 hw.1 (by decide) rfl (by decide) (hts (.fieldLink RX6 149 "BoatLift" "freeFrom" "I") (by decide +kernel)) (fun _ h => h) (Or.inl rfl) rfl (fun _ _ _ => rfl) (fun _ _ _ => rfl) dX6_ride_108 (fun H locs hW => ?_)
    obtain ⟨m6, em6⟩ : ∃ z, z = sI m5 v0 10 v3 := ⟨_, rfl⟩
    rw [← em6] at hW
    have hw := hw.2 m6 em6
    refine lv_aload_n hx hb dX6_ride_111 rfl (lv_at hl 0 rfl) ?_
    refine lv_dup hx hb dX6_ride_112 rfl ?_
    refine R_getI (C := RX6) (T := TX6) (N := 15) hx hb hts i7 hown hK hW 11 hw.1 (by decide) rfl (by decide) (hts (.fieldLink RX6 155 "BoatLift" "sealRides" "I") (by decide +kernel)) (fun _ h => h) (fun _ _ _ => rfl) dX6_ride_113 ?_
    have hw := hw.2
    refine lv_iconst (v := (1 : Int32)) hx hb dX6_ride_116 (by decide) ?_
    refine lv_iadd hx hb dX6_ride_117 ?_
    refine R_putI (C := RX6) (T := TX6) (N := 15) hx hb hts i7 tyX6 tyX6_ok nmX6 hown hK hW 11 hw.1 (by decide) rfl (by decide) (hts (.fieldLink RX6 155 "BoatLift" "sealRides" "I") (by decide +kernel)) (fun _ h => h) (Or.inl rfl) rfl (fun _ _ _ => rfl) (fun _ _ _ => rfl) dX6_ride_118 (fun H locs hW => ?_)
    obtain ⟨m7, em7⟩ : ∃ z, z = sI m6 v0 11 ((mI m6 v0 11) + (1 : Int32)) := ⟨_, rfl⟩
    rw [← em7] at hW
    have hw := hw.2 m7 em7
    refine lv_aload_n hx hb dX6_ride_121 rfl (lv_at hl 0 rfl) ?_
    refine lv_dup hx hb dX6_ride_122 rfl ?_
    refine R_getI (C := RX6) (T := TX6) (N := 15) hx hb hts i7 hown hK hW 12 hw.1 (by decide) rfl (by decide) (hts (.fieldLink RX6 170 "BoatLift" "ridesEver" "I") (by decide +kernel)) (fun _ h => h) (fun _ _ _ => rfl) dX6_ride_123 ?_
    have hw := hw.2
    refine lv_iconst (v := (1 : Int32)) hx hb dX6_ride_126 (by decide) ?_
    refine lv_iadd hx hb dX6_ride_127 ?_
    refine R_putI (C := RX6) (T := TX6) (N := 15) hx hb hts i7 tyX6 tyX6_ok nmX6 hown hK hW 12 hw.1 (by decide) rfl (by decide) (hts (.fieldLink RX6 170 "BoatLift" "ridesEver" "I") (by decide +kernel)) (fun _ h => h) (Or.inl rfl) rfl (fun _ _ _ => rfl) (fun _ _ _ => rfl) dX6_ride_128 (fun H locs hW => ?_)
    obtain ⟨m8, em8⟩ : ∃ z, z = sI m7 v0 12 ((mI m7 v0 12) + (1 : Int32)) := ⟨_, rfl⟩
    rw [← em8] at hW
    have hw := hw.2 m8 em8
    refine lv_iload_n hx hb dX6_ride_131 rfl (lv_at hl 1 rfl) ?_
    exact R_iret hx hb hr hlk hW hw dX6_ride_132
  unfold wp_X6_ride at hw
  refine lv_iload_n hx hb dX6_ride_0 rfl (lv_at hl 1 rfl) ?_
  refine R_call (va_runS (As := [.int v1]) (rest := []) ⟨hx, hb, hml, hown, hts⟩ (c_X6_isMinute l g m0 v1 _ hw) (va_cwS 1 hts gX6_ride_X6_isMinute rfl rfl rfl (by decide +kernel) ⟨by decide, by decide⟩) (PP.pre hK hW) rfl rfl hl.1 rfl (lv_room (Nat.le_of_ble_eq_true rfl)) dX6_ride_1 ⟨by decide, by decide⟩) hW (fun r9 m10 H locs hw hW => ?_)
  refine W.eq (g2 := F0 m 4 ls [.int r9]) rfl ?_
  refine lv_if_eq (tgt := 28) hx hb dX6_ride_4 (by decide) (fun c11 => ?_) (fun c11 => ?_)
  · have hw := hw.1 c11
    refine lv_iconst (v := (-1 : Int32)) hx hb dX6_ride_28 (by decide) ?_
    exact R_iret hx hb hr hlk hW hw dX6_ride_29
  · have hw := hw.2 c11
    refine lv_iload_n hx hb dX6_ride_7 rfl (lv_at hl 1 rfl) ?_
    refine lv_aload_n hx hb dX6_ride_8 rfl (lv_at hl 0 rfl) ?_
    refine R_getI (C := RX6) (T := TX6) (N := 15) hx hb hts i7 hown hK hW 10 hw.1 (by decide) rfl (by decide) (hts (.fieldLink RX6 149 "BoatLift" "freeFrom" "I") (by decide +kernel)) (fun _ h => h) (fun _ _ _ => rfl) dX6_ride_9 ?_
    have hw := hw.2
    refine lv_icmp_lt (tgt := 28) hx hb dX6_ride_12 (by decide) (fun c12 => ?_) (fun c12 => ?_)
    · have hw := hw.1 c12
      refine lv_iconst (v := (-1 : Int32)) hx hb dX6_ride_28 (by decide) ?_
      exact R_iret hx hb hr hlk hW hw dX6_ride_29
    · have hw := hw.2 c12
      refine lv_iload_n hx hb dX6_ride_15 rfl (lv_at hl 2 rfl) ?_
      refine lv_if_lt (tgt := 28) hx hb dX6_ride_16 (by decide) (fun c13 => ?_) (fun c13 => ?_)
      · have hw := hw.1 c13
        refine lv_iconst (v := (-1 : Int32)) hx hb dX6_ride_28 (by decide) ?_
        exact R_iret hx hb hr hlk hW hw dX6_ride_29
      · have hw := hw.2 c13
        refine lv_iload_n hx hb dX6_ride_19 rfl (lv_at hl 2 rfl) ?_
        refine lv_aload_n hx hb dX6_ride_20 rfl (lv_at hl 0 rfl) ?_
        refine lv_iload_n hx hb dX6_ride_21 rfl (lv_at hl 1 rfl) ?_
        refine R_call (va_runV (As := [.int v1]) (rest := [.int v2]) ⟨hx, hb, hml, hown, hts⟩ (c_X6_fittingAt l g m10 v0 v1 _ hw.2) (cwV 1 hts gX6_ride_X6_fittingAt rfl rfl rfl (by decide +kernel) ⟨by decide, by decide⟩) (PP.preV (q := (RX6, TX6, 15)) hK hW hw.1 (by decide) rfl) rfl rfl hl.1 rfl (lv_room (Nat.le_of_ble_eq_true rfl)) dX6_ride_22 ⟨by decide, by decide⟩) hW (fun r14 m15 H locs hw hW => ?_)
        refine W.eq (g2 := F0 m 25 ls [.int r14, .int v2]) rfl ?_
        refine lv_icmp_le (tgt := 30) hx hb dX6_ride_25 (by decide) (fun c16 => ?_) (fun c16 => ?_)
        · have hw := hw.1 c16
          refine lv_aload_n hx hb dX6_ride_30 rfl (lv_at hl 0 rfl) ?_
          refine R_getP (C := RX6) (T := TX6) (N := 15) hx hb hts i7 hown hK hW 2 hw.1 (by decide) rfl (by decide) (hts (.fieldLink RX6 30 "BoatLift" "timetable" "LBoatLift$Timetable;") (by decide +kernel)) (fun _ h => h) (fun _ _ _ => rfl) hw.2.1 dX6_ride_31 ?_
          have hw := hw.2.2
          refine lv_iload_n hx hb dX6_ride_34 rfl (lv_at hl 1 rfl) ?_
          refine R_call (va_runV (As := [.int v1]) (rest := []) ⟨hx, hb, hml, hown, hts⟩ (c_X4_endOf l g m15 (mP m15 v0 2) v1 _ hw.2) (cwV 1 hts gX6_ride_X4_endOf rfl rfl rfl (by decide +kernel) ⟨by decide, by decide⟩) (PP.preV (q := (RX4, TX4, 4)) hK hW hw.1 (by decide) rfl) rfl rfl hl.1 rfl (lv_room (Nat.le_of_ble_eq_true rfl)) dX6_ride_35 ⟨by decide, by decide⟩) hW (fun r17 m18 H locs hw hW => ?_)
          refine W.eq (g2 := F0 m 38 ls [.int r17]) rfl ?_
          refine lv_istore_n (lv' := [(3, .int r17), (0, .ref (ad g v0)), (1, .int v1), (2, .int v2)]) hx hb dX6_ride_38 rfl hl (by decide) rfl (fun ls hl => ?_)
          refine lv_aload_n hx hb dX6_ride_39 rfl (lv_at hl 1 rfl) ?_
          refine R_getI (C := RX6) (T := TX6) (N := 15) hx hb hts i7 hown hK hW 11 hw.1 (by decide) rfl (by decide) (hts (.fieldLink RX6 155 "BoatLift" "sealRides" "I") (by decide +kernel)) (fun _ h => h) (fun _ _ _ => rfl) dX6_ride_40 ?_
          have hw := hw.2
          refine lv_aload_n hx hb dX6_ride_43 rfl (lv_at hl 1 rfl) ?_
          refine R_getP (C := RX6) (T := TX6) (N := 15) hx hb hts i7 hown hK hW 1 hw.1 (by decide) rfl (by decide) (hts (.fieldLink RX6 21 "BoatLift" "rules" "LBoatLift$Law;") (by decide +kernel)) (fun _ h => h) (fun _ _ _ => rfl) hw.2.1 dX6_ride_44 ?_
          have hw := hw.2.2
          refine lv_iconst (v := (4 : Int32)) hx hb dX6_ride_47 (by decide) ?_
          refine R_call (va_runV (As := [.int (4 : Int32)]) (rest := [.int (mI m18 v0 11)]) ⟨hx, hb, hml, hown, hts⟩ (c_X1_number l g m18 (mP m18 v0 1) (4 : Int32) _ hw.2) (cwV 1 hts gX6_ride_X1_number rfl rfl rfl (by decide +kernel) ⟨by decide, by decide⟩) (PP.preV (q := (RX1, TX1, 5)) hK hW hw.1 (by decide) rfl) rfl rfl hl.1 rfl (lv_room (Nat.le_of_ble_eq_true rfl)) dX6_ride_48 ⟨by decide, by decide⟩) hW (fun r19 m20 H locs hw hW => ?_)
          refine W.eq (g2 := F0 m 51 ls [.int r19, .int (mI m18 v0 11)]) rfl ?_
          refine lv_icmp_ge (tgt := 61) hx hb dX6_ride_51 (by decide) (fun c21 => ?_) (fun c21 => ?_)
          · have hw := hw.1 c21
            refine lv_iconst (v := (-1 : Int32)) hx hb dX6_ride_61 (by decide) ?_
            exact R_iret hx hb hr hlk hW hw dX6_ride_62
          · have hw := hw.2 c21
            refine lv_iload_n hx hb dX6_ride_54 rfl (lv_at hl 0 rfl) ?_
            refine lv_sipush (v := (20000 : Int32)) hx hb dX6_ride_55 (by decide) ?_
            refine lv_icmp_le (tgt := 63) hx hb dX6_ride_58 (by decide) (fun c22 => ?_) (fun c22 => ?_)
            · have hw := hw.1 c22
              refine lv_aload_n hx hb dX6_ride_63 rfl (lv_at hl 1 rfl) ?_
              refine lv_iload_n hx hb dX6_ride_64 rfl (lv_at hl 3 rfl) ?_
              refine lv_iload_n hx hb dX6_ride_65 rfl (lv_at hl 2 rfl) ?_
              refine R_call (va_runV (As := [.int v2, .int v1]) (rest := []) ⟨hx, hb, hml, hown, hts⟩ (c_X6_carryFirst l g m20 v0 v2 v1 _ hw.2) (cwV 2 hts gX6_ride_X6_carryFirst rfl rfl rfl (by decide +kernel) ⟨by decide, by decide⟩) (PP.preV (q := (RX6, TX6, 15)) hK hW hw.1 (by decide) rfl) rfl rfl hl.1 rfl (lv_room (Nat.le_of_ble_eq_true rfl)) dX6_ride_66 ⟨by decide, by decide⟩) hW (fun r23 m24 H locs hw hW => ?_)
              refine W.eq (g2 := F0 m 69 ls [.int r23]) rfl ?_
              refine lv_istore (lv' := [(4, .int r23), (3, .int r17), (0, .ref (ad g v0)), (1, .int v1), (2, .int v2)]) hx hb dX6_ride_69 hl (by decide) rfl (fun ls hl => ?_)
              refine lv_aload_n hx hb dX6_ride_71 rfl (lv_at hl 2 rfl) ?_
              refine lv_aload_n hx hb dX6_ride_72 rfl (lv_at hl 2 rfl) ?_
              refine R_getI (C := RX6) (T := TX6) (N := 15) hx hb hts i7 hown hK hW 9 hw.1 (by decide) rfl (by decide) (hts (.fieldLink RX6 67 "BoatLift" "troughSide" "I") (by decide +kernel)) (fun _ h => h) (fun _ _ _ => rfl) dX6_ride_73 ?_
              have hw := hw.2
              refine lv_if_ne (tgt := 84) hx hb dX6_ride_76 (by decide) (fun c25 => ?_) (fun c25 => ?_)
              · have hw := hw.1 c25
                refine lv_iload hx hb dX6_ride_84 (lv_at hl 0 rfl) ?_
                refine lv_ineg hx hb dX6_ride_86 ?_
                exact B87 r17 v0 (-r23) m24 hw _ _ _ hW (lv_sub hl [2, 1] rfl)
              · have hw := hw.2 c25
                refine lv_iload hx hb dX6_ride_79 (lv_at hl 0 rfl) ?_
                refine lv_goto (tgt := 87) hx hb dX6_ride_81 (by decide) ?_
                exact B87 r17 v0 r23 m24 hw _ _ _ hW (lv_sub hl [2, 1] rfl)
            · have hw := hw.2 c22
              refine lv_iconst (v := (-1 : Int32)) hx hb dX6_ride_61 (by decide) ?_
              exact R_iret hx hb hr hlk hW hw dX6_ride_62
        · have hw := hw.2 c16
          refine lv_iconst (v := (-1 : Int32)) hx hb dX6_ride_28 (by decide) ?_
          exact R_iret hx hb hr hlk hW hw dX6_ride_29

def wp_X6_look (m0 : Mm) (v0 : Nat) (v1 : Int32) (v2 : Int32) (Φ : Int32 → Mm → Prop) : Prop :=
  mT m0 v0 = 7 ∧ (mP m0 v0 6) ≠ 0 ∧ mT m0 (mP m0 v0 6) = 0 ∧ wp_Jx4a65c_size_8abf5 m0 (mP m0 v0 6) (fun (r1 : Int32) (m2 : Mm) => wp_X6_within m2 v1 (0 : Int32) (r1 - (1 : Int32)) (fun (r3 : Int32) (m4 : Mm) => ((¬ r3 = 0 → mT m4 v0 = 7 ∧ (mP m4 v0 6) ≠ 0 ∧ mT m4 (mP m4 v0 6) = 0 ∧ wp_Jx4a65c_get_915e3 m4 (mP m4 v0 6) v1 (fun (r6 : Nat) (m7 : Mm) => mT m7 r6 = 1 ∧ ((v2 = (0 : Int32) → mT m7 r6 = 1 ∧ Φ (mI m7 r6 1) m7) ∧ (v2 = (1 : Int32) → mT m7 r6 = 1 ∧ Φ (mI m7 r6 2) m7) ∧ (v2 = (2 : Int32) → mT m7 r6 = 1 ∧ Φ (mI m7 r6 3) m7) ∧ (v2 = (3 : Int32) → mT m7 r6 = 1 ∧ Φ (mI m7 r6 4) m7) ∧ (v2 = (4 : Int32) → mT m7 r6 = 1 ∧ Φ (mI m7 r6 5) m7) ∧ (v2 = (5 : Int32) → mT m7 r6 = 1 ∧ Φ (mI m7 r6 6) m7) ∧ (v2 = (6 : Int32) → mT m7 v0 = 7 ∧ wp_X6_isFit m7 v0 r6 (fun (r15 : Int32) (m16 : Mm) => ((r15 = 0 → Φ (0 : Int32) m16) ∧ (¬ r15 = 0 → Φ (1 : Int32) m16)))) ∧ (v2 = (7 : Int32) → mT m7 r6 = 1 ∧ Φ (mI m7 r6 7) m7) ∧ (v2 = (8 : Int32) → mT m7 r6 = 1 ∧ wp_X0_waited m7 r6 (fun (r20 : Int32) (m21 : Mm) => Φ r20 m21)) ∧ (¬ v2 = (0 : Int32) → ¬ v2 = (1 : Int32) → ¬ v2 = (2 : Int32) → ¬ v2 = (3 : Int32) → ¬ v2 = (4 : Int32) → ¬ v2 = (5 : Int32) → ¬ v2 = (6 : Int32) → ¬ v2 = (7 : Int32) → ¬ v2 = (8 : Int32) → Φ (-1 : Int32) m7)))) ∧ (r3 = 0 → Φ (-1 : Int32) m4))))
abbrev rm_X6_look : Room := { frames := 4, cells := 0, slots := 0, locals := 87 }
set_option maxHeartbeats 4000000 in
set_option maxRecDepth 100000 in
theorem c_X6_look (l : Launch) (g : Gv) (m0 : Mm) (v0 : Nat) (v1 : Int32) (v2 : Int32) (Φ : Int32 → Mm → Prop) (hw : wp_X6_look m0 v0 v1 v2 Φ) : Met l yX6_look wsX6_look rm_X6_look (PP g [.ref (ad g v0), .int v1, .int v2] m0) (QQ g vI Φ) 0 0 (Ag g) := by
  refine CT_of (by decide +kernel) rfl (Nat.le_of_ble_eq_true rfl) ?_
  intro p e s m below meth c hx hb hr hml hown hts hlk hnm hK hW ls hl
  have hown : s.vm.findClass RX6 = some m.cls := hown
  have hl : lv_has ls 4 [(0, .ref (ad g v0)), (1, .int v1), (2, .int v2)] := hl
  have i1 : ∀ w ∈ u_ws RX0 TX0 8, w ∈ wsX6_look := by decide +kernel
  have i7 : ∀ w ∈ u_ws RX6 TX6 15, w ∈ wsX6_look := by decide +kernel
  unfold wp_X6_look at hw
  refine lv_iload_n hx hb dX6_look_0 rfl (lv_at hl 1 rfl) ?_
  refine lv_iconst (v := (0 : Int32)) hx hb dX6_look_1 (by decide) ?_
  refine lv_aload_n hx hb dX6_look_2 rfl (lv_at hl 0 rfl) ?_
  refine R_getP (C := RX6) (T := TX6) (N := 15) hx hb hts i7 hown hK hW 6 hw.1 (by decide) rfl (by decide) (hts (.fieldLink RX6 56 "BoatLift" "byNumber" "Ljava/util/List;") (by decide +kernel)) (fun _ h => h) (fun _ _ _ => rfl) hw.2.1 dX6_look_3 ?_
  have hw := hw.2.2
  refine R_call5 (va_runF (As := []) (rest := [.int (0 : Int32), .int v1]) (hK.1.1 0 (RJx4a65c, TJx4a65c, 3) rfl).2 ⟨hx, hb, hml, hown, hts⟩ (c_Jx4a65c_size_8abf5 l g m0 (mP m0 v0 6) _ hw.2) (va_cwF 0 hts gX6_look_Jx4a65c_size_8abf5_f116Jx4a65c rfl rfl rfl hK.2.2.2.2.2.1.1 (by decide +kernel) ⟨by decide, by decide⟩) (PP.preV (q := (RJx4a65c, TJx4a65c, 3)) hK hW hw.1 (by decide) rfl) rfl rfl hl.1 rfl (lv_room (Nat.le_of_ble_eq_true rfl)) dX6_look_6 ⟨by decide, by decide⟩) hW (fun r1 m2 H locs hw hW => ?_)
  refine W.eq (g2 := F0 m 11 ls [.int r1, .int (0 : Int32), .int v1]) rfl ?_
  refine lv_iconst (v := (1 : Int32)) hx hb dX6_look_11 (by decide) ?_
  refine lv_isub hx hb dX6_look_12 ?_
  refine R_call (va_runS (As := [.int v1, .int (0 : Int32), .int (r1 - (1 : Int32))]) (rest := []) ⟨hx, hb, hml, hown, hts⟩ (c_X6_within l g m2 v1 (0 : Int32) (r1 - (1 : Int32)) _ hw) (va_cwS 3 hts gX6_look_X6_within rfl rfl rfl (by decide +kernel) ⟨by decide, by decide⟩) (PP.pre hK hW) rfl rfl hl.1 rfl (lv_room (Nat.le_of_ble_eq_true rfl)) dX6_look_13 ⟨by decide, by decide⟩) hW (fun r3 m4 H locs hw hW => ?_)
  refine W.eq (g2 := F0 m 16 ls [.int r3]) rfl ?_
  refine lv_if_ne (tgt := 21) hx hb dX6_look_16 (by decide) (fun c5 => ?_) (fun c5 => ?_)
  · have hw := hw.1 c5
    refine lv_aload_n hx hb dX6_look_21 rfl (lv_at hl 0 rfl) ?_
    refine R_getP (C := RX6) (T := TX6) (N := 15) hx hb hts i7 hown hK hW 6 hw.1 (by decide) rfl (by decide) (hts (.fieldLink RX6 56 "BoatLift" "byNumber" "Ljava/util/List;") (by decide +kernel)) (fun _ h => h) (fun _ _ _ => rfl) hw.2.1 dX6_look_22 ?_
    have hw := hw.2.2
    refine lv_iload_n hx hb dX6_look_25 rfl (lv_at hl 1 rfl) ?_
    refine R_call5 (va_runF (As := [.int v1]) (rest := []) (hK.1.1 0 (RJx4a65c, TJx4a65c, 3) rfl).2 ⟨hx, hb, hml, hown, hts⟩ (c_Jx4a65c_get_915e3 l g m4 (mP m4 v0 6) v1 _ hw.2) (va_cwF 1 hts gX6_look_Jx4a65c_get_915e3_f138Jx4a65c rfl rfl rfl hK.2.2.2.2.2.1.2.1 (by decide +kernel) ⟨by decide, by decide⟩) (PP.preV (q := (RJx4a65c, TJx4a65c, 3)) hK hW hw.1 (by decide) rfl) rfl rfl hl.1 rfl (lv_room (Nat.le_of_ble_eq_true rfl)) dX6_look_26 ⟨by decide, by decide⟩) hW (fun r6 m7 H locs hw hW => ?_)
    refine W.eq (g2 := F0 m 31 ls [.ref (ad g r6)]) rfl ?_
    refine va_castS hx hb hown (hts (.classLink RX6 119 "BoatLift$Boat") (by decide +kernel)) (hK.1.1 1 (RX0, TX0, 8) rfl).2 (R_recv (q := (RX0, TX0, 8)) hK hW hw.1 (by decide) rfl) dX6_look_31 ?_
    have hw := hw.2
    refine lv_astore_n (lv' := [(3, .ref (ad g r6)), (0, .ref (ad g v0)), (1, .int v1), (2, .int v2)]) hx hb dX6_look_34 rfl hl (by decide) rfl (fun ls hl => ?_)
    refine lv_iload_n hx hb dX6_look_35 rfl (lv_at hl 3 rfl) ?_
    by_cases c8 : v2 = (0 : Int32)
    · have hw := hw.1 c8
      refine lv_tableIn (tgt := 88) (off := 52) hx hb dX6_look_36 (by rw [c8]; decide) (by rw [c8]; decide) (by rw [c8]; decide) (by decide) ?_
      refine lv_aload_n hx hb dX6_look_88 rfl (lv_at hl 0 rfl) ?_
      refine R_getI (C := RX0) (T := TX0) (N := 8) hx hb hts i1 hown hK hW 1 hw.1 (by decide) rfl (by decide) (hts (.fieldLink RX6 195 "BoatLift$Boat" "side" "I") (by decide +kernel)) (fun _ h => h) (fun _ _ _ => rfl) dX6_look_89 ?_
      have hw := hw.2
      exact R_iret hx hb hr hlk hW hw dX6_look_92
    by_cases c9 : v2 = (1 : Int32)
    · have hw := hw.2.1 c9
      refine lv_tableIn (tgt := 93) (off := 57) hx hb dX6_look_36 (by rw [c9]; decide) (by rw [c9]; decide) (by rw [c9]; decide) (by decide) ?_
      refine lv_aload_n hx hb dX6_look_93 rfl (lv_at hl 0 rfl) ?_
      refine R_getI (C := RX0) (T := TX0) (N := 8) hx hb hts i1 hown hK hW 2 hw.1 (by decide) rfl (by decide) (hts (.fieldLink RX6 198 "BoatLift$Boat" "minute" "I") (by decide +kernel)) (fun _ h => h) (fun _ _ _ => rfl) dX6_look_94 ?_
      have hw := hw.2
      exact R_iret hx hb hr hlk hW hw dX6_look_97
    by_cases c10 : v2 = (2 : Int32)
    · have hw := hw.2.2.1 c10
      refine lv_tableIn (tgt := 98) (off := 62) hx hb dX6_look_36 (by rw [c10]; decide) (by rw [c10]; decide) (by rw [c10]; decide) (by decide) ?_
      refine lv_aload_n hx hb dX6_look_98 rfl (lv_at hl 0 rfl) ?_
      refine R_getI (C := RX0) (T := TX0) (N := 8) hx hb hts i1 hown hK hW 3 hw.1 (by decide) rfl (by decide) (hts (.fieldLink RX6 201 "BoatLift$Boat" "length" "I") (by decide +kernel)) (fun _ h => h) (fun _ _ _ => rfl) dX6_look_99 ?_
      have hw := hw.2
      exact R_iret hx hb hr hlk hW hw dX6_look_102
    by_cases c11 : v2 = (3 : Int32)
    · have hw := hw.2.2.2.1 c11
      refine lv_tableIn (tgt := 103) (off := 67) hx hb dX6_look_36 (by rw [c11]; decide) (by rw [c11]; decide) (by rw [c11]; decide) (by decide) ?_
      refine lv_aload_n hx hb dX6_look_103 rfl (lv_at hl 0 rfl) ?_
      refine R_getI (C := RX0) (T := TX0) (N := 8) hx hb hts i1 hown hK hW 4 hw.1 (by decide) rfl (by decide) (hts (.fieldLink RX6 204 "BoatLift$Boat" "draught" "I") (by decide +kernel)) (fun _ h => h) (fun _ _ _ => rfl) dX6_look_104 ?_
      have hw := hw.2
      exact R_iret hx hb hr hlk hW hw dX6_look_107
    by_cases c12 : v2 = (4 : Int32)
    · have hw := hw.2.2.2.2.1 c12
      refine lv_tableIn (tgt := 108) (off := 72) hx hb dX6_look_36 (by rw [c12]; decide) (by rw [c12]; decide) (by rw [c12]; decide) (by decide) ?_
      refine lv_aload_n hx hb dX6_look_108 rfl (lv_at hl 0 rfl) ?_
      refine R_getI (C := RX0) (T := TX0) (N := 8) hx hb hts i1 hown hK hW 5 hw.1 (by decide) rfl (by decide) (hts (.fieldLink RX6 207 "BoatLift$Boat" "weight" "I") (by decide +kernel)) (fun _ h => h) (fun _ _ _ => rfl) dX6_look_109 ?_
      have hw := hw.2
      exact R_iret hx hb hr hlk hW hw dX6_look_112
    by_cases c13 : v2 = (5 : Int32)
    · have hw := hw.2.2.2.2.2.1 c13
      refine lv_tableIn (tgt := 113) (off := 77) hx hb dX6_look_36 (by rw [c13]; decide) (by rw [c13]; decide) (by rw [c13]; decide) (by decide) ?_
      refine lv_aload_n hx hb dX6_look_113 rfl (lv_at hl 0 rfl) ?_
      refine R_getI (C := RX0) (T := TX0) (N := 8) hx hb hts i1 hown hK hW 6 hw.1 (by decide) rfl (by decide) (hts (.fieldLink RX6 210 "BoatLift$Boat" "rank" "I") (by decide +kernel)) (fun _ h => h) (fun _ _ _ => rfl) dX6_look_114 ?_
      have hw := hw.2
      exact R_iret hx hb hr hlk hW hw dX6_look_117
    by_cases c14 : v2 = (6 : Int32)
    · have hw := hw.2.2.2.2.2.2.1 c14
      refine lv_tableIn (tgt := 118) (off := 82) hx hb dX6_look_36 (by rw [c14]; decide) (by rw [c14]; decide) (by rw [c14]; decide) (by decide) ?_
      refine lv_aload_n hx hb dX6_look_118 rfl (lv_at hl 1 rfl) ?_
      refine lv_aload_n hx hb dX6_look_119 rfl (lv_at hl 0 rfl) ?_
      refine R_call (va_runV (As := [.ref (ad g r6)]) (rest := []) ⟨hx, hb, hml, hown, hts⟩ (c_X6_isFit l g m7 v0 r6 _ hw.2) (cwV 1 hts gX6_look_X6_isFit rfl rfl rfl (by decide +kernel) ⟨by decide, by decide⟩) (PP.preV (q := (RX6, TX6, 15)) hK hW hw.1 (by decide) rfl) rfl rfl hl.1 rfl (lv_room (Nat.le_of_ble_eq_true rfl)) dX6_look_120 ⟨by decide, by decide⟩) hW (fun r15 m16 H locs hw hW => ?_)
      refine W.eq (g2 := F0 m 123 ls [.int r15]) rfl ?_
      refine lv_if_eq (tgt := 130) hx hb dX6_look_123 (by decide) (fun c17 => ?_) (fun c17 => ?_)
      · have hw := hw.1 c17
        refine lv_iconst (v := (0 : Int32)) hx hb dX6_look_130 (by decide) ?_
        exact R_iret hx hb hr hlk hW hw dX6_look_131
      · have hw := hw.2 c17
        refine lv_iconst (v := (1 : Int32)) hx hb dX6_look_126 (by decide) ?_
        refine lv_goto (tgt := 131) hx hb dX6_look_127 (by decide) ?_
        exact R_iret hx hb hr hlk hW hw dX6_look_131
    by_cases c18 : v2 = (7 : Int32)
    · have hw := hw.2.2.2.2.2.2.2.1 c18
      refine lv_tableIn (tgt := 132) (off := 96) hx hb dX6_look_36 (by rw [c18]; decide) (by rw [c18]; decide) (by rw [c18]; decide) (by decide) ?_
      refine lv_aload_n hx hb dX6_look_132 rfl (lv_at hl 0 rfl) ?_
      refine R_getI (C := RX0) (T := TX0) (N := 8) hx hb hts i1 hown hK hW 7 hw.1 (by decide) rfl (by decide) (hts (.fieldLink RX6 217 "BoatLift$Boat" "began" "I") (by decide +kernel)) (fun _ h => h) (fun _ _ _ => rfl) dX6_look_133 ?_
      have hw := hw.2
      exact R_iret hx hb hr hlk hW hw dX6_look_136
    by_cases c19 : v2 = (8 : Int32)
    · have hw := hw.2.2.2.2.2.2.2.2.1 c19
      refine lv_tableIn (tgt := 137) (off := 101) hx hb dX6_look_36 (by rw [c19]; decide) (by rw [c19]; decide) (by rw [c19]; decide) (by decide) ?_
      refine lv_aload_n hx hb dX6_look_137 rfl (lv_at hl 0 rfl) ?_
      refine R_call (va_runV (As := []) (rest := []) ⟨hx, hb, hml, hown, hts⟩ (c_X0_waited l g m7 r6 _ hw.2) (cwV 0 hts gX6_look_X0_waited rfl rfl rfl (by decide +kernel) ⟨by decide, by decide⟩) (PP.preV (q := (RX0, TX0, 8)) hK hW hw.1 (by decide) rfl) rfl rfl hl.1 rfl (lv_room (Nat.le_of_ble_eq_true rfl)) dX6_look_138 ⟨by decide, by decide⟩) hW (fun r20 m21 H locs hw hW => ?_)
      refine W.eq (g2 := F0 m 141 ls [.int r20]) rfl ?_
      exact R_iret hx hb hr hlk hW hw dX6_look_141
    have hw := hw.2.2.2.2.2.2.2.2.2 c8 c9 c10 c11 c12 c13 c14 c18 c19
    refine lv_tableOut (tgt := 142) hx hb dX6_look_36 ?_ (by decide) ?_
    · have z0 := lv_neT c8 (a := 0) (by decide); have z1 := lv_neT c9 (a := 1) (by decide); have z2 := lv_neT c10 (a := 2) (by decide); have z3 := lv_neT c11 (a := 3) (by decide); have z4 := lv_neT c12 (a := 4) (by decide); have z5 := lv_neT c13 (a := 5) (by decide); have z6 := lv_neT c14 (a := 6) (by decide); have z7 := lv_neT c18 (a := 7) (by decide); have z8 := lv_neT c19 (a := 8) (by decide); omega
    · refine lv_iconst (v := (-1 : Int32)) hx hb dX6_look_142 (by decide) ?_
      exact R_iret hx hb hr hlk hW hw dX6_look_143
  · have hw := hw.2 c5
    refine lv_iconst (v := (-1 : Int32)) hx hb dX6_look_19 (by decide) ?_
    exact R_iret hx hb hr hlk hW hw dX6_look_20

def wp_X6_count (m0 : Mm) (v0 : Nat) (v1 : Int32) (Φ : Int32 → Mm → Prop) : Prop :=
  wp_X6_within m0 v1 (10 : Int32) (15 : Int32) (fun (r1 : Int32) (m2 : Mm) => ((r1 = 0 → ((v1 = (0 : Int32) → mT m2 v0 = 7 ∧ Φ (mI m2 v0 8) m2) ∧ (v1 = (1 : Int32) → mT m2 v0 = 7 ∧ Φ (mI m2 v0 9) m2) ∧ (v1 = (2 : Int32) → mT m2 v0 = 7 ∧ Φ (mI m2 v0 10) m2) ∧ (v1 = (3 : Int32) → mT m2 v0 = 7 ∧ Φ (mI m2 v0 11) m2) ∧ (v1 = (4 : Int32) → mT m2 v0 = 7 ∧ Φ (mI m2 v0 12) m2) ∧ (v1 = (5 : Int32) → mT m2 v0 = 7 ∧ (mP m2 v0 6) ≠ 0 ∧ mT m2 (mP m2 v0 6) = 0 ∧ wp_Jx4a65c_size_8abf5 m2 (mP m2 v0 6) (fun (r10 : Int32) (m11 : Mm) => Φ r10 m11)) ∧ (v1 = (6 : Int32) → mT m2 v0 = 7 ∧ Φ (mI m2 v0 13) m2) ∧ (v1 = (7 : Int32) → mT m2 v0 = 7 ∧ (mP m2 v0 0) ≠ 0 ∧ mT m2 (mP m2 v0 0) = 4 ∧ wp_X3_size m2 (mP m2 v0 0) (fun (r14 : Int32) (m15 : Mm) => Φ r14 m15)) ∧ (v1 = (8 : Int32) → mT m2 v0 = 7 ∧ Φ (mI m2 v0 14) m2) ∧ (v1 = (9 : Int32) → Φ (-1 : Int32) m2) ∧ (v1 = (10 : Int32) → Φ (-1 : Int32) m2) ∧ (v1 = (11 : Int32) → Φ (-1 : Int32) m2) ∧ (v1 = (12 : Int32) → Φ (-1 : Int32) m2) ∧ (v1 = (13 : Int32) → Φ (-1 : Int32) m2) ∧ (v1 = (14 : Int32) → Φ (-1 : Int32) m2) ∧ (v1 = (15 : Int32) → Φ (-1 : Int32) m2) ∧ (v1 = (16 : Int32) → Φ (-1 : Int32) m2) ∧ (v1 = (17 : Int32) → Φ (-1 : Int32) m2) ∧ (v1 = (18 : Int32) → Φ (-1 : Int32) m2) ∧ (v1 = (19 : Int32) → Φ (-1 : Int32) m2) ∧ (v1 = (20 : Int32) → mT m2 v0 = 7 ∧ (mP m2 v0 4) ≠ 0 ∧ mT m2 (mP m2 v0 4) = 6 ∧ wp_X5_spread m2 (mP m2 v0 4) (fun (r29 : Int32) (m30 : Mm) => Φ r29 m30)) ∧ (v1 = (21 : Int32) → mT m2 v0 = 7 ∧ (mP m2 v0 5) ≠ 0 ∧ mT m2 (mP m2 v0 5) = 6 ∧ wp_X5_spread m2 (mP m2 v0 5) (fun (r32 : Int32) (m33 : Mm) => Φ r32 m33)) ∧ (¬ v1 = (0 : Int32) → ¬ v1 = (1 : Int32) → ¬ v1 = (2 : Int32) → ¬ v1 = (3 : Int32) → ¬ v1 = (4 : Int32) → ¬ v1 = (5 : Int32) → ¬ v1 = (6 : Int32) → ¬ v1 = (7 : Int32) → ¬ v1 = (8 : Int32) → ¬ v1 = (9 : Int32) → ¬ v1 = (10 : Int32) → ¬ v1 = (11 : Int32) → ¬ v1 = (12 : Int32) → ¬ v1 = (13 : Int32) → ¬ v1 = (14 : Int32) → ¬ v1 = (15 : Int32) → ¬ v1 = (16 : Int32) → ¬ v1 = (17 : Int32) → ¬ v1 = (18 : Int32) → ¬ v1 = (19 : Int32) → ¬ v1 = (20 : Int32) → ¬ v1 = (21 : Int32) → Φ (-1 : Int32) m2))) ∧ (¬ r1 = 0 → mT m2 v0 = 7 ∧ (mP m2 v0 1) ≠ 0 ∧ mT m2 (mP m2 v0 1) = 2 ∧ wp_X1_number m2 (mP m2 v0 1) (v1 - (10 : Int32)) (fun (r34 : Int32) (m35 : Mm) => Φ r34 m35))))
abbrev rm_X6_count : Room := { frames := 1, cells := 0, slots := 0, locals := 22 }
set_option maxHeartbeats 4000000 in
set_option maxRecDepth 100000 in
theorem c_X6_count (l : Launch) (g : Gv) (m0 : Mm) (v0 : Nat) (v1 : Int32) (Φ : Int32 → Mm → Prop) (hw : wp_X6_count m0 v0 v1 Φ) : Met l yX6_count wsX6_count rm_X6_count (PP g [.ref (ad g v0), .int v1] m0) (QQ g vI Φ) 0 0 (Ag g) := by
  refine CT_of (by decide +kernel) rfl (Nat.le_of_ble_eq_true rfl) ?_
  intro p e s m below meth c hx hb hr hml hown hts hlk hnm hK hW ls hl
  have hown : s.vm.findClass RX6 = some m.cls := hown
  have hl : lv_has ls 2 [(0, .ref (ad g v0)), (1, .int v1)] := hl
  have i7 : ∀ w ∈ u_ws RX6 TX6 15, w ∈ wsX6_count := by decide +kernel
  unfold wp_X6_count at hw
  refine lv_iload_n hx hb dX6_count_0 rfl (lv_at hl 1 rfl) ?_
  refine lv_bipush (v := (10 : Int32)) hx hb dX6_count_1 (by decide) ?_
  refine lv_bipush (v := (15 : Int32)) hx hb dX6_count_3 (by decide) ?_
  refine R_call (va_runS (As := [.int v1, .int (10 : Int32), .int (15 : Int32)]) (rest := []) ⟨hx, hb, hml, hown, hts⟩ (c_X6_within l g m0 v1 (10 : Int32) (15 : Int32) _ hw) (va_cwS 3 hts gX6_count_X6_within rfl rfl rfl (by decide +kernel) ⟨by decide, by decide⟩) (PP.pre hK hW) rfl rfl hl.1 rfl (lv_room (Nat.le_of_ble_eq_true rfl)) dX6_count_5 ⟨by decide, by decide⟩) hW (fun r1 m2 H locs hw hW => ?_)
  refine W.eq (g2 := F0 m 8 ls [.int r1]) rfl ?_
  refine lv_if_eq (tgt := 23) hx hb dX6_count_8 (by decide) (fun c3 => ?_) (fun c3 => ?_)
  · have hw := hw.1 c3
    refine lv_iload_n hx hb dX6_count_23 rfl (lv_at hl 1 rfl) ?_
    by_cases c4 : v1 = (0 : Int32)
    · have hw := hw.1 c4
      refine lv_tableIn (tgt := 128) (off := 104) hx hb dX6_count_24 (by rw [c4]; decide) (by rw [c4]; decide) (by rw [c4]; decide) (by decide) ?_
      refine lv_aload_n hx hb dX6_count_128 rfl (lv_at hl 0 rfl) ?_
      refine R_getI (C := RX6) (T := TX6) (N := 15) hx hb hts i7 hown hK hW 8 hw.1 (by decide) rfl (by decide) (hts (.fieldLink RX6 63 "BoatLift" "troughLength" "I") (by decide +kernel)) (fun _ h => h) (fun _ _ _ => rfl) dX6_count_129 ?_
      have hw := hw.2
      exact R_iret hx hb hr hlk hW hw dX6_count_132
    by_cases c5 : v1 = (1 : Int32)
    · have hw := hw.2.1 c5
      refine lv_tableIn (tgt := 133) (off := 109) hx hb dX6_count_24 (by rw [c5]; decide) (by rw [c5]; decide) (by rw [c5]; decide) (by decide) ?_
      refine lv_aload_n hx hb dX6_count_133 rfl (lv_at hl 0 rfl) ?_
      refine R_getI (C := RX6) (T := TX6) (N := 15) hx hb hts i7 hown hK hW 9 hw.1 (by decide) rfl (by decide) (hts (.fieldLink RX6 67 "BoatLift" "troughSide" "I") (by decide +kernel)) (fun _ h => h) (fun _ _ _ => rfl) dX6_count_134 ?_
      have hw := hw.2
      exact R_iret hx hb hr hlk hW hw dX6_count_137
    by_cases c6 : v1 = (2 : Int32)
    · have hw := hw.2.2.1 c6
      refine lv_tableIn (tgt := 138) (off := 114) hx hb dX6_count_24 (by rw [c6]; decide) (by rw [c6]; decide) (by rw [c6]; decide) (by decide) ?_
      refine lv_aload_n hx hb dX6_count_138 rfl (lv_at hl 0 rfl) ?_
      refine R_getI (C := RX6) (T := TX6) (N := 15) hx hb hts i7 hown hK hW 10 hw.1 (by decide) rfl (by decide) (hts (.fieldLink RX6 149 "BoatLift" "freeFrom" "I") (by decide +kernel)) (fun _ h => h) (fun _ _ _ => rfl) dX6_count_139 ?_
      have hw := hw.2
      exact R_iret hx hb hr hlk hW hw dX6_count_142
    by_cases c7 : v1 = (3 : Int32)
    · have hw := hw.2.2.2.1 c7
      refine lv_tableIn (tgt := 143) (off := 119) hx hb dX6_count_24 (by rw [c7]; decide) (by rw [c7]; decide) (by rw [c7]; decide) (by decide) ?_
      refine lv_aload_n hx hb dX6_count_143 rfl (lv_at hl 0 rfl) ?_
      refine R_getI (C := RX6) (T := TX6) (N := 15) hx hb hts i7 hown hK hW 11 hw.1 (by decide) rfl (by decide) (hts (.fieldLink RX6 155 "BoatLift" "sealRides" "I") (by decide +kernel)) (fun _ h => h) (fun _ _ _ => rfl) dX6_count_144 ?_
      have hw := hw.2
      exact R_iret hx hb hr hlk hW hw dX6_count_147
    by_cases c8 : v1 = (4 : Int32)
    · have hw := hw.2.2.2.2.1 c8
      refine lv_tableIn (tgt := 148) (off := 124) hx hb dX6_count_24 (by rw [c8]; decide) (by rw [c8]; decide) (by rw [c8]; decide) (by decide) ?_
      refine lv_aload_n hx hb dX6_count_148 rfl (lv_at hl 0 rfl) ?_
      refine R_getI (C := RX6) (T := TX6) (N := 15) hx hb hts i7 hown hK hW 12 hw.1 (by decide) rfl (by decide) (hts (.fieldLink RX6 170 "BoatLift" "ridesEver" "I") (by decide +kernel)) (fun _ h => h) (fun _ _ _ => rfl) dX6_count_149 ?_
      have hw := hw.2
      exact R_iret hx hb hr hlk hW hw dX6_count_152
    by_cases c9 : v1 = (5 : Int32)
    · have hw := hw.2.2.2.2.2.1 c9
      refine lv_tableIn (tgt := 153) (off := 129) hx hb dX6_count_24 (by rw [c9]; decide) (by rw [c9]; decide) (by rw [c9]; decide) (by decide) ?_
      refine lv_aload_n hx hb dX6_count_153 rfl (lv_at hl 0 rfl) ?_
      refine R_getP (C := RX6) (T := TX6) (N := 15) hx hb hts i7 hown hK hW 6 hw.1 (by decide) rfl (by decide) (hts (.fieldLink RX6 56 "BoatLift" "byNumber" "Ljava/util/List;") (by decide +kernel)) (fun _ h => h) (fun _ _ _ => rfl) hw.2.1 dX6_count_154 ?_
      have hw := hw.2.2
      refine R_call5 (va_runF (As := []) (rest := []) (hK.1.1 0 (RJx4a65c, TJx4a65c, 3) rfl).2 ⟨hx, hb, hml, hown, hts⟩ (c_Jx4a65c_size_8abf5 l g m2 (mP m2 v0 6) _ hw.2) (va_cwF 0 hts gX6_count_Jx4a65c_size_8abf5_f116Jx4a65c rfl rfl rfl hK.2.2.2.2.2.1.1 (by decide +kernel) ⟨by decide, by decide⟩) (PP.preV (q := (RJx4a65c, TJx4a65c, 3)) hK hW hw.1 (by decide) rfl) rfl rfl hl.1 rfl (lv_room (Nat.le_of_ble_eq_true rfl)) dX6_count_157 ⟨by decide, by decide⟩) hW (fun r10 m11 H locs hw hW => ?_)
      refine W.eq (g2 := F0 m 162 ls [.int r10]) rfl ?_
      exact R_iret hx hb hr hlk hW hw dX6_count_162
    by_cases c12 : v1 = (6 : Int32)
    · have hw := hw.2.2.2.2.2.2.1 c12
      refine lv_tableIn (tgt := 163) (off := 139) hx hb dX6_count_24 (by rw [c12]; decide) (by rw [c12]; decide) (by rw [c12]; decide) (by decide) ?_
      refine lv_aload_n hx hb dX6_count_163 rfl (lv_at hl 0 rfl) ?_
      refine R_getI (C := RX6) (T := TX6) (N := 15) hx hb hts i7 hown hK hW 13 hw.1 (by decide) rfl (by decide) (hts (.fieldLink RX6 223 "BoatLift" "carried" "I") (by decide +kernel)) (fun _ h => h) (fun _ _ _ => rfl) dX6_count_164 ?_
      have hw := hw.2
      exact R_iret hx hb hr hlk hW hw dX6_count_167
    by_cases c13 : v1 = (7 : Int32)
    · have hw := hw.2.2.2.2.2.2.2.1 c13
      refine lv_tableIn (tgt := 168) (off := 144) hx hb dX6_count_24 (by rw [c13]; decide) (by rw [c13]; decide) (by rw [c13]; decide) (by decide) ?_
      refine lv_aload_n hx hb dX6_count_168 rfl (lv_at hl 0 rfl) ?_
      refine R_getP (C := RX6) (T := TX6) (N := 15) hx hb hts i7 hown hK hW 0 hw.1 (by decide) rfl (by decide) (hts (.fieldLink RX6 10 "BoatLift" "tape" "LBoatLift$Tape;") (by decide +kernel)) (fun _ h => h) (fun _ _ _ => rfl) hw.2.1 dX6_count_169 ?_
      have hw := hw.2.2
      refine R_call (va_runV (As := []) (rest := []) ⟨hx, hb, hml, hown, hts⟩ (c_X3_size l g m2 (mP m2 v0 0) _ hw.2) (cwV 0 hts gX6_count_X3_size rfl rfl rfl (by decide +kernel) ⟨by decide, by decide⟩) (PP.preV (q := (RX3, TX3, 2)) hK hW hw.1 (by decide) rfl) rfl rfl hl.1 rfl (lv_room (Nat.le_of_ble_eq_true rfl)) dX6_count_172 ⟨by decide, by decide⟩) hW (fun r14 m15 H locs hw hW => ?_)
      refine W.eq (g2 := F0 m 175 ls [.int r14]) rfl ?_
      exact R_iret hx hb hr hlk hW hw dX6_count_175
    by_cases c16 : v1 = (8 : Int32)
    · have hw := hw.2.2.2.2.2.2.2.2.1 c16
      refine lv_tableIn (tgt := 176) (off := 152) hx hb dX6_count_24 (by rw [c16]; decide) (by rw [c16]; decide) (by rw [c16]; decide) (by decide) ?_
      refine lv_aload_n hx hb dX6_count_176 rfl (lv_at hl 0 rfl) ?_
      refine R_getI (C := RX6) (T := TX6) (N := 15) hx hb hts i7 hown hK hW 14 hw.1 (by decide) rfl (by decide) (hts (.fieldLink RX6 226 "BoatLift" "waitedTogether" "I") (by decide +kernel)) (fun _ h => h) (fun _ _ _ => rfl) dX6_count_177 ?_
      have hw := hw.2
      exact R_iret hx hb hr hlk hW hw dX6_count_180
    by_cases c17 : v1 = (9 : Int32)
    · have hw := hw.2.2.2.2.2.2.2.2.2.1 c17
      refine lv_tableIn (tgt := 197) (off := 173) hx hb dX6_count_24 (by rw [c17]; decide) (by rw [c17]; decide) (by rw [c17]; decide) (by decide) ?_
      refine lv_iconst (v := (-1 : Int32)) hx hb dX6_count_197 (by decide) ?_
      exact R_iret hx hb hr hlk hW hw dX6_count_198
    by_cases c18 : v1 = (10 : Int32)
    · have hw := hw.2.2.2.2.2.2.2.2.2.2.1 c18
      refine lv_tableIn (tgt := 197) (off := 173) hx hb dX6_count_24 (by rw [c18]; decide) (by rw [c18]; decide) (by rw [c18]; decide) (by decide) ?_
      refine lv_iconst (v := (-1 : Int32)) hx hb dX6_count_197 (by decide) ?_
      exact R_iret hx hb hr hlk hW hw dX6_count_198
    by_cases c19 : v1 = (11 : Int32)
    · have hw := hw.2.2.2.2.2.2.2.2.2.2.2.1 c19
      refine lv_tableIn (tgt := 197) (off := 173) hx hb dX6_count_24 (by rw [c19]; decide) (by rw [c19]; decide) (by rw [c19]; decide) (by decide) ?_
      refine lv_iconst (v := (-1 : Int32)) hx hb dX6_count_197 (by decide) ?_
      exact R_iret hx hb hr hlk hW hw dX6_count_198
    by_cases c20 : v1 = (12 : Int32)
    · have hw := hw.2.2.2.2.2.2.2.2.2.2.2.2.1 c20
      refine lv_tableIn (tgt := 197) (off := 173) hx hb dX6_count_24 (by rw [c20]; decide) (by rw [c20]; decide) (by rw [c20]; decide) (by decide) ?_
      refine lv_iconst (v := (-1 : Int32)) hx hb dX6_count_197 (by decide) ?_
      exact R_iret hx hb hr hlk hW hw dX6_count_198
    by_cases c21 : v1 = (13 : Int32)
    · have hw := hw.2.2.2.2.2.2.2.2.2.2.2.2.2.1 c21
      refine lv_tableIn (tgt := 197) (off := 173) hx hb dX6_count_24 (by rw [c21]; decide) (by rw [c21]; decide) (by rw [c21]; decide) (by decide) ?_
      refine lv_iconst (v := (-1 : Int32)) hx hb dX6_count_197 (by decide) ?_
      exact R_iret hx hb hr hlk hW hw dX6_count_198
    by_cases c22 : v1 = (14 : Int32)
    · have hw := hw.2.2.2.2.2.2.2.2.2.2.2.2.2.2.1 c22
      refine lv_tableIn (tgt := 197) (off := 173) hx hb dX6_count_24 (by rw [c22]; decide) (by rw [c22]; decide) (by rw [c22]; decide) (by decide) ?_
      refine lv_iconst (v := (-1 : Int32)) hx hb dX6_count_197 (by decide) ?_
      exact R_iret hx hb hr hlk hW hw dX6_count_198
    by_cases c23 : v1 = (15 : Int32)
    · have hw := hw.2.2.2.2.2.2.2.2.2.2.2.2.2.2.2.1 c23
      refine lv_tableIn (tgt := 197) (off := 173) hx hb dX6_count_24 (by rw [c23]; decide) (by rw [c23]; decide) (by rw [c23]; decide) (by decide) ?_
      refine lv_iconst (v := (-1 : Int32)) hx hb dX6_count_197 (by decide) ?_
      exact R_iret hx hb hr hlk hW hw dX6_count_198
    by_cases c24 : v1 = (16 : Int32)
    · have hw := hw.2.2.2.2.2.2.2.2.2.2.2.2.2.2.2.2.1 c24
      refine lv_tableIn (tgt := 197) (off := 173) hx hb dX6_count_24 (by rw [c24]; decide) (by rw [c24]; decide) (by rw [c24]; decide) (by decide) ?_
      refine lv_iconst (v := (-1 : Int32)) hx hb dX6_count_197 (by decide) ?_
      exact R_iret hx hb hr hlk hW hw dX6_count_198
    by_cases c25 : v1 = (17 : Int32)
    · have hw := hw.2.2.2.2.2.2.2.2.2.2.2.2.2.2.2.2.2.1 c25
      refine lv_tableIn (tgt := 197) (off := 173) hx hb dX6_count_24 (by rw [c25]; decide) (by rw [c25]; decide) (by rw [c25]; decide) (by decide) ?_
      refine lv_iconst (v := (-1 : Int32)) hx hb dX6_count_197 (by decide) ?_
      exact R_iret hx hb hr hlk hW hw dX6_count_198
    by_cases c26 : v1 = (18 : Int32)
    · have hw := hw.2.2.2.2.2.2.2.2.2.2.2.2.2.2.2.2.2.2.1 c26
      refine lv_tableIn (tgt := 197) (off := 173) hx hb dX6_count_24 (by rw [c26]; decide) (by rw [c26]; decide) (by rw [c26]; decide) (by decide) ?_
      refine lv_iconst (v := (-1 : Int32)) hx hb dX6_count_197 (by decide) ?_
      exact R_iret hx hb hr hlk hW hw dX6_count_198
    by_cases c27 : v1 = (19 : Int32)
    · have hw := hw.2.2.2.2.2.2.2.2.2.2.2.2.2.2.2.2.2.2.2.1 c27
      refine lv_tableIn (tgt := 197) (off := 173) hx hb dX6_count_24 (by rw [c27]; decide) (by rw [c27]; decide) (by rw [c27]; decide) (by decide) ?_
      refine lv_iconst (v := (-1 : Int32)) hx hb dX6_count_197 (by decide) ?_
      exact R_iret hx hb hr hlk hW hw dX6_count_198
    by_cases c28 : v1 = (20 : Int32)
    · have hw := hw.2.2.2.2.2.2.2.2.2.2.2.2.2.2.2.2.2.2.2.2.1 c28
      refine lv_tableIn (tgt := 181) (off := 157) hx hb dX6_count_24 (by rw [c28]; decide) (by rw [c28]; decide) (by rw [c28]; decide) (by decide) ?_
      refine lv_aload_n hx hb dX6_count_181 rfl (lv_at hl 0 rfl) ?_
      refine R_getP (C := RX6) (T := TX6) (N := 15) hx hb hts i7 hown hK hW 4 hw.1 (by decide) rfl (by decide) (hts (.fieldLink RX6 46 "BoatLift" "lower" "LBoatLift$Water;") (by decide +kernel)) (fun _ h => h) (fun _ _ _ => rfl) hw.2.1 dX6_count_182 ?_
      have hw := hw.2.2
      refine R_call (va_runV (As := []) (rest := []) ⟨hx, hb, hml, hown, hts⟩ (c_X5_spread l g m2 (mP m2 v0 4) _ hw.2) (cwV 0 hts gX6_count_X5_spread rfl rfl rfl (by decide +kernel) ⟨by decide, by decide⟩) (PP.preV (q := (RX5, TX5, 2)) hK hW hw.1 (by decide) rfl) rfl rfl hl.1 rfl (lv_room (Nat.le_of_ble_eq_true rfl)) dX6_count_185 ⟨by decide, by decide⟩) hW (fun r29 m30 H locs hw hW => ?_)
      refine W.eq (g2 := F0 m 188 ls [.int r29]) rfl ?_
      exact R_iret hx hb hr hlk hW hw dX6_count_188
    by_cases c31 : v1 = (21 : Int32)
    · have hw := hw.2.2.2.2.2.2.2.2.2.2.2.2.2.2.2.2.2.2.2.2.2.1 c31
      refine lv_tableIn (tgt := 189) (off := 165) hx hb dX6_count_24 (by rw [c31]; decide) (by rw [c31]; decide) (by rw [c31]; decide) (by decide) ?_
      refine lv_aload_n hx hb dX6_count_189 rfl (lv_at hl 0 rfl) ?_
      refine R_getP (C := RX6) (T := TX6) (N := 15) hx hb hts i7 hown hK hW 5 hw.1 (by decide) rfl (by decide) (hts (.fieldLink RX6 50 "BoatLift" "upper" "LBoatLift$Water;") (by decide +kernel)) (fun _ h => h) (fun _ _ _ => rfl) hw.2.1 dX6_count_190 ?_
      have hw := hw.2.2
      refine R_call (va_runV (As := []) (rest := []) ⟨hx, hb, hml, hown, hts⟩ (c_X5_spread l g m2 (mP m2 v0 5) _ hw.2) (cwV 0 hts gX6_count_X5_spread rfl rfl rfl (by decide +kernel) ⟨by decide, by decide⟩) (PP.preV (q := (RX5, TX5, 2)) hK hW hw.1 (by decide) rfl) rfl rfl hl.1 rfl (lv_room (Nat.le_of_ble_eq_true rfl)) dX6_count_193 ⟨by decide, by decide⟩) hW (fun r32 m33 H locs hw hW => ?_)
      refine W.eq (g2 := F0 m 196 ls [.int r32]) rfl ?_
      exact R_iret hx hb hr hlk hW hw dX6_count_196
    have hw := hw.2.2.2.2.2.2.2.2.2.2.2.2.2.2.2.2.2.2.2.2.2.2 c4 c5 c6 c7 c8 c9 c12 c13 c16 c17 c18 c19 c20 c21 c22 c23 c24 c25 c26 c27 c28 c31
    refine lv_tableOut (tgt := 197) hx hb dX6_count_24 ?_ (by decide) ?_
    · have z0 := lv_neT c4 (a := 0) (by decide); have z1 := lv_neT c5 (a := 1) (by decide); have z2 := lv_neT c6 (a := 2) (by decide); have z3 := lv_neT c7 (a := 3) (by decide); have z4 := lv_neT c8 (a := 4) (by decide); have z5 := lv_neT c9 (a := 5) (by decide); have z6 := lv_neT c12 (a := 6) (by decide); have z7 := lv_neT c13 (a := 7) (by decide); have z8 := lv_neT c16 (a := 8) (by decide); have z9 := lv_neT c17 (a := 9) (by decide); have z10 := lv_neT c18 (a := 10) (by decide); have z11 := lv_neT c19 (a := 11) (by decide); have z12 := lv_neT c20 (a := 12) (by decide); have z13 := lv_neT c21 (a := 13) (by decide); have z14 := lv_neT c22 (a := 14) (by decide); have z15 := lv_neT c23 (a := 15) (by decide); have z16 := lv_neT c24 (a := 16) (by decide); have z17 := lv_neT c25 (a := 17) (by decide); have z18 := lv_neT c26 (a := 18) (by decide); have z19 := lv_neT c27 (a := 19) (by decide); have z20 := lv_neT c28 (a := 20) (by decide); have z21 := lv_neT c31 (a := 21) (by decide); omega
    · refine lv_iconst (v := (-1 : Int32)) hx hb dX6_count_197 (by decide) ?_
      exact R_iret hx hb hr hlk hW hw dX6_count_198
  · have hw := hw.2 c3
    refine lv_aload_n hx hb dX6_count_11 rfl (lv_at hl 0 rfl) ?_
    refine R_getP (C := RX6) (T := TX6) (N := 15) hx hb hts i7 hown hK hW 1 hw.1 (by decide) rfl (by decide) (hts (.fieldLink RX6 21 "BoatLift" "rules" "LBoatLift$Law;") (by decide +kernel)) (fun _ h => h) (fun _ _ _ => rfl) hw.2.1 dX6_count_12 ?_
    have hw := hw.2.2
    refine lv_iload_n hx hb dX6_count_15 rfl (lv_at hl 1 rfl) ?_
    refine lv_bipush (v := (10 : Int32)) hx hb dX6_count_16 (by decide) ?_
    refine lv_isub hx hb dX6_count_18 ?_
    refine R_call (va_runV (As := [.int (v1 - (10 : Int32))]) (rest := []) ⟨hx, hb, hml, hown, hts⟩ (c_X1_number l g m2 (mP m2 v0 1) (v1 - (10 : Int32)) _ hw.2) (cwV 1 hts gX6_count_X1_number rfl rfl rfl (by decide +kernel) ⟨by decide, by decide⟩) (PP.preV (q := (RX1, TX1, 5)) hK hW hw.1 (by decide) rfl) rfl rfl hl.1 rfl (lv_room (Nat.le_of_ble_eq_true rfl)) dX6_count_19 ⟨by decide, by decide⟩) hW (fun r34 m35 H locs hw hW => ?_)
    refine W.eq (g2 := F0 m 22 ls [.int r34]) rfl ?_
    exact R_iret hx hb hr hlk hW hw dX6_count_22
