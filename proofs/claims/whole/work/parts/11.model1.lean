def wp_X7_lies (m0 : Mm) (v0 : Int32) (v1 : Int32) (v2 : Int32) (Φ : Int32 → Mm → Prop) : Prop :=
  ((v0 < v1 → Φ (0 : Int32) m0) ∧ (¬ v0 < v1 → ((v2 < v0 → Φ (0 : Int32) m0) ∧ (¬ v2 < v0 → Φ (1 : Int32) m0))))
abbrev rm_X7_lies : Room := { frames := 0, cells := 0, slots := 0, locals := 0 }
set_option maxHeartbeats 4000000 in
set_option maxRecDepth 100000 in
theorem c_X7_lies (l : Launch) (g : Gv) (m0 : Mm) (v0 : Int32) (v1 : Int32) (v2 : Int32) (Φ : Int32 → Mm → Prop) (hw : wp_X7_lies m0 v0 v1 v2 Φ) : Met l yX7_lies wsX7_lies rm_X7_lies (PP g [.int v0, .int v1, .int v2] m0) (QQ g vI Φ) 0 0 (Ag g) := by
  refine CT_of (by decide) rfl (Nat.le_of_ble_eq_true rfl) ?_
  intro p e s m below meth c hx hb hr hml hown hts hlk hnm hK hW ls hl
  have hown : s.vm.findClass RX7 = some m.cls := hown
  have hl : lv_has ls 3 [(0, .int v0), (1, .int v1), (2, .int v2)] := hl
  unfold wp_X7_lies at hw
  refine lv_iload_n hx hb dX7_lies_0 rfl (lv_at hl 0 rfl) ?_
  refine lv_iload_n hx hb dX7_lies_1 rfl (lv_at hl 1 rfl) ?_
  refine lv_icmp_lt (tgt := 14) hx hb dX7_lies_2 (by decide) (fun c1 => ?_) (fun c1 => ?_)
  · have hw := hw.1 c1
    refine lv_iconst (v := (0 : Int32)) hx hb dX7_lies_14 (by decide) ?_
    exact R_zret hx hb hr hlk hW (Or.inl rfl) hw dX7_lies_15
  · have hw := hw.2 c1
    refine lv_iload_n hx hb dX7_lies_5 rfl (lv_at hl 0 rfl) ?_
    refine lv_iload_n hx hb dX7_lies_6 rfl (lv_at hl 2 rfl) ?_
    refine lv_icmp_gt (tgt := 14) hx hb dX7_lies_7 (by decide) (fun c2 => ?_) (fun c2 => ?_)
    · have hw := hw.1 c2
      refine lv_iconst (v := (0 : Int32)) hx hb dX7_lies_14 (by decide) ?_
      exact R_zret hx hb hr hlk hW (Or.inl rfl) hw dX7_lies_15
    · have hw := hw.2 c2
      refine lv_iconst (v := (1 : Int32)) hx hb dX7_lies_10 (by decide) ?_
      refine lv_goto (tgt := 15) hx hb dX7_lies_11 (by decide) ?_
      exact R_zret hx hb hr hlk hW (Or.inr rfl) hw dX7_lies_15

def wp_X7_push_3 (K3 : Int32 → Mm → Prop) (v0 : Nat) (v1 : Int32) (v2 : Int32) (mm : Mm) (Φ : Unit → Mm → Prop) : Prop :=
  ((v2 < 0 → Φ () mm) ∧ (¬ v2 < 0 → mT mm v0 = 8 ∧ (mP mm v0 0) ≠ 0 ∧ mT mm v0 = 8 ∧ mT mm (mP mm v0 0) = 11 ∧ vp_in (mI mm v0 1) (mN mm (mP mm v0 0)) ∧ ((v1 >>> (v2 &&& 31)).toInt8.toInt32).toInt8.toInt32 = (v1 >>> (v2 &&& 31)).toInt8.toInt32 ∧ ∀ m2 : Mm, m2 = sI mm (mP mm v0 0) (mI mm v0 1).toNatClampNeg ((v1 >>> (v2 &&& 31)).toInt8.toInt32) → mT m2 v0 = 8 ∧ mT m2 v0 = 8 ∧ ∀ m3 : Mm, m3 = sI m2 v0 1 ((mI m2 v0 1) + (1 : Int32)) → K3 (v2 + (-8 : Int32)) m3))
def wp_X7_push (m0 : Mm) (v0 : Nat) (v1 : Int32) (Φ : Unit → Mm → Prop) : Prop :=
  ∃ n, LOp (fun K x => wp_X7_push_3  (fun z0 z1 => K (z0, z1)) v0 v1 x.1 x.2 Φ) n ((24 : Int32), m0)
abbrev rm_X7_push : Room := { frames := 0, cells := 0, slots := 0, locals := 0 }
set_option maxHeartbeats 4000000 in
set_option maxRecDepth 100000 in
theorem c_X7_push (l : Launch) (g : Gv) (m0 : Mm) (v0 : Nat) (v1 : Int32) (Φ : Unit → Mm → Prop) (hw : wp_X7_push m0 v0 v1 Φ) : Met l yX7_push wsX7_push rm_X7_push (PP g [.ref (ad g v0), .int v1] m0) (QQ g vV Φ) 0 0 (Ag g) := by
  refine CT_of (by decide) rfl (Nat.le_of_ble_eq_true rfl) ?_
  intro p e s m below meth c hx hb hr hml hown hts hlk hnm hK hW ls hl
  have hown : s.vm.findClass RX7 = some m.cls := hown
  have hl : lv_has ls 3 [(0, .ref (ad g v0)), (1, .int v1)] := hl
  have i8 : ∀ w ∈ u_ws RX7 TX7 36, w ∈ wsX7_push := by decide +kernel
  have L3 : ∀ (n : Nat) (v2 : Int32) (mm : Mm), LOp (fun K x => wp_X7_push_3  (fun z0 z1 => K (z0, z1)) v0 v1 x.1 x.2 Φ) n (v2, mm) → WW p l e rm_X7_push s m ([.ref (ad g v0), .int v1] : List Value).toArray below meth c (MQ below (QQ g vV Φ) ([.ref (ad g v0), .int v1] : List Value).toArray s 0 0 (Ag g)) g mm 3 0 0 3 [(0, .ref (ad g v0)), (1, .int v1), (2, .int v2)] [] := by
    intro  n
    induction n with
    | zero => intro v2 mm hw; exact hw.elim
    | succ n ih3 =>
      obtain ⟨K3, eK3⟩ : ∃ K : Int32 → Mm → Prop, K = fun v2 mm => LOp (fun K x => wp_X7_push_3  (fun z0 z1 => K (z0, z1)) v0 v1 x.1 x.2 Φ) n (v2, mm) := ⟨_, rfl⟩
      have ih3 : ∀ (v2 : Int32) (mm : Mm), K3 v2 mm → WW p l e rm_X7_push s m ([.ref (ad g v0), .int v1] : List Value).toArray below meth c (MQ below (QQ g vV Φ) ([.ref (ad g v0), .int v1] : List Value).toArray s 0 0 (Ag g)) g mm 3 0 0 3 [(0, .ref (ad g v0)), (1, .int v1), (2, .int v2)] [] := by rw [eK3]; exact ih3
      intro v2 mm hw H locs ls hW hl
      have hw : wp_X7_push_3 K3 v0 v1 v2 mm Φ := by rw [eK3]; exact hw
      unfold wp_X7_push_3 at hw
      refine lv_iload_n hx hb dX7_push_3 rfl (lv_at hl 2 rfl) ?_
      refine lv_if_lt (tgt := 36) hx hb dX7_push_4 (by decide) (fun c1 => ?_) (fun c1 => ?_)
      · have hw := hw.1 c1
        exact R_vret hx hb hr hlk hW hw dX7_push_36
      · have hw := hw.2 c1
        refine lv_aload_n hx hb dX7_push_7 rfl (lv_at hl 0 rfl) ?_
        refine R_getP (C := RX7) (T := TX7) (N := 36) hx hb hts i8 hown hK hW 0 hw.1 (by decide) rfl (by decide) (hts (.fieldLink RX7 7 "BoatLiftModel" "tape" "[B") (by decide +kernel)) (fun _ h => h) (fun _ _ _ => rfl) hw.2.1 dX7_push_8 ?_
        have hw := hw.2.2
        refine lv_aload_n hx hb dX7_push_11 rfl (lv_at hl 0 rfl) ?_
        refine R_getI (C := RX7) (T := TX7) (N := 36) hx hb hts i8 hown hK hW 1 hw.1 (by decide) rfl (by decide) (hts (.fieldLink RX7 88 "BoatLiftModel" "taped" "I") (by decide +kernel)) (fun _ h => h) (fun _ _ _ => rfl) dX7_push_12 ?_
        have hw := hw.2
        refine lv_iload_n hx hb dX7_push_15 rfl (lv_at hl 1 rfl) ?_
        refine lv_iload_n hx hb dX7_push_16 rfl (lv_at hl 2 rfl) ?_
        refine lv_ishr hx hb dX7_push_17 ?_
        refine lv_i2b (v := (v1 >>> (v2 &&& 31)).toInt8.toInt32) hx hb dX7_push_18 rfl ?_
        refine R_bast hx hb hK hW hw.1 hw.2.1 hw.2.2.1 dX7_push_19 (fun H locs hW => ?_)
        obtain ⟨m2, em2⟩ : ∃ z, z = sI mm (mP mm v0 0) (mI mm v0 1).toNatClampNeg ((v1 >>> (v2 &&& 31)).toInt8.toInt32) := ⟨_, rfl⟩
        rw [← em2] at hW
        have hw := hw.2.2.2 m2 em2
        refine lv_aload_n hx hb dX7_push_20 rfl (lv_at hl 0 rfl) ?_
        refine lv_dup hx hb dX7_push_21 rfl ?_
        refine R_getI (C := RX7) (T := TX7) (N := 36) hx hb hts i8 hown hK hW 1 hw.1 (by decide) rfl (by decide) (hts (.fieldLink RX7 88 "BoatLiftModel" "taped" "I") (by decide +kernel)) (fun _ h => h) (fun _ _ _ => rfl) dX7_push_22 ?_
        have hw := hw.2
        refine lv_iconst (v := (1 : Int32)) hx hb dX7_push_25 (by decide) ?_
        refine lv_iadd hx hb dX7_push_26 ?_
        refine R_putI (C := RX7) (T := TX7) (N := 36) hx hb hts i8 tyX7 tyX7_ok nmX7 hown hK hW 1 hw.1 (by decide) rfl (by decide) (hts (.fieldLink RX7 88 "BoatLiftModel" "taped" "I") (by decide +kernel)) (fun _ h => h) (Or.inl rfl) rfl (fun _ _ _ => rfl) (fun _ _ _ => rfl) dX7_push_27 (fun H locs hW => ?_)
        obtain ⟨m3, em3⟩ : ∃ z, z = sI m2 v0 1 ((mI m2 v0 1) + (1 : Int32)) := ⟨_, rfl⟩
        rw [← em3] at hW
        have hw := hw.2 m3 em3
        refine lv_iinc (v := (v2 + (-8 : Int32))) (lv' := [(2, .int (v2 + (-8 : Int32))), (0, .ref (ad g v0)), (1, .int v1)]) hx hb dX7_push_30 hl (k := 2) rfl rfl (by decide) rfl (fun ls hl => ?_)
        refine lv_goto (tgt := 3) hx hb dX7_push_33 (by decide) ?_
        exact ih3 (v2 + (-8 : Int32)) m3 hw _ _ _ hW (lv_sub hl [1, 2, 0] rfl)
  unfold wp_X7_push at hw
  refine lv_bipush (v := (24 : Int32)) hx hb dX7_push_0 (by decide) ?_
  refine lv_istore_n (lv' := [(2, .int (24 : Int32)), (0, .ref (ad g v0)), (1, .int v1)]) hx hb dX7_push_2 rfl hl (by decide) rfl (fun ls hl => ?_)
  obtain ⟨n, hw⟩ := hw
  exact L3  n (24 : Int32) m0 hw _ _ _ hW (lv_sub hl [1, 2, 0] rfl)

def wp_X7_feed (m0 : Mm) (v0 : Nat) (v1 : Int32) (v2 : Int32) (v3 : Int32) (v4 : Int32) (v5 : Int32) (Φ : Int32 → Mm → Prop) : Prop :=
  mT m0 v0 = 8 ∧ ((((mI m0 v0 1) + (20 : Int32)) ≤ (60 : Int32) → mT m0 v0 = 8 ∧ wp_X7_push m0 v0 v1 (fun (_ : Unit) (m3 : Mm) => mT m3 v0 = 8 ∧ wp_X7_push m3 v0 v2 (fun (_ : Unit) (m5 : Mm) => mT m5 v0 = 8 ∧ wp_X7_push m5 v0 v3 (fun (_ : Unit) (m7 : Mm) => mT m7 v0 = 8 ∧ wp_X7_push m7 v0 v4 (fun (_ : Unit) (m9 : Mm) => mT m9 v0 = 8 ∧ wp_X7_push m9 v0 v5 (fun (_ : Unit) (m11 : Mm) => mT m11 v0 = 8 ∧ Φ (mI m11 v0 1) m11)))))) ∧ (¬ ((mI m0 v0 1) + (20 : Int32)) ≤ (60 : Int32) → Φ (-1 : Int32) m0))
abbrev rm_X7_feed : Room := { frames := 1, cells := 0, slots := 0, locals := 22 }
set_option maxHeartbeats 4000000 in
set_option maxRecDepth 100000 in
theorem c_X7_feed (l : Launch) (g : Gv) (m0 : Mm) (v0 : Nat) (v1 : Int32) (v2 : Int32) (v3 : Int32) (v4 : Int32) (v5 : Int32) (Φ : Int32 → Mm → Prop) (hw : wp_X7_feed m0 v0 v1 v2 v3 v4 v5 Φ) : Met l yX7_feed wsX7_feed rm_X7_feed (PP g [.ref (ad g v0), .int v1, .int v2, .int v3, .int v4, .int v5] m0) (QQ g vI Φ) 0 0 (Ag g) := by
  refine CT_of (by decide) rfl (Nat.le_of_ble_eq_true rfl) ?_
  intro p e s m below meth c hx hb hr hml hown hts hlk hnm hK hW ls hl
  have hown : s.vm.findClass RX7 = some m.cls := hown
  have hl : lv_has ls 6 [(0, .ref (ad g v0)), (1, .int v1), (2, .int v2), (3, .int v3), (4, .int v4), (5, .int v5)] := hl
  have i8 : ∀ w ∈ u_ws RX7 TX7 36, w ∈ wsX7_feed := by decide +kernel
  unfold wp_X7_feed at hw
  refine lv_aload_n hx hb dX7_feed_0 rfl (lv_at hl 0 rfl) ?_
  refine R_getI (C := RX7) (T := TX7) (N := 36) hx hb hts i8 hown hK hW 1 hw.1 (by decide) rfl (by decide) (hts (.fieldLink RX7 88 "BoatLiftModel" "taped" "I") (by decide +kernel)) (fun _ h => h) (fun _ _ _ => rfl) dX7_feed_1 ?_
  have hw := hw.2
  refine lv_bipush (v := (20 : Int32)) hx hb dX7_feed_4 (by decide) ?_
  refine lv_iadd hx hb dX7_feed_6 ?_
  refine lv_bipush (v := (60 : Int32)) hx hb dX7_feed_7 (by decide) ?_
  refine lv_icmp_le (tgt := 14) hx hb dX7_feed_9 (by decide) (fun c1 => ?_) (fun c1 => ?_)
  · have hw := hw.1 c1
    refine lv_aload_n hx hb dX7_feed_14 rfl (lv_at hl 0 rfl) ?_
    refine lv_iload_n hx hb dX7_feed_15 rfl (lv_at hl 1 rfl) ?_
    refine R_call (va_runV (As := [.int v1]) (rest := []) ⟨hx, hb, hml, hown, hts⟩ (c_X7_push l g m0 v0 v1 _ hw.2) (cwV 1 hts gX7_feed_X7_push rfl rfl rfl (by decide +kernel) ⟨by decide, by decide⟩) (PP.preV (q := (RX7, TX7, 36)) hK hW hw.1 (by decide) rfl) rfl rfl hl.1 rfl (lv_room (Nat.le_of_ble_eq_true rfl)) dX7_feed_16 ⟨by decide, by decide⟩) hW (fun _ m3 H locs hw hW => ?_)
    refine W.eq (g2 := F0 m 19 ls []) rfl ?_
    refine lv_aload_n hx hb dX7_feed_19 rfl (lv_at hl 0 rfl) ?_
    refine lv_iload_n hx hb dX7_feed_20 rfl (lv_at hl 2 rfl) ?_
    refine R_call (va_runV (As := [.int v2]) (rest := []) ⟨hx, hb, hml, hown, hts⟩ (c_X7_push l g m3 v0 v2 _ hw.2) (cwV 1 hts gX7_feed_X7_push rfl rfl rfl (by decide +kernel) ⟨by decide, by decide⟩) (PP.preV (q := (RX7, TX7, 36)) hK hW hw.1 (by decide) rfl) rfl rfl hl.1 rfl (lv_room (Nat.le_of_ble_eq_true rfl)) dX7_feed_21 ⟨by decide, by decide⟩) hW (fun _ m5 H locs hw hW => ?_)
    refine W.eq (g2 := F0 m 24 ls []) rfl ?_
    refine lv_aload_n hx hb dX7_feed_24 rfl (lv_at hl 0 rfl) ?_
    refine lv_iload_n hx hb dX7_feed_25 rfl (lv_at hl 3 rfl) ?_
    refine R_call (va_runV (As := [.int v3]) (rest := []) ⟨hx, hb, hml, hown, hts⟩ (c_X7_push l g m5 v0 v3 _ hw.2) (cwV 1 hts gX7_feed_X7_push rfl rfl rfl (by decide +kernel) ⟨by decide, by decide⟩) (PP.preV (q := (RX7, TX7, 36)) hK hW hw.1 (by decide) rfl) rfl rfl hl.1 rfl (lv_room (Nat.le_of_ble_eq_true rfl)) dX7_feed_26 ⟨by decide, by decide⟩) hW (fun _ m7 H locs hw hW => ?_)
    refine W.eq (g2 := F0 m 29 ls []) rfl ?_
    refine lv_aload_n hx hb dX7_feed_29 rfl (lv_at hl 0 rfl) ?_
    refine lv_iload hx hb dX7_feed_30 (lv_at hl 4 rfl) ?_
    refine R_call (va_runV (As := [.int v4]) (rest := []) ⟨hx, hb, hml, hown, hts⟩ (c_X7_push l g m7 v0 v4 _ hw.2) (cwV 1 hts gX7_feed_X7_push rfl rfl rfl (by decide +kernel) ⟨by decide, by decide⟩) (PP.preV (q := (RX7, TX7, 36)) hK hW hw.1 (by decide) rfl) rfl rfl hl.1 rfl (lv_room (Nat.le_of_ble_eq_true rfl)) dX7_feed_32 ⟨by decide, by decide⟩) hW (fun _ m9 H locs hw hW => ?_)
    refine W.eq (g2 := F0 m 35 ls []) rfl ?_
    refine lv_aload_n hx hb dX7_feed_35 rfl (lv_at hl 0 rfl) ?_
    refine lv_iload hx hb dX7_feed_36 (lv_at hl 5 rfl) ?_
    refine R_call (va_runV (As := [.int v5]) (rest := []) ⟨hx, hb, hml, hown, hts⟩ (c_X7_push l g m9 v0 v5 _ hw.2) (cwV 1 hts gX7_feed_X7_push rfl rfl rfl (by decide +kernel) ⟨by decide, by decide⟩) (PP.preV (q := (RX7, TX7, 36)) hK hW hw.1 (by decide) rfl) rfl rfl hl.1 rfl (lv_room (Nat.le_of_ble_eq_true rfl)) dX7_feed_38 ⟨by decide, by decide⟩) hW (fun _ m11 H locs hw hW => ?_)
    refine W.eq (g2 := F0 m 41 ls []) rfl ?_
    refine lv_aload_n hx hb dX7_feed_41 rfl (lv_at hl 0 rfl) ?_
    refine R_getI (C := RX7) (T := TX7) (N := 36) hx hb hts i8 hown hK hW 1 hw.1 (by decide) rfl (by decide) (hts (.fieldLink RX7 88 "BoatLiftModel" "taped" "I") (by decide +kernel)) (fun _ h => h) (fun _ _ _ => rfl) dX7_feed_42 ?_
    have hw := hw.2
    exact R_iret hx hb hr hlk hW hw dX7_feed_45
  · have hw := hw.2 c1
    refine lv_iconst (v := (-1 : Int32)) hx hb dX7_feed_12 (by decide) ?_
    exact R_iret hx hb hr hlk hW hw dX7_feed_13
