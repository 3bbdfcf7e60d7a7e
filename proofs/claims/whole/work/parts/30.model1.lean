def wp_X7_lies (m0 : Mm) (v0 : Int32) (v1 : Int32) (v2 : Int32) (Φ : Int32 → Mm → Prop) : Prop :=
  ((v0 < v1 → Φ (0 : Int32) m0) ∧ (¬ v0 < v1 → ((v2 < v0 → Φ (0 : Int32) m0) ∧ (¬ v2 < v0 → Φ (1 : Int32) m0))))
abbrev rm_X7_lies : Room := { frames := 0, cells := 0, slots := 0, locals := 0 }
set_option maxHeartbeats 4000000 in
set_option maxRecDepth 100000 in
theorem c_X7_lies (l : Launch) (g : Gv) (m0 : Mm) (v0 : Int32) (v1 : Int32) (v2 : Int32) (Φ : Int32 → Mm → Prop) (hw : wp_X7_lies m0 v0 v1 v2 Φ) : Met l yX7_lies wsX7_lies rm_X7_lies (PP g [.int v0, .int v1, .int v2] m0) (QQ g vI Φ) 0 0 (Ag g) := by
  refine CT_of (by decide +kernel) rfl (Nat.le_of_ble_eq_true rfl) ?_
  intro p e s m below meth c hx hb hr hml hown hts hlk hnm hK hW ls hl
  have hown : s.vm.findClass RX7 = some m.cls := hown
  have hl : lv_has ls 3 [(0, .int v0), (1, .int v1), (2, .int v2)] := hl
  unfold wp_X7_lies at hw
  refine lv_iload_n hx hb dX7_lies_0 rfl (lv_at hl 0 rfl) ?_
  refine lv_iload_n hx hb dX7_lies_1 rfl (lv_at hl 1 rfl) ?_
  refine lv_icmp_lt (tgt := 14) hx hb dX7_lies_2 (by decide) (fun c1 => ?_) (fun c1 => ?_)
  · have hw := hw.1 c1
    refine lv_iconst (v := (0 : Int32)) hx hb dX7_lies_14 (by decide) ?_
    exact R_zret hx hb hr hlk hW (Or.inl rfl) hw dX7_lies_15
  · have hw := hw.2 c1
    refine lv_iload_n hx hb dX7_lies_5 rfl (lv_at hl 0 rfl) ?_
    refine lv_iload_n hx hb dX7_lies_6 rfl (lv_at hl 2 rfl) ?_
    refine lv_icmp_gt (tgt := 14) hx hb dX7_lies_7 (by decide) (fun c2 => ?_) (fun c2 => ?_)
    · have hw := hw.1 c2
      refine lv_iconst (v := (0 : Int32)) hx hb dX7_lies_14 (by decide) ?_
      exact R_zret hx hb hr hlk hW (Or.inl rfl) hw dX7_lies_15
    · have hw := hw.2 c2
      refine lv_iconst (v := (1 : Int32)) hx hb dX7_lies_10 (by decide) ?_
      refine lv_goto (tgt := 15) hx hb dX7_lies_11 (by decide) ?_
      exact R_zret hx hb hr hlk hW (Or.inr rfl) hw dX7_lies_15

def wp_X7_push_3 (K3 : Int32 → Mm → Prop) (v0 : Nat) (v1 : Int32) (v2 : Int32) (mm : Mm) (Φ : Unit → Mm → Prop) : Prop :=
  ((v2 < 0 → Φ () mm) ∧ (¬ v2 < 0 → mT mm v0 = 8 ∧ (mP mm v0 0) ≠ 0 ∧ mT mm v0 = 8 ∧ mT mm (mP mm v0 0) = 11 ∧ vp_in (mI mm v0 1) (mN mm (mP mm v0 0)) ∧ ((v1 >>> (v2 &&& 31)).toInt8.toInt32).toInt8.toInt32 = (v1 >>> (v2 &&& 31)).toInt8.toInt32 ∧ ∀ m2 : Mm, m2 = sI mm (mP mm v0 0) (mI mm v0 1).toNatClampNeg ((v1 >>> (v2 &&& 31)).toInt8.toInt32) → mT m2 v0 = 8 ∧ mT m2 v0 = 8 ∧ ∀ m3 : Mm, m3 = sI m2 v0 1 ((mI m2 v0 1) + (1 : Int32)) → K3 (v2 + (-8 : Int32)) m3))
def wp_X7_push (m0 : Mm) (v0 : Nat) (v1 : Int32) (Φ : Unit → Mm → Prop) : Prop :=
  ∃ n, LOp (fun K x => wp_X7_push_3  (fun z0 z1 => K (z0, z1)) v0 v1 x.1 x.2 Φ) n ((24 : Int32), m0)
abbrev rm_X7_push : Room := { frames := 0, cells := 0, slots := 0, locals := 0 }
set_option maxHeartbeats 4000000 in
set_option maxRecDepth 100000 in
theorem c_X7_push (l : Launch) (g : Gv) (m0 : Mm) (v0 : Nat) (v1 : Int32) (Φ : Unit → Mm → Prop) (hw : wp_X7_push m0 v0 v1 Φ) : Met l yX7_push wsX7_push rm_X7_push (PP g [.ref (ad g v0), .int v1] m0) (QQ g vV Φ) 0 0 (Ag g) := by
  refine CT_of (by decide +kernel) rfl (Nat.le_of_ble_eq_true rfl) ?_
  intro p e s m below meth c hx hb hr hml hown hts hlk hnm hK hW ls hl
  have hown : s.vm.findClass RX7 = some m.cls := hown
  have hl : lv_has ls 3 [(0, .ref (ad g v0)), (1, .int v1)] := hl
  have i8 : ∀ w ∈ u_ws RX7 TX7 36, w ∈ wsX7_push := by decide +kernel
  have L3 : ∀ (n : Nat) (v2 : Int32) (mm : Mm), LOp (fun K x => wp_X7_push_3  (fun z0 z1 => K (z0, z1)) v0 v1 x.1 x.2 Φ) n (v2, mm) → WW p l e rm_X7_push s m ([.ref (ad g v0), .int v1] : List Value).toArray below meth c (MQ below (QQ g vV Φ) ([.ref (ad g v0), .int v1] : List Value).toArray s 0 0 (Ag g)) g mm 3 0 0 3 [(0, .ref (ad g v0)), (1, .int v1), (2, .int v2)] [] := by
    intro  n
    induction n with
    | zero => intro v2 mm hw; exact hw.elim
    | succ n ih3 =>
      obtain ⟨K3, eK3⟩ : ∃ K : Int32 → Mm → Prop, K = fun v2 mm => LOp (fun K x => wp_X7_push_3  (fun z0 z1 => K (z0, z1)) v0 v1 x.1 x.2 Φ) n (v2, mm) := ⟨_, rfl⟩
      have ih3 : ∀ (v2 : Int32) (mm : Mm), K3 v2 mm → WW p l e rm_X7_push s m ([.ref (ad g v0), .int v1] : List Value).toArray below meth c (MQ below (QQ g vV Φ) ([.ref (ad g v0), .int v1] : List Value).toArray s 0 0 (Ag g)) g mm 3 0 0 3 [(0, .ref (ad g v0)), (1, .int v1), (2, .int v2)] [] := by rw [eK3]; exact ih3
      intro v2 mm hw H locs ls hW hl
      have hw : wp_X7_push_3 K3 v0 v1 v2 mm Φ := by rw [eK3]; exact hw
      unfold wp_X7_push_3 at hw
      refine lv_iload_n hx hb dX7_push_3 rfl (lv_at hl 2 rfl) ?_
      refine lv_if_lt (tgt := 36) hx hb dX7_push_4 (by decide) (fun c1 => ?_) (fun c1 => ?_)
      · have hw := hw.1 c1
        exact R_vret hx hb hr hlk hW hw dX7_push_36
      · have hw := hw.2 c1
        refine lv_aload_n hx hb dX7_push_7 rfl (lv_at hl 0 rfl) ?_
        refine R_getP (C := RX7) (T := TX7) (N := 36) hx hb hts i8 hown hK hW 0 hw.1 (by decide) rfl (by decide) (hts (.fieldLink RX7 7 "BoatLiftModel" "tape" "[B") (by decide +kernel)) (fun _ h => h) (fun _ _ _ => rfl) hw.2.1 dX7_push_8 ?_
        have hw := hw.2.2
        refine lv_aload_n hx hb dX7_push_11 rfl (lv_at hl 0 rfl) ?_
        refine R_getI (C := RX7) (T := TX7) (N := 36) hx hb hts i8 hown hK hW 1 hw.1 (by decide) rfl (by decide) (hts (.fieldLink RX7 88 "BoatLiftModel" "taped" "I") (by decide +kernel)) (fun _ h => h) (fun _ _ _ => rfl) dX7_push_12 ?_
        have hw := hw.2
        refine lv_iload_n hx hb dX7_push_15 rfl (lv_at hl 1 rfl) ?_
        refine lv_iload_n hx hb dX7_push_16 rfl (lv_at hl 2 rfl) ?_
        refine lv_ishr hx hb dX7_push_17 ?_
        refine lv_i2b (v := (v1 >>> (v2 &&& 31)).toInt8.toInt32) hx hb dX7_push_18 rfl ?_
        refine R_bast hx hb hK hW hw.1 hw.2.1 hw.2.2.1 dX7_push_19 (fun H locs hW => ?_)
        obtain ⟨m2, em2⟩ : ∃ z, z = sI mm (mP mm v0 0) (mI mm v0 1).toNatClampNeg ((v1 >>> (v2 &&& 31)).toInt8.toInt32) := ⟨_, rfl⟩
        rw [← em2] at hW
        have hw := hw.2.2.2 m2 em2
        refine lv_aload_n hx hb dX7_push_20 rfl (lv_at hl 0 rfl) ?_
        refine lv_dup hx hb dX7_push_21 rfl ?_
        refine R_getI (C := RX7) (T := TX7) (N := 36) hx hb hts i8 hown hK hW 1 hw.1 (by decide) rfl (by decide) (hts (.fieldLink RX7 88 "BoatLiftModel" "taped" "I") (by decide +kernel)) (fun _ h => h) (fun _ _ _ => rfl) dX7_push_22 ?_
        have hw := hw.2
        refine lv_iconst (v := (1 : Int32)) hx hb dX7_push_25 (by decide) ?_
        refine lv_iadd hx hb dX7_push_26 ?_
        refine R_putI (C := RX7) (T := TX7) (N := 36) hx hb hts i8 tyX7 tyX7_ok nmX7 hown hK hW 1 hw.1 (by decide) rfl (by decide) (hts (.fieldLink RX7 88 "BoatLiftModel" "taped" "I") (by decide +kernel)) (fun _ h => h) (Or.inl rfl) rfl (fun _ _ _ => rfl) (fun _ _ _ => rfl) dX7_push_27 (fun H locs hW => ?_)
        obtain ⟨m3, em3⟩ : ∃ z, z = sI m2 v0 1 ((mI m2 v0 1) + (1 : Int32)) := ⟨_, rfl⟩
        rw [← em3] at hW
        have hw := hw.2 m3 em3
        refine lv_iinc (v := (v2 + (-8 : Int32))) (lv' := [(2, .int (v2 + (-8 : Int32))), (0, .ref (ad g v0)), (1, .int v1)]) hx hb dX7_push_30 hl (k := 2) rfl rfl (by decide) rfl (fun ls hl => ?_)
        refine lv_goto (tgt := 3) hx hb dX7_push_33 (by decide) ?_
        exact ih3 (v2 + (-8 : Int32)) m3 hw _ _ _ hW (lv_sub hl [1, 2, 0] rfl)
  unfold wp_X7_push at hw
  refine lv_bipush (v := (24 : Int32)) hx hb dX7_push_0 (by decide) ?_
  refine lv_istore_n (lv' := [(2, .int (24 : Int32)), (0, .ref (ad g v0)), (1, .int v1)]) hx hb dX7_push_2 rfl hl (by decide) rfl (fun ls hl => ?_)
  obtain ⟨n, hw⟩ := hw
  exact L3  n (24 : Int32) m0 hw _ _ _ hW (lv_sub hl [1, 2, 0] rfl)

def wp_X7_feed (m0 : Mm) (v0 : Nat) (v1 : Int32) (v2 : Int32) (v3 : Int32) (v4 : Int32) (v5 : Int32) (Φ : Int32 → Mm → Prop) : Prop :=
  mT m0 v0 = 8 ∧ ((((mI m0 v0 1) + (20 : Int32)) ≤ (60 : Int32) → mT m0 v0 = 8 ∧ wp_X7_push m0 v0 v1 (fun (_ : Unit) (m3 : Mm) => mT m3 v0 = 8 ∧ wp_X7_push m3 v0 v2 (fun (_ : Unit) (m5 : Mm) => mT m5 v0 = 8 ∧ wp_X7_push m5 v0 v3 (fun (_ : Unit) (m7 : Mm) => mT m7 v0 = 8 ∧ wp_X7_push m7 v0 v4 (fun (_ : Unit) (m9 : Mm) => mT m9 v0 = 8 ∧ wp_X7_push m9 v0 v5 (fun (_ : Unit) (m11 : Mm) => mT m11 v0 = 8 ∧ Φ (mI m11 v0 1) m11)))))) ∧ (¬ ((mI m0 v0 1) + (20 : Int32)) ≤ (60 : Int32) → Φ (-1 : Int32) m0))
abbrev rm_X7_feed : Room := { frames := 1, cells := 0, slots := 0, locals := 22 }
set_option maxHeartbeats 4000000 in
set_option maxRecDepth 100000 in
theorem c_X7_feed (l : Launch) (g : Gv) (m0 : Mm) (v0 : Nat) (v1 : Int32) (v2 : Int32) (v3 : Int32) (v4 : Int32) (v5 : Int32) (Φ : Int32 → Mm → Prop) (hw : wp_X7_feed m0 v0 v1 v2 v3 v4 v5 Φ) : Met l yX7_feed wsX7_feed rm_X7_feed (PP g [.ref (ad g v0), .int v1, .int v2, .int v3, .int v4, .int v5] m0) (QQ g vI Φ) 0 0 (Ag g) := by
  refine CT_of (by decide +kernel) rfl (Nat.le_of_ble_eq_true rfl) ?_
  intro p e s m below meth c hx hb hr hml hown hts hlk hnm hK hW ls hl
  have hown : s.vm.findClass RX7 = some m.cls := hown
  have hl : lv_has ls 6 [(0, .ref (ad g v0)), (1, .int v1), (2, .int v2), (3, .int v3), (4, .int v4), (5, .int v5)] := hl
  have i8 : ∀ w ∈ u_ws RX7 TX7 36, w ∈ wsX7_feed := by decide +kernel
  unfold wp_X7_feed at hw
  refine lv_aload_n hx hb dX7_feed_0 rfl (lv_at hl 0 rfl) ?_
  refine R_getI (C := RX7) (T := TX7) (N := 36) hx hb hts i8 hown hK hW 1 hw.1 (by decide) rfl (by decide) (hts (.fieldLink RX7 88 "BoatLiftModel" "taped" "I") (by decide +kernel)) (fun _ h => h) (fun _ _ _ => rfl) dX7_feed_1 ?_
  have hw := hw.2
  refine lv_bipush (v := (20 : Int32)) hx hb dX7_feed_4 (by decide) ?_
  refine lv_iadd hx hb dX7_feed_6 ?_
  refine lv_bipush (v := (60 : Int32)) hx hb dX7_feed_7 (by decide) ?_
  refine lv_icmp_le (tgt := 14) hx hb dX7_feed_9 (by decide) (fun c1 => ?_) (fun c1 => ?_)
  · have hw := hw.1 c1
    refine lv_aload_n hx hb dX7_feed_14 rfl (lv_at hl 0 rfl) ?_
    refine lv_iload_n hx hb dX7_feed_15 rfl (lv_at hl 1 rfl) ?_
    refine R_call (va_runV (As := [.int v1]) (rest := []) ⟨hx, hb, hml, hown, hts⟩ (c_X7_push l g m0 v0 v1 _ hw.2) (cwV 1 hts gX7_feed_X7_push rfl rfl rfl (by decide +kernel) ⟨by decide, by decide⟩) (PP.preV (q := (RX7, TX7, 36)) hK hW hw.1 (by decide) rfl) rfl rfl hl.1 rfl (lv_room (Nat.le_of_ble_eq_true rfl)) dX7_feed_16 ⟨by decide, by decide⟩) hW (fun _ m3 H locs hw hW => ?_)
    refine W.eq (g2 := F0 m 19 ls []) rfl ?_
    refine lv_aload_n hx hb dX7_feed_19 rfl (lv_at hl 0 rfl) ?_
    refine lv_iload_n hx hb dX7_feed_20 rfl (lv_at hl 2 rfl) ?_
    refine R_call (va_runV (As := [.int v2]) (rest := []) ⟨hx, hb, hml, hown, hts⟩ (c_X7_push l g m3 v0 v2 _ hw.2) (cwV 1 hts gX7_feed_X7_push rfl rfl rfl (by decide +kernel) ⟨by decide, by decide⟩) (PP.preV (q := (RX7, TX7, 36)) hK hW hw.1 (by decide) rfl) rfl rfl hl.1 rfl (lv_room (Nat.le_of_ble_eq_true rfl)) dX7_feed_21 ⟨by decide, by decide⟩) hW (fun _ m5 H locs hw hW => ?_)
    refine W.eq (g2 := F0 m 24 ls []) rfl ?_
    refine lv_aload_n hx hb dX7_feed_24 rfl (lv_at hl 0 rfl) ?_
    refine lv_iload_n hx hb dX7_feed_25 rfl (lv_at hl 3 rfl) ?_
    refine R_call (va_runV (As := [.int v3]) (rest := []) ⟨hx, hb, hml, hown, hts⟩ (c_X7_push l g m5 v0 v3 _ hw.2) (cwV 1 hts gX7_feed_X7_push rfl rfl rfl (by decide +kernel) ⟨by decide, by decide⟩) (PP.preV (q := (RX7, TX7, 36)) hK hW hw.1 (by decide) rfl) rfl rfl hl.1 rfl (lv_room (Nat.le_of_ble_eq_true rfl)) dX7_feed_26 ⟨by decide, by decide⟩) hW (fun _ m7 H locs hw hW => ?_)
    refine W.eq (g2 := F0 m 29 ls []) rfl ?_
    refine lv_aload_n hx hb dX7_feed_29 rfl (lv_at hl 0 rfl) ?_
    refine lv_iload hx hb dX7_feed_30 (lv_at hl 4 rfl) ?_
    refine R_call (va_runV (As := [.int v4]) (rest := []) ⟨hx, hb, hml, hown, hts⟩ (c_X7_push l g m7 v0 v4 _ hw.2) (cwV 1 hts gX7_feed_X7_push rfl rfl rfl (by decide +kernel) ⟨by decide, by decide⟩) (PP.preV (q := (RX7, TX7, 36)) hK hW hw.1 (by decide) rfl) rfl rfl hl.1 rfl (lv_room (Nat.le_of_ble_eq_true rfl)) dX7_feed_32 ⟨by decide, by decide⟩) hW (fun _ m9 H locs hw hW => ?_)
    refine W.eq (g2 := F0 m 35 ls []) rfl ?_
    refine lv_aload_n hx hb dX7_feed_35 rfl (lv_at hl 0 rfl) ?_
    refine lv_iload hx hb dX7_feed_36 (lv_at hl 5 rfl) ?_
    refine R_call (va_runV (As := [.int v5]) (rest := []) ⟨hx, hb, hml, hown, hts⟩ (c_X7_push l g m9 v0 v5 _ hw.2) (cwV 1 hts gX7_feed_X7_push rfl rfl rfl (by decide +kernel) ⟨by decide, by decide⟩) (PP.preV (q := (RX7, TX7, 36)) hK hW hw.1 (by decide) rfl) rfl rfl hl.1 rfl (lv_room (Nat.le_of_ble_eq_true rfl)) dX7_feed_38 ⟨by decide, by decide⟩) hW (fun _ m11 H locs hw hW => ?_)
    refine W.eq (g2 := F0 m 41 ls []) rfl ?_
    refine lv_aload_n hx hb dX7_feed_41 rfl (lv_at hl 0 rfl) ?_
    refine R_getI (C := RX7) (T := TX7) (N := 36) hx hb hts i8 hown hK hW 1 hw.1 (by decide) rfl (by decide) (hts (.fieldLink RX7 88 "BoatLiftModel" "taped" "I") (by decide +kernel)) (fun _ h => h) (fun _ _ _ => rfl) dX7_feed_42 ?_
    have hw := hw.2
    exact R_iret hx hb hr hlk hW hw dX7_feed_45
  · have hw := hw.2 c1
    refine lv_iconst (v := (-1 : Int32)) hx hb dX7_feed_12 (by decide) ?_
    exact R_iret hx hb hr hlk hW hw dX7_feed_13

def wp_X7_asAtFirst (m0 : Mm) (v0 : Nat) (Φ : Unit → Mm → Prop) : Prop :=
  mT m0 v0 = 9 ∧ vp_in (0 : Int32) (mN m0 v0) ∧ ∀ m1 : Mm, m1 = sI m0 v0 (0 : Int32).toNatClampNeg (10 : Int32) → mT m1 v0 = 9 ∧ vp_in (1 : Int32) (mN m1 v0) ∧ ∀ m2 : Mm, m2 = sI m1 v0 (1 : Int32).toNatClampNeg (3 : Int32) → mT m2 v0 = 9 ∧ vp_in (2 : Int32) (mN m2 v0) ∧ ∀ m3 : Mm, m3 = sI m2 v0 (2 : Int32).toNatClampNeg (5 : Int32) → mT m3 v0 = 9 ∧ vp_in (3 : Int32) (mN m3 v0) ∧ ∀ m4 : Mm, m4 = sI m3 v0 (3 : Int32).toNatClampNeg (2 : Int32) → mT m4 v0 = 9 ∧ vp_in (4 : Int32) (mN m4 v0) ∧ ∀ m5 : Mm, m5 = sI m4 v0 (4 : Int32).toNatClampNeg (50 : Int32) → mT m5 v0 = 9 ∧ vp_in (5 : Int32) (mN m5 v0) ∧ ∀ m6 : Mm, m6 = sI m5 v0 (5 : Int32).toNatClampNeg (30 : Int32) → Φ () m6
abbrev rm_X7_asAtFirst : Room := { frames := 0, cells := 0, slots := 0, locals := 0 }
set_option maxHeartbeats 4000000 in
set_option maxRecDepth 100000 in
theorem c_X7_asAtFirst (l : Launch) (g : Gv) (m0 : Mm) (v0 : Nat) (Φ : Unit → Mm → Prop) (hw : wp_X7_asAtFirst m0 v0 Φ) : Met l yX7_asAtFirst wsX7_asAtFirst rm_X7_asAtFirst (PP g [.ref (ad g v0)] m0) (QQ g vV Φ) 0 0 (Ag g) := by
  refine CT_of (by decide +kernel) rfl (Nat.le_of_ble_eq_true rfl) ?_
  intro p e s m below meth c hx hb hr hml hown hts hlk hnm hK hW ls hl
  have hown : s.vm.findClass RX7 = some m.cls := hown
  have hl : lv_has ls 1 [(0, .ref (ad g v0))] := hl
  unfold wp_X7_asAtFirst at hw
  refine lv_aload_n hx hb dX7_asAtFirst_0 rfl (lv_at hl 0 rfl) ?_
  refine lv_iconst (v := (0 : Int32)) hx hb dX7_asAtFirst_1 (by decide) ?_
  refine lv_bipush (v := (10 : Int32)) hx hb dX7_asAtFirst_2 (by decide) ?_
  refine R_iast hx hb hK hW hw.1 hw.2.1 dX7_asAtFirst_4 (fun H locs hW => ?_)
  obtain ⟨m1, em1⟩ : ∃ z, z = sI m0 v0 (0 : Int32).toNatClampNeg (10 : Int32) := ⟨_, rfl⟩
  rw [← em1] at hW
  have hw := hw.2.2 m1 em1
  refine lv_aload_n hx hb dX7_asAtFirst_5 rfl (lv_at hl 0 rfl) ?_
  refine lv_iconst (v := (1 : Int32)) hx hb dX7_asAtFirst_6 (by decide) ?_
  refine lv_iconst (v := (3 : Int32)) hx hb dX7_asAtFirst_7 (by decide) ?_
  refine R_iast hx hb hK hW hw.1 hw.2.1 dX7_asAtFirst_8 (fun H locs hW => ?_)
  obtain ⟨m2, em2⟩ : ∃ z, z = sI m1 v0 (1 : Int32).toNatClampNeg (3 : Int32) := ⟨_, rfl⟩
  rw [← em2] at hW
  have hw := hw.2.2 m2 em2
  refine lv_aload_n hx hb dX7_asAtFirst_9 rfl (lv_at hl 0 rfl) ?_
  refine lv_iconst (v := (2 : Int32)) hx hb dX7_asAtFirst_10 (by decide) ?_
  refine lv_iconst (v := (5 : Int32)) hx hb dX7_asAtFirst_11 (by decide) ?_
  refine R_iast hx hb hK hW hw.1 hw.2.1 dX7_asAtFirst_12 (fun H locs hW => ?_)
  obtain ⟨m3, em3⟩ : ∃ z, z = sI m2 v0 (2 : Int32).toNatClampNeg (5 : Int32) := ⟨_, rfl⟩
  rw [← em3] at hW
  have hw := hw.2.2 m3 em3
  refine lv_aload_n hx hb dX7_asAtFirst_13 rfl (lv_at hl 0 rfl) ?_
  refine lv_iconst (v := (3 : Int32)) hx hb dX7_asAtFirst_14 (by decide) ?_
  refine lv_iconst (v := (2 : Int32)) hx hb dX7_asAtFirst_15 (by decide) ?_
  refine R_iast hx hb hK hW hw.1 hw.2.1 dX7_asAtFirst_16 (fun H locs hW => ?_)
  obtain ⟨m4, em4⟩ : ∃ z, z = sI m3 v0 (3 : Int32).toNatClampNeg (2 : Int32) := ⟨_, rfl⟩
  rw [← em4] at hW
  have hw := hw.2.2 m4 em4
  refine lv_aload_n hx hb dX7_asAtFirst_17 rfl (lv_at hl 0 rfl) ?_
  refine lv_iconst (v := (4 : Int32)) hx hb dX7_asAtFirst_18 (by decide) ?_
  refine lv_bipush (v := (50 : Int32)) hx hb dX7_asAtFirst_19 (by decide) ?_
  refine R_iast hx hb hK hW hw.1 hw.2.1 dX7_asAtFirst_21 (fun H locs hW => ?_)
  obtain ⟨m5, em5⟩ : ∃ z, z = sI m4 v0 (4 : Int32).toNatClampNeg (50 : Int32) := ⟨_, rfl⟩
  rw [← em5] at hW
  have hw := hw.2.2 m5 em5
  refine lv_aload_n hx hb dX7_asAtFirst_22 rfl (lv_at hl 0 rfl) ?_
  refine lv_iconst (v := (5 : Int32)) hx hb dX7_asAtFirst_23 (by decide) ?_
  refine lv_bipush (v := (30 : Int32)) hx hb dX7_asAtFirst_24 (by decide) ?_
  refine R_iast hx hb hK hW hw.1 hw.2.1 dX7_asAtFirst_26 (fun H locs hW => ?_)
  obtain ⟨m6, em6⟩ : ∃ z, z = sI m5 v0 (5 : Int32).toNatClampNeg (30 : Int32) := ⟨_, rfl⟩
  rw [← em6] at hW
  have hw := hw.2.2 m6 em6
  exact R_vret hx hb hr hlk hW hw dX7_asAtFirst_27

def wp_X7_letter (m0 : Mm) (v0 : Int32) (Φ : Int32 → Mm → Prop) : Prop :=
  ((v0 = (103 : Int32) → Φ (1 : Int32) m0) ∧ (v0 = (104 : Int32) → Φ (-1 : Int32) m0) ∧ (v0 = (105 : Int32) → Φ (2 : Int32) m0) ∧ (v0 = (106 : Int32) → Φ (-1 : Int32) m0) ∧ (v0 = (107 : Int32) → Φ (3 : Int32) m0) ∧ (v0 = (108 : Int32) → Φ (-1 : Int32) m0) ∧ (v0 = (109 : Int32) → Φ (-1 : Int32) m0) ∧ (v0 = (110 : Int32) → Φ (-1 : Int32) m0) ∧ (v0 = (111 : Int32) → Φ (-1 : Int32) m0) ∧ (v0 = (112 : Int32) → Φ (-1 : Int32) m0) ∧ (v0 = (113 : Int32) → Φ (-1 : Int32) m0) ∧ (v0 = (114 : Int32) → Φ (5 : Int32) m0) ∧ (v0 = (115 : Int32) → Φ (4 : Int32) m0) ∧ (v0 = (116 : Int32) → Φ (0 : Int32) m0) ∧ (¬ v0 = (103 : Int32) → ¬ v0 = (104 : Int32) → ¬ v0 = (105 : Int32) → ¬ v0 = (106 : Int32) → ¬ v0 = (107 : Int32) → ¬ v0 = (108 : Int32) → ¬ v0 = (109 : Int32) → ¬ v0 = (110 : Int32) → ¬ v0 = (111 : Int32) → ¬ v0 = (112 : Int32) → ¬ v0 = (113 : Int32) → ¬ v0 = (114 : Int32) → ¬ v0 = (115 : Int32) → ¬ v0 = (116 : Int32) → Φ (-1 : Int32) m0))
abbrev rm_X7_letter : Room := { frames := 0, cells := 0, slots := 0, locals := 0 }
set_option maxHeartbeats 4000000 in
set_option maxRecDepth 100000 in
theorem c_X7_letter (l : Launch) (g : Gv) (m0 : Mm) (v0 : Int32) (Φ : Int32 → Mm → Prop) (hw : wp_X7_letter m0 v0 Φ) : Met l yX7_letter wsX7_letter rm_X7_letter (PP g [.int v0] m0) (QQ g vI Φ) 0 0 (Ag g) := by
  refine CT_of (by decide +kernel) rfl (Nat.le_of_ble_eq_true rfl) ?_
  intro p e s m below meth c hx hb hr hml hown hts hlk hnm hK hW ls hl
  have hown : s.vm.findClass RX7 = some m.cls := hown
  have hl : lv_has ls 1 [(0, .int v0)] := hl
  unfold wp_X7_letter at hw
  refine lv_iload_n hx hb dX7_letter_0 rfl (lv_at hl 0 rfl) ?_
  by_cases c1 : v0 = (103 : Int32)
  · have hw := hw.1 c1
    refine lv_tableIn (tgt := 74) (off := 73) hx hb dX7_letter_1 (by rw [c1]; decide) (by rw [c1]; decide) (by rw [c1]; decide) (by decide) ?_
    refine lv_iconst (v := (1 : Int32)) hx hb dX7_letter_74 (by decide) ?_
    exact R_iret hx hb hr hlk hW hw dX7_letter_75
  by_cases c2 : v0 = (104 : Int32)
  · have hw := hw.2.1 c2
    refine lv_tableIn (tgt := 84) (off := 83) hx hb dX7_letter_1 (by rw [c2]; decide) (by rw [c2]; decide) (by rw [c2]; decide) (by decide) ?_
    refine lv_iconst (v := (-1 : Int32)) hx hb dX7_letter_84 (by decide) ?_
    exact R_iret hx hb hr hlk hW hw dX7_letter_85
  by_cases c3 : v0 = (105 : Int32)
  · have hw := hw.2.2.1 c3
    refine lv_tableIn (tgt := 76) (off := 75) hx hb dX7_letter_1 (by rw [c3]; decide) (by rw [c3]; decide) (by rw [c3]; decide) (by decide) ?_
    refine lv_iconst (v := (2 : Int32)) hx hb dX7_letter_76 (by decide) ?_
    exact R_iret hx hb hr hlk hW hw dX7_letter_77
  by_cases c4 : v0 = (106 : Int32)
  · have hw := hw.2.2.2.1 c4
    refine lv_tableIn (tgt := 84) (off := 83) hx hb dX7_letter_1 (by rw [c4]; decide) (by rw [c4]; decide) (by rw [c4]; decide) (by decide) ?_
    refine lv_iconst (v := (-1 : Int32)) hx hb dX7_letter_84 (by decide) ?_
    exact R_iret hx hb hr hlk hW hw dX7_letter_85
  by_cases c5 : v0 = (107 : Int32)
  · have hw := hw.2.2.2.2.1 c5
    refine lv_tableIn (tgt := 78) (off := 77) hx hb dX7_letter_1 (by rw [c5]; decide) (by rw [c5]; decide) (by rw [c5]; decide) (by decide) ?_
    refine lv_iconst (v := (3 : Int32)) hx hb dX7_letter_78 (by decide) ?_
    exact R_iret hx hb hr hlk hW hw dX7_letter_79
  by_cases c6 : v0 = (108 : Int32)
  · have hw := hw.2.2.2.2.2.1 c6
    refine lv_tableIn (tgt := 84) (off := 83) hx hb dX7_letter_1 (by rw [c6]; decide) (by rw [c6]; decide) (by rw [c6]; decide) (by decide) ?_
    refine lv_iconst (v := (-1 : Int32)) hx hb dX7_letter_84 (by decide) ?_
    exact R_iret hx hb hr hlk hW hw dX7_letter_85
  by_cases c7 : v0 = (109 : Int32)
  · have hw := hw.2.2.2.2.2.2.1 c7
    refine lv_tableIn (tgt := 84) (off := 83) hx hb dX7_letter_1 (by rw [c7]; decide) (by rw [c7]; decide) (by rw [c7]; decide) (by decide) ?_
    refine lv_iconst (v := (-1 : Int32)) hx hb dX7_letter_84 (by decide) ?_
    exact R_iret hx hb hr hlk hW hw dX7_letter_85
  by_cases c8 : v0 = (110 : Int32)
  · have hw := hw.2.2.2.2.2.2.2.1 c8
    refine lv_tableIn (tgt := 84) (off := 83) hx hb dX7_letter_1 (by rw [c8]; decide) (by rw [c8]; decide) (by rw [c8]; decide) (by decide) ?_
    refine lv_iconst (v := (-1 : Int32)) hx hb dX7_letter_84 (by decide) ?_
    exact R_iret hx hb hr hlk hW hw dX7_letter_85
  by_cases c9 : v0 = (111 : Int32)
  · have hw := hw.2.2.2.2.2.2.2.2.1 c9
    refine lv_tableIn (tgt := 84) (off := 83) hx hb dX7_letter_1 (by rw [c9]; decide) (by rw [c9]; decide) (by rw [c9]; decide) (by decide) ?_
    refine lv_iconst (v := (-1 : Int32)) hx hb dX7_letter_84 (by decide) ?_
    exact R_iret hx hb hr hlk hW hw dX7_letter_85
  by_cases c10 : v0 = (112 : Int32)
  · have hw := hw.2.2.2.2.2.2.2.2.2.1 c10
    refine lv_tableIn (tgt := 84) (off := 83) hx hb dX7_letter_1 (by rw [c10]; decide) (by rw [c10]; decide) (by rw [c10]; decide) (by decide) ?_
    refine lv_iconst (v := (-1 : Int32)) hx hb dX7_letter_84 (by decide) ?_
    exact R_iret hx hb hr hlk hW hw dX7_letter_85
  by_cases c11 : v0 = (113 : Int32)
  · have hw := hw.2.2.2.2.2.2.2.2.2.2.1 c11
    refine lv_tableIn (tgt := 84) (off := 83) hx hb dX7_letter_1 (by rw [c11]; decide) (by rw [c11]; decide) (by rw [c11]; decide) (by decide) ?_
    refine lv_iconst (v := (-1 : Int32)) hx hb dX7_letter_84 (by decide) ?_
    exact R_iret hx hb hr hlk hW hw dX7_letter_85
  by_cases c12 : v0 = (114 : Int32)
  · have hw := hw.2.2.2.2.2.2.2.2.2.2.2.1 c12
    refine lv_tableIn (tgt := 82) (off := 81) hx hb dX7_letter_1 (by rw [c12]; decide) (by rw [c12]; decide) (by rw [c12]; decide) (by decide) ?_
    refine lv_iconst (v := (5 : Int32)) hx hb dX7_letter_82 (by decide) ?_
    exact R_iret hx hb hr hlk hW hw dX7_letter_83
  by_cases c13 : v0 = (115 : Int32)
  · have hw := hw.2.2.2.2.2.2.2.2.2.2.2.2.1 c13
    refine lv_tableIn (tgt := 80) (off := 79) hx hb dX7_letter_1 (by rw [c13]; decide) (by rw [c13]; decide) (by rw [c13]; decide) (by decide) ?_
    refine lv_iconst (v := (4 : Int32)) hx hb dX7_letter_80 (by decide) ?_
    exact R_iret hx hb hr hlk hW hw dX7_letter_81
  by_cases c14 : v0 = (116 : Int32)
  · have hw := hw.2.2.2.2.2.2.2.2.2.2.2.2.2.1 c14
    refine lv_tableIn (tgt := 72) (off := 71) hx hb dX7_letter_1 (by rw [c14]; decide) (by rw [c14]; decide) (by rw [c14]; decide) (by decide) ?_
    refine lv_iconst (v := (0 : Int32)) hx hb dX7_letter_72 (by decide) ?_
    exact R_iret hx hb hr hlk hW hw dX7_letter_73
  have hw := hw.2.2.2.2.2.2.2.2.2.2.2.2.2.2 c1 c2 c3 c4 c5 c6 c7 c8 c9 c10 c11 c12 c13 c14
  refine lv_tableOut (tgt := 84) hx hb dX7_letter_1 ?_ (by decide) ?_
  · have z0 := lv_neT c1 (a := 103) (by decide); have z1 := lv_neT c2 (a := 104) (by decide); have z2 := lv_neT c3 (a := 105) (by decide); have z3 := lv_neT c4 (a := 106) (by decide); have z4 := lv_neT c5 (a := 107) (by decide); have z5 := lv_neT c6 (a := 108) (by decide); have z6 := lv_neT c7 (a := 109) (by decide); have z7 := lv_neT c8 (a := 110) (by decide); have z8 := lv_neT c9 (a := 111) (by decide); have z9 := lv_neT c10 (a := 112) (by decide); have z10 := lv_neT c11 (a := 113) (by decide); have z11 := lv_neT c12 (a := 114) (by decide); have z12 := lv_neT c13 (a := 115) (by decide); have z13 := lv_neT c14 (a := 116) (by decide); omega
  · refine lv_iconst (v := (-1 : Int32)) hx hb dX7_letter_84 (by decide) ?_
    exact R_iret hx hb hr hlk hW hw dX7_letter_85

def wp_X7_canBe_10 (v1 : Int32) (mm : Mm) (Φ : Int32 → Mm → Prop) : Prop :=
  (((99 : Int32) < v1 → Φ (0 : Int32) mm) ∧ (¬ (99 : Int32) < v1 → Φ (1 : Int32) mm))
def wp_X7_canBe (m0 : Mm) (v0 : Int32) (v1 : Int32) (Φ : Int32 → Mm → Prop) : Prop :=
  ((v0 = (1 : Int32) → wp_X7_canBe_10 v1 m0 Φ) ∧ (¬ v0 = (1 : Int32) → ((¬ v0 = (2 : Int32) → ((¬ v0 = (3 : Int32) → wp_X7_lies m0 v1 (1 : Int32) (999 : Int32) (fun (r5 : Int32) (m6 : Mm) => (r5 = 0 ∨ r5 = 1) ∧ Φ r5 m6)) ∧ (v0 = (3 : Int32) → (((20 : Int32) < v1 → Φ (0 : Int32) m0) ∧ (¬ (20 : Int32) < v1 → Φ (1 : Int32) m0))))) ∧ (v0 = (2 : Int32) → wp_X7_canBe_10 v1 m0 Φ))))
abbrev rm_X7_canBe : Room := { frames := 1, cells := 0, slots := 0, locals := 22 }
set_option maxHeartbeats 4000000 in
set_option maxRecDepth 100000 in
theorem c_X7_canBe (l : Launch) (g : Gv) (m0 : Mm) (v0 : Int32) (v1 : Int32) (Φ : Int32 → Mm → Prop) (hw : wp_X7_canBe m0 v0 v1 Φ) : Met l yX7_canBe wsX7_canBe rm_X7_canBe (PP g [.int v0, .int v1] m0) (QQ g vI Φ) 0 0 (Ag g) := by
  refine CT_of (by decide +kernel) rfl (Nat.le_of_ble_eq_true rfl) ?_
  intro p e s m below meth c hx hb hr hml hown hts hlk hnm hK hW ls hl
  have hown : s.vm.findClass RX7 = some m.cls := hown
  have hl : lv_has ls 2 [(0, .int v0), (1, .int v1)] := hl
  have B10 : ∀ (mm : Mm), wp_X7_canBe_10 v1 mm Φ → WW p l e rm_X7_canBe s m ([.int v0, .int v1] : List Value).toArray below meth c (MQ below (QQ g vI Φ) ([.int v0, .int v1] : List Value).toArray s 0 0 (Ag g)) g mm 2 0 0 10 [(1, .int v1)] [] := by
    intro  mm hw H locs ls hW hl
    unfold wp_X7_canBe_10 at hw
    refine lv_iload_n hx hb dX7_canBe_10 rfl (lv_at hl 0 rfl) ?_
    refine lv_bipush (v := (99 : Int32)) hx hb dX7_canBe_11 (by decide) ?_
    refine lv_icmp_gt (tgt := 20) hx hb dX7_canBe_13 (by decide) (fun c1 => ?_) (fun c1 => ?_)
    · have hw := hw.1 c1
      refine lv_iconst (v := (0 : Int32)) hx hb dX7_canBe_20 (by decide) ?_
      exact R_zret hx hb hr hlk hW (Or.inl rfl) hw dX7_canBe_21
    · have hw := hw.2 c1
      refine lv_iconst (v := (1 : Int32)) hx hb dX7_canBe_16 (by decide) ?_
      refine lv_goto (tgt := 21) hx hb dX7_canBe_17 (by decide) ?_
      exact R_zret hx hb hr hlk hW (Or.inr rfl) hw dX7_canBe_21
  unfold wp_X7_canBe at hw
  refine lv_iload_n hx hb dX7_canBe_0 rfl (lv_at hl 0 rfl) ?_
  refine lv_iconst (v := (1 : Int32)) hx hb dX7_canBe_1 (by decide) ?_
  refine lv_icmp_eq (tgt := 10) hx hb dX7_canBe_2 (by decide) (fun c2 => ?_) (fun c2 => ?_)
  · have hw := hw.1 c2
    exact B10  m0 hw _ _ _ hW (lv_sub hl [1] rfl)
  · have hw := hw.2 c2
    refine lv_iload_n hx hb dX7_canBe_5 rfl (lv_at hl 0 rfl) ?_
    refine lv_iconst (v := (2 : Int32)) hx hb dX7_canBe_6 (by decide) ?_
    refine lv_icmp_ne (tgt := 22) hx hb dX7_canBe_7 (by decide) (fun c3 => ?_) (fun c3 => ?_)
    · have hw := hw.1 c3
      refine lv_iload_n hx hb dX7_canBe_22 rfl (lv_at hl 0 rfl) ?_
      refine lv_iconst (v := (3 : Int32)) hx hb dX7_canBe_23 (by decide) ?_
      refine lv_icmp_ne (tgt := 41) hx hb dX7_canBe_24 (by decide) (fun c4 => ?_) (fun c4 => ?_)
      · have hw := hw.1 c4
        refine lv_iload_n hx hb dX7_canBe_41 rfl (lv_at hl 1 rfl) ?_
        refine lv_iconst (v := (1 : Int32)) hx hb dX7_canBe_42 (by decide) ?_
        refine lv_sipush (v := (999 : Int32)) hx hb dX7_canBe_43 (by decide) ?_
        refine R_call (va_runS (As := [.int v1, .int (1 : Int32), .int (999 : Int32)]) (rest := []) ⟨hx, hb, hml, hown, hts⟩ (c_X7_lies l g m0 v1 (1 : Int32) (999 : Int32) _ hw) (va_cwS 3 hts gX7_canBe_X7_lies rfl rfl rfl (by decide +kernel) ⟨by decide, by decide⟩) (PP.pre hK hW) rfl rfl hl.1 rfl (lv_room (Nat.le_of_ble_eq_true rfl)) dX7_canBe_46 ⟨by decide, by decide⟩) hW (fun r5 m6 H locs hw hW => ?_)
        refine W.eq (g2 := F0 m 49 ls [.int r5]) rfl ?_
        exact R_zret hx hb hr hlk hW hw.1 hw.2 dX7_canBe_49
      · have hw := hw.2 c4
        refine lv_iload_n hx hb dX7_canBe_27 rfl (lv_at hl 1 rfl) ?_
        refine lv_bipush (v := (20 : Int32)) hx hb dX7_canBe_28 (by decide) ?_
        refine lv_icmp_gt (tgt := 37) hx hb dX7_canBe_30 (by decide) (fun c7 => ?_) (fun c7 => ?_)
        · have hw := hw.1 c7
          refine lv_iconst (v := (0 : Int32)) hx hb dX7_canBe_37 (by decide) ?_
          refine lv_goto (tgt := 49) hx hb dX7_canBe_38 (by decide) ?_
          exact R_zret hx hb hr hlk hW (Or.inl rfl) hw dX7_canBe_49
        · have hw := hw.2 c7
          refine lv_iconst (v := (1 : Int32)) hx hb dX7_canBe_33 (by decide) ?_
          refine lv_goto (tgt := 49) hx hb dX7_canBe_34 (by decide) ?_
          exact R_zret hx hb hr hlk hW (Or.inr rfl) hw dX7_canBe_49
    · have hw := hw.2 c3
      exact B10  m0 hw _ _ _ hW (lv_sub hl [1] rfl)

def wp_X7_byteAt (m0 : Mm) (v0 : Nat) (v1 : Int32) (v2 : Int32) (Φ : Int32 → Mm → Prop) : Prop :=
  ((v2 ≤ v1 → Φ (0 : Int32) m0) ∧ (¬ v2 ≤ v1 → mT m0 v0 = 8 ∧ (mP m0 v0 0) ≠ 0 ∧ mT m0 (mP m0 v0 0) = 11 ∧ vp_in v1 (mN m0 (mP m0 v0 0)) ∧ Φ ((mI m0 (mP m0 v0 0) v1.toNatClampNeg) &&& (255 : Int32)) m0))
abbrev rm_X7_byteAt : Room := { frames := 0, cells := 0, slots := 0, locals := 0 }
set_option maxHeartbeats 4000000 in
set_option maxRecDepth 100000 in
theorem c_X7_byteAt (l : Launch) (g : Gv) (m0 : Mm) (v0 : Nat) (v1 : Int32) (v2 : Int32) (Φ : Int32 → Mm → Prop) (hw : wp_X7_byteAt m0 v0 v1 v2 Φ) : Met l yX7_byteAt wsX7_byteAt rm_X7_byteAt (PP g [.ref (ad g v0), .int v1, .int v2] m0) (QQ g vI Φ) 0 0 (Ag g) := by
  refine CT_of (by decide +kernel) rfl (Nat.le_of_ble_eq_true rfl) ?_
  intro p e s m below meth c hx hb hr hml hown hts hlk hnm hK hW ls hl
  have hown : s.vm.findClass RX7 = some m.cls := hown
  have hl : lv_has ls 3 [(0, .ref (ad g v0)), (1, .int v1), (2, .int v2)] := hl
  have i8 : ∀ w ∈ u_ws RX7 TX7 36, w ∈ wsX7_byteAt := by decide +kernel
  unfold wp_X7_byteAt at hw
  refine lv_iload_n hx hb dX7_byteAt_0 rfl (lv_at hl 1 rfl) ?_
  refine lv_iload_n hx hb dX7_byteAt_1 rfl (lv_at hl 2 rfl) ?_
  refine lv_icmp_ge (tgt := 18) hx hb dX7_byteAt_2 (by decide) (fun c1 => ?_) (fun c1 => ?_)
  · have hw := hw.1 c1
    refine lv_iconst (v := (0 : Int32)) hx hb dX7_byteAt_18 (by decide) ?_
    exact R_iret hx hb hr hlk hW hw dX7_byteAt_19
  · have hw := hw.2 c1
    refine lv_aload_n hx hb dX7_byteAt_5 rfl (lv_at hl 0 rfl) ?_
    refine R_getP (C := RX7) (T := TX7) (N := 36) hx hb hts i8 hown hK hW 0 hw.1 (by decide) rfl (by decide) (hts (.fieldLink RX7 7 "BoatLiftModel" "tape" "[B") (by decide +kernel)) (fun _ h => h) (fun _ _ _ => rfl) hw.2.1 dX7_byteAt_6 ?_
    have hw := hw.2.2
    refine lv_iload_n hx hb dX7_byteAt_9 rfl (lv_at hl 1 rfl) ?_
    refine R_bald hx hb hK hW hw.1 hw.2.1 dX7_byteAt_10 ?_
    have hw := hw.2.2
    refine lv_sipush (v := (255 : Int32)) hx hb dX7_byteAt_11 (by decide) ?_
    refine lv_iand hx hb dX7_byteAt_14 ?_
    refine lv_goto (tgt := 19) hx hb dX7_byteAt_15 (by decide) ?_
    exact R_iret hx hb hr hlk hW hw dX7_byteAt_19

def wp_X7_reads_69 (K11 : Int32 → Int32 → Mm → Prop) (K69 : Int32 → Int32 → Mm → Prop) (v0 : Nat) (v1 : Int32) (v2 : Int32) (v3 : Int32) (v4 : Int32) (v5 : Int32) (v6 : Int32) (mm : Mm) (Φ : Int32 → Mm → Prop) : Prop :=
  mT mm v0 = 8 ∧ wp_X7_byteAt mm v0 v2 v1 (fun (r1 : Int32) (m2 : Mm) => wp_X7_lies m2 r1 (48 : Int32) (57 : Int32) (fun (r3 : Int32) (m4 : Mm) => ((r3 = 0 → wp_X7_canBe m4 v4 v6 (fun (r6 : Int32) (m7 : Mm) => ((¬ r6 = 0 → mT m7 v0 = 8 ∧ (mP m7 v0 10) ≠ 0 ∧ mT m7 (mP m7 v0 10) = 9 ∧ vp_in v4 (mN m7 (mP m7 v0 10)) ∧ ∀ m9 : Mm, m9 = sI m7 (mP m7 v0 10) v4.toNatClampNeg v6 → ((¬ v2 = v1 → mT m9 v0 = 8 ∧ wp_X7_byteAt m9 v0 v2 v1 (fun (r11 : Int32) (m12 : Mm) => ((r11 = (59 : Int32) → K11 (v2 + (1 : Int32)) (v3 + (1 : Int32)) m12) ∧ (¬ r11 = (59 : Int32) → Φ ((500 : Int32) + v2) m12)))) ∧ (v2 = v1 → Φ (0 : Int32) m9))) ∧ (r6 = 0 → Φ ((400 : Int32) + v5) m7)))) ∧ (¬ r3 = 0 → ((¬ v2 = (v5 + (4 : Int32)) → mT m4 v0 = 8 ∧ wp_X7_byteAt m4 v0 v2 v1 (fun (r15 : Int32) (m16 : Mm) => K69 (v2 + (1 : Int32)) ((((10 : Int32) * v6) + r15) - (48 : Int32)) m16)) ∧ (v2 = (v5 + (4 : Int32)) → Φ ((300 : Int32) + v2) m4))))))
def wp_X7_reads_11 (K11 : Int32 → Int32 → Mm → Prop) (v0 : Nat) (v1 : Int32) (v2 : Int32) (v3 : Int32) (mm : Mm) (Φ : Int32 → Mm → Prop) : Prop :=
  ((v1 < v3 → Φ ((100 : Int32) + v2) mm) ∧ (¬ v1 < v3 → mT mm v0 = 8 ∧ wp_X7_byteAt mm v0 v2 v1 (fun (r18 : Int32) (m19 : Mm) => wp_X7_letter m19 r18 (fun (r20 : Int32) (m21 : Mm) => ((¬ r20 = (-1 : Int32) → mT m21 v0 = 8 ∧ wp_X7_byteAt m21 v0 (v2 + (1 : Int32)) v1 (fun (r23 : Int32) (m24 : Mm) => wp_X7_lies m24 r23 (48 : Int32) (57 : Int32) (fun (r25 : Int32) (m26 : Mm) => ((¬ r25 = 0 → ∃ n, LOp (fun K x => wp_X7_reads_69 K11 (fun z0 z1 z2 => K (z0, z1, z2)) v0 v1 x.1 v3 r20 (v2 + (1 : Int32)) x.2.1 x.2.2 Φ) n ((v2 + (1 : Int32)), (0 : Int32), m26)) ∧ (r25 = 0 → Φ ((200 : Int32) + (v2 + (1 : Int32))) m26))))) ∧ (r20 = (-1 : Int32) → Φ ((100 : Int32) + v2) m21))))))
def wp_X7_reads (m0 : Mm) (v0 : Nat) (v1 : Int32) (Φ : Int32 → Mm → Prop) : Prop :=
  mT m0 v0 = 8 ∧ (mP m0 v0 10) ≠ 0 ∧ wp_X7_asAtFirst m0 (mP m0 v0 10) (fun (_ : Unit) (m29 : Mm) => ∃ n, LOp (fun K x => wp_X7_reads_11  (fun z0 z1 z2 => K (z0, z1, z2)) v0 v1 x.1 x.2.1 x.2.2 Φ) n ((0 : Int32), (0 : Int32), m29))
abbrev rm_X7_reads : Room := { frames := 2, cells := 0, slots := 0, locals := 43 }
set_option maxHeartbeats 4000000 in
set_option maxRecDepth 100000 in
theorem c_X7_reads (l : Launch) (g : Gv) (m0 : Mm) (v0 : Nat) (v1 : Int32) (Φ : Int32 → Mm → Prop) (hw : wp_X7_reads m0 v0 v1 Φ) : Met l yX7_reads wsX7_reads rm_X7_reads (PP g [.ref (ad g v0), .int v1] m0) (QQ g vI Φ) 0 0 (Ag g) := by
  refine CT_of (by decide +kernel) rfl (Nat.le_of_ble_eq_true rfl) ?_
  intro p e s m below meth c hx hb hr hml hown hts hlk hnm hK hW ls hl
  have hown : s.vm.findClass RX7 = some m.cls := hown
  have hl : lv_has ls 7 [(0, .ref (ad g v0)), (1, .int v1)] := hl
  have i8 : ∀ w ∈ u_ws RX7 TX7 36, w ∈ wsX7_reads := by decide +kernel
  have L11 : ∀ (n : Nat) (v2 : Int32) (v3 : Int32) (mm : Mm), LOp (fun K x => wp_X7_reads_11  (fun z0 z1 z2 => K (z0, z1, z2)) v0 v1 x.1 x.2.1 x.2.2 Φ) n (v2, v3, mm) → WW p l e rm_X7_reads s m ([.ref (ad g v0), .int v1] : List Value).toArray below meth c (MQ below (QQ g vI Φ) ([.ref (ad g v0), .int v1] : List Value).toArray s 0 0 (Ag g)) g mm 7 0 0 11 [(0, .ref (ad g v0)), (1, .int v1), (2, .int v2), (3, .int v3)] [] := by
    intro  n
    induction n with
    | zero => intro v2 v3 mm hw; exact hw.elim
    | succ n ih11 =>
      obtain ⟨K11, eK11⟩ : ∃ K : Int32 → Int32 → Mm → Prop, K = fun v2 v3 mm => LOp (fun K x => wp_X7_reads_11  (fun z0 z1 z2 => K (z0, z1, z2)) v0 v1 x.1 x.2.1 x.2.2 Φ) n (v2, v3, mm) := ⟨_, rfl⟩
      have ih11 : ∀ (v2 : Int32) (v3 : Int32) (mm : Mm), K11 v2 v3 mm → WW p l e rm_X7_reads s m ([.ref (ad g v0), .int v1] : List Value).toArray below meth c (MQ below (QQ g vI Φ) ([.ref (ad g v0), .int v1] : List Value).toArray s 0 0 (Ag g)) g mm 7 0 0 11 [(0, .ref (ad g v0)), (1, .int v1), (2, .int v2), (3, .int v3)] [] := by rw [eK11]; exact ih11
      have L69 : ∀ (v3 : Int32) (v4 : Int32) (v5 : Int32) (n : Nat) (v2 : Int32) (v6 : Int32) (mm : Mm), LOp (fun K x => wp_X7_reads_69 K11 (fun z0 z1 z2 => K (z0, z1, z2)) v0 v1 x.1 v3 v4 v5 x.2.1 x.2.2 Φ) n (v2, v6, mm) → WW p l e rm_X7_reads s m ([.ref (ad g v0), .int v1] : List Value).toArray below meth c (MQ below (QQ g vI Φ) ([.ref (ad g v0), .int v1] : List Value).toArray s 0 0 (Ag g)) g mm 7 0 0 69 [(0, .ref (ad g v0)), (1, .int v1), (2, .int v2), (3, .int v3), (4, .int v4), (5, .int v5), (6, .int v6)] [] := by
        intro v3 v4 v5 n
        induction n with
        | zero => intro v2 v6 mm hw; exact hw.elim
        | succ n ih69 =>
          obtain ⟨K69, eK69⟩ : ∃ K : Int32 → Int32 → Mm → Prop, K = fun v2 v6 mm => LOp (fun K x => wp_X7_reads_69 K11 (fun z0 z1 z2 => K (z0, z1, z2)) v0 v1 x.1 v3 v4 v5 x.2.1 x.2.2 Φ) n (v2, v6, mm) := ⟨_, rfl⟩
          have ih69 : ∀ (v2 : Int32) (v6 : Int32) (mm : Mm), K69 v2 v6 mm → WW p l e rm_X7_reads s m ([.ref (ad g v0), .int v1] : List Value).toArray below meth c (MQ below (QQ g vI Φ) ([.ref (ad g v0), .int v1] : List Value).toArray s 0 0 (Ag g)) g mm 7 0 0 69 [(0, .ref (ad g v0)), (1, .int v1), (2, .int v2), (3, .int v3), (4, .int v4), (5, .int v5), (6, .int v6)] [] := by rw [eK69]; exact ih69
          intro v2 v6 mm hw H locs ls hW hl
          have hw : wp_X7_reads_69 K11 K69 v0 v1 v2 v3 v4 v5 v6 mm Φ := by rw [eK69]; exact hw
          unfold wp_X7_reads_69 at hw
          refine lv_aload_n hx hb dX7_reads_69 rfl (lv_at hl 0 rfl) ?_
          refine lv_iload_n hx hb dX7_reads_70 rfl (lv_at hl 2 rfl) ?_
          refine lv_iload_n hx hb dX7_reads_71 rfl (lv_at hl 1 rfl) ?_
          refine R_call (va_runV (As := [.int v2, .int v1]) (rest := []) ⟨hx, hb, hml, hown, hts⟩ (c_X7_byteAt l g mm v0 v2 v1 _ hw.2) (cwV 2 hts gX7_reads_X7_byteAt rfl rfl rfl (by decide +kernel) ⟨by decide, by decide⟩) (PP.preV (q := (RX7, TX7, 36)) hK hW hw.1 (by decide) rfl) rfl rfl hl.1 rfl (lv_room (Nat.le_of_ble_eq_true rfl)) dX7_reads_72 ⟨by decide, by decide⟩) hW (fun r1 m2 H locs hw hW => ?_)
          refine W.eq (g2 := F0 m 75 ls [.int r1]) rfl ?_
          refine lv_bipush (v := (48 : Int32)) hx hb dX7_reads_75 (by decide) ?_
          refine lv_bipush (v := (57 : Int32)) hx hb dX7_reads_77 (by decide) ?_
          refine R_call (va_runS (As := [.int r1, .int (48 : Int32), .int (57 : Int32)]) (rest := []) ⟨hx, hb, hml, hown, hts⟩ (c_X7_lies l g m2 r1 (48 : Int32) (57 : Int32) _ hw) (va_cwS 3 hts gX7_reads_X7_lies rfl rfl rfl (by decide +kernel) ⟨by decide, by decide⟩) (PP.pre hK hW) rfl rfl hl.1 rfl (lv_room (Nat.le_of_ble_eq_true rfl)) dX7_reads_79 ⟨by decide, by decide⟩) hW (fun r3 m4 H locs hw hW => ?_)
          refine W.eq (g2 := F0 m 82 ls [.int r3]) rfl ?_
          refine lv_if_eq (tgt := 122) hx hb dX7_reads_82 (by decide) (fun c5 => ?_) (fun c5 => ?_)
          · have hw := hw.1 c5
            refine lv_iload hx hb dX7_reads_122 (lv_at hl 4 rfl) ?_
            refine lv_iload hx hb dX7_reads_124 (lv_at hl 6 rfl) ?_
            refine R_call (va_runS (As := [.int v4, .int v6]) (rest := []) ⟨hx, hb, hml, hown, hts⟩ (c_X7_canBe l g m4 v4 v6 _ hw) (va_cwS 2 hts gX7_reads_X7_canBe rfl rfl rfl (by decide +kernel) ⟨by decide, by decide⟩) (PP.pre hK hW) rfl rfl hl.1 rfl (lv_room (Nat.le_of_ble_eq_true rfl)) dX7_reads_126 ⟨by decide, by decide⟩) hW (fun r6 m7 H locs hw hW => ?_)
            refine W.eq (g2 := F0 m 129 ls [.int r6]) rfl ?_
            refine lv_if_ne (tgt := 139) hx hb dX7_reads_129 (by decide) (fun c8 => ?_) (fun c8 => ?_)
            · have hw := hw.1 c8
              refine lv_aload_n hx hb dX7_reads_139 rfl (lv_at hl 0 rfl) ?_
              refine R_getP (C := RX7) (T := TX7) (N := 36) hx hb hts i8 hown hK hW 10 hw.1 (by decide) rfl (by decide) (hts (.fieldLink RX7 21 "BoatLiftModel" "read" "[I") (by decide +kernel)) (fun _ h => h) (fun _ _ _ => rfl) hw.2.1 dX7_reads_140 ?_
              have hw := hw.2.2
              refine lv_iload hx hb dX7_reads_143 (lv_at hl 4 rfl) ?_
              refine lv_iload hx hb dX7_reads_145 (lv_at hl 6 rfl) ?_
              refine R_iast hx hb hK hW hw.1 hw.2.1 dX7_reads_147 (fun H locs hW => ?_)
              obtain ⟨m9, em9⟩ : ∃ z, z = sI m7 (mP m7 v0 10) v4.toNatClampNeg v6 := ⟨_, rfl⟩
              rw [← em9] at hW
              have hw := hw.2.2 m9 em9
              refine lv_iload_n hx hb dX7_reads_148 rfl (lv_at hl 2 rfl) ?_
              refine lv_iload_n hx hb dX7_reads_149 rfl (lv_at hl 1 rfl) ?_
              refine lv_icmp_ne (tgt := 155) hx hb dX7_reads_150 (by decide) (fun c10 => ?_) (fun c10 => ?_)
              · have hw := hw.1 c10
                refine lv_aload_n hx hb dX7_reads_155 rfl (lv_at hl 0 rfl) ?_
                refine lv_iload_n hx hb dX7_reads_156 rfl (lv_at hl 2 rfl) ?_
                refine lv_iload_n hx hb dX7_reads_157 rfl (lv_at hl 1 rfl) ?_
                refine R_call (va_runV (As := [.int v2, .int v1]) (rest := []) ⟨hx, hb, hml, hown, hts⟩ (c_X7_byteAt l g m9 v0 v2 v1 _ hw.2) (cwV 2 hts gX7_reads_X7_byteAt rfl rfl rfl (by decide +kernel) ⟨by decide, by decide⟩) (PP.preV (q := (RX7, TX7, 36)) hK hW hw.1 (by decide) rfl) rfl rfl hl.1 rfl (lv_room (Nat.le_of_ble_eq_true rfl)) dX7_reads_158 ⟨by decide, by decide⟩) hW (fun r11 m12 H locs hw hW => ?_)
                refine W.eq (g2 := F0 m 161 ls [.int r11]) rfl ?_
                refine lv_bipush (v := (59 : Int32)) hx hb dX7_reads_161 (by decide) ?_
                refine lv_icmp_eq (tgt := 172) hx hb dX7_reads_163 (by decide) (fun c13 => ?_) (fun c13 => ?_)
                · have hw := hw.1 c13
                  refine lv_iinc (v := (v2 + (1 : Int32))) (lv' := [(2, .int (v2 + (1 : Int32))), (0, .ref (ad g v0)), (1, .int v1), (3, .int v3), (4, .int v4), (5, .int v5), (6, .int v6)]) hx hb dX7_reads_172 hl (k := 2) rfl rfl (by decide) rfl (fun ls hl => ?_)
                  refine lv_iinc (v := (v3 + (1 : Int32))) (lv' := [(3, .int (v3 + (1 : Int32))), (2, .int (v2 + (1 : Int32))), (0, .ref (ad g v0)), (1, .int v1), (4, .int v4), (5, .int v5), (6, .int v6)]) hx hb dX7_reads_175 hl (k := 3) rfl rfl (by decide) rfl (fun ls hl => ?_)
                  refine lv_goto (tgt := 11) hx hb dX7_reads_178 (by decide) ?_
                  exact ih11 (v2 + (1 : Int32)) (v3 + (1 : Int32)) m12 hw _ _ _ hW (lv_sub hl [2, 3, 1, 0] rfl)
                · have hw := hw.2 c13
                  refine lv_sipush (v := (500 : Int32)) hx hb dX7_reads_166 (by decide) ?_
                  refine lv_iload_n hx hb dX7_reads_169 rfl (lv_at hl 2 rfl) ?_
                  refine lv_iadd hx hb dX7_reads_170 ?_
                  exact R_iret hx hb hr hlk hW hw dX7_reads_171
              · have hw := hw.2 c10
                refine lv_iconst (v := (0 : Int32)) hx hb dX7_reads_153 (by decide) ?_
                exact R_iret hx hb hr hlk hW hw dX7_reads_154
            · have hw := hw.2 c8
              refine lv_sipush (v := (400 : Int32)) hx hb dX7_reads_132 (by decide) ?_
              refine lv_iload hx hb dX7_reads_135 (lv_at hl 5 rfl) ?_
              refine lv_iadd hx hb dX7_reads_137 ?_
              exact R_iret hx hb hr hlk hW hw dX7_reads_138
          · have hw := hw.2 c5
            refine lv_iload_n hx hb dX7_reads_85 rfl (lv_at hl 2 rfl) ?_
            refine lv_iload hx hb dX7_reads_86 (lv_at hl 5 rfl) ?_
            refine lv_iconst (v := (4 : Int32)) hx hb dX7_reads_88 (by decide) ?_
            refine lv_iadd hx hb dX7_reads_89 ?_
            refine lv_icmp_ne (tgt := 99) hx hb dX7_reads_90 (by decide) (fun c14 => ?_) (fun c14 => ?_)
            · have hw := hw.1 c14
              refine lv_bipush (v := (10 : Int32)) hx hb dX7_reads_99 (by decide) ?_
              refine lv_iload hx hb dX7_reads_101 (lv_at hl 6 rfl) ?_
              refine lv_imul hx hb dX7_reads_103 ?_
              refine lv_aload_n hx hb dX7_reads_104 rfl (lv_at hl 0 rfl) ?_
              refine lv_iload_n hx hb dX7_reads_105 rfl (lv_at hl 2 rfl) ?_
              refine lv_iload_n hx hb dX7_reads_106 rfl (lv_at hl 1 rfl) ?_
              refine R_call (va_runV (As := [.int v2, .int v1]) (rest := [.int ((10 : Int32) * v6)]) ⟨hx, hb, hml, hown, hts⟩ (c_X7_byteAt l g m4 v0 v2 v1 _ hw.2) (cwV 2 hts gX7_reads_X7_byteAt rfl rfl rfl (by decide +kernel) ⟨by decide, by decide⟩) (PP.preV (q := (RX7, TX7, 36)) hK hW hw.1 (by decide) rfl) rfl rfl hl.1 rfl (lv_room (Nat.le_of_ble_eq_true rfl)) dX7_reads_107 ⟨by decide, by decide⟩) hW (fun r15 m16 H locs hw hW => ?_)
              refine W.eq (g2 := F0 m 110 ls [.int r15, .int ((10 : Int32) * v6)]) rfl ?_
              refine lv_iadd hx hb dX7_reads_110 ?_
              refine lv_bipush (v := (48 : Int32)) hx hb dX7_reads_111 (by decide) ?_
              refine lv_isub hx hb dX7_reads_113 ?_
              refine lv_istore (lv' := [(6, .int ((((10 : Int32) * v6) + r15) - (48 : Int32))), (0, .ref (ad g v0)), (1, .int v1), (2, .int v2), (3, .int v3), (4, .int v4), (5, .int v5)]) hx hb dX7_reads_114 hl (by decide) rfl (fun ls hl => ?_)
              refine lv_iinc (v := (v2 + (1 : Int32))) (lv' := [(2, .int (v2 + (1 : Int32))), (6, .int ((((10 : Int32) * v6) + r15) - (48 : Int32))), (0, .ref (ad g v0)), (1, .int v1), (3, .int v3), (4, .int v4), (5, .int v5)]) hx hb dX7_reads_116 hl (k := 3) rfl rfl (by decide) rfl (fun ls hl => ?_)
              refine lv_goto (tgt := 69) hx hb dX7_reads_119 (by decide) ?_
              exact ih69 (v2 + (1 : Int32)) ((((10 : Int32) * v6) + r15) - (48 : Int32)) m16 hw _ _ _ hW (lv_sub hl [2, 3, 0, 4, 5, 6, 1] rfl)
            · have hw := hw.2 c14
              refine lv_sipush (v := (300 : Int32)) hx hb dX7_reads_93 (by decide) ?_
              refine lv_iload_n hx hb dX7_reads_96 rfl (lv_at hl 2 rfl) ?_
              refine lv_iadd hx hb dX7_reads_97 ?_
              exact R_iret hx hb hr hlk hW hw dX7_reads_98
      intro v2 v3 mm hw H locs ls hW hl
      have hw : wp_X7_reads_11 K11 v0 v1 v2 v3 mm Φ := by rw [eK11]; exact hw
      unfold wp_X7_reads_11 at hw
      refine lv_iload_n hx hb dX7_reads_11 rfl (lv_at hl 3 rfl) ?_
      refine lv_iload_n hx hb dX7_reads_12 rfl (lv_at hl 1 rfl) ?_
      refine lv_icmp_gt (tgt := 181) hx hb dX7_reads_13 (by decide) (fun c17 => ?_) (fun c17 => ?_)
      · have hw := hw.1 c17
        refine lv_bipush (v := (100 : Int32)) hx hb dX7_reads_181 (by decide) ?_
        refine lv_iload_n hx hb dX7_reads_183 rfl (lv_at hl 2 rfl) ?_
        refine lv_iadd hx hb dX7_reads_184 ?_
        exact R_iret hx hb hr hlk hW hw dX7_reads_185
      · have hw := hw.2 c17
        refine lv_aload_n hx hb dX7_reads_16 rfl (lv_at hl 0 rfl) ?_
        refine lv_iload_n hx hb dX7_reads_17 rfl (lv_at hl 2 rfl) ?_
        refine lv_iload_n hx hb dX7_reads_18 rfl (lv_at hl 1 rfl) ?_
        refine R_call (va_runV (As := [.int v2, .int v1]) (rest := []) ⟨hx, hb, hml, hown, hts⟩ (c_X7_byteAt l g mm v0 v2 v1 _ hw.2) (cwV 2 hts gX7_reads_X7_byteAt rfl rfl rfl (by decide +kernel) ⟨by decide, by decide⟩) (PP.preV (q := (RX7, TX7, 36)) hK hW hw.1 (by decide) rfl) rfl rfl hl.1 rfl (lv_room (Nat.le_of_ble_eq_true rfl)) dX7_reads_19 ⟨by decide, by decide⟩) hW (fun r18 m19 H locs hw hW => ?_)
        refine W.eq (g2 := F0 m 22 ls [.int r18]) rfl ?_
        refine R_call (va_runS (As := [.int r18]) (rest := []) ⟨hx, hb, hml, hown, hts⟩ (c_X7_letter l g m19 r18 _ hw) (va_cwS 1 hts gX7_reads_X7_letter rfl rfl rfl (by decide +kernel) ⟨by decide, by decide⟩) (PP.pre hK hW) rfl rfl hl.1 rfl (lv_room (Nat.le_of_ble_eq_true rfl)) dX7_reads_22 ⟨by decide, by decide⟩) hW (fun r20 m21 H locs hw hW => ?_)
        refine W.eq (g2 := F0 m 25 ls [.int r20]) rfl ?_
        refine lv_istore (lv' := [(4, .int r20), (0, .ref (ad g v0)), (1, .int v1), (2, .int v2), (3, .int v3)]) hx hb dX7_reads_25 hl (by decide) rfl (fun ls hl => ?_)
        refine lv_iload hx hb dX7_reads_27 (lv_at hl 0 rfl) ?_
        refine lv_iconst (v := (-1 : Int32)) hx hb dX7_reads_29 (by decide) ?_
        refine lv_icmp_ne (tgt := 38) hx hb dX7_reads_30 (by decide) (fun c22 => ?_) (fun c22 => ?_)
        · have hw := hw.1 c22
          refine lv_iinc (v := (v2 + (1 : Int32))) (lv' := [(2, .int (v2 + (1 : Int32))), (4, .int r20), (0, .ref (ad g v0)), (1, .int v1), (3, .int v3)]) hx hb dX7_reads_38 hl (k := 3) rfl rfl (by decide) rfl (fun ls hl => ?_)
          refine lv_aload_n hx hb dX7_reads_41 rfl (lv_at hl 2 rfl) ?_
          refine lv_iload_n hx hb dX7_reads_42 rfl (lv_at hl 0 rfl) ?_
          refine lv_iload_n hx hb dX7_reads_43 rfl (lv_at hl 3 rfl) ?_
          refine R_call (va_runV (As := [.int (v2 + (1 : Int32)), .int v1]) (rest := []) ⟨hx, hb, hml, hown, hts⟩ (c_X7_byteAt l g m21 v0 (v2 + (1 : Int32)) v1 _ hw.2) (cwV 2 hts gX7_reads_X7_byteAt rfl rfl rfl (by decide +kernel) ⟨by decide, by decide⟩) (PP.preV (q := (RX7, TX7, 36)) hK hW hw.1 (by decide) rfl) rfl rfl hl.1 rfl (lv_room (Nat.le_of_ble_eq_true rfl)) dX7_reads_44 ⟨by decide, by decide⟩) hW (fun r23 m24 H locs hw hW => ?_)
          refine W.eq (g2 := F0 m 47 ls [.int r23]) rfl ?_
          refine lv_bipush (v := (48 : Int32)) hx hb dX7_reads_47 (by decide) ?_
          refine lv_bipush (v := (57 : Int32)) hx hb dX7_reads_49 (by decide) ?_
          refine R_call (va_runS (As := [.int r23, .int (48 : Int32), .int (57 : Int32)]) (rest := []) ⟨hx, hb, hml, hown, hts⟩ (c_X7_lies l g m24 r23 (48 : Int32) (57 : Int32) _ hw) (va_cwS 3 hts gX7_reads_X7_lies rfl rfl rfl (by decide +kernel) ⟨by decide, by decide⟩) (PP.pre hK hW) rfl rfl hl.1 rfl (lv_room (Nat.le_of_ble_eq_true rfl)) dX7_reads_51 ⟨by decide, by decide⟩) hW (fun r25 m26 H locs hw hW => ?_)
          refine W.eq (g2 := F0 m 54 ls [.int r25]) rfl ?_
          refine lv_if_ne (tgt := 63) hx hb dX7_reads_54 (by decide) (fun c27 => ?_) (fun c27 => ?_)
          · have hw := hw.1 c27
            refine lv_iload_n hx hb dX7_reads_63 rfl (lv_at hl 0 rfl) ?_
            refine lv_istore (lv' := [(5, .int (v2 + (1 : Int32))), (2, .int (v2 + (1 : Int32))), (4, .int r20), (0, .ref (ad g v0)), (1, .int v1), (3, .int v3)]) hx hb dX7_reads_64 hl (by decide) rfl (fun ls hl => ?_)
            refine lv_iconst (v := (0 : Int32)) hx hb dX7_reads_66 (by decide) ?_
            refine lv_istore (lv' := [(6, .int (0 : Int32)), (5, .int (v2 + (1 : Int32))), (2, .int (v2 + (1 : Int32))), (4, .int r20), (0, .ref (ad g v0)), (1, .int v1), (3, .int v3)]) hx hb dX7_reads_67 hl (by decide) rfl (fun ls hl => ?_)
            obtain ⟨n, hw⟩ := hw
            exact L69 v3 r20 (v2 + (1 : Int32)) n (v2 + (1 : Int32)) (0 : Int32) m26 hw _ _ _ hW (lv_sub hl [4, 5, 2, 6, 3, 1, 0] rfl)
          · have hw := hw.2 c27
            refine lv_sipush (v := (200 : Int32)) hx hb dX7_reads_57 (by decide) ?_
            refine lv_iload_n hx hb dX7_reads_60 rfl (lv_at hl 0 rfl) ?_
            refine lv_iadd hx hb dX7_reads_61 ?_
            exact R_iret hx hb hr hlk hW hw dX7_reads_62
        · have hw := hw.2 c22
          refine lv_bipush (v := (100 : Int32)) hx hb dX7_reads_33 (by decide) ?_
          refine lv_iload_n hx hb dX7_reads_35 rfl (lv_at hl 3 rfl) ?_
          refine lv_iadd hx hb dX7_reads_36 ?_
          exact R_iret hx hb hr hlk hW hw dX7_reads_37
  unfold wp_X7_reads at hw
  refine lv_aload_n hx hb dX7_reads_0 rfl (lv_at hl 0 rfl) ?_
  refine R_getP (C := RX7) (T := TX7) (N := 36) hx hb hts i8 hown hK hW 10 hw.1 (by decide) rfl (by decide) (hts (.fieldLink RX7 21 "BoatLiftModel" "read" "[I") (by decide +kernel)) (fun _ h => h) (fun _ _ _ => rfl) hw.2.1 dX7_reads_1 ?_
  have hw := hw.2.2
  refine R_call (va_runS (As := [.ref (ad g (mP m0 v0 10))]) (rest := []) ⟨hx, hb, hml, hown, hts⟩ (c_X7_asAtFirst l g m0 (mP m0 v0 10) _ hw) (va_cwS 1 hts gX7_reads_X7_asAtFirst rfl rfl rfl (by decide +kernel) ⟨by decide, by decide⟩) (PP.pre hK hW) rfl rfl hl.1 rfl (lv_room (Nat.le_of_ble_eq_true rfl)) dX7_reads_4 ⟨by decide, by decide⟩) hW (fun _ m29 H locs hw hW => ?_)
  refine W.eq (g2 := F0 m 7 ls []) rfl ?_
  refine lv_iconst (v := (0 : Int32)) hx hb dX7_reads_7 (by decide) ?_
  refine lv_istore_n (lv' := [(2, .int (0 : Int32)), (0, .ref (ad g v0)), (1, .int v1)]) hx hb dX7_reads_8 rfl hl (by decide) rfl (fun ls hl => ?_)
  refine lv_iconst (v := (0 : Int32)) hx hb dX7_reads_9 (by decide) ?_
  refine lv_istore_n (lv' := [(3, .int (0 : Int32)), (2, .int (0 : Int32)), (0, .ref (ad g v0)), (1, .int v1)]) hx hb dX7_reads_10 rfl hl (by decide) rfl (fun ls hl => ?_)
  obtain ⟨n, hw⟩ := hw
  exact L11  n (0 : Int32) (0 : Int32) m29 hw _ _ _ hW (lv_sub hl [2, 3, 1, 0] rfl)

def wp_X7_law_27 (K27 : Int32 → Mm → Prop) (v0 : Nat) (v2 : Int32) (v3 : Int32) (mm : Mm) (Φ : Int32 → Mm → Prop) : Prop :=
  (((6 : Int32) ≤ v3 → Φ v2 mm) ∧ (¬ (6 : Int32) ≤ v3 → ((¬ v2 = 0 → Φ v2 mm) ∧ (v2 = 0 → mT mm v0 = 8 ∧ (mP mm v0 9) ≠ 0 ∧ mT mm v0 = 8 ∧ (mP mm v0 10) ≠ 0 ∧ mT mm (mP mm v0 10) = 9 ∧ vp_in v3 (mN mm (mP mm v0 10)) ∧ mT mm (mP mm v0 9) = 9 ∧ vp_in v3 (mN mm (mP mm v0 9)) ∧ ∀ m3 : Mm, m3 = sI mm (mP mm v0 9) v3.toNatClampNeg (mI mm (mP mm v0 10) v3.toNatClampNeg) → K27 (v3 + (1 : Int32)) m3))))
def wp_X7_law (m0 : Mm) (v0 : Nat) (v1 : Int32) (Φ : Int32 → Mm → Prop) : Prop :=
  ((v1 < 0 → Φ (-1 : Int32) m0) ∧ (¬ v1 < 0 → mT m0 v0 = 8 ∧ ((v1 ≤ (mI m0 v0 1) → mT m0 v0 = 8 ∧ ∀ m6 : Mm, m6 = sI m0 v0 1 (0 : Int32) → mT m6 v0 = 8 ∧ wp_X7_reads m6 v0 v1 (fun (r7 : Int32) (m8 : Mm) => ∃ n, LOp (fun K x => wp_X7_law_27  (fun z0 z1 => K (z0, z1)) v0 r7 x.1 x.2 Φ) n ((0 : Int32), m8))) ∧ (¬ v1 ≤ (mI m0 v0 1) → Φ (-1 : Int32) m0))))
abbrev rm_X7_law : Room := { frames := 3, cells := 0, slots := 0, locals := 69 }
set_option maxHeartbeats 4000000 in
set_option maxRecDepth 100000 in
theorem c_X7_law (l : Launch) (g : Gv) (m0 : Mm) (v0 : Nat) (v1 : Int32) (Φ : Int32 → Mm → Prop) (hw : wp_X7_law m0 v0 v1 Φ) : Met l yX7_law wsX7_law rm_X7_law (PP g [.ref (ad g v0), .int v1] m0) (QQ g vI Φ) 0 0 (Ag g) := by
  refine CT_of (by decide +kernel) rfl (Nat.le_of_ble_eq_true rfl) ?_
  intro p e s m below meth c hx hb hr hml hown hts hlk hnm hK hW ls hl
  have hown : s.vm.findClass RX7 = some m.cls := hown
  have hl : lv_has ls 4 [(0, .ref (ad g v0)), (1, .int v1)] := hl
  have i8 : ∀ w ∈ u_ws RX7 TX7 36, w ∈ wsX7_law := by decide +kernel
  have L27 : ∀ (v2 : Int32) (n : Nat) (v3 : Int32) (mm : Mm), LOp (fun K x => wp_X7_law_27  (fun z0 z1 => K (z0, z1)) v0 v2 x.1 x.2 Φ) n (v3, mm) → WW p l e rm_X7_law s m ([.ref (ad g v0), .int v1] : List Value).toArray below meth c (MQ below (QQ g vI Φ) ([.ref (ad g v0), .int v1] : List Value).toArray s 0 0 (Ag g)) g mm 4 0 0 27 [(0, .ref (ad g v0)), (2, .int v2), (3, .int v3)] [] := by
    intro v2 n
    induction n with
    | zero => intro v3 mm hw; exact hw.elim
    | succ n ih27 =>
      obtain ⟨K27, eK27⟩ : ∃ K : Int32 → Mm → Prop, K = fun v3 mm => LOp (fun K x => wp_X7_law_27  (fun z0 z1 => K (z0, z1)) v0 v2 x.1 x.2 Φ) n (v3, mm) := ⟨_, rfl⟩
      have ih27 : ∀ (v3 : Int32) (mm : Mm), K27 v3 mm → WW p l e rm_X7_law s m ([.ref (ad g v0), .int v1] : List Value).toArray below meth c (MQ below (QQ g vI Φ) ([.ref (ad g v0), .int v1] : List Value).toArray s 0 0 (Ag g)) g mm 4 0 0 27 [(0, .ref (ad g v0)), (2, .int v2), (3, .int v3)] [] := by rw [eK27]; exact ih27
      intro v3 mm hw H locs ls hW hl
      have hw : wp_X7_law_27 K27 v0 v2 v3 mm Φ := by rw [eK27]; exact hw
      unfold wp_X7_law_27 at hw
      refine lv_iload_n hx hb dX7_law_27 rfl (lv_at hl 2 rfl) ?_
      refine lv_bipush (v := (6 : Int32)) hx hb dX7_law_28 (by decide) ?_
      refine lv_icmp_ge (tgt := 55) hx hb dX7_law_30 (by decide) (fun c1 => ?_) (fun c1 => ?_)
      · have hw := hw.1 c1
        refine lv_iload_n hx hb dX7_law_55 rfl (lv_at hl 1 rfl) ?_
        exact R_iret hx hb hr hlk hW hw dX7_law_56
      · have hw := hw.2 c1
        refine lv_iload_n hx hb dX7_law_33 rfl (lv_at hl 1 rfl) ?_
        refine lv_if_ne (tgt := 55) hx hb dX7_law_34 (by decide) (fun c2 => ?_) (fun c2 => ?_)
        · have hw := hw.1 c2
          refine lv_iload_n hx hb dX7_law_55 rfl (lv_at hl 1 rfl) ?_
          exact R_iret hx hb hr hlk hW hw dX7_law_56
        · have hw := hw.2 c2
          refine lv_aload_n hx hb dX7_law_37 rfl (lv_at hl 0 rfl) ?_
          refine R_getP (C := RX7) (T := TX7) (N := 36) hx hb hts i8 hown hK hW 9 hw.1 (by decide) rfl (by decide) (hts (.fieldLink RX7 17 "BoatLiftModel" "law" "[I") (by decide +kernel)) (fun _ h => h) (fun _ _ _ => rfl) hw.2.1 dX7_law_38 ?_
          have hw := hw.2.2
          refine lv_iload_n hx hb dX7_law_41 rfl (lv_at hl 2 rfl) ?_
          refine lv_aload_n hx hb dX7_law_42 rfl (lv_at hl 0 rfl) ?_
          refine R_getP (C := RX7) (T := TX7) (N := 36) hx hb hts i8 hown hK hW 10 hw.1 (by decide) rfl (by decide) (hts (.fieldLink RX7 21 "BoatLiftModel" "read" "[I") (by decide +kernel)) (fun _ h => h) (fun _ _ _ => rfl) hw.2.1 dX7_law_43 ?_
          have hw := hw.2.2
          refine lv_iload_n hx hb dX7_law_46 rfl (lv_at hl 2 rfl) ?_
          refine R_iald hx hb hK hW hw.1 hw.2.1 dX7_law_47 ?_
          have hw := hw.2.2
          refine R_iast hx hb hK hW hw.1 hw.2.1 dX7_law_48 (fun H locs hW => ?_)
          obtain ⟨m3, em3⟩ : ∃ z, z = sI mm (mP mm v0 9) v3.toNatClampNeg (mI mm (mP mm v0 10) v3.toNatClampNeg) := ⟨_, rfl⟩
          rw [← em3] at hW
          have hw := hw.2.2 m3 em3
          refine lv_iinc (v := (v3 + (1 : Int32))) (lv' := [(3, .int (v3 + (1 : Int32))), (0, .ref (ad g v0)), (2, .int v2)]) hx hb dX7_law_49 hl (k := 2) rfl rfl (by decide) rfl (fun ls hl => ?_)
          refine lv_goto (tgt := 27) hx hb dX7_law_52 (by decide) ?_
          exact ih27 (v3 + (1 : Int32)) m3 hw _ _ _ hW (lv_sub hl [1, 2, 0] rfl)
  unfold wp_X7_law at hw
  refine lv_iload_n hx hb dX7_law_0 rfl (lv_at hl 1 rfl) ?_
  refine lv_if_lt (tgt := 12) hx hb dX7_law_1 (by decide) (fun c4 => ?_) (fun c4 => ?_)
  · have hw := hw.1 c4
    refine lv_iconst (v := (-1 : Int32)) hx hb dX7_law_12 (by decide) ?_
    exact R_iret hx hb hr hlk hW hw dX7_law_13
  · have hw := hw.2 c4
    refine lv_iload_n hx hb dX7_law_4 rfl (lv_at hl 1 rfl) ?_
    refine lv_aload_n hx hb dX7_law_5 rfl (lv_at hl 0 rfl) ?_
    refine R_getI (C := RX7) (T := TX7) (N := 36) hx hb hts i8 hown hK hW 1 hw.1 (by decide) rfl (by decide) (hts (.fieldLink RX7 88 "BoatLiftModel" "taped" "I") (by decide +kernel)) (fun _ h => h) (fun _ _ _ => rfl) dX7_law_6 ?_
    have hw := hw.2
    refine lv_icmp_le (tgt := 14) hx hb dX7_law_9 (by decide) (fun c5 => ?_) (fun c5 => ?_)
    · have hw := hw.1 c5
      refine lv_aload_n hx hb dX7_law_14 rfl (lv_at hl 0 rfl) ?_
      refine lv_iconst (v := (0 : Int32)) hx hb dX7_law_15 (by decide) ?_
      refine R_putI (C := RX7) (T := TX7) (N := 36) hx hb hts i8 tyX7 tyX7_ok nmX7 hown hK hW 1 hw.1 (by decide) rfl (by decide) (hts (.fieldLink RX7 88 "BoatLiftModel" "taped" "I") (by decide +kernel)) (fun _ h => h) (Or.inl rfl) rfl (fun _ _ _ => rfl) (fun _ _ _ => rfl) dX7_law_16 (fun H locs hW => ?_)
      obtain ⟨m6, em6⟩ : ∃ z, z = sI m0 v0 1 (0 : Int32) := ⟨_, rfl⟩
      rw [← em6] at hW
      have hw := hw.2 m6 em6
      refine lv_aload_n hx hb dX7_law_19 rfl (lv_at hl 0 rfl) ?_
      refine lv_iload_n hx hb dX7_law_20 rfl (lv_at hl 1 rfl) ?_
      refine R_call (va_runV (As := [.int v1]) (rest := []) ⟨hx, hb, hml, hown, hts⟩ (c_X7_reads l g m6 v0 v1 _ hw.2) (cwV 1 hts gX7_law_X7_reads rfl rfl rfl (by decide +kernel) ⟨by decide, by decide⟩) (PP.preV (q := (RX7, TX7, 36)) hK hW hw.1 (by decide) rfl) rfl rfl hl.1 rfl (lv_room (Nat.le_of_ble_eq_true rfl)) dX7_law_21 ⟨by decide, by decide⟩) hW (fun r7 m8 H locs hw hW => ?_)
      refine W.eq (g2 := F0 m 24 ls [.int r7]) rfl ?_
      refine lv_istore_n (lv' := [(2, .int r7), (0, .ref (ad g v0)), (1, .int v1)]) hx hb dX7_law_24 rfl hl (by decide) rfl (fun ls hl => ?_)
      refine lv_iconst (v := (0 : Int32)) hx hb dX7_law_25 (by decide) ?_
      refine lv_istore_n (lv' := [(3, .int (0 : Int32)), (2, .int r7), (0, .ref (ad g v0)), (1, .int v1)]) hx hb dX7_law_26 rfl hl (by decide) rfl (fun ls hl => ?_)
      obtain ⟨n, hw⟩ := hw
      exact L27 r7 n (0 : Int32) m8 hw _ _ _ hW (lv_sub hl [2, 1, 0] rfl)
    · have hw := hw.2 c5
      refine lv_iconst (v := (-1 : Int32)) hx hb dX7_law_12 (by decide) ?_
      exact R_iret hx hb hr hlk hW hw dX7_law_13

def wp_X7_trough (m0 : Mm) (v0 : Nat) (v1 : Int32) (Φ : Int32 → Mm → Prop) : Prop :=
  wp_X7_lies m0 v1 (10 : Int32) (200 : Int32) (fun (r1 : Int32) (m2 : Mm) => ((¬ r1 = 0 → mT m2 v0 = 8 ∧ ∀ m4 : Mm, m4 = sI m2 v0 2 v1 → Φ (1 : Int32) m4) ∧ (r1 = 0 → Φ (0 : Int32) m2)))
abbrev rm_X7_trough : Room := { frames := 1, cells := 0, slots := 0, locals := 22 }
set_option maxHeartbeats 4000000 in
set_option maxRecDepth 100000 in
theorem c_X7_trough (l : Launch) (g : Gv) (m0 : Mm) (v0 : Nat) (v1 : Int32) (Φ : Int32 → Mm → Prop) (hw : wp_X7_trough m0 v0 v1 Φ) : Met l yX7_trough wsX7_trough rm_X7_trough (PP g [.ref (ad g v0), .int v1] m0) (QQ g vI Φ) 0 0 (Ag g) := by
  refine CT_of (by decide +kernel) rfl (Nat.le_of_ble_eq_true rfl) ?_
  intro p e s m below meth c hx hb hr hml hown hts hlk hnm hK hW ls hl
  have hown : s.vm.findClass RX7 = some m.cls := hown
  have hl : lv_has ls 2 [(0, .ref (ad g v0)), (1, .int v1)] := hl
  have i8 : ∀ w ∈ u_ws RX7 TX7 36, w ∈ wsX7_trough := by decide +kernel
  unfold wp_X7_trough at hw
  refine lv_iload_n hx hb dX7_trough_0 rfl (lv_at hl 1 rfl) ?_
  refine lv_bipush (v := (10 : Int32)) hx hb dX7_trough_1 (by decide) ?_
  refine lv_sipush (v := (200 : Int32)) hx hb dX7_trough_3 (by decide) ?_
  refine R_call (va_runS (As := [.int v1, .int (10 : Int32), .int (200 : Int32)]) (rest := []) ⟨hx, hb, hml, hown, hts⟩ (c_X7_lies l g m0 v1 (10 : Int32) (200 : Int32) _ hw) (va_cwS 3 hts gX7_trough_X7_lies rfl rfl rfl (by decide +kernel) ⟨by decide, by decide⟩) (PP.pre hK hW) rfl rfl hl.1 rfl (lv_room (Nat.le_of_ble_eq_true rfl)) dX7_trough_6 ⟨by decide, by decide⟩) hW (fun r1 m2 H locs hw hW => ?_)
  refine W.eq (g2 := F0 m 9 ls [.int r1]) rfl ?_
  refine lv_if_ne (tgt := 14) hx hb dX7_trough_9 (by decide) (fun c3 => ?_) (fun c3 => ?_)
  · have hw := hw.1 c3
    refine lv_aload_n hx hb dX7_trough_14 rfl (lv_at hl 0 rfl) ?_
    refine lv_iload_n hx hb dX7_trough_15 rfl (lv_at hl 1 rfl) ?_
    refine R_putI (C := RX7) (T := TX7) (N := 36) hx hb hts i8 tyX7 tyX7_ok nmX7 hown hK hW 2 hw.1 (by decide) rfl (by decide) (hts (.fieldLink RX7 13 "BoatLiftModel" "length" "I") (by decide +kernel)) (fun _ h => h) (Or.inl rfl) rfl (fun _ _ _ => rfl) (fun _ _ _ => rfl) dX7_trough_16 (fun H locs hW => ?_)
    obtain ⟨m4, em4⟩ : ∃ z, z = sI m2 v0 2 v1 := ⟨_, rfl⟩
    rw [← em4] at hW
    have hw := hw.2 m4 em4
    refine lv_iconst (v := (1 : Int32)) hx hb dX7_trough_19 (by decide) ?_
    exact R_zret hx hb hr hlk hW (Or.inr rfl) hw dX7_trough_20
  · have hw := hw.2 c3
    refine lv_iconst (v := (0 : Int32)) hx hb dX7_trough_12 (by decide) ?_
    exact R_zret hx hb hr hlk hW (Or.inl rfl) hw dX7_trough_13

def wp_X7_isSide (m0 : Mm) (v0 : Int32) (Φ : Int32 → Mm → Prop) : Prop :=
  wp_X7_lies m0 v0 (0 : Int32) (1 : Int32) (fun (r1 : Int32) (m2 : Mm) => (r1 = 0 ∨ r1 = 1) ∧ Φ r1 m2)
abbrev rm_X7_isSide : Room := { frames := 1, cells := 0, slots := 0, locals := 22 }
set_option maxHeartbeats 4000000 in
set_option maxRecDepth 100000 in
theorem c_X7_isSide (l : Launch) (g : Gv) (m0 : Mm) (v0 : Int32) (Φ : Int32 → Mm → Prop) (hw : wp_X7_isSide m0 v0 Φ) : Met l yX7_isSide wsX7_isSide rm_X7_isSide (PP g [.int v0] m0) (QQ g vI Φ) 0 0 (Ag g) := by
  refine CT_of (by decide +kernel) rfl (Nat.le_of_ble_eq_true rfl) ?_
  intro p e s m below meth c hx hb hr hml hown hts hlk hnm hK hW ls hl
  have hown : s.vm.findClass RX7 = some m.cls := hown
  have hl : lv_has ls 1 [(0, .int v0)] := hl
  unfold wp_X7_isSide at hw
  refine lv_iload_n hx hb dX7_isSide_0 rfl (lv_at hl 0 rfl) ?_
  refine lv_iconst (v := (0 : Int32)) hx hb dX7_isSide_1 (by decide) ?_
  refine lv_iconst (v := (1 : Int32)) hx hb dX7_isSide_2 (by decide) ?_
  refine R_call (va_runS (As := [.int v0, .int (0 : Int32), .int (1 : Int32)]) (rest := []) ⟨hx, hb, hml, hown, hts⟩ (c_X7_lies l g m0 v0 (0 : Int32) (1 : Int32) _ hw) (va_cwS 3 hts gX7_isSide_X7_lies rfl rfl rfl (by decide +kernel) ⟨by decide, by decide⟩) (PP.pre hK hW) rfl rfl hl.1 rfl (lv_room (Nat.le_of_ble_eq_true rfl)) dX7_isSide_3 ⟨by decide, by decide⟩) hW (fun r1 m2 H locs hw hW => ?_)
  refine W.eq (g2 := F0 m 6 ls [.int r1]) rfl ?_
  exact R_zret hx hb hr hlk hW hw.1 hw.2 dX7_isSide_6

def wp_X7_area (m0 : Mm) (v0 : Nat) (v1 : Int32) (v2 : Int32) (Φ : Int32 → Mm → Prop) : Prop :=
  wp_X7_isSide m0 v1 (fun (r1 : Int32) (m2 : Mm) => ((r1 = 0 → Φ (0 : Int32) m2) ∧ (¬ r1 = 0 → wp_X7_lies m2 v2 (1 : Int32) (10000 : Int32) (fun (r4 : Int32) (m5 : Mm) => ((¬ r4 = 0 → mT m5 v0 = 8 ∧ (mP m5 v0 11) ≠ 0 ∧ mT m5 (mP m5 v0 11) = 9 ∧ vp_in v1 (mN m5 (mP m5 v0 11)) ∧ ∀ m7 : Mm, m7 = sI m5 (mP m5 v0 11) v1.toNatClampNeg v2 → Φ (1 : Int32) m7) ∧ (r4 = 0 → Φ (0 : Int32) m5))))))
abbrev rm_X7_area : Room := { frames := 2, cells := 0, slots := 0, locals := 42 }
set_option maxHeartbeats 4000000 in
set_option maxRecDepth 100000 in
theorem c_X7_area (l : Launch) (g : Gv) (m0 : Mm) (v0 : Nat) (v1 : Int32) (v2 : Int32) (Φ : Int32 → Mm → Prop) (hw : wp_X7_area m0 v0 v1 v2 Φ) : Met l yX7_area wsX7_area rm_X7_area (PP g [.ref (ad g v0), .int v1, .int v2] m0) (QQ g vI Φ) 0 0 (Ag g) := by
  refine CT_of (by decide +kernel) rfl (Nat.le_of_ble_eq_true rfl) ?_
  intro p e s m below meth c hx hb hr hml hown hts hlk hnm hK hW ls hl
  have hown : s.vm.findClass RX7 = some m.cls := hown
  have hl : lv_has ls 3 [(0, .ref (ad g v0)), (1, .int v1), (2, .int v2)] := hl
  have i8 : ∀ w ∈ u_ws RX7 TX7 36, w ∈ wsX7_area := by decide +kernel
  unfold wp_X7_area at hw
  refine lv_iload_n hx hb dX7_area_0 rfl (lv_at hl 1 rfl) ?_
  refine R_call (va_runS (As := [.int v1]) (rest := []) ⟨hx, hb, hml, hown, hts⟩ (c_X7_isSide l g m0 v1 _ hw) (va_cwS 1 hts gX7_area_X7_isSide rfl rfl rfl (by decide +kernel) ⟨by decide, by decide⟩) (PP.pre hK hW) rfl rfl hl.1 rfl (lv_room (Nat.le_of_ble_eq_true rfl)) dX7_area_1 ⟨by decide, by decide⟩) hW (fun r1 m2 H locs hw hW => ?_)
  refine W.eq (g2 := F0 m 4 ls [.int r1]) rfl ?_
  refine lv_if_eq (tgt := 18) hx hb dX7_area_4 (by decide) (fun c3 => ?_) (fun c3 => ?_)
  · have hw := hw.1 c3
    refine lv_iconst (v := (0 : Int32)) hx hb dX7_area_18 (by decide) ?_
    exact R_zret hx hb hr hlk hW (Or.inl rfl) hw dX7_area_19
  · have hw := hw.2 c3
    refine lv_iload_n hx hb dX7_area_7 rfl (lv_at hl 2 rfl) ?_
    refine lv_iconst (v := (1 : Int32)) hx hb dX7_area_8 (by decide) ?_
    refine lv_sipush (v := (10000 : Int32)) hx hb dX7_area_9 (by decide) ?_
    refine R_call (va_runS (As := [.int v2, .int (1 : Int32), .int (10000 : Int32)]) (rest := []) ⟨hx, hb, hml, hown, hts⟩ (c_X7_lies l g m2 v2 (1 : Int32) (10000 : Int32) _ hw) (va_cwS 3 hts gX7_area_X7_lies rfl rfl rfl (by decide +kernel) ⟨by decide, by decide⟩) (PP.pre hK hW) rfl rfl hl.1 rfl (lv_room (Nat.le_of_ble_eq_true rfl)) dX7_area_12 ⟨by decide, by decide⟩) hW (fun r4 m5 H locs hw hW => ?_)
    refine W.eq (g2 := F0 m 15 ls [.int r4]) rfl ?_
    refine lv_if_ne (tgt := 20) hx hb dX7_area_15 (by decide) (fun c6 => ?_) (fun c6 => ?_)
    · have hw := hw.1 c6
      refine lv_aload_n hx hb dX7_area_20 rfl (lv_at hl 0 rfl) ?_
      refine R_getP (C := RX7) (T := TX7) (N := 36) hx hb hts i8 hown hK hW 11 hw.1 (by decide) rfl (by decide) (hts (.fieldLink RX7 24 "BoatLiftModel" "area" "[I") (by decide +kernel)) (fun _ h => h) (fun _ _ _ => rfl) hw.2.1 dX7_area_21 ?_
      have hw := hw.2.2
      refine lv_iload_n hx hb dX7_area_24 rfl (lv_at hl 1 rfl) ?_
      refine lv_iload_n hx hb dX7_area_25 rfl (lv_at hl 2 rfl) ?_
      refine R_iast hx hb hK hW hw.1 hw.2.1 dX7_area_26 (fun H locs hW => ?_)
      obtain ⟨m7, em7⟩ : ∃ z, z = sI m5 (mP m5 v0 11) v1.toNatClampNeg v2 := ⟨_, rfl⟩
      rw [← em7] at hW
      have hw := hw.2.2 m7 em7
      refine lv_iconst (v := (1 : Int32)) hx hb dX7_area_27 (by decide) ?_
      exact R_zret hx hb hr hlk hW (Or.inr rfl) hw dX7_area_28
    · have hw := hw.2 c6
      refine lv_iconst (v := (0 : Int32)) hx hb dX7_area_18 (by decide) ?_
      exact R_zret hx hb hr hlk hW (Or.inl rfl) hw dX7_area_19

def wp_X7_flow (m0 : Mm) (v0 : Nat) (v1 : Int32) (v2 : Int32) (Φ : Int32 → Mm → Prop) : Prop :=
  wp_X7_isSide m0 v1 (fun (r1 : Int32) (m2 : Mm) => ((r1 = 0 → Φ (0 : Int32) m2) ∧ (¬ r1 = 0 → wp_X7_lies m2 v2 (-1000000 : Int32) (1000000 : Int32) (fun (r4 : Int32) (m5 : Mm) => ((¬ r4 = 0 → mT m5 v0 = 8 ∧ (mP m5 v0 12) ≠ 0 ∧ mT m5 (mP m5 v0 12) = 10 ∧ vp_in v1 (mN m5 (mP m5 v0 12)) ∧ mT m5 (mP m5 v0 12) = 10 ∧ vp_in v1 (mN m5 (mP m5 v0 12)) ∧ ∀ m7 : Mm, m7 = sL m5 (mP m5 v0 12) v1.toNatClampNeg ((mL m5 (mP m5 v0 12) v1.toNatClampNeg) + v2.toInt64) → Φ (1 : Int32) m7) ∧ (r4 = 0 → Φ (0 : Int32) m5))))))
abbrev rm_X7_flow : Room := { frames := 2, cells := 0, slots := 0, locals := 42 }
set_option maxHeartbeats 4000000 in
set_option maxRecDepth 100000 in
theorem c_X7_flow (l : Launch) (g : Gv) (m0 : Mm) (v0 : Nat) (v1 : Int32) (v2 : Int32) (Φ : Int32 → Mm → Prop) (hw : wp_X7_flow m0 v0 v1 v2 Φ) : Met l yX7_flow wsX7_flow rm_X7_flow (PP g [.ref (ad g v0), .int v1, .int v2] m0) (QQ g vI Φ) 0 0 (Ag g) := by
  refine CT_of (by decide +kernel) rfl (Nat.le_of_ble_eq_true rfl) ?_
  intro p e s m below meth c hx hb hr hml hown hts hlk hnm hK hW ls hl
  have hown : s.vm.findClass RX7 = some m.cls := hown
  have hl : lv_has ls 3 [(0, .ref (ad g v0)), (1, .int v1), (2, .int v2)] := hl
  have i8 : ∀ w ∈ u_ws RX7 TX7 36, w ∈ wsX7_flow := by decide +kernel
  unfold wp_X7_flow at hw
  refine lv_iload_n hx hb dX7_flow_0 rfl (lv_at hl 1 rfl) ?_
  refine R_call (va_runS (As := [.int v1]) (rest := []) ⟨hx, hb, hml, hown, hts⟩ (c_X7_isSide l g m0 v1 _ hw) (va_cwS 1 hts gX7_flow_X7_isSide rfl rfl rfl (by decide +kernel) ⟨by decide, by decide⟩) (PP.pre hK hW) rfl rfl hl.1 rfl (lv_room (Nat.le_of_ble_eq_true rfl)) dX7_flow_1 ⟨by decide, by decide⟩) hW (fun r1 m2 H locs hw hW => ?_)
  refine W.eq (g2 := F0 m 4 ls [.int r1]) rfl ?_
  refine lv_if_eq (tgt := 18) hx hb dX7_flow_4 (by decide) (fun c3 => ?_) (fun c3 => ?_)
  · have hw := hw.1 c3
    refine lv_iconst (v := (0 : Int32)) hx hb dX7_flow_18 (by decide) ?_
    exact R_zret hx hb hr hlk hW (Or.inl rfl) hw dX7_flow_19
  · have hw := hw.2 c3
    refine lv_iload_n hx hb dX7_flow_7 rfl (lv_at hl 2 rfl) ?_
    refine lv_ldc hx hb hown (hts (.constant RX7 118 (-1000000)) (by decide +kernel)) dX7_flow_8 ?_
    refine lv_ldc hx hb hown (hts (.constant RX7 119 (1000000)) (by decide +kernel)) dX7_flow_10 ?_
    refine R_call (va_runS (As := [.int v2, .int (-1000000 : Int32), .int (1000000 : Int32)]) (rest := []) ⟨hx, hb, hml, hown, hts⟩ (c_X7_lies l g m2 v2 (-1000000 : Int32) (1000000 : Int32) _ hw) (va_cwS 3 hts gX7_flow_X7_lies rfl rfl rfl (by decide +kernel) ⟨by decide, by decide⟩) (PP.pre hK hW) rfl rfl hl.1 rfl (lv_room (Nat.le_of_ble_eq_true rfl)) dX7_flow_12 ⟨by decide, by decide⟩) hW (fun r4 m5 H locs hw hW => ?_)
    refine W.eq (g2 := F0 m 15 ls [.int r4]) rfl ?_
    refine lv_if_ne (tgt := 20) hx hb dX7_flow_15 (by decide) (fun c6 => ?_) (fun c6 => ?_)
    · have hw := hw.1 c6
      refine lv_aload_n hx hb dX7_flow_20 rfl (lv_at hl 0 rfl) ?_
      refine R_getP (C := RX7) (T := TX7) (N := 36) hx hb hts i8 hown hK hW 12 hw.1 (by decide) rfl (by decide) (hts (.fieldLink RX7 27 "BoatLiftModel" "stock" "[J") (by decide +kernel)) (fun _ h => h) (fun _ _ _ => rfl) hw.2.1 dX7_flow_21 ?_
      have hw := hw.2.2
      refine lv_iload_n hx hb dX7_flow_24 rfl (lv_at hl 1 rfl) ?_
      refine lv_dup2_11 hx hb dX7_flow_25 rfl rfl ?_
      refine R_lald hx hb hK hW hw.1 hw.2.1 dX7_flow_26 ?_
      have hw := hw.2.2
      refine lv_iload_n hx hb dX7_flow_27 rfl (lv_at hl 2 rfl) ?_
      refine lv_i2l (v := v2.toInt64) hx hb dX7_flow_28 rfl ?_
      refine lv_ladd hx hb dX7_flow_29 ?_
      refine R_last hx hb hK hW hw.1 hw.2.1 dX7_flow_30 (fun H locs hW => ?_)
      obtain ⟨m7, em7⟩ : ∃ z, z = sL m5 (mP m5 v0 12) v1.toNatClampNeg ((mL m5 (mP m5 v0 12) v1.toNatClampNeg) + v2.toInt64) := ⟨_, rfl⟩
      rw [← em7] at hW
      have hw := hw.2.2 m7 em7
      refine lv_iconst (v := (1 : Int32)) hx hb dX7_flow_31 (by decide) ?_
      exact R_zret hx hb hr hlk hW (Or.inr rfl) hw dX7_flow_32
    · have hw := hw.2 c6
      refine lv_iconst (v := (0 : Int32)) hx hb dX7_flow_18 (by decide) ?_
      exact R_zret hx hb hr hlk hW (Or.inl rfl) hw dX7_flow_19

def wp_X7_ice (m0 : Mm) (v0 : Nat) (v1 : Int32) (v2 : Int32) (Φ : Int32 → Mm → Prop) : Prop :=
  wp_X7_lies m0 v1 (0 : Int32) (20000 : Int32) (fun (r1 : Int32) (m2 : Mm) => ((r1 = 0 → Φ (0 : Int32) m2) ∧ (¬ r1 = 0 → wp_X7_lies m2 v2 (0 : Int32) (20000 : Int32) (fun (r4 : Int32) (m5 : Mm) => ((r4 = 0 → Φ (0 : Int32) m5) ∧ (¬ r4 = 0 → ((v2 ≤ v1 → Φ (0 : Int32) m5) ∧ (¬ v2 ≤ v1 → mT m5 v0 = 8 ∧ ((¬ (mI m5 v0 8) = (8 : Int32) → mT m5 v0 = 8 ∧ (mP m5 v0 13) ≠ 0 ∧ mT m5 v0 = 8 ∧ mT m5 (mP m5 v0 13) = 9 ∧ vp_in (mI m5 v0 8) (mN m5 (mP m5 v0 13)) ∧ ∀ m9 : Mm, m9 = sI m5 (mP m5 v0 13) (mI m5 v0 8).toNatClampNeg v1 → mT m9 v0 = 8 ∧ (mP m9 v0 14) ≠ 0 ∧ mT m9 v0 = 8 ∧ mT m9 (mP m9 v0 14) = 9 ∧ vp_in (mI m9 v0 8) (mN m9 (mP m9 v0 14)) ∧ ∀ m10 : Mm, m10 = sI m9 (mP m9 v0 14) (mI m9 v0 8).toNatClampNeg v2 → mT m10 v0 = 8 ∧ mT m10 v0 = 8 ∧ ∀ m11 : Mm, m11 = sI m10 v0 8 ((mI m10 v0 8) + (1 : Int32)) → Φ (1 : Int32) m11) ∧ ((mI m5 v0 8) = (8 : Int32) → Φ (0 : Int32) m5))))))))))
abbrev rm_X7_ice : Room := { frames := 1, cells := 0, slots := 0, locals := 22 }
set_option maxHeartbeats 4000000 in
set_option maxRecDepth 100000 in
theorem c_X7_ice (l : Launch) (g : Gv) (m0 : Mm) (v0 : Nat) (v1 : Int32) (v2 : Int32) (Φ : Int32 → Mm → Prop) (hw : wp_X7_ice m0 v0 v1 v2 Φ) : Met l yX7_ice wsX7_ice rm_X7_ice (PP g [.ref (ad g v0), .int v1, .int v2] m0) (QQ g vI Φ) 0 0 (Ag g) := by
  refine CT_of (by decide +kernel) rfl (Nat.le_of_ble_eq_true rfl) ?_
  intro p e s m below meth c hx hb hr hml hown hts hlk hnm hK hW ls hl
  have hown : s.vm.findClass RX7 = some m.cls := hown
  have hl : lv_has ls 3 [(0, .ref (ad g v0)), (1, .int v1), (2, .int v2)] := hl
  have i8 : ∀ w ∈ u_ws RX7 TX7 36, w ∈ wsX7_ice := by decide +kernel
  unfold wp_X7_ice at hw
  refine lv_iload_n hx hb dX7_ice_0 rfl (lv_at hl 1 rfl) ?_
  refine lv_iconst (v := (0 : Int32)) hx hb dX7_ice_1 (by decide) ?_
  refine lv_sipush (v := (20000 : Int32)) hx hb dX7_ice_2 (by decide) ?_
  refine R_call (va_runS (As := [.int v1, .int (0 : Int32), .int (20000 : Int32)]) (rest := []) ⟨hx, hb, hml, hown, hts⟩ (c_X7_lies l g m0 v1 (0 : Int32) (20000 : Int32) _ hw) (va_cwS 3 hts gX7_ice_X7_lies rfl rfl rfl (by decide +kernel) ⟨by decide, by decide⟩) (PP.pre hK hW) rfl rfl hl.1 rfl (lv_room (Nat.le_of_ble_eq_true rfl)) dX7_ice_5 ⟨by decide, by decide⟩) hW (fun r1 m2 H locs hw hW => ?_)
  refine W.eq (g2 := F0 m 8 ls [.int r1]) rfl ?_
  refine lv_if_eq (tgt := 36) hx hb dX7_ice_8 (by decide) (fun c3 => ?_) (fun c3 => ?_)
  · have hw := hw.1 c3
    refine lv_iconst (v := (0 : Int32)) hx hb dX7_ice_36 (by decide) ?_
    exact R_zret hx hb hr hlk hW (Or.inl rfl) hw dX7_ice_37
  · have hw := hw.2 c3
    refine lv_iload_n hx hb dX7_ice_11 rfl (lv_at hl 2 rfl) ?_
    refine lv_iconst (v := (0 : Int32)) hx hb dX7_ice_12 (by decide) ?_
    refine lv_sipush (v := (20000 : Int32)) hx hb dX7_ice_13 (by decide) ?_
    refine R_call (va_runS (As := [.int v2, .int (0 : Int32), .int (20000 : Int32)]) (rest := []) ⟨hx, hb, hml, hown, hts⟩ (c_X7_lies l g m2 v2 (0 : Int32) (20000 : Int32) _ hw) (va_cwS 3 hts gX7_ice_X7_lies rfl rfl rfl (by decide +kernel) ⟨by decide, by decide⟩) (PP.pre hK hW) rfl rfl hl.1 rfl (lv_room (Nat.le_of_ble_eq_true rfl)) dX7_ice_16 ⟨by decide, by decide⟩) hW (fun r4 m5 H locs hw hW => ?_)
    refine W.eq (g2 := F0 m 19 ls [.int r4]) rfl ?_
    refine lv_if_eq (tgt := 36) hx hb dX7_ice_19 (by decide) (fun c6 => ?_) (fun c6 => ?_)
    · have hw := hw.1 c6
      refine lv_iconst (v := (0 : Int32)) hx hb dX7_ice_36 (by decide) ?_
      exact R_zret hx hb hr hlk hW (Or.inl rfl) hw dX7_ice_37
    · have hw := hw.2 c6
      refine lv_iload_n hx hb dX7_ice_22 rfl (lv_at hl 1 rfl) ?_
      refine lv_iload_n hx hb dX7_ice_23 rfl (lv_at hl 2 rfl) ?_
      refine lv_icmp_ge (tgt := 36) hx hb dX7_ice_24 (by decide) (fun c7 => ?_) (fun c7 => ?_)
      · have hw := hw.1 c7
        refine lv_iconst (v := (0 : Int32)) hx hb dX7_ice_36 (by decide) ?_
        exact R_zret hx hb hr hlk hW (Or.inl rfl) hw dX7_ice_37
      · have hw := hw.2 c7
        refine lv_aload_n hx hb dX7_ice_27 rfl (lv_at hl 0 rfl) ?_
        refine R_getI (C := RX7) (T := TX7) (N := 36) hx hb hts i8 hown hK hW 8 hw.1 (by decide) rfl (by decide) (hts (.fieldLink RX7 120 "BoatLiftModel" "ices" "I") (by decide +kernel)) (fun _ h => h) (fun _ _ _ => rfl) dX7_ice_28 ?_
        have hw := hw.2
        refine lv_bipush (v := (8 : Int32)) hx hb dX7_ice_31 (by decide) ?_
        refine lv_icmp_ne (tgt := 38) hx hb dX7_ice_33 (by decide) (fun c8 => ?_) (fun c8 => ?_)
        · have hw := hw.1 c8
          refine lv_aload_n hx hb dX7_ice_38 rfl (lv_at hl 0 rfl) ?_
          refine R_getP (C := RX7) (T := TX7) (N := 36) hx hb hts i8 hown hK hW 13 hw.1 (by decide) rfl (by decide) (hts (.fieldLink RX7 31 "BoatLiftModel" "iceFrom" "[I") (by decide +kernel)) (fun _ h => h) (fun _ _ _ => rfl) hw.2.1 dX7_ice_39 ?_
          have hw := hw.2.2
          refine lv_aload_n hx hb dX7_ice_42 rfl (lv_at hl 0 rfl) ?_
          refine R_getI (C := RX7) (T := TX7) (N := 36) hx hb hts i8 hown hK hW 8 hw.1 (by decide) rfl (by decide) (hts (.fieldLink RX7 120 "BoatLiftModel" "ices" "I") (by decide +kernel)) (fun _ h => h) (fun _ _ _ => rfl) dX7_ice_43 ?_
          have hw := hw.2
          refine lv_iload_n hx hb dX7_ice_46 rfl (lv_at hl 1 rfl) ?_
          refine R_iast hx hb hK hW hw.1 hw.2.1 dX7_ice_47 (fun H locs hW => ?_)
          obtain ⟨m9, em9⟩ : ∃ z, z = sI m5 (mP m5 v0 13) (mI m5 v0 8).toNatClampNeg v1 := ⟨_, rfl⟩
          rw [← em9] at hW
          have hw := hw.2.2 m9 em9
          refine lv_aload_n hx hb dX7_ice_48 rfl (lv_at hl 0 rfl) ?_
          refine R_getP (C := RX7) (T := TX7) (N := 36) hx hb hts i8 hown hK hW 14 hw.1 (by decide) rfl (by decide) (hts (.fieldLink RX7 34 "BoatLiftModel" "iceTo" "[I") (by decide +kernel)) (fun _ h => h) (fun _ _ _ => rfl) hw.2.1 dX7_ice_49 ?_
          have hw := hw.2.2
          refine lv_aload_n hx hb dX7_ice_52 rfl (lv_at hl 0 rfl) ?_
          refine R_getI (C := RX7) (T := TX7) (N := 36) hx hb hts i8 hown hK hW 8 hw.1 (by decide) rfl (by decide) (hts (.fieldLink RX7 120 "BoatLiftModel" "ices" "I") (by decide +kernel)) (fun _ h => h) (fun _ _ _ => rfl) dX7_ice_53 ?_
          have hw := hw.2
          refine lv_iload_n hx hb dX7_ice_56 rfl (lv_at hl 2 rfl) ?_
          refine R_iast hx hb hK hW hw.1 hw.2.1 dX7_ice_57 (fun H locs hW => ?_)
          obtain ⟨m10, em10⟩ : ∃ z, z = sI m9 (mP m9 v0 14) (mI m9 v0 8).toNatClampNeg v2 := ⟨_, rfl⟩
          rw [← em10] at hW
          have hw := hw.2.2 m10 em10
          refine lv_aload_n hx hb dX7_ice_58 rfl (lv_at hl 0 rfl) ?_
          refine lv_dup hx hb dX7_ice_59 rfl ?_
          refine R_getI (C := RX7) (T := TX7) (N := 36) hx hb hts i8 hown hK hW 8 hw.1 (by decide) rfl (by decide) (hts (.fieldLink RX7 120 "BoatLiftModel" "ices" "I") (by decide +kernel)) (fun _ h => h) (fun _ _ _ => rfl) dX7_ice_60 ?_
          have hw := hw.2
          refine lv_iconst (v := (1 : Int32)) hx hb dX7_ice_63 (by decide) ?_
          refine lv_iadd hx hb dX7_ice_64 ?_
          refine R_putI (C := RX7) (T := TX7) (N := 36) hx hb hts i8 tyX7 tyX7_ok nmX7 hown hK hW 8 hw.1 (by decide) rfl (by decide) (hts (.fieldLink RX7 120 "BoatLiftModel" "ices" "I") (by decide +kernel)) (fun _ h => h) (Or.inl rfl) rfl (fun _ _ _ => rfl) (fun _ _ _ => rfl) dX7_ice_65 (fun H locs hW => ?_)
          obtain ⟨m11, em11⟩ : ∃ z, z = sI m10 v0 8 ((mI m10 v0 8) + (1 : Int32)) := ⟨_, rfl⟩
          rw [← em11] at hW
          have hw := hw.2 m11 em11
          refine lv_iconst (v := (1 : Int32)) hx hb dX7_ice_68 (by decide) ?_
          exact R_zret hx hb hr hlk hW (Or.inr rfl) hw dX7_ice_69
        · have hw := hw.2 c8
          refine lv_iconst (v := (0 : Int32)) hx hb dX7_ice_36 (by decide) ?_
          exact R_zret hx hb hr hlk hW (Or.inl rfl) hw dX7_ice_37

def wp_X7_isIce_32 (K2 : Int32 → Mm → Prop) (v0 : Nat) (v1 : Int32) (v2 : Int32) (mm : Mm) (Φ : Int32 → Mm → Prop) : Prop :=
  K2 (v2 + (1 : Int32)) mm
def wp_X7_isIce_2 (K2 : Int32 → Mm → Prop) (v0 : Nat) (v1 : Int32) (v2 : Int32) (mm : Mm) (Φ : Int32 → Mm → Prop) : Prop :=
  mT mm v0 = 8 ∧ (((mI mm v0 8) ≤ v2 → Φ (0 : Int32) mm) ∧ (¬ (mI mm v0 8) ≤ v2 → mT mm v0 = 8 ∧ (mP mm v0 13) ≠ 0 ∧ mT mm (mP mm v0 13) = 9 ∧ vp_in v2 (mN mm (mP mm v0 13)) ∧ ((v1 < (mI mm (mP mm v0 13) v2.toNatClampNeg) → wp_X7_isIce_32 K2 v0 v1 v2 mm Φ) ∧ (¬ v1 < (mI mm (mP mm v0 13) v2.toNatClampNeg) → mT mm v0 = 8 ∧ (mP mm v0 14) ≠ 0 ∧ mT mm (mP mm v0 14) = 9 ∧ vp_in v2 (mN mm (mP mm v0 14)) ∧ (((mI mm (mP mm v0 14) v2.toNatClampNeg) ≤ v1 → wp_X7_isIce_32 K2 v0 v1 v2 mm Φ) ∧ (¬ (mI mm (mP mm v0 14) v2.toNatClampNeg) ≤ v1 → Φ (1 : Int32) mm))))))
def wp_X7_isIce (m0 : Mm) (v0 : Nat) (v1 : Int32) (Φ : Int32 → Mm → Prop) : Prop :=
  ∃ n, LOp (fun K x => wp_X7_isIce_2  (fun z0 z1 => K (z0, z1)) v0 v1 x.1 x.2 Φ) n ((0 : Int32), m0)
abbrev rm_X7_isIce : Room := { frames := 0, cells := 0, slots := 0, locals := 0 }
set_option maxHeartbeats 4000000 in
set_option maxRecDepth 100000 in
theorem c_X7_isIce (l : Launch) (g : Gv) (m0 : Mm) (v0 : Nat) (v1 : Int32) (Φ : Int32 → Mm → Prop) (hw : wp_X7_isIce m0 v0 v1 Φ) : Met l yX7_isIce wsX7_isIce rm_X7_isIce (PP g [.ref (ad g v0), .int v1] m0) (QQ g vI Φ) 0 0 (Ag g) := by
  refine CT_of (by decide +kernel) rfl (Nat.le_of_ble_eq_true rfl) ?_
  intro p e s m below meth c hx hb hr hml hown hts hlk hnm hK hW ls hl
  have hown : s.vm.findClass RX7 = some m.cls := hown
  have hl : lv_has ls 3 [(0, .ref (ad g v0)), (1, .int v1)] := hl
  have i8 : ∀ w ∈ u_ws RX7 TX7 36, w ∈ wsX7_isIce := by decide +kernel
  have L2 : ∀ (n : Nat) (v2 : Int32) (mm : Mm), LOp (fun K x => wp_X7_isIce_2  (fun z0 z1 => K (z0, z1)) v0 v1 x.1 x.2 Φ) n (v2, mm) → WW p l e rm_X7_isIce s m ([.ref (ad g v0), .int v1] : List Value).toArray below meth c (MQ below (QQ g vI Φ) ([.ref (ad g v0), .int v1] : List Value).toArray s 0 0 (Ag g)) g mm 3 0 0 2 [(0, .ref (ad g v0)), (1, .int v1), (2, .int v2)] [] := by
    intro  n
    induction n with
    | zero => intro v2 mm hw; exact hw.elim
    | succ n ih2 =>
      obtain ⟨K2, eK2⟩ : ∃ K : Int32 → Mm → Prop, K = fun v2 mm => LOp (fun K x => wp_X7_isIce_2  (fun z0 z1 => K (z0, z1)) v0 v1 x.1 x.2 Φ) n (v2, mm) := ⟨_, rfl⟩
      have ih2 : ∀ (v2 : Int32) (mm : Mm), K2 v2 mm → WW p l e rm_X7_isIce s m ([.ref (ad g v0), .int v1] : List Value).toArray below meth c (MQ below (QQ g vI Φ) ([.ref (ad g v0), .int v1] : List Value).toArray s 0 0 (Ag g)) g mm 3 0 0 2 [(0, .ref (ad g v0)), (1, .int v1), (2, .int v2)] [] := by rw [eK2]; exact ih2
      have B32 : ∀ (v2 : Int32) (mm : Mm), wp_X7_isIce_32 K2 v0 v1 v2 mm Φ → WW p l e rm_X7_isIce s m ([.ref (ad g v0), .int v1] : List Value).toArray below meth c (MQ below (QQ g vI Φ) ([.ref (ad g v0), .int v1] : List Value).toArray s 0 0 (Ag g)) g mm 3 0 0 32 [(0, .ref (ad g v0)), (1, .int v1), (2, .int v2)] [] := by
        intro v2 mm hw H locs ls hW hl
        unfold wp_X7_isIce_32 at hw
        refine lv_iinc (v := (v2 + (1 : Int32))) (lv' := [(2, .int (v2 + (1 : Int32))), (0, .ref (ad g v0)), (1, .int v1)]) hx hb dX7_isIce_32 hl (k := 2) rfl rfl (by decide) rfl (fun ls hl => ?_)
        refine lv_goto (tgt := 2) hx hb dX7_isIce_35 (by decide) ?_
        exact ih2 (v2 + (1 : Int32)) mm hw _ _ _ hW (lv_sub hl [1, 2, 0] rfl)
      intro v2 mm hw H locs ls hW hl
      have hw : wp_X7_isIce_2 K2 v0 v1 v2 mm Φ := by rw [eK2]; exact hw
      unfold wp_X7_isIce_2 at hw
      refine lv_iload_n hx hb dX7_isIce_2 rfl (lv_at hl 2 rfl) ?_
      refine lv_aload_n hx hb dX7_isIce_3 rfl (lv_at hl 0 rfl) ?_
      refine R_getI (C := RX7) (T := TX7) (N := 36) hx hb hts i8 hown hK hW 8 hw.1 (by decide) rfl (by decide) (hts (.fieldLink RX7 120 "BoatLiftModel" "ices" "I") (by decide +kernel)) (fun _ h => h) (fun _ _ _ => rfl) dX7_isIce_4 ?_
      have hw := hw.2
      refine lv_icmp_ge (tgt := 38) hx hb dX7_isIce_7 (by decide) (fun c1 => ?_) (fun c1 => ?_)
      · have hw := hw.1 c1
        refine lv_iconst (v := (0 : Int32)) hx hb dX7_isIce_38 (by decide) ?_
        exact R_zret hx hb hr hlk hW (Or.inl rfl) hw dX7_isIce_39
      · have hw := hw.2 c1
        refine lv_iload_n hx hb dX7_isIce_10 rfl (lv_at hl 1 rfl) ?_
        refine lv_aload_n hx hb dX7_isIce_11 rfl (lv_at hl 0 rfl) ?_
        refine R_getP (C := RX7) (T := TX7) (N := 36) hx hb hts i8 hown hK hW 13 hw.1 (by decide) rfl (by decide) (hts (.fieldLink RX7 31 "BoatLiftModel" "iceFrom" "[I") (by decide +kernel)) (fun _ h => h) (fun _ _ _ => rfl) hw.2.1 dX7_isIce_12 ?_
        have hw := hw.2.2
        refine lv_iload_n hx hb dX7_isIce_15 rfl (lv_at hl 2 rfl) ?_
        refine R_iald hx hb hK hW hw.1 hw.2.1 dX7_isIce_16 ?_
        have hw := hw.2.2
        refine lv_icmp_lt (tgt := 32) hx hb dX7_isIce_17 (by decide) (fun c2 => ?_) (fun c2 => ?_)
        · have hw := hw.1 c2
          exact B32 v2 mm hw _ _ _ hW (lv_sub hl [0, 1, 2] rfl)
        · have hw := hw.2 c2
          refine lv_iload_n hx hb dX7_isIce_20 rfl (lv_at hl 1 rfl) ?_
          refine lv_aload_n hx hb dX7_isIce_21 rfl (lv_at hl 0 rfl) ?_
          refine R_getP (C := RX7) (T := TX7) (N := 36) hx hb hts i8 hown hK hW 14 hw.1 (by decide) rfl (by decide) (hts (.fieldLink RX7 34 "BoatLiftModel" "iceTo" "[I") (by decide +kernel)) (fun _ h => h) (fun _ _ _ => rfl) hw.2.1 dX7_isIce_22 ?_
          have hw := hw.2.2
          refine lv_iload_n hx hb dX7_isIce_25 rfl (lv_at hl 2 rfl) ?_
          refine R_iald hx hb hK hW hw.1 hw.2.1 dX7_isIce_26 ?_
          have hw := hw.2.2
          refine lv_icmp_ge (tgt := 32) hx hb dX7_isIce_27 (by decide) (fun c3 => ?_) (fun c3 => ?_)
          · have hw := hw.1 c3
            exact B32 v2 mm hw _ _ _ hW (lv_sub hl [0, 1, 2] rfl)
          · have hw := hw.2 c3
            refine lv_iconst (v := (1 : Int32)) hx hb dX7_isIce_30 (by decide) ?_
            exact R_zret hx hb hr hlk hW (Or.inr rfl) hw dX7_isIce_31
  unfold wp_X7_isIce at hw
  refine lv_iconst (v := (0 : Int32)) hx hb dX7_isIce_0 (by decide) ?_
  refine lv_istore_n (lv' := [(2, .int (0 : Int32)), (0, .ref (ad g v0)), (1, .int v1)]) hx hb dX7_isIce_1 rfl hl (by decide) rfl (fun ls hl => ?_)
  obtain ⟨n, hw⟩ := hw
  exact L2  n (0 : Int32) m0 hw _ _ _ hW (lv_sub hl [1, 2, 0] rfl)

def wp_X7_lasts (m0 : Mm) (v0 : Nat) (v1 : Int32) (Φ : Int32 → Mm → Prop) : Prop :=
  mT m0 v0 = 8 ∧ (mP m0 v0 9) ≠ 0 ∧ mT m0 (mP m0 v0 9) = 9 ∧ vp_in (0 : Int32) (mN m0 (mP m0 v0 9)) ∧ mT m0 v0 = 8 ∧ (mP m0 v0 9) ≠ 0 ∧ mT m0 (mP m0 v0 9) = 9 ∧ vp_in (1 : Int32) (mN m0 (mP m0 v0 9)) ∧ mT m0 v0 = 8 ∧ wp_X7_isIce m0 v0 v1 (fun (r1 : Int32) (m2 : Mm) => ((r1 = 0 → Φ (((mI m0 (mP m0 v0 9) (0 : Int32).toNatClampNeg) + ((2 : Int32) * (mI m0 (mP m0 v0 9) (1 : Int32).toNatClampNeg))) + (0 : Int32)) m2) ∧ (¬ r1 = 0 → mT m2 v0 = 8 ∧ (mP m2 v0 9) ≠ 0 ∧ mT m2 (mP m2 v0 9) = 9 ∧ vp_in (2 : Int32) (mN m2 (mP m2 v0 9)) ∧ Φ (((mI m0 (mP m0 v0 9) (0 : Int32).toNatClampNeg) + ((2 : Int32) * (mI m0 (mP m0 v0 9) (1 : Int32).toNatClampNeg))) + (mI m2 (mP m2 v0 9) (2 : Int32).toNatClampNeg)) m2)))
abbrev rm_X7_lasts : Room := { frames := 1, cells := 0, slots := 0, locals := 22 }
set_option maxHeartbeats 4000000 in
set_option maxRecDepth 100000 in
theorem c_X7_lasts (l : Launch) (g : Gv) (m0 : Mm) (v0 : Nat) (v1 : Int32) (Φ : Int32 → Mm → Prop) (hw : wp_X7_lasts m0 v0 v1 Φ) : Met l yX7_lasts wsX7_lasts rm_X7_lasts (PP g [.ref (ad g v0), .int v1] m0) (QQ g vI Φ) 0 0 (Ag g) := by
  refine CT_of (by decide +kernel) rfl (Nat.le_of_ble_eq_true rfl) ?_
  intro p e s m below meth c hx hb hr hml hown hts hlk hnm hK hW ls hl
  have hown : s.vm.findClass RX7 = some m.cls := hown
  have hl : lv_has ls 2 [(0, .ref (ad g v0)), (1, .int v1)] := hl
  have i8 : ∀ w ∈ u_ws RX7 TX7 36, w ∈ wsX7_lasts := by decide +kernel
  unfold wp_X7_lasts at hw
  refine lv_aload_n hx hb dX7_lasts_0 rfl (lv_at hl 0 rfl) ?_
  refine R_getP (C := RX7) (T := TX7) (N := 36) hx hb hts i8 hown hK hW 9 hw.1 (by decide) rfl (by decide) (hts (.fieldLink RX7 17 "BoatLiftModel" "law" "[I") (by decide +kernel)) (fun _ h => h) (fun _ _ _ => rfl) hw.2.1 dX7_lasts_1 ?_
  have hw := hw.2.2
  refine lv_iconst (v := (0 : Int32)) hx hb dX7_lasts_4 (by decide) ?_
  refine R_iald hx hb hK hW hw.1 hw.2.1 dX7_lasts_5 ?_
  have hw := hw.2.2
  refine lv_iconst (v := (2 : Int32)) hx hb dX7_lasts_6 (by decide) ?_
  refine lv_aload_n hx hb dX7_lasts_7 rfl (lv_at hl 0 rfl) ?_
  refine R_getP (C := RX7) (T := TX7) (N := 36) hx hb hts i8 hown hK hW 9 hw.1 (by decide) rfl (by decide) (hts (.fieldLink RX7 17 "BoatLiftModel" "law" "[I") (by decide +kernel)) (fun _ h => h) (fun _ _ _ => rfl) hw.2.1 dX7_lasts_8 ?_
  have hw := hw.2.2
  refine lv_iconst (v := (1 : Int32)) hx hb dX7_lasts_11 (by decide) ?_
  refine R_iald hx hb hK hW hw.1 hw.2.1 dX7_lasts_12 ?_
  have hw := hw.2.2
  refine lv_imul hx hb dX7_lasts_13 ?_
  refine lv_iadd hx hb dX7_lasts_14 ?_
  refine lv_aload_n hx hb dX7_lasts_15 rfl (lv_at hl 0 rfl) ?_
  refine lv_iload_n hx hb dX7_lasts_16 rfl (lv_at hl 1 rfl) ?_
  refine R_call (va_runV (As := [.int v1]) (rest := [.int ((mI m0 (mP m0 v0 9) (0 : Int32).toNatClampNeg) + ((2 : Int32) * (mI m0 (mP m0 v0 9) (1 : Int32).toNatClampNeg)))]) ⟨hx, hb, hml, hown, hts⟩ (c_X7_isIce l g m0 v0 v1 _ hw.2) (cwV 1 hts gX7_lasts_X7_isIce rfl rfl rfl (by decide +kernel) ⟨by decide, by decide⟩) (PP.preV (q := (RX7, TX7, 36)) hK hW hw.1 (by decide) rfl) rfl rfl hl.1 rfl (lv_room (Nat.le_of_ble_eq_true rfl)) dX7_lasts_17 ⟨by decide, by decide⟩) hW (fun r1 m2 H locs hw hW => ?_)
  refine W.eq (g2 := F0 m 20 ls [.int r1, .int ((mI m0 (mP m0 v0 9) (0 : Int32).toNatClampNeg) + ((2 : Int32) * (mI m0 (mP m0 v0 9) (1 : Int32).toNatClampNeg)))]) rfl ?_
  refine lv_if_eq (tgt := 32) hx hb dX7_lasts_20 (by decide) (fun c3 => ?_) (fun c3 => ?_)
  · have hw := hw.1 c3
    refine lv_iconst (v := (0 : Int32)) hx hb dX7_lasts_32 (by decide) ?_
    refine lv_iadd hx hb dX7_lasts_33 ?_
    exact R_iret hx hb hr hlk hW hw dX7_lasts_34
  · have hw := hw.2 c3
    refine lv_aload_n hx hb dX7_lasts_23 rfl (lv_at hl 0 rfl) ?_
    refine R_getP (C := RX7) (T := TX7) (N := 36) hx hb hts i8 hown hK hW 9 hw.1 (by decide) rfl (by decide) (hts (.fieldLink RX7 17 "BoatLiftModel" "law" "[I") (by decide +kernel)) (fun _ h => h) (fun _ _ _ => rfl) hw.2.1 dX7_lasts_24 ?_
    have hw := hw.2.2
    refine lv_iconst (v := (2 : Int32)) hx hb dX7_lasts_27 (by decide) ?_
    refine R_iald hx hb hK hW hw.1 hw.2.1 dX7_lasts_28 ?_
    have hw := hw.2.2
    refine lv_goto (tgt := 33) hx hb dX7_lasts_29 (by decide) ?_
    refine lv_iadd hx hb dX7_lasts_33 ?_
    exact R_iret hx hb hr hlk hW hw dX7_lasts_34

def wp_X7_boat (m0 : Mm) (v0 : Nat) (v1 : Int32) (v2 : Int32) (v3 : Int32) (v4 : Int32) (v5 : Int32) (v6 : Int32) (Φ : Int32 → Mm → Prop) : Prop :=
  wp_X7_isSide m0 v1 (fun (r1 : Int32) (m2 : Mm) => ((r1 = 0 → Φ (-1 : Int32) m2) ∧ (¬ r1 = 0 → wp_X7_lies m2 v2 (0 : Int32) (20000 : Int32) (fun (r4 : Int32) (m5 : Mm) => ((r4 = 0 → Φ (-1 : Int32) m5) ∧ (¬ r4 = 0 → wp_X7_lies m5 v3 (1 : Int32) (100 : Int32) (fun (r7 : Int32) (m8 : Mm) => ((r7 = 0 → Φ (-1 : Int32) m8) ∧ (¬ r7 = 0 → wp_X7_lies m8 v4 (1 : Int32) (40 : Int32) (fun (r10 : Int32) (m11 : Mm) => ((r10 = 0 → Φ (-1 : Int32) m11) ∧ (¬ r10 = 0 → wp_X7_lies m11 v5 (1 : Int32) (2000 : Int32) (fun (r13 : Int32) (m14 : Mm) => ((r13 = 0 → Φ (-1 : Int32) m14) ∧ (¬ r13 = 0 → wp_X7_lies m14 v6 (0 : Int32) (3 : Int32) (fun (r16 : Int32) (m17 : Mm) => ((r16 = 0 → Φ (-1 : Int32) m17) ∧ (¬ r16 = 0 → mT m17 v0 = 8 ∧ ((¬ (mI m17 v0 7) = (16 : Int32) → mT m17 v0 = 8 ∧ (mP m17 v0 15) ≠ 0 ∧ mT m17 v0 = 8 ∧ mT m17 (mP m17 v0 15) = 9 ∧ vp_in (mI m17 v0 7) (mN m17 (mP m17 v0 15)) ∧ ∀ m20 : Mm, m20 = sI m17 (mP m17 v0 15) (mI m17 v0 7).toNatClampNeg v1 → mT m20 v0 = 8 ∧ (mP m20 v0 16) ≠ 0 ∧ mT m20 v0 = 8 ∧ mT m20 (mP m20 v0 16) = 9 ∧ vp_in (mI m20 v0 7) (mN m20 (mP m20 v0 16)) ∧ ∀ m21 : Mm, m21 = sI m20 (mP m20 v0 16) (mI m20 v0 7).toNatClampNeg v2 → mT m21 v0 = 8 ∧ (mP m21 v0 17) ≠ 0 ∧ mT m21 v0 = 8 ∧ mT m21 (mP m21 v0 17) = 9 ∧ vp_in (mI m21 v0 7) (mN m21 (mP m21 v0 17)) ∧ ∀ m22 : Mm, m22 = sI m21 (mP m21 v0 17) (mI m21 v0 7).toNatClampNeg v3 → mT m22 v0 = 8 ∧ (mP m22 v0 18) ≠ 0 ∧ mT m22 v0 = 8 ∧ mT m22 (mP m22 v0 18) = 9 ∧ vp_in (mI m22 v0 7) (mN m22 (mP m22 v0 18)) ∧ ∀ m23 : Mm, m23 = sI m22 (mP m22 v0 18) (mI m22 v0 7).toNatClampNeg v4 → mT m23 v0 = 8 ∧ (mP m23 v0 19) ≠ 0 ∧ mT m23 v0 = 8 ∧ mT m23 (mP m23 v0 19) = 9 ∧ vp_in (mI m23 v0 7) (mN m23 (mP m23 v0 19)) ∧ ∀ m24 : Mm, m24 = sI m23 (mP m23 v0 19) (mI m23 v0 7).toNatClampNeg v5 → mT m24 v0 = 8 ∧ (mP m24 v0 20) ≠ 0 ∧ mT m24 v0 = 8 ∧ mT m24 (mP m24 v0 20) = 9 ∧ vp_in (mI m24 v0 7) (mN m24 (mP m24 v0 20)) ∧ ∀ m25 : Mm, m25 = sI m24 (mP m24 v0 20) (mI m24 v0 7).toNatClampNeg v6 → mT m25 v0 = 8 ∧ (mP m25 v0 21) ≠ 0 ∧ mT m25 v0 = 8 ∧ mT m25 (mP m25 v0 21) = 9 ∧ vp_in (mI m25 v0 7) (mN m25 (mP m25 v0 21)) ∧ ∀ m26 : Mm, m26 = sI m25 (mP m25 v0 21) (mI m25 v0 7).toNatClampNeg (-1 : Int32) → mT m26 v0 = 8 ∧ mT m26 v0 = 8 ∧ ∀ m27 : Mm, m27 = sI m26 v0 7 ((mI m26 v0 7) + (1 : Int32)) → mT m27 v0 = 8 ∧ Φ ((mI m27 v0 7) - (1 : Int32)) m27) ∧ ((mI m17 v0 7) = (16 : Int32) → Φ (-1 : Int32) m17))))))))))))))))))))
abbrev rm_X7_boat : Room := { frames := 2, cells := 0, slots := 0, locals := 42 }
set_option maxHeartbeats 4000000 in
set_option maxRecDepth 100000 in
theorem c_X7_boat (l : Launch) (g : Gv) (m0 : Mm) (v0 : Nat) (v1 : Int32) (v2 : Int32) (v3 : Int32) (v4 : Int32) (v5 : Int32) (v6 : Int32) (Φ : Int32 → Mm → Prop) (hw : wp_X7_boat m0 v0 v1 v2 v3 v4 v5 v6 Φ) : Met l yX7_boat wsX7_boat rm_X7_boat (PP g [.ref (ad g v0), .int v1, .int v2, .int v3, .int v4, .int v5, .int v6] m0) (QQ g vI Φ) 0 0 (Ag g) := by
  refine CT_of (by decide +kernel) rfl (Nat.le_of_ble_eq_true rfl) ?_
  intro p e s m below meth c hx hb hr hml hown hts hlk hnm hK hW ls hl
  have hown : s.vm.findClass RX7 = some m.cls := hown
  have hl : lv_has ls 7 [(0, .ref (ad g v0)), (1, .int v1), (2, .int v2), (3, .int v3), (4, .int v4), (5, .int v5), (6, .int v6)] := hl
  have i8 : ∀ w ∈ u_ws RX7 TX7 36, w ∈ wsX7_boat := by decide +kernel
  unfold wp_X7_boat at hw
  refine lv_iload_n hx hb dX7_boat_0 rfl (lv_at hl 1 rfl) ?_
  refine R_call (va_runS (As := [.int v1]) (rest := []) ⟨hx, hb, hml, hown, hts⟩ (c_X7_isSide l g m0 v1 _ hw) (va_cwS 1 hts gX7_boat_X7_isSide rfl rfl rfl (by decide +kernel) ⟨by decide, by decide⟩) (PP.pre hK hW) rfl rfl hl.1 rfl (lv_room (Nat.le_of_ble_eq_true rfl)) dX7_boat_1 ⟨by decide, by decide⟩) hW (fun r1 m2 H locs hw hW => ?_)
  refine W.eq (g2 := F0 m 4 ls [.int r1]) rfl ?_
  refine lv_if_eq (tgt := 70) hx hb dX7_boat_4 (by decide) (fun c3 => ?_) (fun c3 => ?_)
  · have hw := hw.1 c3
    refine lv_iconst (v := (-1 : Int32)) hx hb dX7_boat_70 (by decide) ?_
    exact R_iret hx hb hr hlk hW hw dX7_boat_71
  · have hw := hw.2 c3
    refine lv_iload_n hx hb dX7_boat_7 rfl (lv_at hl 2 rfl) ?_
    refine lv_iconst (v := (0 : Int32)) hx hb dX7_boat_8 (by decide) ?_
    refine lv_sipush (v := (20000 : Int32)) hx hb dX7_boat_9 (by decide) ?_
    refine R_call (va_runS (As := [.int v2, .int (0 : Int32), .int (20000 : Int32)]) (rest := []) ⟨hx, hb, hml, hown, hts⟩ (c_X7_lies l g m2 v2 (0 : Int32) (20000 : Int32) _ hw) (va_cwS 3 hts gX7_boat_X7_lies rfl rfl rfl (by decide +kernel) ⟨by decide, by decide⟩) (PP.pre hK hW) rfl rfl hl.1 rfl (lv_room (Nat.le_of_ble_eq_true rfl)) dX7_boat_12 ⟨by decide, by decide⟩) hW (fun r4 m5 H locs hw hW => ?_)
    refine W.eq (g2 := F0 m 15 ls [.int r4]) rfl ?_
    refine lv_if_eq (tgt := 70) hx hb dX7_boat_15 (by decide) (fun c6 => ?_) (fun c6 => ?_)
    · have hw := hw.1 c6
      refine lv_iconst (v := (-1 : Int32)) hx hb dX7_boat_70 (by decide) ?_
      exact R_iret hx hb hr hlk hW hw dX7_boat_71
    · have hw := hw.2 c6
      refine lv_iload_n hx hb dX7_boat_18 rfl (lv_at hl 3 rfl) ?_
      refine lv_iconst (v := (1 : Int32)) hx hb dX7_boat_19 (by decide) ?_
      refine lv_bipush (v := (100 : Int32)) hx hb dX7_boat_20 (by decide) ?_
      refine R_call (va_runS (As := [.int v3, .int (1 : Int32), .int (100 : Int32)]) (rest := []) ⟨hx, hb, hml, hown, hts⟩ (c_X7_lies l g m5 v3 (1 : Int32) (100 : Int32) _ hw) (va_cwS 3 hts gX7_boat_X7_lies rfl rfl rfl (by decide +kernel) ⟨by decide, by decide⟩) (PP.pre hK hW) rfl rfl hl.1 rfl (lv_room (Nat.le_of_ble_eq_true rfl)) dX7_boat_22 ⟨by decide, by decide⟩) hW (fun r7 m8 H locs hw hW => ?_)
      refine W.eq (g2 := F0 m 25 ls [.int r7]) rfl ?_
      refine lv_if_eq (tgt := 70) hx hb dX7_boat_25 (by decide) (fun c9 => ?_) (fun c9 => ?_)
      · have hw := hw.1 c9
        refine lv_iconst (v := (-1 : Int32)) hx hb dX7_boat_70 (by decide) ?_
        exact R_iret hx hb hr hlk hW hw dX7_boat_71
      · have hw := hw.2 c9
        refine lv_iload hx hb dX7_boat_28 (lv_at hl 4 rfl) ?_
        refine lv_iconst (v := (1 : Int32)) hx hb dX7_boat_30 (by decide) ?_
        refine lv_bipush (v := (40 : Int32)) hx hb dX7_boat_31 (by decide) ?_
        refine R_call (va_runS (As := [.int v4, .int (1 : Int32), .int (40 : Int32)]) (rest := []) ⟨hx, hb, hml, hown, hts⟩ (c_X7_lies l g m8 v4 (1 : Int32) (40 : Int32) _ hw) (va_cwS 3 hts gX7_boat_X7_lies rfl rfl rfl (by decide +kernel) ⟨by decide, by decide⟩) (PP.pre hK hW) rfl rfl hl.1 rfl (lv_room (Nat.le_of_ble_eq_true rfl)) dX7_boat_33 ⟨by decide, by decide⟩) hW (fun r10 m11 H locs hw hW => ?_)
        refine W.eq (g2 := F0 m 36 ls [.int r10]) rfl ?_
        refine lv_if_eq (tgt := 70) hx hb dX7_boat_36 (by decide) (fun c12 => ?_) (fun c12 => ?_)
        · have hw := hw.1 c12
          refine lv_iconst (v := (-1 : Int32)) hx hb dX7_boat_70 (by decide) ?_
          exact R_iret hx hb hr hlk hW hw dX7_boat_71
        · have hw := hw.2 c12
          refine lv_iload hx hb dX7_boat_39 (lv_at hl 5 rfl) ?_
          refine lv_iconst (v := (1 : Int32)) hx hb dX7_boat_41 (by decide) ?_
          refine lv_sipush (v := (2000 : Int32)) hx hb dX7_boat_42 (by decide) ?_
          refine R_call (va_runS (As := [.int v5, .int (1 : Int32), .int (2000 : Int32)]) (rest := []) ⟨hx, hb, hml, hown, hts⟩ (c_X7_lies l g m11 v5 (1 : Int32) (2000 : Int32) _ hw) (va_cwS 3 hts gX7_boat_X7_lies rfl rfl rfl (by decide +kernel) ⟨by decide, by decide⟩) (PP.pre hK hW) rfl rfl hl.1 rfl (lv_room (Nat.le_of_ble_eq_true rfl)) dX7_boat_45 ⟨by decide, by decide⟩) hW (fun r13 m14 H locs hw hW => ?_)
          refine W.eq (g2 := F0 m 48 ls [.int r13]) rfl ?_
          refine lv_if_eq (tgt := 70) hx hb dX7_boat_48 (by decide) (fun c15 => ?_) (fun c15 => ?_)
          · have hw := hw.1 c15
            refine lv_iconst (v := (-1 : Int32)) hx hb dX7_boat_70 (by decide) ?_
            exact R_iret hx hb hr hlk hW hw dX7_boat_71
          · have hw := hw.2 c15
            refine lv_iload hx hb dX7_boat_51 (lv_at hl 6 rfl) ?_
            refine lv_iconst (v := (0 : Int32)) hx hb dX7_boat_53 (by decide) ?_
            refine lv_iconst (v := (3 : Int32)) hx hb dX7_boat_54 (by decide) ?_
            refine R_call (va_runS (As := [.int v6, .int (0 : Int32), .int (3 : Int32)]) (rest := []) ⟨hx, hb, hml, hown, hts⟩ (c_X7_lies l g m14 v6 (0 : Int32) (3 : Int32) _ hw) (va_cwS 3 hts gX7_boat_X7_lies rfl rfl rfl (by decide +kernel) ⟨by decide, by decide⟩) (PP.pre hK hW) rfl rfl hl.1 rfl (lv_room (Nat.le_of_ble_eq_true rfl)) dX7_boat_55 ⟨by decide, by decide⟩) hW (fun r16 m17 H locs hw hW => ?_)
            refine W.eq (g2 := F0 m 58 ls [.int r16]) rfl ?_
            refine lv_if_eq (tgt := 70) hx hb dX7_boat_58 (by decide) (fun c18 => ?_) (fun c18 => ?_)
            · have hw := hw.1 c18
              refine lv_iconst (v := (-1 : Int32)) hx hb dX7_boat_70 (by decide) ?_
              exact R_iret hx hb hr hlk hW hw dX7_boat_71
            · have hw := hw.2 c18
              refine lv_aload_n hx hb dX7_boat_61 rfl (lv_at hl 0 rfl) ?_
              refine R_getI (C := RX7) (T := TX7) (N := 36) hx hb hts i8 hown hK hW 7 hw.1 (by decide) rfl (by decide) (hts (.fieldLink RX7 126 "BoatLiftModel" "boats" "I") (by decide +kernel)) (fun _ h => h) (fun _ _ _ => rfl) dX7_boat_62 ?_
              have hw := hw.2
              refine lv_bipush (v := (16 : Int32)) hx hb dX7_boat_65 (by decide) ?_
              refine lv_icmp_ne (tgt := 72) hx hb dX7_boat_67 (by decide) (fun c19 => ?_) (fun c19 => ?_)
              · have hw := hw.1 c19
                refine lv_aload_n hx hb dX7_boat_72 rfl (lv_at hl 0 rfl) ?_
                refine R_getP (C := RX7) (T := TX7) (N := 36) hx hb hts i8 hown hK hW 15 hw.1 (by decide) rfl (by decide) (hts (.fieldLink RX7 37 "BoatLiftModel" "at" "[I") (by decide +kernel)) (fun _ h => h) (fun _ _ _ => rfl) hw.2.1 dX7_boat_73 ?_
                have hw := hw.2.2
                refine lv_aload_n hx hb dX7_boat_76 rfl (lv_at hl 0 rfl) ?_
                refine R_getI (C := RX7) (T := TX7) (N := 36) hx hb hts i8 hown hK hW 7 hw.1 (by decide) rfl (by decide) (hts (.fieldLink RX7 126 "BoatLiftModel" "boats" "I") (by decide +kernel)) (fun _ h => h) (fun _ _ _ => rfl) dX7_boat_77 ?_
                have hw := hw.2
                refine lv_iload_n hx hb dX7_boat_80 rfl (lv_at hl 1 rfl) ?_
                refine R_iast hx hb hK hW hw.1 hw.2.1 dX7_boat_81 (fun H locs hW => ?_)
                obtain ⟨m20, em20⟩ : ∃ z, z = sI m17 (mP m17 v0 15) (mI m17 v0 7).toNatClampNeg v1 := ⟨_, rfl⟩
                rw [← em20] at hW
                have hw := hw.2.2 m20 em20
                refine lv_aload_n hx hb dX7_boat_82 rfl (lv_at hl 0 rfl) ?_
                refine R_getP (C := RX7) (T := TX7) (N := 36) hx hb hts i8 hown hK hW 16 hw.1 (by decide) rfl (by decide) (hts (.fieldLink RX7 40 "BoatLiftModel" "there" "[I") (by decide +kernel)) (fun _ h => h) (fun _ _ _ => rfl) hw.2.1 dX7_boat_83 ?_
                have hw := hw.2.2
                refine lv_aload_n hx hb dX7_boat_86 rfl (lv_at hl 0 rfl) ?_
                refine R_getI (C := RX7) (T := TX7) (N := 36) hx hb hts i8 hown hK hW 7 hw.1 (by decide) rfl (by decide) (hts (.fieldLink RX7 126 "BoatLiftModel" "boats" "I") (by decide +kernel)) (fun _ h => h) (fun _ _ _ => rfl) dX7_boat_87 ?_
                have hw := hw.2
                refine lv_iload_n hx hb dX7_boat_90 rfl (lv_at hl 2 rfl) ?_
                refine R_iast hx hb hK hW hw.1 hw.2.1 dX7_boat_91 (fun H locs hW => ?_)
                obtain ⟨m21, em21⟩ : ∃ z, z = sI m20 (mP m20 v0 16) (mI m20 v0 7).toNatClampNeg v2 := ⟨_, rfl⟩
                rw [← em21] at hW
                have hw := hw.2.2 m21 em21
                refine lv_aload_n hx hb dX7_boat_92 rfl (lv_at hl 0 rfl) ?_
                refine R_getP (C := RX7) (T := TX7) (N := 36) hx hb hts i8 hown hK hW 17 hw.1 (by decide) rfl (by decide) (hts (.fieldLink RX7 43 "BoatLiftModel" "size" "[I") (by decide +kernel)) (fun _ h => h) (fun _ _ _ => rfl) hw.2.1 dX7_boat_93 ?_
                have hw := hw.2.2
                refine lv_aload_n hx hb dX7_boat_96 rfl (lv_at hl 0 rfl) ?_
                refine R_getI (C := RX7) (T := TX7) (N := 36) hx hb hts i8 hown hK hW 7 hw.1 (by decide) rfl (by decide) (hts (.fieldLink RX7 126 "BoatLiftModel" "boats" "I") (by decide +kernel)) (fun _ h => h) (fun _ _ _ => rfl) dX7_boat_97 ?_
                have hw := hw.2
                refine lv_iload_n hx hb dX7_boat_100 rfl (lv_at hl 3 rfl) ?_
                refine R_iast hx hb hK hW hw.1 hw.2.1 dX7_boat_101 (fun H locs hW => ?_)
                obtain ⟨m22, em22⟩ : ∃ z, z = sI m21 (mP m21 v0 17) (mI m21 v0 7).toNatClampNeg v3 := ⟨_, rfl⟩
                rw [← em22] at hW
                have hw := hw.2.2 m22 em22
                refine lv_aload_n hx hb dX7_boat_102 rfl (lv_at hl 0 rfl) ?_
                refine R_getP (C := RX7) (T := TX7) (N := 36) hx hb hts i8 hown hK hW 18 hw.1 (by decide) rfl (by decide) (hts (.fieldLink RX7 46 "BoatLiftModel" "draught" "[I") (by decide +kernel)) (fun _ h => h) (fun _ _ _ => rfl) hw.2.1 dX7_boat_103 ?_
                have hw := hw.2.2
                refine lv_aload_n hx hb dX7_boat_106 rfl (lv_at hl 0 rfl) ?_
                refine R_getI (C := RX7) (T := TX7) (N := 36) hx hb hts i8 hown hK hW 7 hw.1 (by decide) rfl (by decide) (hts (.fieldLink RX7 126 "BoatLiftModel" "boats" "I") (by decide +kernel)) (fun _ h => h) (fun _ _ _ => rfl) dX7_boat_107 ?_
                have hw := hw.2
                refine lv_iload hx hb dX7_boat_110 (lv_at hl 4 rfl) ?_
                refine R_iast hx hb hK hW hw.1 hw.2.1 dX7_boat_112 (fun H locs hW => ?_)
                obtain ⟨m23, em23⟩ : ∃ z, z = sI m22 (mP m22 v0 18) (mI m22 v0 7).toNatClampNeg v4 := ⟨_, rfl⟩
                rw [← em23] at hW
                have hw := hw.2.2 m23 em23
                refine lv_aload_n hx hb dX7_boat_113 rfl (lv_at hl 0 rfl) ?_
                refine R_getP (C := RX7) (T := TX7) (N := 36) hx hb hts i8 hown hK hW 19 hw.1 (by decide) rfl (by decide) (hts (.fieldLink RX7 49 "BoatLiftModel" "weight" "[I") (by decide +kernel)) (fun _ h => h) (fun _ _ _ => rfl) hw.2.1 dX7_boat_114 ?_
                have hw := hw.2.2
                refine lv_aload_n hx hb dX7_boat_117 rfl (lv_at hl 0 rfl) ?_
                refine R_getI (C := RX7) (T := TX7) (N := 36) hx hb hts i8 hown hK hW 7 hw.1 (by decide) rfl (by decide) (hts (.fieldLink RX7 126 "BoatLiftModel" "boats" "I") (by decide +kernel)) (fun _ h => h) (fun _ _ _ => rfl) dX7_boat_118 ?_
                have hw := hw.2
                refine lv_iload hx hb dX7_boat_121 (lv_at hl 5 rfl) ?_
                refine R_iast hx hb hK hW hw.1 hw.2.1 dX7_boat_123 (fun H locs hW => ?_)
                obtain ⟨m24, em24⟩ : ∃ z, z = sI m23 (mP m23 v0 19) (mI m23 v0 7).toNatClampNeg v5 := ⟨_, rfl⟩
                rw [← em24] at hW
                have hw := hw.2.2 m24 em24
                refine lv_aload_n hx hb dX7_boat_124 rfl (lv_at hl 0 rfl) ?_
                refine R_getP (C := RX7) (T := TX7) (N := 36) hx hb hts i8 hown hK hW 20 hw.1 (by decide) rfl (by decide) (hts (.fieldLink RX7 52 "BoatLiftModel" "rank" "[I") (by decide +kernel)) (fun _ h => h) (fun _ _ _ => rfl) hw.2.1 dX7_boat_125 ?_
                have hw := hw.2.2
                refine lv_aload_n hx hb dX7_boat_128 rfl (lv_at hl 0 rfl) ?_
                refine R_getI (C := RX7) (T := TX7) (N := 36) hx hb hts i8 hown hK hW 7 hw.1 (by decide) rfl (by decide) (hts (.fieldLink RX7 126 "BoatLiftModel" "boats" "I") (by decide +kernel)) (fun _ h => h) (fun _ _ _ => rfl) dX7_boat_129 ?_
                have hw := hw.2
                refine lv_iload hx hb dX7_boat_132 (lv_at hl 6 rfl) ?_
                refine R_iast hx hb hK hW hw.1 hw.2.1 dX7_boat_134 (fun H locs hW => ?_)
                obtain ⟨m25, em25⟩ : ∃ z, z = sI m24 (mP m24 v0 20) (mI m24 v0 7).toNatClampNeg v6 := ⟨_, rfl⟩
                rw [← em25] at hW
                have hw := hw.2.2 m25 em25
                refine lv_aload_n hx hb dX7_boat_135 rfl (lv_at hl 0 rfl) ?_
                refine R_getP (C := RX7) (T := TX7) (N := 36) hx hb hts i8 hown hK hW 21 hw.1 (by decide) rfl (by decide) (hts (.fieldLink RX7 55 "BoatLiftModel" "began" "[I") (by decide +kernel)) (fun _ h => h) (fun _ _ _ => rfl) hw.2.1 dX7_boat_136 ?_
                have hw := hw.2.2
                refine lv_aload_n hx hb dX7_boat_139 rfl (lv_at hl 0 rfl) ?_
                refine R_getI (C := RX7) (T := TX7) (N := 36) hx hb hts i8 hown hK hW 7 hw.1 (by decide) rfl (by decide) (hts (.fieldLink RX7 126 "BoatLiftModel" "boats" "I") (by decide +kernel)) (fun _ h => h) (fun _ _ _ => rfl) dX7_boat_140 ?_
                have hw := hw.2
                refine lv_iconst (v := (-1 : Int32)) hx hb dX7_boat_143 (by decide) ?_
                refine R_iast hx hb hK hW hw.1 hw.2.1 dX7_boat_144 (fun H locs hW => ?_)
                obtain ⟨m26, em26⟩ : ∃ z, z = sI m25 (mP m25 v0 21) (mI m25 v0 7).toNatClampNeg (-1 : Int32) := ⟨_, rfl⟩
                rw [← em26] at hW
                have hw := hw.2.2 m26 em26
                refine lv_aload_n hx hb dX7_boat_145 rfl (lv_at hl 0 rfl) ?_
                refine lv_dup hx hb dX7_boat_146 rfl ?_
                refine R_getI (C := RX7) (T := TX7) (N := 36) hx hb hts i8 hown hK hW 7 hw.1 (by decide) rfl (by decide) (hts (.fieldLink RX7 126 "BoatLiftModel" "boats" "I") (by decide +kernel)) (fun _ h => h) (fun _ _ _ => rfl) dX7_boat_147 ?_
                have hw := hw.2
                refine lv_iconst (v := (1 : Int32)) hx hb dX7_boat_150 (by decide) ?_
                refine lv_iadd hx hb dX7_boat_151 ?_
                refine R_putI (C := RX7) (T := TX7) (N := 36) hx hb hts i8 tyX7 tyX7_ok nmX7 hown hK hW 7 hw.1 (by decide) rfl (by decide) (hts (.fieldLink RX7 126 "BoatLiftModel" "boats" "I") (by decide +kernel)) (fun _ h => h) (Or.inl rfl) rfl (fun _ _ _ => rfl) (fun _ _ _ => rfl) dX7_boat_152 (fun H locs hW => ?_)
                obtain ⟨m27, em27⟩ : ∃ z, z = sI m26 v0 7 ((mI m26 v0 7) + (1 : Int32)) := ⟨_, rfl⟩
                rw [← em27] at hW
                have hw := hw.2 m27 em27
                refine lv_aload_n hx hb dX7_boat_155 rfl (lv_at hl 0 rfl) ?_
                refine R_getI (C := RX7) (T := TX7) (N := 36) hx hb hts i8 hown hK hW 7 hw.1 (by decide) rfl (by decide) (hts (.fieldLink RX7 126 "BoatLiftModel" "boats" "I") (by decide +kernel)) (fun _ h => h) (fun _ _ _ => rfl) dX7_boat_156 ?_
                have hw := hw.2
                refine lv_iconst (v := (1 : Int32)) hx hb dX7_boat_159 (by decide) ?_
                refine lv_isub hx hb dX7_boat_160 ?_
                exact R_iret hx hb hr hlk hW hw dX7_boat_161
              · have hw := hw.2 c19
                refine lv_iconst (v := (-1 : Int32)) hx hb dX7_boat_70 (by decide) ?_
                exact R_iret hx hb hr hlk hW hw dX7_boat_71

def wp_X7_down (m0 : Mm) (v0 : Int64) (v2 : Int64) (Φ : Int64 → Mm → Prop) : Prop :=
  ((0 ≤ (lg_cmp v0 (0 : Int64)) → ¬ v2 = 0 ∧ Φ (v0 / v2) m0) ∧ (¬ 0 ≤ (lg_cmp v0 (0 : Int64)) → ¬ v2 = 0 ∧ Φ (-((((-v0) + v2) - (1 : Int64)) / v2)) m0))
abbrev rm_X7_down : Room := { frames := 0, cells := 0, slots := 0, locals := 0 }
set_option maxHeartbeats 4000000 in
set_option maxRecDepth 100000 in
theorem c_X7_down (l : Launch) (g : Gv) (m0 : Mm) (v0 : Int64) (v2 : Int64) (Φ : Int64 → Mm → Prop) (hw : wp_X7_down m0 v0 v2 Φ) : Met l yX7_down wsX7_down rm_X7_down (PP g [.long v0, .long v2] m0) (QQ g vL Φ) 0 0 (Ag g) := by
  refine CT_of (by decide +kernel) rfl (Nat.le_of_ble_eq_true rfl) ?_
  intro p e s m below meth c hx hb hr hml hown hts hlk hnm hK hW ls hl
  have hown : s.vm.findClass RX7 = some m.cls := hown
  have hl : lv_has ls 4 [(0, .long v0), (2, .long v2)] := hl
  unfold wp_X7_down at hw
  refine lv_lload_n hx hb dX7_down_0 rfl (lv_at hl 0 rfl) ?_
  refine lv_lconst (v := (0 : Int64)) hx hb dX7_down_1 (by decide) ?_
  refine W.lcmp hx hb dX7_down_2 ?_
  refine lv_if_ge (tgt := 18) hx hb dX7_down_3 (by decide) (fun c1 => ?_) (fun c1 => ?_)
  · have hw := hw.1 c1
    refine lv_lload_n hx hb dX7_down_18 rfl (lv_at hl 0 rfl) ?_
    refine lv_lload_n hx hb dX7_down_19 rfl (lv_at hl 1 rfl) ?_
    refine lv_ldiv hx hb dX7_down_20 hw.1 ?_
    have hw := hw.2
    exact R_lret hx hb hr hlk hW hw dX7_down_21
  · have hw := hw.2 c1
    refine lv_lload_n hx hb dX7_down_6 rfl (lv_at hl 0 rfl) ?_
    refine lv_lneg hx hb dX7_down_7 ?_
    refine lv_lload_n hx hb dX7_down_8 rfl (lv_at hl 1 rfl) ?_
    refine lv_ladd hx hb dX7_down_9 ?_
    refine lv_lconst (v := (1 : Int64)) hx hb dX7_down_10 (by decide) ?_
    refine lv_lsub hx hb dX7_down_11 ?_
    refine lv_lload_n hx hb dX7_down_12 rfl (lv_at hl 1 rfl) ?_
    refine lv_ldiv hx hb dX7_down_13 hw.1 ?_
    have hw := hw.2
    refine lv_lneg hx hb dX7_down_14 ?_
    refine lv_goto (tgt := 21) hx hb dX7_down_15 (by decide) ?_
    exact R_lret hx hb hr hlk hW hw dX7_down_21

def wp_X7_levelOf (m0 : Mm) (v0 : Nat) (v1 : Int32) (Φ : Int32 → Mm → Prop) : Prop :=
  mT m0 v0 = 8 ∧ (mP m0 v0 12) ≠ 0 ∧ mT m0 (mP m0 v0 12) = 10 ∧ vp_in v1 (mN m0 (mP m0 v0 12)) ∧ mT m0 v0 = 8 ∧ (mP m0 v0 11) ≠ 0 ∧ mT m0 (mP m0 v0 11) = 9 ∧ vp_in v1 (mN m0 (mP m0 v0 11)) ∧ wp_X7_down m0 (mL m0 (mP m0 v0 12) v1.toNatClampNeg) ((mI m0 (mP m0 v0 11) v1.toNatClampNeg).toInt64) (fun (r1 : Int64) (m2 : Mm) => Φ r1.toInt32 m2)
abbrev rm_X7_levelOf : Room := { frames := 1, cells := 0, slots := 0, locals := 23 }
set_option maxHeartbeats 4000000 in
set_option maxRecDepth 100000 in
theorem c_X7_levelOf (l : Launch) (g : Gv) (m0 : Mm) (v0 : Nat) (v1 : Int32) (Φ : Int32 → Mm → Prop) (hw : wp_X7_levelOf m0 v0 v1 Φ) : Met l yX7_levelOf wsX7_levelOf rm_X7_levelOf (PP g [.ref (ad g v0), .int v1] m0) (QQ g vI Φ) 0 0 (Ag g) := by
  refine CT_of (by decide +kernel) rfl (Nat.le_of_ble_eq_true rfl) ?_
  intro p e s m below meth c hx hb hr hml hown hts hlk hnm hK hW ls hl
  have hown : s.vm.findClass RX7 = some m.cls := hown
  have hl : lv_has ls 2 [(0, .ref (ad g v0)), (1, .int v1)] := hl
  have i8 : ∀ w ∈ u_ws RX7 TX7 36, w ∈ wsX7_levelOf := by decide +kernel
  unfold wp_X7_levelOf at hw
  refine lv_aload_n hx hb dX7_levelOf_0 rfl (lv_at hl 0 rfl) ?_
  refine R_getP (C := RX7) (T := TX7) (N := 36) hx hb hts i8 hown hK hW 12 hw.1 (by decide) rfl (by decide) (hts (.fieldLink RX7 27 "BoatLiftModel" "stock" "[J") (by decide +kernel)) (fun _ h => h) (fun _ _ _ => rfl) hw.2.1 dX7_levelOf_1 ?_
  have hw := hw.2.2
  refine lv_iload_n hx hb dX7_levelOf_4 rfl (lv_at hl 1 rfl) ?_
  refine R_lald hx hb hK hW hw.1 hw.2.1 dX7_levelOf_5 ?_
  have hw := hw.2.2
  refine lv_aload_n hx hb dX7_levelOf_6 rfl (lv_at hl 0 rfl) ?_
  refine R_getP (C := RX7) (T := TX7) (N := 36) hx hb hts i8 hown hK hW 11 hw.1 (by decide) rfl (by decide) (hts (.fieldLink RX7 24 "BoatLiftModel" "area" "[I") (by decide +kernel)) (fun _ h => h) (fun _ _ _ => rfl) hw.2.1 dX7_levelOf_7 ?_
  have hw := hw.2.2
  refine lv_iload_n hx hb dX7_levelOf_10 rfl (lv_at hl 1 rfl) ?_
  refine R_iald hx hb hK hW hw.1 hw.2.1 dX7_levelOf_11 ?_
  have hw := hw.2.2
  refine lv_i2l (v := (mI m0 (mP m0 v0 11) v1.toNatClampNeg).toInt64) hx hb dX7_levelOf_12 rfl ?_
  refine R_call (va_runS (As := [.long (mL m0 (mP m0 v0 12) v1.toNatClampNeg), .long (mI m0 (mP m0 v0 11) v1.toNatClampNeg).toInt64]) (rest := []) ⟨hx, hb, hml, hown, hts⟩ (c_X7_down l g m0 (mL m0 (mP m0 v0 12) v1.toNatClampNeg) ((mI m0 (mP m0 v0 11) v1.toNatClampNeg).toInt64) _ hw) (va_cwS 2 hts gX7_levelOf_X7_down rfl rfl rfl (by decide +kernel) ⟨by decide, by decide⟩) (PP.pre hK hW) rfl rfl hl.1 rfl (lv_room (Nat.le_of_ble_eq_true rfl)) dX7_levelOf_13 ⟨by decide, by decide⟩) hW (fun r1 m2 H locs hw hW => ?_)
  refine W.eq (g2 := F0 m 16 ls [.long r1]) rfl ?_
  refine lv_l2i (v := r1.toInt32) hx hb dX7_levelOf_16 rfl ?_
  exact R_iret hx hb hr hlk hW hw dX7_levelOf_17

def wp_X7_depthOf (m0 : Mm) (v0 : Nat) (v1 : Int32) (Φ : Int32 → Mm → Prop) : Prop :=
  mT m0 v0 = 8 ∧ wp_X7_levelOf m0 v0 v1 (fun (r1 : Int32) (m2 : Mm) => wp_X7_down m2 r1.toInt64 (10 : Int64) (fun (r3 : Int64) (m4 : Mm) => Φ ((30 : Int32) + r3.toInt32) m4))
abbrev rm_X7_depthOf : Room := { frames := 2, cells := 0, slots := 0, locals := 44 }
set_option maxHeartbeats 4000000 in
set_option maxRecDepth 100000 in
theorem c_X7_depthOf (l : Launch) (g : Gv) (m0 : Mm) (v0 : Nat) (v1 : Int32) (Φ : Int32 → Mm → Prop) (hw : wp_X7_depthOf m0 v0 v1 Φ) : Met l yX7_depthOf wsX7_depthOf rm_X7_depthOf (PP g [.ref (ad g v0), .int v1] m0) (QQ g vI Φ) 0 0 (Ag g) := by
  refine CT_of (by decide +kernel) rfl (Nat.le_of_ble_eq_true rfl) ?_
  intro p e s m below meth c hx hb hr hml hown hts hlk hnm hK hW ls hl
  have hown : s.vm.findClass RX7 = some m.cls := hown
  have hl : lv_has ls 2 [(0, .ref (ad g v0)), (1, .int v1)] := hl
  unfold wp_X7_depthOf at hw
  refine lv_bipush (v := (30 : Int32)) hx hb dX7_depthOf_0 (by decide) ?_
  refine lv_aload_n hx hb dX7_depthOf_2 rfl (lv_at hl 0 rfl) ?_
  refine lv_iload_n hx hb dX7_depthOf_3 rfl (lv_at hl 1 rfl) ?_
  refine R_call (va_runV (As := [.int v1]) (rest := [.int (30 : Int32)]) ⟨hx, hb, hml, hown, hts⟩ (c_X7_levelOf l g m0 v0 v1 _ hw.2) (cwV 1 hts gX7_depthOf_X7_levelOf rfl rfl rfl (by decide +kernel) ⟨by decide, by decide⟩) (PP.preV (q := (RX7, TX7, 36)) hK hW hw.1 (by decide) rfl) rfl rfl hl.1 rfl (lv_room (Nat.le_of_ble_eq_true rfl)) dX7_depthOf_4 ⟨by decide, by decide⟩) hW (fun r1 m2 H locs hw hW => ?_)
  refine W.eq (g2 := F0 m 7 ls [.int r1, .int (30 : Int32)]) rfl ?_
  refine lv_i2l (v := r1.toInt64) hx hb dX7_depthOf_7 rfl ?_
  refine lv_ldc2 hx hb hown (hts (.constantLong RX7 136 (10)) (by decide +kernel)) dX7_depthOf_8 ?_
  refine R_call (va_runS (As := [.long r1.toInt64, .long (10 : Int64)]) (rest := [.int (30 : Int32)]) ⟨hx, hb, hml, hown, hts⟩ (c_X7_down l g m2 r1.toInt64 (10 : Int64) _ hw) (va_cwS 2 hts gX7_depthOf_X7_down rfl rfl rfl (by decide +kernel) ⟨by decide, by decide⟩) (PP.pre hK hW) rfl rfl hl.1 rfl (lv_room (Nat.le_of_ble_eq_true rfl)) dX7_depthOf_11 ⟨by decide, by decide⟩) hW (fun r3 m4 H locs hw hW => ?_)
  refine W.eq (g2 := F0 m 14 ls [.long r3, .int (30 : Int32)]) rfl ?_
  refine lv_l2i (v := r3.toInt32) hx hb dX7_depthOf_14 rfl ?_
  refine lv_iadd hx hb dX7_depthOf_15 ?_
  exact R_iret hx hb hr hlk hW hw dX7_depthOf_16

def wp_X7_isFit (m0 : Mm) (v0 : Nat) (v1 : Int32) (Φ : Int32 → Mm → Prop) : Prop :=
  mT m0 v0 = 8 ∧ (mP m0 v0 17) ≠ 0 ∧ mT m0 (mP m0 v0 17) = 9 ∧ vp_in v1 (mN m0 (mP m0 v0 17)) ∧ mT m0 v0 = 8 ∧ (((mI m0 v0 2) < (mI m0 (mP m0 v0 17) v1.toNatClampNeg) → Φ (0 : Int32) m0) ∧ (¬ (mI m0 v0 2) < (mI m0 (mP m0 v0 17) v1.toNatClampNeg) → mT m0 v0 = 8 ∧ (mP m0 v0 18) ≠ 0 ∧ mT m0 (mP m0 v0 18) = 9 ∧ vp_in v1 (mN m0 (mP m0 v0 18)) ∧ mT m0 v0 = 8 ∧ (mP m0 v0 9) ≠ 0 ∧ mT m0 (mP m0 v0 9) = 9 ∧ vp_in (3 : Int32) (mN m0 (mP m0 v0 9)) ∧ mT m0 v0 = 8 ∧ wp_X7_depthOf m0 v0 (0 : Int32) (fun (r2 : Int32) (m3 : Mm) => ((r2 < ((mI m0 (mP m0 v0 18) v1.toNatClampNeg) + (mI m0 (mP m0 v0 9) (3 : Int32).toNatClampNeg)) → Φ (0 : Int32) m3) ∧ (¬ r2 < ((mI m0 (mP m0 v0 18) v1.toNatClampNeg) + (mI m0 (mP m0 v0 9) (3 : Int32).toNatClampNeg)) → mT m3 v0 = 8 ∧ (mP m3 v0 18) ≠ 0 ∧ mT m3 (mP m3 v0 18) = 9 ∧ vp_in v1 (mN m3 (mP m3 v0 18)) ∧ mT m3 v0 = 8 ∧ (mP m3 v0 9) ≠ 0 ∧ mT m3 (mP m3 v0 9) = 9 ∧ vp_in (3 : Int32) (mN m3 (mP m3 v0 9)) ∧ mT m3 v0 = 8 ∧ wp_X7_depthOf m3 v0 (1 : Int32) (fun (r5 : Int32) (m6 : Mm) => ((r5 < ((mI m3 (mP m3 v0 18) v1.toNatClampNeg) + (mI m3 (mP m3 v0 9) (3 : Int32).toNatClampNeg)) → Φ (0 : Int32) m6) ∧ (¬ r5 < ((mI m3 (mP m3 v0 18) v1.toNatClampNeg) + (mI m3 (mP m3 v0 9) (3 : Int32).toNatClampNeg)) → Φ (1 : Int32) m6))))))))
abbrev rm_X7_isFit : Room := { frames := 3, cells := 0, slots := 0, locals := 65 }
set_option maxHeartbeats 4000000 in
set_option maxRecDepth 100000 in
theorem c_X7_isFit (l : Launch) (g : Gv) (m0 : Mm) (v0 : Nat) (v1 : Int32) (Φ : Int32 → Mm → Prop) (hw : wp_X7_isFit m0 v0 v1 Φ) : Met l yX7_isFit wsX7_isFit rm_X7_isFit (PP g [.ref (ad g v0), .int v1] m0) (QQ g vI Φ) 0 0 (Ag g) := by
  refine CT_of (by decide +kernel) rfl (Nat.le_of_ble_eq_true rfl) ?_
  intro p e s m below meth c hx hb hr hml hown hts hlk hnm hK hW ls hl
  have hown : s.vm.findClass RX7 = some m.cls := hown
  have hl : lv_has ls 2 [(0, .ref (ad g v0)), (1, .int v1)] := hl
  have i8 : ∀ w ∈ u_ws RX7 TX7 36, w ∈ wsX7_isFit := by decide +kernel
  unfold wp_X7_isFit at hw
  refine lv_aload_n hx hb dX7_isFit_0 rfl (lv_at hl 0 rfl) ?_
  refine R_getP (C := RX7) (T := TX7) (N := 36) hx hb hts i8 hown hK hW 17 hw.1 (by decide) rfl (by decide) (hts (.fieldLink RX7 43 "BoatLiftModel" "size" "[I") (by decide +kernel)) (fun _ h => h) (fun _ _ _ => rfl) hw.2.1 dX7_isFit_1 ?_
  have hw := hw.2.2
  refine lv_iload_n hx hb dX7_isFit_4 rfl (lv_at hl 1 rfl) ?_
  refine R_iald hx hb hK hW hw.1 hw.2.1 dX7_isFit_5 ?_
  have hw := hw.2.2
  refine lv_aload_n hx hb dX7_isFit_6 rfl (lv_at hl 0 rfl) ?_
  refine R_getI (C := RX7) (T := TX7) (N := 36) hx hb hts i8 hown hK hW 2 hw.1 (by decide) rfl (by decide) (hts (.fieldLink RX7 13 "BoatLiftModel" "length" "I") (by decide +kernel)) (fun _ h => h) (fun _ _ _ => rfl) dX7_isFit_7 ?_
  have hw := hw.2
  refine lv_icmp_gt (tgt := 59) hx hb dX7_isFit_10 (by decide) (fun c1 => ?_) (fun c1 => ?_)
  · have hw := hw.1 c1
    refine lv_iconst (v := (0 : Int32)) hx hb dX7_isFit_59 (by decide) ?_
    exact R_zret hx hb hr hlk hW (Or.inl rfl) hw dX7_isFit_60
  · have hw := hw.2 c1
    refine lv_aload_n hx hb dX7_isFit_13 rfl (lv_at hl 0 rfl) ?_
    refine R_getP (C := RX7) (T := TX7) (N := 36) hx hb hts i8 hown hK hW 18 hw.1 (by decide) rfl (by decide) (hts (.fieldLink RX7 46 "BoatLiftModel" "draught" "[I") (by decide +kernel)) (fun _ h => h) (fun _ _ _ => rfl) hw.2.1 dX7_isFit_14 ?_
    have hw := hw.2.2
    refine lv_iload_n hx hb dX7_isFit_17 rfl (lv_at hl 1 rfl) ?_
    refine R_iald hx hb hK hW hw.1 hw.2.1 dX7_isFit_18 ?_
    have hw := hw.2.2
    refine lv_aload_n hx hb dX7_isFit_19 rfl (lv_at hl 0 rfl) ?_
    refine R_getP (C := RX7) (T := TX7) (N := 36) hx hb hts i8 hown hK hW 9 hw.1 (by decide) rfl (by decide) (hts (.fieldLink RX7 17 "BoatLiftModel" "law" "[I") (by decide +kernel)) (fun _ h => h) (fun _ _ _ => rfl) hw.2.1 dX7_isFit_20 ?_
    have hw := hw.2.2
    refine lv_iconst (v := (3 : Int32)) hx hb dX7_isFit_23 (by decide) ?_
    refine R_iald hx hb hK hW hw.1 hw.2.1 dX7_isFit_24 ?_
    have hw := hw.2.2
    refine lv_iadd hx hb dX7_isFit_25 ?_
    refine lv_aload_n hx hb dX7_isFit_26 rfl (lv_at hl 0 rfl) ?_
    refine lv_iconst (v := (0 : Int32)) hx hb dX7_isFit_27 (by decide) ?_
    refine R_call (va_runV (As := [.int (0 : Int32)]) (rest := [.int ((mI m0 (mP m0 v0 18) v1.toNatClampNeg) + (mI m0 (mP m0 v0 9) (3 : Int32).toNatClampNeg))]) ⟨hx, hb, hml, hown, hts⟩ (c_X7_depthOf l g m0 v0 (0 : Int32) _ hw.2) (cwV 1 hts gX7_isFit_X7_depthOf rfl rfl rfl (by decide +kernel) ⟨by decide, by decide⟩) (PP.preV (q := (RX7, TX7, 36)) hK hW hw.1 (by decide) rfl) rfl rfl hl.1 rfl (lv_room (Nat.le_of_ble_eq_true rfl)) dX7_isFit_28 ⟨by decide, by decide⟩) hW (fun r2 m3 H locs hw hW => ?_)
    refine W.eq (g2 := F0 m 31 ls [.int r2, .int ((mI m0 (mP m0 v0 18) v1.toNatClampNeg) + (mI m0 (mP m0 v0 9) (3 : Int32).toNatClampNeg))]) rfl ?_
    refine lv_icmp_gt (tgt := 59) hx hb dX7_isFit_31 (by decide) (fun c4 => ?_) (fun c4 => ?_)
    · have hw := hw.1 c4
      refine lv_iconst (v := (0 : Int32)) hx hb dX7_isFit_59 (by decide) ?_
      exact R_zret hx hb hr hlk hW (Or.inl rfl) hw dX7_isFit_60
    · have hw := hw.2 c4
      refine lv_aload_n hx hb dX7_isFit_34 rfl (lv_at hl 0 rfl) ?_
      refine R_getP (C := RX7) (T := TX7) (N := 36) hx hb hts i8 hown hK hW 18 hw.1 (by decide) rfl (by decide) (hts (.fieldLink RX7 46 "BoatLiftModel" "draught" "[I") (by decide +kernel)) (fun _ h => h) (fun _ _ _ => rfl) hw.2.1 dX7_isFit_35 ?_
      have hw := hw.2.2
      refine lv_iload_n hx hb dX7_isFit_38 rfl (lv_at hl 1 rfl) ?_
      refine R_iald hx hb hK hW hw.1 hw.2.1 dX7_isFit_39 ?_
      have hw := hw.2.2
      refine lv_aload_n hx hb dX7_isFit_40 rfl (lv_at hl 0 rfl) ?_
      refine R_getP (C := RX7) (T := TX7) (N := 36) hx hb hts i8 hown hK hW 9 hw.1 (by decide) rfl (by decide) (hts (.fieldLink RX7 17 "BoatLiftModel" "law" "[I") (by decide +kernel)) (fun _ h => h) (fun _ _ _ => rfl) hw.2.1 dX7_isFit_41 ?_
      have hw := hw.2.2
      refine lv_iconst (v := (3 : Int32)) hx hb dX7_isFit_44 (by decide) ?_
      refine R_iald hx hb hK hW hw.1 hw.2.1 dX7_isFit_45 ?_
      have hw := hw.2.2
      refine lv_iadd hx hb dX7_isFit_46 ?_
      refine lv_aload_n hx hb dX7_isFit_47 rfl (lv_at hl 0 rfl) ?_
      refine lv_iconst (v := (1 : Int32)) hx hb dX7_isFit_48 (by decide) ?_
      refine R_call (va_runV (As := [.int (1 : Int32)]) (rest := [.int ((mI m3 (mP m3 v0 18) v1.toNatClampNeg) + (mI m3 (mP m3 v0 9) (3 : Int32).toNatClampNeg))]) ⟨hx, hb, hml, hown, hts⟩ (c_X7_depthOf l g m3 v0 (1 : Int32) _ hw.2) (cwV 1 hts gX7_isFit_X7_depthOf rfl rfl rfl (by decide +kernel) ⟨by decide, by decide⟩) (PP.preV (q := (RX7, TX7, 36)) hK hW hw.1 (by decide) rfl) rfl rfl hl.1 rfl (lv_room (Nat.le_of_ble_eq_true rfl)) dX7_isFit_49 ⟨by decide, by decide⟩) hW (fun r5 m6 H locs hw hW => ?_)
      refine W.eq (g2 := F0 m 52 ls [.int r5, .int ((mI m3 (mP m3 v0 18) v1.toNatClampNeg) + (mI m3 (mP m3 v0 9) (3 : Int32).toNatClampNeg))]) rfl ?_
      refine lv_icmp_gt (tgt := 59) hx hb dX7_isFit_52 (by decide) (fun c7 => ?_) (fun c7 => ?_)
      · have hw := hw.1 c7
        refine lv_iconst (v := (0 : Int32)) hx hb dX7_isFit_59 (by decide) ?_
        exact R_zret hx hb hr hlk hW (Or.inl rfl) hw dX7_isFit_60
      · have hw := hw.2 c7
        refine lv_iconst (v := (1 : Int32)) hx hb dX7_isFit_55 (by decide) ?_
        refine lv_goto (tgt := 60) hx hb dX7_isFit_56 (by decide) ?_
        exact R_zret hx hb hr hlk hW (Or.inr rfl) hw dX7_isFit_60

def wp_X7_isLeft (m0 : Mm) (v0 : Nat) (v1 : Int32) (Φ : Int32 → Mm → Prop) : Prop :=
  mT m0 v0 = 8 ∧ (mP m0 v0 21) ≠ 0 ∧ mT m0 (mP m0 v0 21) = 9 ∧ vp_in v1 (mN m0 (mP m0 v0 21)) ∧ ((¬ (mI m0 (mP m0 v0 21) v1.toNatClampNeg) = (-1 : Int32) → Φ (0 : Int32) m0) ∧ ((mI m0 (mP m0 v0 21) v1.toNatClampNeg) = (-1 : Int32) → mT m0 v0 = 8 ∧ wp_X7_isFit m0 v0 v1 (fun (r2 : Int32) (m3 : Mm) => ((r2 = 0 → Φ (0 : Int32) m3) ∧ (¬ r2 = 0 → Φ (1 : Int32) m3)))))
abbrev rm_X7_isLeft : Room := { frames := 4, cells := 0, slots := 0, locals := 86 }
set_option maxHeartbeats 4000000 in
set_option maxRecDepth 100000 in
theorem c_X7_isLeft (l : Launch) (g : Gv) (m0 : Mm) (v0 : Nat) (v1 : Int32) (Φ : Int32 → Mm → Prop) (hw : wp_X7_isLeft m0 v0 v1 Φ) : Met l yX7_isLeft wsX7_isLeft rm_X7_isLeft (PP g [.ref (ad g v0), .int v1] m0) (QQ g vI Φ) 0 0 (Ag g) := by
  refine CT_of (by decide +kernel) rfl (Nat.le_of_ble_eq_true rfl) ?_
  intro p e s m below meth c hx hb hr hml hown hts hlk hnm hK hW ls hl
  have hown : s.vm.findClass RX7 = some m.cls := hown
  have hl : lv_has ls 2 [(0, .ref (ad g v0)), (1, .int v1)] := hl
  have i8 : ∀ w ∈ u_ws RX7 TX7 36, w ∈ wsX7_isLeft := by decide +kernel
  unfold wp_X7_isLeft at hw
  refine lv_aload_n hx hb dX7_isLeft_0 rfl (lv_at hl 0 rfl) ?_
  refine R_getP (C := RX7) (T := TX7) (N := 36) hx hb hts i8 hown hK hW 21 hw.1 (by decide) rfl (by decide) (hts (.fieldLink RX7 55 "BoatLiftModel" "began" "[I") (by decide +kernel)) (fun _ h => h) (fun _ _ _ => rfl) hw.2.1 dX7_isLeft_1 ?_
  have hw := hw.2.2
  refine lv_iload_n hx hb dX7_isLeft_4 rfl (lv_at hl 1 rfl) ?_
  refine R_iald hx hb hK hW hw.1 hw.2.1 dX7_isLeft_5 ?_
  have hw := hw.2.2
  refine lv_iconst (v := (-1 : Int32)) hx hb dX7_isLeft_6 (by decide) ?_
  refine lv_icmp_ne (tgt := 22) hx hb dX7_isLeft_7 (by decide) (fun c1 => ?_) (fun c1 => ?_)
  · have hw := hw.1 c1
    refine lv_iconst (v := (0 : Int32)) hx hb dX7_isLeft_22 (by decide) ?_
    exact R_zret hx hb hr hlk hW (Or.inl rfl) hw dX7_isLeft_23
  · have hw := hw.2 c1
    refine lv_aload_n hx hb dX7_isLeft_10 rfl (lv_at hl 0 rfl) ?_
    refine lv_iload_n hx hb dX7_isLeft_11 rfl (lv_at hl 1 rfl) ?_
    refine R_call (va_runV (As := [.int v1]) (rest := []) ⟨hx, hb, hml, hown, hts⟩ (c_X7_isFit l g m0 v0 v1 _ hw.2) (cwV 1 hts gX7_isLeft_X7_isFit rfl rfl rfl (by decide +kernel) ⟨by decide, by decide⟩) (PP.preV (q := (RX7, TX7, 36)) hK hW hw.1 (by decide) rfl) rfl rfl hl.1 rfl (lv_room (Nat.le_of_ble_eq_true rfl)) dX7_isLeft_12 ⟨by decide, by decide⟩) hW (fun r2 m3 H locs hw hW => ?_)
    refine W.eq (g2 := F0 m 15 ls [.int r2]) rfl ?_
    refine lv_if_eq (tgt := 22) hx hb dX7_isLeft_15 (by decide) (fun c4 => ?_) (fun c4 => ?_)
    · have hw := hw.1 c4
      refine lv_iconst (v := (0 : Int32)) hx hb dX7_isLeft_22 (by decide) ?_
      exact R_zret hx hb hr hlk hW (Or.inl rfl) hw dX7_isLeft_23
    · have hw := hw.2 c4
      refine lv_iconst (v := (1 : Int32)) hx hb dX7_isLeft_18 (by decide) ?_
      refine lv_goto (tgt := 23) hx hb dX7_isLeft_19 (by decide) ?_
      exact R_zret hx hb hr hlk hW (Or.inr rfl) hw dX7_isLeft_23

def wp_X7_isAhead (m0 : Mm) (v0 : Nat) (v1 : Int32) (v2 : Int32) (Φ : Int32 → Mm → Prop) : Prop :=
  mT m0 v0 = 8 ∧ (mP m0 v0 20) ≠ 0 ∧ mT m0 (mP m0 v0 20) = 9 ∧ vp_in v1 (mN m0 (mP m0 v0 20)) ∧ mT m0 v0 = 8 ∧ (mP m0 v0 20) ≠ 0 ∧ mT m0 (mP m0 v0 20) = 9 ∧ vp_in v2 (mN m0 (mP m0 v0 20)) ∧ (((mI m0 (mP m0 v0 20) v1.toNatClampNeg) = (mI m0 (mP m0 v0 20) v2.toNatClampNeg) → mT m0 v0 = 8 ∧ (mP m0 v0 16) ≠ 0 ∧ mT m0 (mP m0 v0 16) = 9 ∧ vp_in v1 (mN m0 (mP m0 v0 16)) ∧ mT m0 v0 = 8 ∧ (mP m0 v0 16) ≠ 0 ∧ mT m0 (mP m0 v0 16) = 9 ∧ vp_in v2 (mN m0 (mP m0 v0 16)) ∧ (((mI m0 (mP m0 v0 16) v1.toNatClampNeg) = (mI m0 (mP m0 v0 16) v2.toNatClampNeg) → ((v2 ≤ v1 → Φ (0 : Int32) m0) ∧ (¬ v2 ≤ v1 → Φ (1 : Int32) m0))) ∧ (¬ (mI m0 (mP m0 v0 16) v1.toNatClampNeg) = (mI m0 (mP m0 v0 16) v2.toNatClampNeg) → mT m0 v0 = 8 ∧ (mP m0 v0 16) ≠ 0 ∧ mT m0 (mP m0 v0 16) = 9 ∧ vp_in v1 (mN m0 (mP m0 v0 16)) ∧ mT m0 v0 = 8 ∧ (mP m0 v0 16) ≠ 0 ∧ mT m0 (mP m0 v0 16) = 9 ∧ vp_in v2 (mN m0 (mP m0 v0 16)) ∧ (((mI m0 (mP m0 v0 16) v2.toNatClampNeg) ≤ (mI m0 (mP m0 v0 16) v1.toNatClampNeg) → Φ (0 : Int32) m0) ∧ (¬ (mI m0 (mP m0 v0 16) v2.toNatClampNeg) ≤ (mI m0 (mP m0 v0 16) v1.toNatClampNeg) → Φ (1 : Int32) m0))))) ∧ (¬ (mI m0 (mP m0 v0 20) v1.toNatClampNeg) = (mI m0 (mP m0 v0 20) v2.toNatClampNeg) → mT m0 v0 = 8 ∧ (mP m0 v0 20) ≠ 0 ∧ mT m0 (mP m0 v0 20) = 9 ∧ vp_in v1 (mN m0 (mP m0 v0 20)) ∧ mT m0 v0 = 8 ∧ (mP m0 v0 20) ≠ 0 ∧ mT m0 (mP m0 v0 20) = 9 ∧ vp_in v2 (mN m0 (mP m0 v0 20)) ∧ (((mI m0 (mP m0 v0 20) v2.toNatClampNeg) ≤ (mI m0 (mP m0 v0 20) v1.toNatClampNeg) → Φ (0 : Int32) m0) ∧ (¬ (mI m0 (mP m0 v0 20) v2.toNatClampNeg) ≤ (mI m0 (mP m0 v0 20) v1.toNatClampNeg) → Φ (1 : Int32) m0))))
abbrev rm_X7_isAhead : Room := { frames := 0, cells := 0, slots := 0, locals := 0 }
set_option maxHeartbeats 4000000 in
set_option maxRecDepth 100000 in
theorem c_X7_isAhead (l : Launch) (g : Gv) (m0 : Mm) (v0 : Nat) (v1 : Int32) (v2 : Int32) (Φ : Int32 → Mm → Prop) (hw : wp_X7_isAhead m0 v0 v1 v2 Φ) : Met l yX7_isAhead wsX7_isAhead rm_X7_isAhead (PP g [.ref (ad g v0), .int v1, .int v2] m0) (QQ g vI Φ) 0 0 (Ag g) := by
  refine CT_of (by decide +kernel) rfl (Nat.le_of_ble_eq_true rfl) ?_
  intro p e s m below meth c hx hb hr hml hown hts hlk hnm hK hW ls hl
  have hown : s.vm.findClass RX7 = some m.cls := hown
  have hl : lv_has ls 3 [(0, .ref (ad g v0)), (1, .int v1), (2, .int v2)] := hl
  have i8 : ∀ w ∈ u_ws RX7 TX7 36, w ∈ wsX7_isAhead := by decide +kernel
  unfold wp_X7_isAhead at hw
  refine lv_aload_n hx hb dX7_isAhead_0 rfl (lv_at hl 0 rfl) ?_
  refine R_getP (C := RX7) (T := TX7) (N := 36) hx hb hts i8 hown hK hW 20 hw.1 (by decide) rfl (by decide) (hts (.fieldLink RX7 52 "BoatLiftModel" "rank" "[I") (by decide +kernel)) (fun _ h => h) (fun _ _ _ => rfl) hw.2.1 dX7_isAhead_1 ?_
  have hw := hw.2.2
  refine lv_iload_n hx hb dX7_isAhead_4 rfl (lv_at hl 1 rfl) ?_
  refine R_iald hx hb hK hW hw.1 hw.2.1 dX7_isAhead_5 ?_
  have hw := hw.2.2
  refine lv_aload_n hx hb dX7_isAhead_6 rfl (lv_at hl 0 rfl) ?_
  refine R_getP (C := RX7) (T := TX7) (N := 36) hx hb hts i8 hown hK hW 20 hw.1 (by decide) rfl (by decide) (hts (.fieldLink RX7 52 "BoatLiftModel" "rank" "[I") (by decide +kernel)) (fun _ h => h) (fun _ _ _ => rfl) hw.2.1 dX7_isAhead_7 ?_
  have hw := hw.2.2
  refine lv_iload_n hx hb dX7_isAhead_10 rfl (lv_at hl 2 rfl) ?_
  refine R_iald hx hb hK hW hw.1 hw.2.1 dX7_isAhead_11 ?_
  have hw := hw.2.2
  refine lv_icmp_eq (tgt := 36) hx hb dX7_isAhead_12 (by decide) (fun c1 => ?_) (fun c1 => ?_)
  · have hw := hw.1 c1
    refine lv_aload_n hx hb dX7_isAhead_36 rfl (lv_at hl 0 rfl) ?_
    refine R_getP (C := RX7) (T := TX7) (N := 36) hx hb hts i8 hown hK hW 16 hw.1 (by decide) rfl (by decide) (hts (.fieldLink RX7 40 "BoatLiftModel" "there" "[I") (by decide +kernel)) (fun _ h => h) (fun _ _ _ => rfl) hw.2.1 dX7_isAhead_37 ?_
    have hw := hw.2.2
    refine lv_iload_n hx hb dX7_isAhead_40 rfl (lv_at hl 1 rfl) ?_
    refine R_iald hx hb hK hW hw.1 hw.2.1 dX7_isAhead_41 ?_
    have hw := hw.2.2
    refine lv_aload_n hx hb dX7_isAhead_42 rfl (lv_at hl 0 rfl) ?_
    refine R_getP (C := RX7) (T := TX7) (N := 36) hx hb hts i8 hown hK hW 16 hw.1 (by decide) rfl (by decide) (hts (.fieldLink RX7 40 "BoatLiftModel" "there" "[I") (by decide +kernel)) (fun _ h => h) (fun _ _ _ => rfl) hw.2.1 dX7_isAhead_43 ?_
    have hw := hw.2.2
    refine lv_iload_n hx hb dX7_isAhead_46 rfl (lv_at hl 2 rfl) ?_
    refine R_iald hx hb hK hW hw.1 hw.2.1 dX7_isAhead_47 ?_
    have hw := hw.2.2
    refine lv_icmp_eq (tgt := 74) hx hb dX7_isAhead_48 (by decide) (fun c2 => ?_) (fun c2 => ?_)
    · have hw := hw.1 c2
      refine lv_iload_n hx hb dX7_isAhead_74 rfl (lv_at hl 1 rfl) ?_
      refine lv_iload_n hx hb dX7_isAhead_75 rfl (lv_at hl 2 rfl) ?_
      refine lv_icmp_ge (tgt := 83) hx hb dX7_isAhead_76 (by decide) (fun c3 => ?_) (fun c3 => ?_)
      · have hw := hw.1 c3
        refine lv_iconst (v := (0 : Int32)) hx hb dX7_isAhead_83 (by decide) ?_
        exact R_zret hx hb hr hlk hW (Or.inl rfl) hw dX7_isAhead_84
      · have hw := hw.2 c3
        refine lv_iconst (v := (1 : Int32)) hx hb dX7_isAhead_79 (by decide) ?_
        refine lv_goto (tgt := 84) hx hb dX7_isAhead_80 (by decide) ?_
        exact R_zret hx hb hr hlk hW (Or.inr rfl) hw dX7_isAhead_84
    · have hw := hw.2 c2
      refine lv_aload_n hx hb dX7_isAhead_51 rfl (lv_at hl 0 rfl) ?_
      refine R_getP (C := RX7) (T := TX7) (N := 36) hx hb hts i8 hown hK hW 16 hw.1 (by decide) rfl (by decide) (hts (.fieldLink RX7 40 "BoatLiftModel" "there" "[I") (by decide +kernel)) (fun _ h => h) (fun _ _ _ => rfl) hw.2.1 dX7_isAhead_52 ?_
      have hw := hw.2.2
      refine lv_iload_n hx hb dX7_isAhead_55 rfl (lv_at hl 1 rfl) ?_
      refine R_iald hx hb hK hW hw.1 hw.2.1 dX7_isAhead_56 ?_
      have hw := hw.2.2
      refine lv_aload_n hx hb dX7_isAhead_57 rfl (lv_at hl 0 rfl) ?_
      refine R_getP (C := RX7) (T := TX7) (N := 36) hx hb hts i8 hown hK hW 16 hw.1 (by decide) rfl (by decide) (hts (.fieldLink RX7 40 "BoatLiftModel" "there" "[I") (by decide +kernel)) (fun _ h => h) (fun _ _ _ => rfl) hw.2.1 dX7_isAhead_58 ?_
      have hw := hw.2.2
      refine lv_iload_n hx hb dX7_isAhead_61 rfl (lv_at hl 2 rfl) ?_
      refine R_iald hx hb hK hW hw.1 hw.2.1 dX7_isAhead_62 ?_
      have hw := hw.2.2
      refine lv_icmp_ge (tgt := 70) hx hb dX7_isAhead_63 (by decide) (fun c4 => ?_) (fun c4 => ?_)
      · have hw := hw.1 c4
        refine lv_iconst (v := (0 : Int32)) hx hb dX7_isAhead_70 (by decide) ?_
        refine lv_goto (tgt := 84) hx hb dX7_isAhead_71 (by decide) ?_
        exact R_zret hx hb hr hlk hW (Or.inl rfl) hw dX7_isAhead_84
      · have hw := hw.2 c4
        refine lv_iconst (v := (1 : Int32)) hx hb dX7_isAhead_66 (by decide) ?_
        refine lv_goto (tgt := 84) hx hb dX7_isAhead_67 (by decide) ?_
        exact R_zret hx hb hr hlk hW (Or.inr rfl) hw dX7_isAhead_84
  · have hw := hw.2 c1
    refine lv_aload_n hx hb dX7_isAhead_15 rfl (lv_at hl 0 rfl) ?_
    refine R_getP (C := RX7) (T := TX7) (N := 36) hx hb hts i8 hown hK hW 20 hw.1 (by decide) rfl (by decide) (hts (.fieldLink RX7 52 "BoatLiftModel" "rank" "[I") (by decide +kernel)) (fun _ h => h) (fun _ _ _ => rfl) hw.2.1 dX7_isAhead_16 ?_
    have hw := hw.2.2
    refine lv_iload_n hx hb dX7_isAhead_19 rfl (lv_at hl 1 rfl) ?_
    refine R_iald hx hb hK hW hw.1 hw.2.1 dX7_isAhead_20 ?_
    have hw := hw.2.2
    refine lv_aload_n hx hb dX7_isAhead_21 rfl (lv_at hl 0 rfl) ?_
    refine R_getP (C := RX7) (T := TX7) (N := 36) hx hb hts i8 hown hK hW 20 hw.1 (by decide) rfl (by decide) (hts (.fieldLink RX7 52 "BoatLiftModel" "rank" "[I") (by decide +kernel)) (fun _ h => h) (fun _ _ _ => rfl) hw.2.1 dX7_isAhead_22 ?_
    have hw := hw.2.2
    refine lv_iload_n hx hb dX7_isAhead_25 rfl (lv_at hl 2 rfl) ?_
    refine R_iald hx hb hK hW hw.1 hw.2.1 dX7_isAhead_26 ?_
    have hw := hw.2.2
    refine lv_icmp_ge (tgt := 34) hx hb dX7_isAhead_27 (by decide) (fun c5 => ?_) (fun c5 => ?_)
    · have hw := hw.1 c5
      refine lv_iconst (v := (0 : Int32)) hx hb dX7_isAhead_34 (by decide) ?_
      exact R_zret hx hb hr hlk hW (Or.inl rfl) hw dX7_isAhead_35
    · have hw := hw.2 c5
      refine lv_iconst (v := (1 : Int32)) hx hb dX7_isAhead_30 (by decide) ?_
      refine lv_goto (tgt := 35) hx hb dX7_isAhead_31 (by decide) ?_
      exact R_zret hx hb hr hlk hW (Or.inr rfl) hw dX7_isAhead_35
