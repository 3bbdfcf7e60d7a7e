def wp_X7_boatsOf_4 (K4 : Int32 → Int32 → Mm → Prop) (v0 : Nat) (v1 : Int32) (v2 : Int32) (v3 : Int32) (mm : Mm) (Φ : Int32 → Mm → Prop) : Prop :=
  mT mm v0 = 8 ∧ (((mI mm v0 26) ≤ v3 → Φ v2 mm) ∧ (¬ (mI mm v0 26) ≤ v3 → mT mm v0 = 8 ∧ (mP mm v0 35) ≠ 0 ∧ mT mm (mP mm v0 35) = 9 ∧ vp_in v3 (mN mm (mP mm v0 35)) ∧ ∀ x2 : Int32, x2 = (v2 ||| (((v1 >>> (v3 &&& 31)) &&& (1 : Int32)) <<< ((mI mm (mP mm v0 35) v3.toNatClampNeg) &&& 31))) → K4 x2 (v3 + (1 : Int32)) mm))
def wp_X7_boatsOf (m0 : Mm) (v0 : Nat) (v1 : Int32) (Φ : Int32 → Mm → Prop) : Prop :=
  ∃ n, LOp (fun K x => wp_X7_boatsOf_4  (fun z0 z1 z2 => K (z0, z1, z2)) v0 v1 x.1 x.2.1 x.2.2 Φ) n ((0 : Int32), (0 : Int32), m0)
abbrev rm_X7_boatsOf : Room := { frames := 0, cells := 0, slots := 0, locals := 0 }
set_option maxHeartbeats 4000000 in
set_option maxRecDepth 100000 in
theorem c_X7_boatsOf (l : Launch) (g : Gv) (m0 : Mm) (v0 : Nat) (v1 : Int32) (Φ : Int32 → Mm → Prop) (hw : wp_X7_boatsOf m0 v0 v1 Φ) : Met l yX7_boatsOf wsX7_boatsOf rm_X7_boatsOf (PP g [.ref (ad g v0), .int v1] m0) (QQ g vI Φ) 0 0 (Ag g) := by
  refine CT_of (by decide +kernel) rfl (Nat.le_of_ble_eq_true rfl) ?_
  intro p e s m below meth c hx hb hr hml hown hts hlk hnm hK hW ls hl
  have hown : s.vm.findClass RX7 = some m.cls := hown
  have hl : lv_has ls 4 [(0, .ref (ad g v0)), (1, .int v1)] := hl
  have i8 : ∀ w ∈ u_ws RX7 TX7 36, w ∈ wsX7_boatsOf := by decide +kernel
  have L4 : ∀ (n : Nat) (v2 : Int32) (v3 : Int32) (mm : Mm), LOp (fun K x => wp_X7_boatsOf_4  (fun z0 z1 z2 => K (z0, z1, z2)) v0 v1 x.1 x.2.1 x.2.2 Φ) n (v2, v3, mm) → WW p l e rm_X7_boatsOf s m ([.ref (ad g v0), .int v1] : List Value).toArray below meth c (MQ below (QQ g vI Φ) ([.ref (ad g v0), .int v1] : List Value).toArray s 0 0 (Ag g)) g mm 4 0 0 4 [(0, .ref (ad g v0)), (1, .int v1), (2, .int v2), (3, .int v3)] [] := by
    intro  n
    induction n with
    | zero => intro v2 v3 mm hw; exact hw.elim
    | succ n ih4 =>
      obtain ⟨K4, eK4⟩ : ∃ K : Int32 → Int32 → Mm → Prop, K = fun v2 v3 mm => LOp (fun K x => wp_X7_boatsOf_4  (fun z0 z1 z2 => K (z0, z1, z2)) v0 v1 x.1 x.2.1 x.2.2 Φ) n (v2, v3, mm) := ⟨_, rfl⟩
      have ih4 : ∀ (v2 : Int32) (v3 : Int32) (mm : Mm), K4 v2 v3 mm → WW p l e rm_X7_boatsOf s m ([.ref (ad g v0), .int v1] : List Value).toArray below meth c (MQ below (QQ g vI Φ) ([.ref (ad g v0), .int v1] : List Value).toArray s 0 0 (Ag g)) g mm 4 0 0 4 [(0, .ref (ad g v0)), (1, .int v1), (2, .int v2), (3, .int v3)] [] := by rw [eK4]; exact ih4
      intro v2 v3 mm hw H locs ls hW hl
      have hw : wp_X7_boatsOf_4 K4 v0 v1 v2 v3 mm Φ := by rw [eK4]; exact hw
      unfold wp_X7_boatsOf_4 at hw
      refine lv_iload_n hx hb dX7_boatsOf_4 rfl (lv_at hl 3 rfl) ?_
      refine lv_aload_n hx hb dX7_boatsOf_5 rfl (lv_at hl 0 rfl) ?_
      refine R_getI (C := RX7) (T := TX7) (N := 36) hx hb hts i8 hown hK hW 26 hw.1 (by decide) rfl (by decide) (hts (.fieldLink RX7 176 "BoatLiftModel" "left" "I") (by decide +kernel)) (fun _ h => h) (fun _ _ _ => rfl) dX7_boatsOf_6 ?_
      have hw := hw.2
      refine lv_icmp_ge (tgt := 33) hx hb dX7_boatsOf_9 (by decide) (fun c1 => ?_) (fun c1 => ?_)
      · have hw := hw.1 c1
        refine lv_iload_n hx hb dX7_boatsOf_33 rfl (lv_at hl 2 rfl) ?_
        exact R_iret hx hb hr hlk hW hw dX7_boatsOf_34
      · have hw := hw.2 c1
        refine lv_iload_n hx hb dX7_boatsOf_12 rfl (lv_at hl 2 rfl) ?_
        refine lv_iload_n hx hb dX7_boatsOf_13 rfl (lv_at hl 1 rfl) ?_
        refine lv_iload_n hx hb dX7_boatsOf_14 rfl (lv_at hl 3 rfl) ?_
        refine lv_ishr hx hb dX7_boatsOf_15 ?_
        refine lv_iconst (v := (1 : Int32)) hx hb dX7_boatsOf_16 (by decide) ?_
        refine lv_iand hx hb dX7_boatsOf_17 ?_
        refine lv_aload_n hx hb dX7_boatsOf_18 rfl (lv_at hl 0 rfl) ?_
        refine R_getP (C := RX7) (T := TX7) (N := 36) hx hb hts i8 hown hK hW 35 hw.1 (by decide) rfl (by decide) (hts (.fieldLink RX7 81 "BoatLiftModel" "plan" "[I") (by decide +kernel)) (fun _ h => h) (fun _ _ _ => rfl) hw.2.1 dX7_boatsOf_19 ?_
        have hw := hw.2.2
        refine lv_iload_n hx hb dX7_boatsOf_22 rfl (lv_at hl 3 rfl) ?_
        refine R_iald hx hb hK hW hw.1 hw.2.1 dX7_boatsOf_23 ?_
        have hw := hw.2.2
        refine lv_ishl hx hb dX7_boatsOf_24 ?_
        refine lv_ior hx hb dX7_boatsOf_25 ?_
        refine lv_topi (fun x2 ex2 => ?_)
        have hw := hw x2 ex2
        refine lv_istore_n (lv' := [(2, .int x2), (0, .ref (ad g v0)), (1, .int v1), (3, .int v3)]) hx hb dX7_boatsOf_26 rfl hl (by decide) rfl (fun ls hl => ?_)
        refine lv_iinc (v := (v3 + (1 : Int32))) (lv' := [(3, .int (v3 + (1 : Int32))), (2, .int x2), (0, .ref (ad g v0)), (1, .int v1)]) hx hb dX7_boatsOf_27 hl (k := 3) rfl rfl (by decide) rfl (fun ls hl => ?_)
        refine lv_goto (tgt := 4) hx hb dX7_boatsOf_30 (by decide) ?_
        exact ih4 x2 (v3 + (1 : Int32)) mm hw _ _ _ hW (lv_sub hl [2, 3, 1, 0] rfl)
  unfold wp_X7_boatsOf at hw
  refine lv_iconst (v := (0 : Int32)) hx hb dX7_boatsOf_0 (by decide) ?_
  refine lv_istore_n (lv' := [(2, .int (0 : Int32)), (0, .ref (ad g v0)), (1, .int v1)]) hx hb dX7_boatsOf_1 rfl hl (by decide) rfl (fun ls hl => ?_)
  refine lv_iconst (v := (0 : Int32)) hx hb dX7_boatsOf_2 (by decide) ?_
  refine lv_istore_n (lv' := [(3, .int (0 : Int32)), (2, .int (0 : Int32)), (0, .ref (ad g v0)), (1, .int v1)]) hx hb dX7_boatsOf_3 rfl hl (by decide) rfl (fun ls hl => ?_)
  obtain ⟨n, hw⟩ := hw
  exact L4  n (0 : Int32) (0 : Int32) m0 hw _ _ _ hW (lv_sub hl [2, 3, 1, 0] rfl)

def wp_X7_keeps_127 (s0 : Nat) (s1 : Int32) (s2 : Int32) (mm : Mm) (Φ : Unit → Mm → Prop) : Prop :=
  mT mm s0 = 9 ∧ vp_in s1 (mN mm s0) ∧ ∀ m1 : Mm, m1 = sI mm s0 s1.toNatClampNeg s2 → Φ () m1
def wp_X7_keeps_74 (v0 : Nat) (v1 : Int32) (v5 : Int32) (v6 : Int32) (v7 : Int32) (mm : Mm) (Φ : Unit → Mm → Prop) : Prop :=
  mT mm v0 = 8 ∧ (mP mm v0 30) ≠ 0 ∧ mT mm (mP mm v0 30) = 9 ∧ vp_in v7 (mN mm (mP mm v0 30)) ∧ mT mm v0 = 8 ∧ ((¬ (mI mm (mP mm v0 30) v7.toNatClampNeg) = (mI mm v0 24) → mT mm v0 = 8 ∧ (mP mm v0 30) ≠ 0 ∧ mT mm v0 = 8 ∧ mT mm (mP mm v0 30) = 9 ∧ vp_in v7 (mN mm (mP mm v0 30)) ∧ ∀ m3 : Mm, m3 = sI mm (mP mm v0 30) v7.toNatClampNeg (mI mm v0 24) → mT m3 v0 = 8 ∧ (mP m3 v0 29) ≠ 0 ∧ mT m3 v0 = 8 ∧ mT m3 (mP m3 v0 29) = 9 ∧ vp_in v7 (mN m3 (mP m3 v0 29)) ∧ ∀ m4 : Mm, m4 = sI m3 (mP m3 v0 29) v7.toNatClampNeg (mI m3 v0 25) → mT m4 v0 = 8 ∧ (mP m4 v0 31) ≠ 0 ∧ mT m4 v0 = 8 ∧ mT m4 (mP m4 v0 31) = 9 ∧ vp_in (mI m4 v0 25) (mN m4 (mP m4 v0 31)) ∧ ∀ m5 : Mm, m5 = sI m4 (mP m4 v0 31) (mI m4 v0 25).toNatClampNeg v6 → mT m5 v0 = 8 ∧ (mP m5 v0 32) ≠ 0 ∧ mT m5 v0 = 8 ∧ mT m5 (mP m5 v0 32) = 9 ∧ vp_in (mI m5 v0 25) (mN m5 (mP m5 v0 32)) ∧ ∀ m6 : Mm, m6 = sI m5 (mP m5 v0 32) (mI m5 v0 25).toNatClampNeg v5 → mT m6 v0 = 8 ∧ (mP m6 v0 33) ≠ 0 ∧ mT m6 v0 = 8 ∧ mT m6 v0 = 8 ∧ (mP m6 v0 34) ≠ 0 ∧ mT m6 (mP m6 v0 34) = 9 ∧ vp_in v1 (mN m6 (mP m6 v0 34)) ∧ mT m6 (mP m6 v0 33) = 9 ∧ vp_in (mI m6 v0 25) (mN m6 (mP m6 v0 33)) ∧ ∀ m7 : Mm, m7 = sI m6 (mP m6 v0 33) (mI m6 v0 25).toNatClampNeg (mI m6 (mP m6 v0 34) v1.toNatClampNeg) → mT m7 v0 = 8 ∧ (mP m7 v0 34) ≠ 0 ∧ mT m7 v0 = 8 ∧ mT m7 (mP m7 v0 34) = 9 ∧ vp_in v1 (mN m7 (mP m7 v0 34)) ∧ ∀ m8 : Mm, m8 = sI m7 (mP m7 v0 34) v1.toNatClampNeg (mI m7 v0 25) → mT m8 v0 = 8 ∧ mT m8 v0 = 8 ∧ ∀ m9 : Mm, m9 = sI m8 v0 25 ((mI m8 v0 25) + (1 : Int32)) → Φ () m9) ∧ ((mI mm (mP mm v0 30) v7.toNatClampNeg) = (mI mm v0 24) → mT mm v0 = 8 ∧ (mP mm v0 29) ≠ 0 ∧ mT mm (mP mm v0 29) = 9 ∧ vp_in v7 (mN mm (mP mm v0 29)) ∧ mT mm v0 = 8 ∧ (mP mm v0 32) ≠ 0 ∧ mT mm v0 = 8 ∧ (mP mm v0 32) ≠ 0 ∧ mT mm (mP mm v0 32) = 9 ∧ vp_in (mI mm (mP mm v0 29) v7.toNatClampNeg) (mN mm (mP mm v0 32)) ∧ (((mI mm (mP mm v0 32) (mI mm (mP mm v0 29) v7.toNatClampNeg).toNatClampNeg) ≤ v5 → mT mm v0 = 8 ∧ (mP mm v0 32) ≠ 0 ∧ mT mm (mP mm v0 32) = 9 ∧ vp_in (mI mm (mP mm v0 29) v7.toNatClampNeg) (mN mm (mP mm v0 32)) ∧ wp_X7_keeps_127 (mP mm v0 32) (mI mm (mP mm v0 29) v7.toNatClampNeg) (mI mm (mP mm v0 32) (mI mm (mP mm v0 29) v7.toNatClampNeg).toNatClampNeg) mm Φ) ∧ (¬ (mI mm (mP mm v0 32) (mI mm (mP mm v0 29) v7.toNatClampNeg).toNatClampNeg) ≤ v5 → wp_X7_keeps_127 (mP mm v0 32) (mI mm (mP mm v0 29) v7.toNatClampNeg) v5 mm Φ))))
def wp_X7_keeps_31 (K31 : Int32 → Mm → Prop) (v0 : Nat) (v1 : Int32) (v5 : Int32) (v6 : Int32) (v7 : Int32) (mm : Mm) (Φ : Unit → Mm → Prop) : Prop :=
  mT mm v0 = 8 ∧ (mP mm v0 30) ≠ 0 ∧ mT mm (mP mm v0 30) = 9 ∧ vp_in v7 (mN mm (mP mm v0 30)) ∧ mT mm v0 = 8 ∧ ((¬ (mI mm (mP mm v0 30) v7.toNatClampNeg) = (mI mm v0 24) → wp_X7_keeps_74 v0 v1 v5 v6 v7 mm Φ) ∧ ((mI mm (mP mm v0 30) v7.toNatClampNeg) = (mI mm v0 24) → mT mm v0 = 8 ∧ (mP mm v0 31) ≠ 0 ∧ mT mm v0 = 8 ∧ (mP mm v0 29) ≠ 0 ∧ mT mm (mP mm v0 29) = 9 ∧ vp_in v7 (mN mm (mP mm v0 29)) ∧ mT mm (mP mm v0 31) = 9 ∧ vp_in (mI mm (mP mm v0 29) v7.toNatClampNeg) (mN mm (mP mm v0 31)) ∧ (((mI mm (mP mm v0 31) (mI mm (mP mm v0 29) v7.toNatClampNeg).toNatClampNeg) = v6 → wp_X7_keeps_74 v0 v1 v5 v6 v7 mm Φ) ∧ (¬ (mI mm (mP mm v0 31) (mI mm (mP mm v0 29) v7.toNatClampNeg).toNatClampNeg) = v6 → K31 ((v7 + (1 : Int32)) &&& (262143 : Int32)) mm))))
def wp_X7_keeps (m0 : Mm) (v0 : Nat) (v1 : Int32) (v2 : Int32) (v3 : Int32) (v4 : Int32) (v5 : Int32) (Φ : Unit → Mm → Prop) : Prop :=
  ∀ x13 : Int32, x13 = (((((256 : Int32) * v1) + ((4 : Int32) * v2)) + ((2 : Int32) * v3)) + v4) → ∀ x14 : Int32, x14 = ((x13 ^^^ (x13.toUInt32 >>> ((9 : Int32).toUInt32 &&& Int32.toUInt32 31)).toInt32) &&& (262143 : Int32)) → ∃ n, LOp (fun K x => wp_X7_keeps_31  (fun z0 z1 => K (z0, z1)) v0 v1 v5 x13 x.1 x.2 Φ) n (x14, m0)
abbrev rm_X7_keeps : Room := { frames := 0, cells := 0, slots := 0, locals := 0 }
set_option maxHeartbeats 4000000 in
set_option maxRecDepth 100000 in
theorem c_X7_keeps (l : Launch) (g : Gv) (m0 : Mm) (v0 : Nat) (v1 : Int32) (v2 : Int32) (v3 : Int32) (v4 : Int32) (v5 : Int32) (Φ : Unit → Mm → Prop) (hw : wp_X7_keeps m0 v0 v1 v2 v3 v4 v5 Φ) : Met l yX7_keeps wsX7_keeps rm_X7_keeps (PP g [.ref (ad g v0), .int v1, .int v2, .int v3, .int v4, .int v5] m0) (QQ g vV Φ) 0 0 (Ag g) := by
  refine CT_of (by decide +kernel) rfl (Nat.le_of_ble_eq_true rfl) ?_
  intro p e s m below meth c hx hb hr hml hown hts hlk hnm hK hW ls hl
  have hown : s.vm.findClass RX7 = some m.cls := hown
  have hl : lv_has ls 9 [(0, .ref (ad g v0)), (1, .int v1), (2, .int v2), (3, .int v3), (4, .int v4), (5, .int v5)] := hl
  have i8 : ∀ w ∈ u_ws RX7 TX7 36, w ∈ wsX7_keeps := by decide +kernel
  have B127 : ∀ (s0 : Nat) (s1 : Int32) (s2 : Int32) (mm : Mm), wp_X7_keeps_127 s0 s1 s2 mm Φ → WW p l e rm_X7_keeps s m ([.ref (ad g v0), .int v1, .int v2, .int v3, .int v4, .int v5] : List Value).toArray below meth c (MQ below (QQ g vV Φ) ([.ref (ad g v0), .int v1, .int v2, .int v3, .int v4, .int v5] : List Value).toArray s 0 0 (Ag g)) g mm 9 0 0 127 [] [.int s2, .int s1, .ref (ad g s0)] := by
    intro s0 s1 s2 mm hw H locs ls hW hl
    unfold wp_X7_keeps_127 at hw
    refine R_iast hx hb hK hW hw.1 hw.2.1 dX7_keeps_127 (fun H locs hW => ?_)
    obtain ⟨m1, em1⟩ : ∃ z, z = sI mm s0 s1.toNatClampNeg s2 := ⟨_, rfl⟩
    rw [← em1] at hW
    have hw := hw.2.2 m1 em1
    exact R_vret hx hb hr hlk hW hw dX7_keeps_128
  have B74 : ∀ (v6 : Int32) (v7 : Int32) (mm : Mm), wp_X7_keeps_74 v0 v1 v5 v6 v7 mm Φ → WW p l e rm_X7_keeps s m ([.ref (ad g v0), .int v1, .int v2, .int v3, .int v4, .int v5] : List Value).toArray below meth c (MQ below (QQ g vV Φ) ([.ref (ad g v0), .int v1, .int v2, .int v3, .int v4, .int v5] : List Value).toArray s 0 0 (Ag g)) g mm 9 0 0 74 [(0, .ref (ad g v0)), (1, .int v1), (5, .int v5), (6, .int v6), (7, .int v7)] [] := by
    intro v6 v7 mm hw H locs ls hW hl
    unfold wp_X7_keeps_74 at hw
    refine lv_aload_n hx hb dX7_keeps_74 rfl (lv_at hl 0 rfl) ?_
    refine R_getP (C := RX7) (T := TX7) (N := 36) hx hb hts i8 hown hK hW 30 hw.1 (by decide) rfl (by decide) (hts (.fieldLink RX7 65 "BoatLiftModel" "slotTurn" "[I") (by decide +kernel)) (fun _ h => h) (fun _ _ _ => rfl) hw.2.1 dX7_keeps_75 ?_
    have hw := hw.2.2
    refine lv_iload hx hb dX7_keeps_78 (lv_at hl 4 rfl) ?_
    refine R_iald hx hb hK hW hw.1 hw.2.1 dX7_keeps_80 ?_
    have hw := hw.2.2
    refine lv_aload_n hx hb dX7_keeps_81 rfl (lv_at hl 0 rfl) ?_
    refine R_getI (C := RX7) (T := TX7) (N := 36) hx hb hts i8 hown hK hW 24 hw.1 (by decide) rfl (by decide) (hts (.fieldLink RX7 180 "BoatLiftModel" "turn" "I") (by decide +kernel)) (fun _ h => h) (fun _ _ _ => rfl) dX7_keeps_82 ?_
    have hw := hw.2
    refine lv_icmp_ne (tgt := 129) hx hb dX7_keeps_85 (by decide) (fun c2 => ?_) (fun c2 => ?_)
    · have hw := hw.1 c2
      refine lv_aload_n hx hb dX7_keeps_129 rfl (lv_at hl 0 rfl) ?_
      refine R_getP (C := RX7) (T := TX7) (N := 36) hx hb hts i8 hown hK hW 30 hw.1 (by decide) rfl (by decide) (hts (.fieldLink RX7 65 "BoatLiftModel" "slotTurn" "[I") (by decide +kernel)) (fun _ h => h) (fun _ _ _ => rfl) hw.2.1 dX7_keeps_130 ?_
      have hw := hw.2.2
      refine lv_iload hx hb dX7_keeps_133 (lv_at hl 4 rfl) ?_
      refine lv_aload_n hx hb dX7_keeps_135 rfl (lv_at hl 0 rfl) ?_
      refine R_getI (C := RX7) (T := TX7) (N := 36) hx hb hts i8 hown hK hW 24 hw.1 (by decide) rfl (by decide) (hts (.fieldLink RX7 180 "BoatLiftModel" "turn" "I") (by decide +kernel)) (fun _ h => h) (fun _ _ _ => rfl) dX7_keeps_136 ?_
      have hw := hw.2
      refine R_iast hx hb hK hW hw.1 hw.2.1 dX7_keeps_139 (fun H locs hW => ?_)
      obtain ⟨m3, em3⟩ : ∃ z, z = sI mm (mP mm v0 30) v7.toNatClampNeg (mI mm v0 24) := ⟨_, rfl⟩
      rw [← em3] at hW
      have hw := hw.2.2 m3 em3
      refine lv_aload_n hx hb dX7_keeps_140 rfl (lv_at hl 0 rfl) ?_
      refine R_getP (C := RX7) (T := TX7) (N := 36) hx hb hts i8 hown hK hW 29 hw.1 (by decide) rfl (by decide) (hts (.fieldLink RX7 62 "BoatLiftModel" "slot" "[I") (by decide +kernel)) (fun _ h => h) (fun _ _ _ => rfl) hw.2.1 dX7_keeps_141 ?_
      have hw := hw.2.2
      refine lv_iload hx hb dX7_keeps_144 (lv_at hl 4 rfl) ?_
      refine lv_aload_n hx hb dX7_keeps_146 rfl (lv_at hl 0 rfl) ?_
      refine R_getI (C := RX7) (T := TX7) (N := 36) hx hb hts i8 hown hK hW 25 hw.1 (by decide) rfl (by decide) (hts (.fieldLink RX7 183 "BoatLiftModel" "ways" "I") (by decide +kernel)) (fun _ h => h) (fun _ _ _ => rfl) dX7_keeps_147 ?_
      have hw := hw.2
      refine R_iast hx hb hK hW hw.1 hw.2.1 dX7_keeps_150 (fun H locs hW => ?_)
      obtain ⟨m4, em4⟩ : ∃ z, z = sI m3 (mP m3 v0 29) v7.toNatClampNeg (mI m3 v0 25) := ⟨_, rfl⟩
      rw [← em4] at hW
      have hw := hw.2.2 m4 em4
      refine lv_aload_n hx hb dX7_keeps_151 rfl (lv_at hl 0 rfl) ?_
      refine R_getP (C := RX7) (T := TX7) (N := 36) hx hb hts i8 hown hK hW 31 hw.1 (by decide) rfl (by decide) (hts (.fieldLink RX7 68 "BoatLiftModel" "wayKey" "[I") (by decide +kernel)) (fun _ h => h) (fun _ _ _ => rfl) hw.2.1 dX7_keeps_152 ?_
      have hw := hw.2.2
      refine lv_aload_n hx hb dX7_keeps_155 rfl (lv_at hl 0 rfl) ?_
      refine R_getI (C := RX7) (T := TX7) (N := 36) hx hb hts i8 hown hK hW 25 hw.1 (by decide) rfl (by decide) (hts (.fieldLink RX7 183 "BoatLiftModel" "ways" "I") (by decide +kernel)) (fun _ h => h) (fun _ _ _ => rfl) dX7_keeps_156 ?_
      have hw := hw.2
      refine lv_iload hx hb dX7_keeps_159 (lv_at hl 3 rfl) ?_
      refine R_iast hx hb hK hW hw.1 hw.2.1 dX7_keeps_161 (fun H locs hW => ?_)
      obtain ⟨m5, em5⟩ : ∃ z, z = sI m4 (mP m4 v0 31) (mI m4 v0 25).toNatClampNeg v6 := ⟨_, rfl⟩
      rw [← em5] at hW
      have hw := hw.2.2 m5 em5
      refine lv_aload_n hx hb dX7_keeps_162 rfl (lv_at hl 0 rfl) ?_
      refine R_getP (C := RX7) (T := TX7) (N := 36) hx hb hts i8 hown hK hW 32 hw.1 (by decide) rfl (by decide) (hts (.fieldLink RX7 71 "BoatLiftModel" "wayWait" "[I") (by decide +kernel)) (fun _ h => h) (fun _ _ _ => rfl) hw.2.1 dX7_keeps_163 ?_
      have hw := hw.2.2
      refine lv_aload_n hx hb dX7_keeps_166 rfl (lv_at hl 0 rfl) ?_
      refine R_getI (C := RX7) (T := TX7) (N := 36) hx hb hts i8 hown hK hW 25 hw.1 (by decide) rfl (by decide) (hts (.fieldLink RX7 183 "BoatLiftModel" "ways" "I") (by decide +kernel)) (fun _ h => h) (fun _ _ _ => rfl) dX7_keeps_167 ?_
      have hw := hw.2
      refine lv_iload hx hb dX7_keeps_170 (lv_at hl 2 rfl) ?_
      refine R_iast hx hb hK hW hw.1 hw.2.1 dX7_keeps_172 (fun H locs hW => ?_)
      obtain ⟨m6, em6⟩ : ∃ z, z = sI m5 (mP m5 v0 32) (mI m5 v0 25).toNatClampNeg v5 := ⟨_, rfl⟩
      rw [← em6] at hW
      have hw := hw.2.2 m6 em6
      refine lv_aload_n hx hb dX7_keeps_173 rfl (lv_at hl 0 rfl) ?_
      refine R_getP (C := RX7) (T := TX7) (N := 36) hx hb hts i8 hown hK hW 33 hw.1 (by decide) rfl (by decide) (hts (.fieldLink RX7 74 "BoatLiftModel" "next" "[I") (by decide +kernel)) (fun _ h => h) (fun _ _ _ => rfl) hw.2.1 dX7_keeps_174 ?_
      have hw := hw.2.2
      refine lv_aload_n hx hb dX7_keeps_177 rfl (lv_at hl 0 rfl) ?_
      refine R_getI (C := RX7) (T := TX7) (N := 36) hx hb hts i8 hown hK hW 25 hw.1 (by decide) rfl (by decide) (hts (.fieldLink RX7 183 "BoatLiftModel" "ways" "I") (by decide +kernel)) (fun _ h => h) (fun _ _ _ => rfl) dX7_keeps_178 ?_
      have hw := hw.2
      refine lv_aload_n hx hb dX7_keeps_181 rfl (lv_at hl 0 rfl) ?_
      refine R_getP (C := RX7) (T := TX7) (N := 36) hx hb hts i8 hown hK hW 34 hw.1 (by decide) rfl (by decide) (hts (.fieldLink RX7 78 "BoatLiftModel" "head" "[I") (by decide +kernel)) (fun _ h => h) (fun _ _ _ => rfl) hw.2.1 dX7_keeps_182 ?_
      have hw := hw.2.2
      refine lv_iload_n hx hb dX7_keeps_185 rfl (lv_at hl 1 rfl) ?_
      refine R_iald hx hb hK hW hw.1 hw.2.1 dX7_keeps_186 ?_
      have hw := hw.2.2
      refine R_iast hx hb hK hW hw.1 hw.2.1 dX7_keeps_187 (fun H locs hW => ?_)
      obtain ⟨m7, em7⟩ : ∃ z, z = sI m6 (mP m6 v0 33) (mI m6 v0 25).toNatClampNeg (mI m6 (mP m6 v0 34) v1.toNatClampNeg) := ⟨_, rfl⟩
      rw [← em7] at hW
      have hw := hw.2.2 m7 em7
      refine lv_aload_n hx hb dX7_keeps_188 rfl (lv_at hl 0 rfl) ?_
      refine R_getP (C := RX7) (T := TX7) (N := 36) hx hb hts i8 hown hK hW 34 hw.1 (by decide) rfl (by decide) (hts (.fieldLink RX7 78 "BoatLiftModel" "head" "[I") (by decide +kernel)) (fun _ h => h) (fun _ _ _ => rfl) hw.2.1 dX7_keeps_189 ?_
      have hw := hw.2.2
      refine lv_iload_n hx hb dX7_keeps_192 rfl (lv_at hl 1 rfl) ?_
      refine lv_aload_n hx hb dX7_keeps_193 rfl (lv_at hl 0 rfl) ?_
      refine R_getI (C := RX7) (T := TX7) (N := 36) hx hb hts i8 hown hK hW 25 hw.1 (by decide) rfl (by decide) (hts (.fieldLink RX7 183 "BoatLiftModel" "ways" "I") (by decide +kernel)) (fun _ h => h) (fun _ _ _ => rfl) dX7_keeps_194 ?_
      have hw := hw.2
      refine R_iast hx hb hK hW hw.1 hw.2.1 dX7_keeps_197 (fun H locs hW => ?_)
      obtain ⟨m8, em8⟩ : ∃ z, z = sI m7 (mP m7 v0 34) v1.toNatClampNeg (mI m7 v0 25) := ⟨_, rfl⟩
      rw [← em8] at hW
      have hw := hw.2.2 m8 em8
      refine lv_aload_n hx hb dX7_keeps_198 rfl (lv_at hl 0 rfl) ?_
      refine lv_dup hx hb dX7_keeps_199 rfl ?_
      refine R_getI (C := RX7) (T := TX7) (N := 36) hx hb hts i8 hown hK hW 25 hw.1 (by decide) rfl (by decide) (hts (.fieldLink RX7 183 "BoatLiftModel" "ways" "I") (by decide +kernel)) (fun _ h => h) (fun _ _ _ => rfl) dX7_keeps_200 ?_
      have hw := hw.2
      refine lv_iconst (v := (1 : Int32)) hx hb dX7_keeps_203 (by decide) ?_
      refine lv_iadd hx hb dX7_keeps_204 ?_
      refine R_putI (C := RX7) (T := TX7) (N := 36) hx hb hts i8 tyX7 tyX7_ok nmX7 hown hK hW 25 hw.1 (by decide) rfl (by decide) (hts (.fieldLink RX7 183 "BoatLiftModel" "ways" "I") (by decide +kernel)) (fun _ h => h) (Or.inl rfl) rfl (fun _ _ _ => rfl) (fun _ _ _ => rfl) dX7_keeps_205 (fun H locs hW => ?_)
      obtain ⟨m9, em9⟩ : ∃ z, z = sI m8 v0 25 ((mI m8 v0 25) + (1 : Int32)) := ⟨_, rfl⟩
      rw [← em9] at hW
      have hw := hw.2 m9 em9
      exact R_vret hx hb hr hlk hW hw dX7_keeps_208
    · have hw := hw.2 c2
      refine lv_aload_n hx hb dX7_keeps_88 rfl (lv_at hl 0 rfl) ?_
      refine R_getP (C := RX7) (T := TX7) (N := 36) hx hb hts i8 hown hK hW 29 hw.1 (by decide) rfl (by decide) (hts (.fieldLink RX7 62 "BoatLiftModel" "slot" "[I") (by decide +kernel)) (fun _ h => h) (fun _ _ _ => rfl) hw.2.1 dX7_keeps_89 ?_
      have hw := hw.2.2
      refine lv_iload hx hb dX7_keeps_92 (lv_at hl 4 rfl) ?_
      refine R_iald hx hb hK hW hw.1 hw.2.1 dX7_keeps_94 ?_
      have hw := hw.2.2
      refine lv_istore (lv' := [(8, .int (mI mm (mP mm v0 29) v7.toNatClampNeg)), (0, .ref (ad g v0)), (1, .int v1), (5, .int v5), (6, .int v6), (7, .int v7)]) hx hb dX7_keeps_95 hl (by decide) rfl (fun ls hl => ?_)
      refine lv_aload_n hx hb dX7_keeps_97 rfl (lv_at hl 1 rfl) ?_
      refine R_getP (C := RX7) (T := TX7) (N := 36) hx hb hts i8 hown hK hW 32 hw.1 (by decide) rfl (by decide) (hts (.fieldLink RX7 71 "BoatLiftModel" "wayWait" "[I") (by decide +kernel)) (fun _ h => h) (fun _ _ _ => rfl) hw.2.1 dX7_keeps_98 ?_
      have hw := hw.2.2
      refine lv_iload hx hb dX7_keeps_101 (lv_at hl 0 rfl) ?_
      refine lv_iload hx hb dX7_keeps_103 (lv_at hl 3 rfl) ?_
      refine lv_aload_n hx hb dX7_keeps_105 rfl (lv_at hl 1 rfl) ?_
      refine R_getP (C := RX7) (T := TX7) (N := 36) hx hb hts i8 hown hK hW 32 hw.1 (by decide) rfl (by decide) (hts (.fieldLink RX7 71 "BoatLiftModel" "wayWait" "[I") (by decide +kernel)) (fun _ h => h) (fun _ _ _ => rfl) hw.2.1 dX7_keeps_106 ?_
      have hw := hw.2.2
      refine lv_iload hx hb dX7_keeps_109 (lv_at hl 0 rfl) ?_
      refine R_iald hx hb hK hW hw.1 hw.2.1 dX7_keeps_111 ?_
      have hw := hw.2.2
      refine lv_icmp_ge (tgt := 120) hx hb dX7_keeps_112 (by decide) (fun c10 => ?_) (fun c10 => ?_)
      · have hw := hw.1 c10
        refine lv_aload_n hx hb dX7_keeps_120 rfl (lv_at hl 1 rfl) ?_
        refine R_getP (C := RX7) (T := TX7) (N := 36) hx hb hts i8 hown hK hW 32 hw.1 (by decide) rfl (by decide) (hts (.fieldLink RX7 71 "BoatLiftModel" "wayWait" "[I") (by decide +kernel)) (fun _ h => h) (fun _ _ _ => rfl) hw.2.1 dX7_keeps_121 ?_
        have hw := hw.2.2
        refine lv_iload hx hb dX7_keeps_124 (lv_at hl 0 rfl) ?_
        refine R_iald hx hb hK hW hw.1 hw.2.1 dX7_keeps_126 ?_
        have hw := hw.2.2
        exact B127 (mP mm v0 32) (mI mm (mP mm v0 29) v7.toNatClampNeg) (mI mm (mP mm v0 32) (mI mm (mP mm v0 29) v7.toNatClampNeg).toNatClampNeg) mm hw _ _ _ hW (lv_sub hl [] rfl)
      · have hw := hw.2 c10
        refine lv_iload hx hb dX7_keeps_115 (lv_at hl 3 rfl) ?_
        refine lv_goto (tgt := 127) hx hb dX7_keeps_117 (by decide) ?_
        exact B127 (mP mm v0 32) (mI mm (mP mm v0 29) v7.toNatClampNeg) v5 mm hw _ _ _ hW (lv_sub hl [] rfl)
  have L31 : ∀ (v6 : Int32) (n : Nat) (v7 : Int32) (mm : Mm), LOp (fun K x => wp_X7_keeps_31  (fun z0 z1 => K (z0, z1)) v0 v1 v5 v6 x.1 x.2 Φ) n (v7, mm) → WW p l e rm_X7_keeps s m ([.ref (ad g v0), .int v1, .int v2, .int v3, .int v4, .int v5] : List Value).toArray below meth c (MQ below (QQ g vV Φ) ([.ref (ad g v0), .int v1, .int v2, .int v3, .int v4, .int v5] : List Value).toArray s 0 0 (Ag g)) g mm 9 0 0 31 [(0, .ref (ad g v0)), (1, .int v1), (5, .int v5), (6, .int v6), (7, .int v7)] [] := by
    intro v6 n
    induction n with
    | zero => intro v7 mm hw; exact hw.elim
    | succ n ih31 =>
      obtain ⟨K31, eK31⟩ : ∃ K : Int32 → Mm → Prop, K = fun v7 mm => LOp (fun K x => wp_X7_keeps_31  (fun z0 z1 => K (z0, z1)) v0 v1 v5 v6 x.1 x.2 Φ) n (v7, mm) := ⟨_, rfl⟩
      have ih31 : ∀ (v7 : Int32) (mm : Mm), K31 v7 mm → WW p l e rm_X7_keeps s m ([.ref (ad g v0), .int v1, .int v2, .int v3, .int v4, .int v5] : List Value).toArray below meth c (MQ below (QQ g vV Φ) ([.ref (ad g v0), .int v1, .int v2, .int v3, .int v4, .int v5] : List Value).toArray s 0 0 (Ag g)) g mm 9 0 0 31 [(0, .ref (ad g v0)), (1, .int v1), (5, .int v5), (6, .int v6), (7, .int v7)] [] := by rw [eK31]; exact ih31
      intro v7 mm hw H locs ls hW hl
      have hw : wp_X7_keeps_31 K31 v0 v1 v5 v6 v7 mm Φ := by rw [eK31]; exact hw
      unfold wp_X7_keeps_31 at hw
      refine lv_aload_n hx hb dX7_keeps_31 rfl (lv_at hl 0 rfl) ?_
      refine R_getP (C := RX7) (T := TX7) (N := 36) hx hb hts i8 hown hK hW 30 hw.1 (by decide) rfl (by decide) (hts (.fieldLink RX7 65 "BoatLiftModel" "slotTurn" "[I") (by decide +kernel)) (fun _ h => h) (fun _ _ _ => rfl) hw.2.1 dX7_keeps_32 ?_
      have hw := hw.2.2
      refine lv_iload hx hb dX7_keeps_35 (lv_at hl 4 rfl) ?_
      refine R_iald hx hb hK hW hw.1 hw.2.1 dX7_keeps_37 ?_
      have hw := hw.2.2
      refine lv_aload_n hx hb dX7_keeps_38 rfl (lv_at hl 0 rfl) ?_
      refine R_getI (C := RX7) (T := TX7) (N := 36) hx hb hts i8 hown hK hW 24 hw.1 (by decide) rfl (by decide) (hts (.fieldLink RX7 180 "BoatLiftModel" "turn" "I") (by decide +kernel)) (fun _ h => h) (fun _ _ _ => rfl) dX7_keeps_39 ?_
      have hw := hw.2
      refine lv_icmp_ne (tgt := 74) hx hb dX7_keeps_42 (by decide) (fun c11 => ?_) (fun c11 => ?_)
      · have hw := hw.1 c11
        exact B74 v6 v7 mm hw _ _ _ hW (lv_sub hl [0, 1, 2, 3, 4] rfl)
      · have hw := hw.2 c11
        refine lv_aload_n hx hb dX7_keeps_45 rfl (lv_at hl 0 rfl) ?_
        refine R_getP (C := RX7) (T := TX7) (N := 36) hx hb hts i8 hown hK hW 31 hw.1 (by decide) rfl (by decide) (hts (.fieldLink RX7 68 "BoatLiftModel" "wayKey" "[I") (by decide +kernel)) (fun _ h => h) (fun _ _ _ => rfl) hw.2.1 dX7_keeps_46 ?_
        have hw := hw.2.2
        refine lv_aload_n hx hb dX7_keeps_49 rfl (lv_at hl 0 rfl) ?_
        refine R_getP (C := RX7) (T := TX7) (N := 36) hx hb hts i8 hown hK hW 29 hw.1 (by decide) rfl (by decide) (hts (.fieldLink RX7 62 "BoatLiftModel" "slot" "[I") (by decide +kernel)) (fun _ h => h) (fun _ _ _ => rfl) hw.2.1 dX7_keeps_50 ?_
        have hw := hw.2.2
        refine lv_iload hx hb dX7_keeps_53 (lv_at hl 4 rfl) ?_
        refine R_iald hx hb hK hW hw.1 hw.2.1 dX7_keeps_55 ?_
        have hw := hw.2.2
        refine R_iald hx hb hK hW hw.1 hw.2.1 dX7_keeps_56 ?_
        have hw := hw.2.2
        refine lv_iload hx hb dX7_keeps_57 (lv_at hl 3 rfl) ?_
        refine lv_icmp_eq (tgt := 74) hx hb dX7_keeps_59 (by decide) (fun c12 => ?_) (fun c12 => ?_)
        · have hw := hw.1 c12
          exact B74 v6 v7 mm hw _ _ _ hW (lv_sub hl [0, 1, 2, 3, 4] rfl)
        · have hw := hw.2 c12
          refine lv_iload hx hb dX7_keeps_62 (lv_at hl 4 rfl) ?_
          refine lv_iconst (v := (1 : Int32)) hx hb dX7_keeps_64 (by decide) ?_
          refine lv_iadd hx hb dX7_keeps_65 ?_
          refine lv_ldc hx hb hown (hts (.constant RX7 179 (262143)) (by decide +kernel)) dX7_keeps_66 ?_
          refine lv_iand hx hb dX7_keeps_68 ?_
          refine lv_istore (lv' := [(7, .int ((v7 + (1 : Int32)) &&& (262143 : Int32))), (0, .ref (ad g v0)), (1, .int v1), (5, .int v5), (6, .int v6)]) hx hb dX7_keeps_69 hl (by decide) rfl (fun ls hl => ?_)
          refine lv_goto (tgt := 31) hx hb dX7_keeps_71 (by decide) ?_
          exact ih31 ((v7 + (1 : Int32)) &&& (262143 : Int32)) mm hw _ _ _ hW (lv_sub hl [1, 2, 3, 4, 0] rfl)
  unfold wp_X7_keeps at hw
  refine lv_sipush (v := (256 : Int32)) hx hb dX7_keeps_0 (by decide) ?_
  refine lv_iload_n hx hb dX7_keeps_3 rfl (lv_at hl 1 rfl) ?_
  refine lv_imul hx hb dX7_keeps_4 ?_
  refine lv_iconst (v := (4 : Int32)) hx hb dX7_keeps_5 (by decide) ?_
  refine lv_iload_n hx hb dX7_keeps_6 rfl (lv_at hl 2 rfl) ?_
  refine lv_imul hx hb dX7_keeps_7 ?_
  refine lv_iadd hx hb dX7_keeps_8 ?_
  refine lv_iconst (v := (2 : Int32)) hx hb dX7_keeps_9 (by decide) ?_
  refine lv_iload_n hx hb dX7_keeps_10 rfl (lv_at hl 3 rfl) ?_
  refine lv_imul hx hb dX7_keeps_11 ?_
  refine lv_iadd hx hb dX7_keeps_12 ?_
  refine lv_iload hx hb dX7_keeps_13 (lv_at hl 4 rfl) ?_
  refine lv_iadd hx hb dX7_keeps_15 ?_
  refine lv_topi (fun x13 ex13 => ?_)
  have hw := hw x13 ex13
  refine lv_istore (lv' := [(6, .int x13), (0, .ref (ad g v0)), (1, .int v1), (2, .int v2), (3, .int v3), (4, .int v4), (5, .int v5)]) hx hb dX7_keeps_16 hl (by decide) rfl (fun ls hl => ?_)
  refine lv_iload hx hb dX7_keeps_18 (lv_at hl 0 rfl) ?_
  refine lv_iload hx hb dX7_keeps_20 (lv_at hl 0 rfl) ?_
  refine lv_bipush (v := (9 : Int32)) hx hb dX7_keeps_22 (by decide) ?_
  refine lv_iushr (v := (x13.toUInt32 >>> ((9 : Int32).toUInt32 &&& Int32.toUInt32 31)).toInt32) hx hb dX7_keeps_24 rfl ?_
  refine lv_ixor hx hb dX7_keeps_25 ?_
  refine lv_ldc hx hb hown (hts (.constant RX7 179 (262143)) (by decide +kernel)) dX7_keeps_26 ?_
  refine lv_iand hx hb dX7_keeps_28 ?_
  refine lv_topi (fun x14 ex14 => ?_)
  have hw := hw x14 ex14
  refine lv_istore (lv' := [(7, .int x14), (6, .int x13), (0, .ref (ad g v0)), (1, .int v1), (2, .int v2), (3, .int v3), (4, .int v4), (5, .int v5)]) hx hb dX7_keeps_29 hl (by decide) rfl (fun ls hl => ?_)
  obtain ⟨n, hw⟩ := hw
  exact L31 x13 n x14 m0 hw _ _ _ hW (lv_sub hl [2, 3, 7, 1, 0] rfl)

def wp_X7_numberOf_2 (K2 : Int32 → Mm → Prop) (v0 : Nat) (v1 : Int32) (v2 : Int32) (mm : Mm) (Φ : Int32 → Mm → Prop) : Prop :=
  mT mm v0 = 8 ∧ (mP mm v0 35) ≠ 0 ∧ mT mm (mP mm v0 35) = 9 ∧ vp_in v2 (mN mm (mP mm v0 35)) ∧ (((mI mm (mP mm v0 35) v2.toNatClampNeg) = v1 → Φ v2 mm) ∧ (¬ (mI mm (mP mm v0 35) v2.toNatClampNeg) = v1 → K2 (v2 + (1 : Int32)) mm))
def wp_X7_numberOf (m0 : Mm) (v0 : Nat) (v1 : Int32) (Φ : Int32 → Mm → Prop) : Prop :=
  ∃ n, LOp (fun K x => wp_X7_numberOf_2  (fun z0 z1 => K (z0, z1)) v0 v1 x.1 x.2 Φ) n ((0 : Int32), m0)
abbrev rm_X7_numberOf : Room := { frames := 0, cells := 0, slots := 0, locals := 0 }
set_option maxHeartbeats 4000000 in
set_option maxRecDepth 100000 in
theorem c_X7_numberOf (l : Launch) (g : Gv) (m0 : Mm) (v0 : Nat) (v1 : Int32) (Φ : Int32 → Mm → Prop) (hw : wp_X7_numberOf m0 v0 v1 Φ) : Met l yX7_numberOf wsX7_numberOf rm_X7_numberOf (PP g [.ref (ad g v0), .int v1] m0) (QQ g vI Φ) 0 0 (Ag g) := by
  refine CT_of (by decide +kernel) rfl (Nat.le_of_ble_eq_true rfl) ?_
  intro p e s m below meth c hx hb hr hml hown hts hlk hnm hK hW ls hl
  have hown : s.vm.findClass RX7 = some m.cls := hown
  have hl : lv_has ls 3 [(0, .ref (ad g v0)), (1, .int v1)] := hl
  have i8 : ∀ w ∈ u_ws RX7 TX7 36, w ∈ wsX7_numberOf := by decide +kernel
  have L2 : ∀ (n : Nat) (v2 : Int32) (mm : Mm), LOp (fun K x => wp_X7_numberOf_2  (fun z0 z1 => K (z0, z1)) v0 v1 x.1 x.2 Φ) n (v2, mm) → WW p l e rm_X7_numberOf s m ([.ref (ad g v0), .int v1] : List Value).toArray below meth c (MQ below (QQ g vI Φ) ([.ref (ad g v0), .int v1] : List Value).toArray s 0 0 (Ag g)) g mm 3 0 0 2 [(0, .ref (ad g v0)), (1, .int v1), (2, .int v2)] [] := by
    intro  n
    induction n with
    | zero => intro v2 mm hw; exact hw.elim
    | succ n ih2 =>
      obtain ⟨K2, eK2⟩ : ∃ K : Int32 → Mm → Prop, K = fun v2 mm => LOp (fun K x => wp_X7_numberOf_2  (fun z0 z1 => K (z0, z1)) v0 v1 x.1 x.2 Φ) n (v2, mm) := ⟨_, rfl⟩
      have ih2 : ∀ (v2 : Int32) (mm : Mm), K2 v2 mm → WW p l e rm_X7_numberOf s m ([.ref (ad g v0), .int v1] : List Value).toArray below meth c (MQ below (QQ g vI Φ) ([.ref (ad g v0), .int v1] : List Value).toArray s 0 0 (Ag g)) g mm 3 0 0 2 [(0, .ref (ad g v0)), (1, .int v1), (2, .int v2)] [] := by rw [eK2]; exact ih2
      intro v2 mm hw H locs ls hW hl
      have hw : wp_X7_numberOf_2 K2 v0 v1 v2 mm Φ := by rw [eK2]; exact hw
      unfold wp_X7_numberOf_2 at hw
      refine lv_aload_n hx hb dX7_numberOf_2 rfl (lv_at hl 0 rfl) ?_
      refine R_getP (C := RX7) (T := TX7) (N := 36) hx hb hts i8 hown hK hW 35 hw.1 (by decide) rfl (by decide) (hts (.fieldLink RX7 81 "BoatLiftModel" "plan" "[I") (by decide +kernel)) (fun _ h => h) (fun _ _ _ => rfl) hw.2.1 dX7_numberOf_3 ?_
      have hw := hw.2.2
      refine lv_iload_n hx hb dX7_numberOf_6 rfl (lv_at hl 2 rfl) ?_
      refine R_iald hx hb hK hW hw.1 hw.2.1 dX7_numberOf_7 ?_
      have hw := hw.2.2
      refine lv_iload_n hx hb dX7_numberOf_8 rfl (lv_at hl 1 rfl) ?_
      refine lv_icmp_eq (tgt := 18) hx hb dX7_numberOf_9 (by decide) (fun c1 => ?_) (fun c1 => ?_)
      · have hw := hw.1 c1
        refine lv_iload_n hx hb dX7_numberOf_18 rfl (lv_at hl 2 rfl) ?_
        exact R_iret hx hb hr hlk hW hw dX7_numberOf_19
      · have hw := hw.2 c1
        refine lv_iinc (v := (v2 + (1 : Int32))) (lv' := [(2, .int (v2 + (1 : Int32))), (0, .ref (ad g v0)), (1, .int v1)]) hx hb dX7_numberOf_12 hl (k := 2) rfl rfl (by decide) rfl (fun ls hl => ?_)
        refine lv_goto (tgt := 2) hx hb dX7_numberOf_15 (by decide) ?_
        exact ih2 (v2 + (1 : Int32)) mm hw _ _ _ hW (lv_sub hl [1, 2, 0] rfl)
  unfold wp_X7_numberOf at hw
  refine lv_iconst (v := (0 : Int32)) hx hb dX7_numberOf_0 (by decide) ?_
  refine lv_istore_n (lv' := [(2, .int (0 : Int32)), (0, .ref (ad g v0)), (1, .int v1)]) hx hb dX7_numberOf_1 rfl hl (by decide) rfl (fun ls hl => ?_)
  obtain ⟨n, hw⟩ := hw
  exact L2  n (0 : Int32) m0 hw _ _ _ hW (lv_sub hl [1, 2, 0] rfl)

def wp_X7_begins_118 (K27 : Int32 → Int32 → Int32 → Mm → Prop) (v0 : Nat) (v1 : Int32) (v3 : Int32) (v4 : Int32) (v6 : Int32) (v7 : Int32) (v8 : Int32) (v9 : Int32) (mm : Mm) (Φ : Unit → Mm → Prop) : Prop :=
  K27 v7 v8 (v9 + (1 : Int32)) mm
def wp_X7_begins_113 (K27 : Int32 → Int32 → Int32 → Mm → Prop) (v0 : Nat) (v1 : Int32) (v3 : Int32) (v4 : Int32) (v6 : Int32) (v7 : Int32) (v8 : Int32) (v9 : Int32) (s0 : Nat) (s1 : Int32) (s2 : Int32) (s3 : Int32) (s4 : Int32) (mm : Mm) (Φ : Unit → Mm → Prop) : Prop :=
  mT mm s0 = 8 ∧ wp_X7_keeps mm s0 s1 s2 s3 s4 v8 (fun (_ : Unit) (m2 : Mm) => wp_X7_begins_118 K27 v0 v1 v3 v4 v6 v7 v8 v9 m2 Φ)
def wp_X7_begins_90 (K27 : Int32 → Int32 → Int32 → Mm → Prop) (v0 : Nat) (v1 : Int32) (v3 : Int32) (v4 : Int32) (v6 : Int32) (v7 : Int32) (v8 : Int32) (v9 : Int32) (mm : Mm) (Φ : Unit → Mm → Prop) : Prop :=
  mT mm v0 = 8 ∧ wp_X7_lasts mm v0 v1 (fun (r3 : Int32) (m4 : Mm) => ((v9 ≤ 0 → wp_X7_begins_113 K27 v0 v1 v3 v4 v6 v7 v8 v9 v0 (v1 + r3) v7 ((1 : Int32) - v3) (1 : Int32) m4 Φ) ∧ (¬ v9 ≤ 0 → wp_X7_begins_113 K27 v0 v1 v3 v4 v6 v7 v8 v9 v0 (v1 + r3) v7 ((1 : Int32) - v3) (0 : Int32) m4 Φ)))
def wp_X7_begins_80 (K27 : Int32 → Int32 → Int32 → Mm → Prop) (v0 : Nat) (v1 : Int32) (v3 : Int32) (v4 : Int32) (v6 : Int32) (v7 : Int32) (v8 : Int32) (v9 : Int32) (mm : Mm) (Φ : Unit → Mm → Prop) : Prop :=
  ((0 < v9 → wp_X7_begins_90 K27 v0 v1 v3 v4 v6 v7 v8 v9 mm Φ) ∧ (¬ 0 < v9 → ((¬ v4 = 0 → wp_X7_begins_118 K27 v0 v1 v3 v4 v6 v7 v8 v9 mm Φ) ∧ (v4 = 0 → wp_X7_begins_90 K27 v0 v1 v3 v4 v6 v7 v8 v9 mm Φ))))
def wp_X7_begins_27 (K27 : Int32 → Int32 → Int32 → Mm → Prop) (v0 : Nat) (v1 : Int32) (v3 : Int32) (v4 : Int32) (v6 : Int32) (v7 : Int32) (v8 : Int32) (v9 : Int32) (mm : Mm) (Φ : Unit → Mm → Prop) : Prop :=
  ((v6 < v9 → Φ () mm) ∧ (¬ v6 < v9 → ((v9 ≤ 0 → wp_X7_begins_80 K27 v0 v1 v3 v4 v6 v7 v8 v9 mm Φ) ∧ (¬ v9 ≤ 0 → mT mm v0 = 8 ∧ (mP mm v0 23) ≠ 0 ∧ mT mm (mP mm v0 23) = 9 ∧ vp_in (v9 - (1 : Int32)) (mN mm (mP mm v0 23)) ∧ mT mm v0 = 8 ∧ wp_X7_numberOf mm v0 (mI mm (mP mm v0 23) (v9 - (1 : Int32)).toNatClampNeg) (fun (r10 : Int32) (m11 : Mm) => mT m11 v0 = 8 ∧ (mP m11 v0 16) ≠ 0 ∧ mT m11 v0 = 8 ∧ (mP m11 v0 23) ≠ 0 ∧ mT m11 (mP m11 v0 23) = 9 ∧ vp_in (v9 - (1 : Int32)) (mN m11 (mP m11 v0 23)) ∧ mT m11 (mP m11 v0 16) = 9 ∧ vp_in (mI m11 (mP m11 v0 23) (v9 - (1 : Int32)).toNatClampNeg) (mN m11 (mP m11 v0 16)) ∧ ∀ x12 : Int32, x12 = (v8 + (v1 - (mI m11 (mP m11 v0 16) (mI m11 (mP m11 v0 23) (v9 - (1 : Int32)).toNatClampNeg).toNatClampNeg))) → wp_X7_begins_80 K27 v0 v1 v3 v4 v6 (v7 ||| ((1 : Int32) <<< (r10 &&& 31))) x12 v9 m11 Φ)))))
def wp_X7_begins (m0 : Mm) (v0 : Nat) (v1 : Int32) (v2 : Int32) (v3 : Int32) (v4 : Int32) (v5 : Int32) (Φ : Unit → Mm → Prop) : Prop :=
  mT m0 v0 = 8 ∧ wp_X7_boatsOf m0 v0 v2 (fun (r13 : Int32) (m14 : Mm) => mT m14 v0 = 8 ∧ wp_X7_queues m14 v0 v3 v1 r13 (fun (_ : Unit) (m16 : Mm) => mT m16 v0 = 8 ∧ wp_X7_fits m16 v0 (fun (r17 : Int32) (m18 : Mm) => ∃ n, LOp (fun K x => wp_X7_begins_27  (fun z0 z1 z2 z3 => K (z0, z1, z2, z3)) v0 v1 v3 v4 r17 x.1 x.2.1 x.2.2.1 x.2.2.2 Φ) n (v2, v5, (0 : Int32), m18))))
abbrev rm_X7_begins : Room := { frames := 6, cells := 0, slots := 0, locals := 132 }
set_option maxHeartbeats 4000000 in
set_option maxRecDepth 100000 in
theorem c_X7_begins (l : Launch) (g : Gv) (m0 : Mm) (v0 : Nat) (v1 : Int32) (v2 : Int32) (v3 : Int32) (v4 : Int32) (v5 : Int32) (Φ : Unit → Mm → Prop) (hw : wp_X7_begins m0 v0 v1 v2 v3 v4 v5 Φ) : Met l yX7_begins wsX7_begins rm_X7_begins (PP g [.ref (ad g v0), .int v1, .int v2, .int v3, .int v4, .int v5] m0) (QQ g vV Φ) 0 0 (Ag g) := by
  refine CT_of (by decide +kernel) rfl (Nat.le_of_ble_eq_true rfl) ?_
  intro p e s m below meth c hx hb hr hml hown hts hlk hnm hK hW ls hl
  have hown : s.vm.findClass RX7 = some m.cls := hown
  have hl : lv_has ls 10 [(0, .ref (ad g v0)), (1, .int v1), (2, .int v2), (3, .int v3), (4, .int v4), (5, .int v5)] := hl
  have i8 : ∀ w ∈ u_ws RX7 TX7 36, w ∈ wsX7_begins := by decide +kernel
  have L27 : ∀ (v6 : Int32) (n : Nat) (v7 : Int32) (v8 : Int32) (v9 : Int32) (mm : Mm), LOp (fun K x => wp_X7_begins_27  (fun z0 z1 z2 z3 => K (z0, z1, z2, z3)) v0 v1 v3 v4 v6 x.1 x.2.1 x.2.2.1 x.2.2.2 Φ) n (v7, v8, v9, mm) → WW p l e rm_X7_begins s m ([.ref (ad g v0), .int v1, .int v2, .int v3, .int v4, .int v5] : List Value).toArray below meth c (MQ below (QQ g vV Φ) ([.ref (ad g v0), .int v1, .int v2, .int v3, .int v4, .int v5] : List Value).toArray s 0 0 (Ag g)) g mm 10 0 0 27 [(0, .ref (ad g v0)), (1, .int v1), (3, .int v3), (4, .int v4), (6, .int v6), (7, .int v7), (8, .int v8), (9, .int v9)] [] := by
    intro v6 n
    induction n with
    | zero => intro v7 v8 v9 mm hw; exact hw.elim
    | succ n ih27 =>
      obtain ⟨K27, eK27⟩ : ∃ K : Int32 → Int32 → Int32 → Mm → Prop, K = fun v7 v8 v9 mm => LOp (fun K x => wp_X7_begins_27  (fun z0 z1 z2 z3 => K (z0, z1, z2, z3)) v0 v1 v3 v4 v6 x.1 x.2.1 x.2.2.1 x.2.2.2 Φ) n (v7, v8, v9, mm) := ⟨_, rfl⟩
      have ih27 : ∀ (v7 : Int32) (v8 : Int32) (v9 : Int32) (mm : Mm), K27 v7 v8 v9 mm → WW p l e rm_X7_begins s m ([.ref (ad g v0), .int v1, .int v2, .int v3, .int v4, .int v5] : List Value).toArray below meth c (MQ below (QQ g vV Φ) ([.ref (ad g v0), .int v1, .int v2, .int v3, .int v4, .int v5] : List Value).toArray s 0 0 (Ag g)) g mm 10 0 0 27 [(0, .ref (ad g v0)), (1, .int v1), (3, .int v3), (4, .int v4), (6, .int v6), (7, .int v7), (8, .int v8), (9, .int v9)] [] := by rw [eK27]; exact ih27
      have B118 : ∀ (v7 : Int32) (v8 : Int32) (v9 : Int32) (mm : Mm), wp_X7_begins_118 K27 v0 v1 v3 v4 v6 v7 v8 v9 mm Φ → WW p l e rm_X7_begins s m ([.ref (ad g v0), .int v1, .int v2, .int v3, .int v4, .int v5] : List Value).toArray below meth c (MQ below (QQ g vV Φ) ([.ref (ad g v0), .int v1, .int v2, .int v3, .int v4, .int v5] : List Value).toArray s 0 0 (Ag g)) g mm 10 0 0 118 [(0, .ref (ad g v0)), (1, .int v1), (3, .int v3), (4, .int v4), (6, .int v6), (7, .int v7), (8, .int v8), (9, .int v9)] [] := by
        intro v7 v8 v9 mm hw H locs ls hW hl
        unfold wp_X7_begins_118 at hw
        refine lv_iinc (v := (v9 + (1 : Int32))) (lv' := [(9, .int (v9 + (1 : Int32))), (0, .ref (ad g v0)), (1, .int v1), (3, .int v3), (4, .int v4), (6, .int v6), (7, .int v7), (8, .int v8)]) hx hb dX7_begins_118 hl (k := 7) rfl rfl (by decide) rfl (fun ls hl => ?_)
        refine lv_goto (tgt := 27) hx hb dX7_begins_121 (by decide) ?_
        exact ih27 v7 v8 (v9 + (1 : Int32)) mm hw _ _ _ hW (lv_sub hl [1, 2, 3, 4, 5, 6, 7, 0] rfl)
      have B113 : ∀ (v7 : Int32) (v8 : Int32) (v9 : Int32) (s0 : Nat) (s1 : Int32) (s2 : Int32) (s3 : Int32) (s4 : Int32) (mm : Mm), wp_X7_begins_113 K27 v0 v1 v3 v4 v6 v7 v8 v9 s0 s1 s2 s3 s4 mm Φ → WW p l e rm_X7_begins s m ([.ref (ad g v0), .int v1, .int v2, .int v3, .int v4, .int v5] : List Value).toArray below meth c (MQ below (QQ g vV Φ) ([.ref (ad g v0), .int v1, .int v2, .int v3, .int v4, .int v5] : List Value).toArray s 0 0 (Ag g)) g mm 10 0 0 113 [(0, .ref (ad g v0)), (1, .int v1), (3, .int v3), (4, .int v4), (6, .int v6), (7, .int v7), (8, .int v8), (9, .int v9)] [.int s4, .int s3, .int s2, .int s1, .ref (ad g s0)] := by
        intro v7 v8 v9 s0 s1 s2 s3 s4 mm hw H locs ls hW hl
        unfold wp_X7_begins_113 at hw
        refine lv_iload hx hb dX7_begins_113 (lv_at hl 6 rfl) ?_
        refine R_call (va_runV (As := [.int s1, .int s2, .int s3, .int s4, .int v8]) (rest := []) ⟨hx, hb, hml, hown, hts⟩ (c_X7_keeps l g mm s0 s1 s2 s3 s4 v8 _ hw.2) (cwV 5 hts gX7_begins_X7_keeps rfl rfl rfl (by decide +kernel) ⟨by decide, by decide⟩) (PP.preV (q := (RX7, TX7, 36)) hK hW hw.1 (by decide) rfl) rfl rfl hl.1 rfl (lv_room (Nat.le_of_ble_eq_true rfl)) dX7_begins_115 ⟨by decide, by decide⟩) hW (fun _ m2 H locs hw hW => ?_)
        refine W.eq (g2 := F0 m 118 ls []) rfl ?_
        exact B118 v7 v8 v9 m2 hw _ _ _ hW (lv_sub hl [0, 1, 2, 3, 4, 5, 6, 7] rfl)
      have B90 : ∀ (v7 : Int32) (v8 : Int32) (v9 : Int32) (mm : Mm), wp_X7_begins_90 K27 v0 v1 v3 v4 v6 v7 v8 v9 mm Φ → WW p l e rm_X7_begins s m ([.ref (ad g v0), .int v1, .int v2, .int v3, .int v4, .int v5] : List Value).toArray below meth c (MQ below (QQ g vV Φ) ([.ref (ad g v0), .int v1, .int v2, .int v3, .int v4, .int v5] : List Value).toArray s 0 0 (Ag g)) g mm 10 0 0 90 [(0, .ref (ad g v0)), (1, .int v1), (3, .int v3), (4, .int v4), (6, .int v6), (7, .int v7), (8, .int v8), (9, .int v9)] [] := by
        intro v7 v8 v9 mm hw H locs ls hW hl
        unfold wp_X7_begins_90 at hw
        refine lv_aload_n hx hb dX7_begins_90 rfl (lv_at hl 0 rfl) ?_
        refine lv_iload_n hx hb dX7_begins_91 rfl (lv_at hl 1 rfl) ?_
        refine lv_aload_n hx hb dX7_begins_92 rfl (lv_at hl 0 rfl) ?_
        refine lv_iload_n hx hb dX7_begins_93 rfl (lv_at hl 1 rfl) ?_
        refine R_call (va_runV (As := [.int v1]) (rest := [.int v1, .ref (ad g v0)]) ⟨hx, hb, hml, hown, hts⟩ (c_X7_lasts l g mm v0 v1 _ hw.2) (cwV 1 hts gX7_begins_X7_lasts rfl rfl rfl (by decide +kernel) ⟨by decide, by decide⟩) (PP.preV (q := (RX7, TX7, 36)) hK hW hw.1 (by decide) rfl) rfl rfl hl.1 rfl (lv_room (Nat.le_of_ble_eq_true rfl)) dX7_begins_94 ⟨by decide, by decide⟩) hW (fun r3 m4 H locs hw hW => ?_)
        refine W.eq (g2 := F0 m 97 ls [.int r3, .int v1, .ref (ad g v0)]) rfl ?_
        refine lv_iadd hx hb dX7_begins_97 ?_
        refine lv_iload hx hb dX7_begins_98 (lv_at hl 5 rfl) ?_
        refine lv_iconst (v := (1 : Int32)) hx hb dX7_begins_100 (by decide) ?_
        refine lv_iload_n hx hb dX7_begins_101 rfl (lv_at hl 2 rfl) ?_
        refine lv_isub hx hb dX7_begins_102 ?_
        refine lv_iload hx hb dX7_begins_103 (lv_at hl 7 rfl) ?_
        refine lv_if_le (tgt := 112) hx hb dX7_begins_105 (by decide) (fun c5 => ?_) (fun c5 => ?_)
        · have hw := hw.1 c5
          refine lv_iconst (v := (1 : Int32)) hx hb dX7_begins_112 (by decide) ?_
          exact B113 v7 v8 v9 v0 (v1 + r3) v7 ((1 : Int32) - v3) (1 : Int32) m4 hw _ _ _ hW (lv_sub hl [0, 1, 2, 3, 4, 5, 6, 7] rfl)
        · have hw := hw.2 c5
          refine lv_iconst (v := (0 : Int32)) hx hb dX7_begins_108 (by decide) ?_
          refine lv_goto (tgt := 113) hx hb dX7_begins_109 (by decide) ?_
          exact B113 v7 v8 v9 v0 (v1 + r3) v7 ((1 : Int32) - v3) (0 : Int32) m4 hw _ _ _ hW (lv_sub hl [0, 1, 2, 3, 4, 5, 6, 7] rfl)
      have B80 : ∀ (v7 : Int32) (v8 : Int32) (v9 : Int32) (mm : Mm), wp_X7_begins_80 K27 v0 v1 v3 v4 v6 v7 v8 v9 mm Φ → WW p l e rm_X7_begins s m ([.ref (ad g v0), .int v1, .int v2, .int v3, .int v4, .int v5] : List Value).toArray below meth c (MQ below (QQ g vV Φ) ([.ref (ad g v0), .int v1, .int v2, .int v3, .int v4, .int v5] : List Value).toArray s 0 0 (Ag g)) g mm 10 0 0 80 [(0, .ref (ad g v0)), (1, .int v1), (3, .int v3), (4, .int v4), (6, .int v6), (7, .int v7), (8, .int v8), (9, .int v9)] [] := by
        intro v7 v8 v9 mm hw H locs ls hW hl
        unfold wp_X7_begins_80 at hw
        refine lv_iload hx hb dX7_begins_80 (lv_at hl 7 rfl) ?_
        refine lv_if_gt (tgt := 90) hx hb dX7_begins_82 (by decide) (fun c6 => ?_) (fun c6 => ?_)
        · have hw := hw.1 c6
          exact B90 v7 v8 v9 mm hw _ _ _ hW (lv_sub hl [0, 1, 2, 3, 4, 5, 6, 7] rfl)
        · have hw := hw.2 c6
          refine lv_iload hx hb dX7_begins_85 (lv_at hl 3 rfl) ?_
          refine lv_if_ne (tgt := 118) hx hb dX7_begins_87 (by decide) (fun c7 => ?_) (fun c7 => ?_)
          · have hw := hw.1 c7
            exact B118 v7 v8 v9 mm hw _ _ _ hW (lv_sub hl [0, 1, 2, 3, 4, 5, 6, 7] rfl)
          · have hw := hw.2 c7
            exact B90 v7 v8 v9 mm hw _ _ _ hW (lv_sub hl [0, 1, 2, 3, 4, 5, 6, 7] rfl)
      intro v7 v8 v9 mm hw H locs ls hW hl
      have hw : wp_X7_begins_27 K27 v0 v1 v3 v4 v6 v7 v8 v9 mm Φ := by rw [eK27]; exact hw
      unfold wp_X7_begins_27 at hw
      refine lv_iload hx hb dX7_begins_27 (lv_at hl 7 rfl) ?_
      refine lv_iload hx hb dX7_begins_29 (lv_at hl 4 rfl) ?_
      refine lv_icmp_gt (tgt := 124) hx hb dX7_begins_31 (by decide) (fun c8 => ?_) (fun c8 => ?_)
      · have hw := hw.1 c8
        exact R_vret hx hb hr hlk hW hw dX7_begins_124
      · have hw := hw.2 c8
        refine lv_iload hx hb dX7_begins_34 (lv_at hl 7 rfl) ?_
        refine lv_if_le (tgt := 80) hx hb dX7_begins_36 (by decide) (fun c9 => ?_) (fun c9 => ?_)
        · have hw := hw.1 c9
          exact B80 v7 v8 v9 mm hw _ _ _ hW (lv_sub hl [0, 1, 2, 3, 4, 5, 6, 7] rfl)
        · have hw := hw.2 c9
          refine lv_iload hx hb dX7_begins_39 (lv_at hl 5 rfl) ?_
          refine lv_iconst (v := (1 : Int32)) hx hb dX7_begins_41 (by decide) ?_
          refine lv_aload_n hx hb dX7_begins_42 rfl (lv_at hl 0 rfl) ?_
          refine lv_aload_n hx hb dX7_begins_43 rfl (lv_at hl 0 rfl) ?_
          refine R_getP (C := RX7) (T := TX7) (N := 36) hx hb hts i8 hown hK hW 23 hw.1 (by decide) rfl (by decide) (hts (.fieldLink RX7 58 "BoatLiftModel" "queue" "[I") (by decide +kernel)) (fun _ h => h) (fun _ _ _ => rfl) hw.2.1 dX7_begins_44 ?_
          have hw := hw.2.2
          refine lv_iload hx hb dX7_begins_47 (lv_at hl 7 rfl) ?_
          refine lv_iconst (v := (1 : Int32)) hx hb dX7_begins_49 (by decide) ?_
          refine lv_isub hx hb dX7_begins_50 ?_
          refine R_iald hx hb hK hW hw.1 hw.2.1 dX7_begins_51 ?_
          have hw := hw.2.2
          refine R_call (va_runV (As := [.int (mI mm (mP mm v0 23) (v9 - (1 : Int32)).toNatClampNeg)]) (rest := [.int (1 : Int32), .int v7]) ⟨hx, hb, hml, hown, hts⟩ (c_X7_numberOf l g mm v0 (mI mm (mP mm v0 23) (v9 - (1 : Int32)).toNatClampNeg) _ hw.2) (cwV 1 hts gX7_begins_X7_numberOf rfl rfl rfl (by decide +kernel) ⟨by decide, by decide⟩) (PP.preV (q := (RX7, TX7, 36)) hK hW hw.1 (by decide) rfl) rfl rfl hl.1 rfl (lv_room (Nat.le_of_ble_eq_true rfl)) dX7_begins_52 ⟨by decide, by decide⟩) hW (fun r10 m11 H locs hw hW => ?_)
          refine W.eq (g2 := F0 m 55 ls [.int r10, .int (1 : Int32), .int v7]) rfl ?_
          refine lv_ishl hx hb dX7_begins_55 ?_
          refine lv_ior hx hb dX7_begins_56 ?_
          refine lv_istore (lv' := [(7, .int (v7 ||| ((1 : Int32) <<< (r10 &&& 31)))), (0, .ref (ad g v0)), (1, .int v1), (3, .int v3), (4, .int v4), (6, .int v6), (8, .int v8), (9, .int v9)]) hx hb dX7_begins_57 hl (by decide) rfl (fun ls hl => ?_)
          refine lv_iload hx hb dX7_begins_59 (lv_at hl 6 rfl) ?_
          refine lv_iload_n hx hb dX7_begins_61 rfl (lv_at hl 2 rfl) ?_
          refine lv_aload_n hx hb dX7_begins_62 rfl (lv_at hl 1 rfl) ?_
          refine R_getP (C := RX7) (T := TX7) (N := 36) hx hb hts i8 hown hK hW 16 hw.1 (by decide) rfl (by decide) (hts (.fieldLink RX7 40 "BoatLiftModel" "there" "[I") (by decide +kernel)) (fun _ h => h) (fun _ _ _ => rfl) hw.2.1 dX7_begins_63 ?_
          have hw := hw.2.2
          refine lv_aload_n hx hb dX7_begins_66 rfl (lv_at hl 1 rfl) ?_
          refine R_getP (C := RX7) (T := TX7) (N := 36) hx hb hts i8 hown hK hW 23 hw.1 (by decide) rfl (by decide) (hts (.fieldLink RX7 58 "BoatLiftModel" "queue" "[I") (by decide +kernel)) (fun _ h => h) (fun _ _ _ => rfl) hw.2.1 dX7_begins_67 ?_
          have hw := hw.2.2
          refine lv_iload hx hb dX7_begins_70 (lv_at hl 7 rfl) ?_
          refine lv_iconst (v := (1 : Int32)) hx hb dX7_begins_72 (by decide) ?_
          refine lv_isub hx hb dX7_begins_73 ?_
          refine R_iald hx hb hK hW hw.1 hw.2.1 dX7_begins_74 ?_
          have hw := hw.2.2
          refine R_iald hx hb hK hW hw.1 hw.2.1 dX7_begins_75 ?_
          have hw := hw.2.2
          refine lv_isub hx hb dX7_begins_76 ?_
          refine lv_iadd hx hb dX7_begins_77 ?_
          refine lv_topi (fun x12 ex12 => ?_)
          have hw := hw x12 ex12
          refine lv_istore (lv' := [(8, .int x12), (7, .int (v7 ||| ((1 : Int32) <<< (r10 &&& 31)))), (0, .ref (ad g v0)), (1, .int v1), (3, .int v3), (4, .int v4), (6, .int v6), (9, .int v9)]) hx hb dX7_begins_78 hl (by decide) rfl (fun ls hl => ?_)
          exact B80 (v7 ||| ((1 : Int32) <<< (r10 &&& 31))) x12 v9 m11 hw _ _ _ hW (lv_sub hl [2, 3, 4, 5, 6, 1, 0, 7] rfl)
  unfold wp_X7_begins at hw
  refine lv_aload_n hx hb dX7_begins_0 rfl (lv_at hl 0 rfl) ?_
  refine lv_iload_n hx hb dX7_begins_1 rfl (lv_at hl 3 rfl) ?_
  refine lv_iload_n hx hb dX7_begins_2 rfl (lv_at hl 1 rfl) ?_
  refine lv_aload_n hx hb dX7_begins_3 rfl (lv_at hl 0 rfl) ?_
  refine lv_iload_n hx hb dX7_begins_4 rfl (lv_at hl 2 rfl) ?_
  refine R_call (va_runV (As := [.int v2]) (rest := [.int v1, .int v3, .ref (ad g v0)]) ⟨hx, hb, hml, hown, hts⟩ (c_X7_boatsOf l g m0 v0 v2 _ hw.2) (cwV 1 hts gX7_begins_X7_boatsOf rfl rfl rfl (by decide +kernel) ⟨by decide, by decide⟩) (PP.preV (q := (RX7, TX7, 36)) hK hW hw.1 (by decide) rfl) rfl rfl hl.1 rfl (lv_room (Nat.le_of_ble_eq_true rfl)) dX7_begins_5 ⟨by decide, by decide⟩) hW (fun r13 m14 H locs hw hW => ?_)
  refine W.eq (g2 := F0 m 8 ls [.int r13, .int v1, .int v3, .ref (ad g v0)]) rfl ?_
  refine R_call (va_runV (As := [.int v3, .int v1, .int r13]) (rest := []) ⟨hx, hb, hml, hown, hts⟩ (c_X7_queues l g m14 v0 v3 v1 r13 _ hw.2) (cwV 3 hts gX7_begins_X7_queues rfl rfl rfl (by decide +kernel) ⟨by decide, by decide⟩) (PP.preV (q := (RX7, TX7, 36)) hK hW hw.1 (by decide) rfl) rfl rfl hl.1 rfl (lv_room (Nat.le_of_ble_eq_true rfl)) dX7_begins_8 ⟨by decide, by decide⟩) hW (fun _ m16 H locs hw hW => ?_)
  refine W.eq (g2 := F0 m 11 ls []) rfl ?_
  refine lv_aload_n hx hb dX7_begins_11 rfl (lv_at hl 0 rfl) ?_
  refine R_call (va_runV (As := []) (rest := []) ⟨hx, hb, hml, hown, hts⟩ (c_X7_fits l g m16 v0 _ hw.2) (cwV 0 hts gX7_begins_X7_fits rfl rfl rfl (by decide +kernel) ⟨by decide, by decide⟩) (PP.preV (q := (RX7, TX7, 36)) hK hW hw.1 (by decide) rfl) rfl rfl hl.1 rfl (lv_room (Nat.le_of_ble_eq_true rfl)) dX7_begins_12 ⟨by decide, by decide⟩) hW (fun r17 m18 H locs hw hW => ?_)
  refine W.eq (g2 := F0 m 15 ls [.int r17]) rfl ?_
  refine lv_istore (lv' := [(6, .int r17), (0, .ref (ad g v0)), (1, .int v1), (2, .int v2), (3, .int v3), (4, .int v4), (5, .int v5)]) hx hb dX7_begins_15 hl (by decide) rfl (fun ls hl => ?_)
  refine lv_iload_n hx hb dX7_begins_17 rfl (lv_at hl 3 rfl) ?_
  refine lv_istore (lv' := [(7, .int v2), (6, .int r17), (0, .ref (ad g v0)), (1, .int v1), (2, .int v2), (3, .int v3), (4, .int v4), (5, .int v5)]) hx hb dX7_begins_18 hl (by decide) rfl (fun ls hl => ?_)
  refine lv_iload hx hb dX7_begins_20 (lv_at hl 7 rfl) ?_
  refine lv_istore (lv' := [(8, .int v5), (7, .int v2), (6, .int r17), (0, .ref (ad g v0)), (1, .int v1), (2, .int v2), (3, .int v3), (4, .int v4), (5, .int v5)]) hx hb dX7_begins_22 hl (by decide) rfl (fun ls hl => ?_)
  refine lv_iconst (v := (0 : Int32)) hx hb dX7_begins_24 (by decide) ?_
  refine lv_istore (lv' := [(9, .int (0 : Int32)), (8, .int v5), (7, .int v2), (6, .int r17), (0, .ref (ad g v0)), (1, .int v1), (2, .int v2), (3, .int v3), (4, .int v4), (5, .int v5)]) hx hb dX7_begins_25 hl (by decide) rfl (fun ls hl => ?_)
  obtain ⟨n, hw⟩ := hw
  exact L27 r17 n v2 v5 (0 : Int32) m18 hw _ _ _ hW (lv_sub hl [4, 5, 7, 8, 3, 2, 1, 0] rfl)

def wp_X7_isTooMany_57 (K7 : Int32 → Mm → Prop) (v0 : Nat) (v1 : Int32) (mm : Mm) (Φ : Int32 → Mm → Prop) : Prop :=
  K7 (v1 + (1 : Int32)) mm
def wp_X7_isTooMany_7 (K7 : Int32 → Mm → Prop) (v0 : Nat) (v1 : Int32) (mm : Mm) (Φ : Int32 → Mm → Prop) : Prop :=
  mT mm v0 = 8 ∧ (((mI mm v0 7) ≤ v1 → Φ (0 : Int32) mm) ∧ (¬ (mI mm v0 7) ≤ v1 → mT mm v0 = 8 ∧ wp_X7_isLeft mm v0 v1 (fun (r2 : Int32) (m3 : Mm) => ((¬ r2 = 0 → mT m3 v0 = 8 ∧ ((¬ (mI m3 v0 26) = (6 : Int32) → mT m3 v0 = 8 ∧ (mP m3 v0 35) ≠ 0 ∧ mT m3 v0 = 8 ∧ mT m3 (mP m3 v0 35) = 9 ∧ vp_in (mI m3 v0 26) (mN m3 (mP m3 v0 35)) ∧ ∀ m6 : Mm, m6 = sI m3 (mP m3 v0 35) (mI m3 v0 26).toNatClampNeg v1 → mT m6 v0 = 8 ∧ mT m6 v0 = 8 ∧ ∀ m7 : Mm, m7 = sI m6 v0 26 ((mI m6 v0 26) + (1 : Int32)) → wp_X7_isTooMany_57 K7 v0 v1 m7 Φ) ∧ ((mI m3 v0 26) = (6 : Int32) → Φ (1 : Int32) m3))) ∧ (r2 = 0 → wp_X7_isTooMany_57 K7 v0 v1 m3 Φ)))))
def wp_X7_isTooMany (m0 : Mm) (v0 : Nat) (Φ : Int32 → Mm → Prop) : Prop :=
  mT m0 v0 = 8 ∧ ∀ m8 : Mm, m8 = sI m0 v0 26 (0 : Int32) → ∃ n, LOp (fun K x => wp_X7_isTooMany_7  (fun z0 z1 => K (z0, z1)) v0 x.1 x.2 Φ) n ((0 : Int32), m8)
abbrev rm_X7_isTooMany : Room := { frames := 5, cells := 0, slots := 0, locals := 107 }
set_option maxHeartbeats 4000000 in
set_option maxRecDepth 100000 in
theorem c_X7_isTooMany (l : Launch) (g : Gv) (m0 : Mm) (v0 : Nat) (Φ : Int32 → Mm → Prop) (hw : wp_X7_isTooMany m0 v0 Φ) : Met l yX7_isTooMany wsX7_isTooMany rm_X7_isTooMany (PP g [.ref (ad g v0)] m0) (QQ g vI Φ) 0 0 (Ag g) := by
  refine CT_of (by decide +kernel) rfl (Nat.le_of_ble_eq_true rfl) ?_
  intro p e s m below meth c hx hb hr hml hown hts hlk hnm hK hW ls hl
  have hown : s.vm.findClass RX7 = some m.cls := hown
  have hl : lv_has ls 2 [(0, .ref (ad g v0))] := hl
  have i8 : ∀ w ∈ u_ws RX7 TX7 36, w ∈ wsX7_isTooMany := by decide +kernel
  have L7 : ∀ (n : Nat) (v1 : Int32) (mm : Mm), LOp (fun K x => wp_X7_isTooMany_7  (fun z0 z1 => K (z0, z1)) v0 x.1 x.2 Φ) n (v1, mm) → WW p l e rm_X7_isTooMany s m ([.ref (ad g v0)] : List Value).toArray below meth c (MQ below (QQ g vI Φ) ([.ref (ad g v0)] : List Value).toArray s 0 0 (Ag g)) g mm 2 0 0 7 [(0, .ref (ad g v0)), (1, .int v1)] [] := by
    intro  n
    induction n with
    | zero => intro v1 mm hw; exact hw.elim
    | succ n ih7 =>
      obtain ⟨K7, eK7⟩ : ∃ K : Int32 → Mm → Prop, K = fun v1 mm => LOp (fun K x => wp_X7_isTooMany_7  (fun z0 z1 => K (z0, z1)) v0 x.1 x.2 Φ) n (v1, mm) := ⟨_, rfl⟩
      have ih7 : ∀ (v1 : Int32) (mm : Mm), K7 v1 mm → WW p l e rm_X7_isTooMany s m ([.ref (ad g v0)] : List Value).toArray below meth c (MQ below (QQ g vI Φ) ([.ref (ad g v0)] : List Value).toArray s 0 0 (Ag g)) g mm 2 0 0 7 [(0, .ref (ad g v0)), (1, .int v1)] [] := by rw [eK7]; exact ih7
      have B57 : ∀ (v1 : Int32) (mm : Mm), wp_X7_isTooMany_57 K7 v0 v1 mm Φ → WW p l e rm_X7_isTooMany s m ([.ref (ad g v0)] : List Value).toArray below meth c (MQ below (QQ g vI Φ) ([.ref (ad g v0)] : List Value).toArray s 0 0 (Ag g)) g mm 2 0 0 57 [(0, .ref (ad g v0)), (1, .int v1)] [] := by
        intro v1 mm hw H locs ls hW hl
        unfold wp_X7_isTooMany_57 at hw
        refine lv_iinc (v := (v1 + (1 : Int32))) (lv' := [(1, .int (v1 + (1 : Int32))), (0, .ref (ad g v0))]) hx hb dX7_isTooMany_57 hl (k := 1) rfl rfl (by decide) rfl (fun ls hl => ?_)
        refine lv_goto (tgt := 7) hx hb dX7_isTooMany_60 (by decide) ?_
        exact ih7 (v1 + (1 : Int32)) mm hw _ _ _ hW (lv_sub hl [1, 0] rfl)
      intro v1 mm hw H locs ls hW hl
      have hw : wp_X7_isTooMany_7 K7 v0 v1 mm Φ := by rw [eK7]; exact hw
      unfold wp_X7_isTooMany_7 at hw
      refine lv_iload_n hx hb dX7_isTooMany_7 rfl (lv_at hl 1 rfl) ?_
      refine lv_aload_n hx hb dX7_isTooMany_8 rfl (lv_at hl 0 rfl) ?_
      refine R_getI (C := RX7) (T := TX7) (N := 36) hx hb hts i8 hown hK hW 7 hw.1 (by decide) rfl (by decide) (hts (.fieldLink RX7 126 "BoatLiftModel" "boats" "I") (by decide +kernel)) (fun _ h => h) (fun _ _ _ => rfl) dX7_isTooMany_9 ?_
      have hw := hw.2
      refine lv_icmp_ge (tgt := 63) hx hb dX7_isTooMany_12 (by decide) (fun c1 => ?_) (fun c1 => ?_)
      · have hw := hw.1 c1
        refine lv_iconst (v := (0 : Int32)) hx hb dX7_isTooMany_63 (by decide) ?_
        exact R_zret hx hb hr hlk hW (Or.inl rfl) hw dX7_isTooMany_64
      · have hw := hw.2 c1
        refine lv_aload_n hx hb dX7_isTooMany_15 rfl (lv_at hl 0 rfl) ?_
        refine lv_iload_n hx hb dX7_isTooMany_16 rfl (lv_at hl 1 rfl) ?_
        refine R_call (va_runV (As := [.int v1]) (rest := []) ⟨hx, hb, hml, hown, hts⟩ (c_X7_isLeft l g mm v0 v1 _ hw.2) (cwV 1 hts gX7_isTooMany_X7_isLeft rfl rfl rfl (by decide +kernel) ⟨by decide, by decide⟩) (PP.preV (q := (RX7, TX7, 36)) hK hW hw.1 (by decide) rfl) rfl rfl hl.1 rfl (lv_room (Nat.le_of_ble_eq_true rfl)) dX7_isTooMany_17 ⟨by decide, by decide⟩) hW (fun r2 m3 H locs hw hW => ?_)
        refine W.eq (g2 := F0 m 20 ls [.int r2]) rfl ?_
        refine lv_if_ne (tgt := 26) hx hb dX7_isTooMany_20 (by decide) (fun c4 => ?_) (fun c4 => ?_)
        · have hw := hw.1 c4
          refine lv_aload_n hx hb dX7_isTooMany_26 rfl (lv_at hl 0 rfl) ?_
          refine R_getI (C := RX7) (T := TX7) (N := 36) hx hb hts i8 hown hK hW 26 hw.1 (by decide) rfl (by decide) (hts (.fieldLink RX7 176 "BoatLiftModel" "left" "I") (by decide +kernel)) (fun _ h => h) (fun _ _ _ => rfl) dX7_isTooMany_27 ?_
          have hw := hw.2
          refine lv_bipush (v := (6 : Int32)) hx hb dX7_isTooMany_30 (by decide) ?_
          refine lv_icmp_ne (tgt := 37) hx hb dX7_isTooMany_32 (by decide) (fun c5 => ?_) (fun c5 => ?_)
          · have hw := hw.1 c5
            refine lv_aload_n hx hb dX7_isTooMany_37 rfl (lv_at hl 0 rfl) ?_
            refine R_getP (C := RX7) (T := TX7) (N := 36) hx hb hts i8 hown hK hW 35 hw.1 (by decide) rfl (by decide) (hts (.fieldLink RX7 81 "BoatLiftModel" "plan" "[I") (by decide +kernel)) (fun _ h => h) (fun _ _ _ => rfl) hw.2.1 dX7_isTooMany_38 ?_
            have hw := hw.2.2
            refine lv_aload_n hx hb dX7_isTooMany_41 rfl (lv_at hl 0 rfl) ?_
            refine R_getI (C := RX7) (T := TX7) (N := 36) hx hb hts i8 hown hK hW 26 hw.1 (by decide) rfl (by decide) (hts (.fieldLink RX7 176 "BoatLiftModel" "left" "I") (by decide +kernel)) (fun _ h => h) (fun _ _ _ => rfl) dX7_isTooMany_42 ?_
            have hw := hw.2
            refine lv_iload_n hx hb dX7_isTooMany_45 rfl (lv_at hl 1 rfl) ?_
            refine R_iast hx hb hK hW hw.1 hw.2.1 dX7_isTooMany_46 (fun H locs hW => ?_)
            obtain ⟨m6, em6⟩ : ∃ z, z = sI m3 (mP m3 v0 35) (mI m3 v0 26).toNatClampNeg v1 := ⟨_, rfl⟩
            rw [← em6] at hW
            have hw := hw.2.2 m6 em6
            refine lv_aload_n hx hb dX7_isTooMany_47 rfl (lv_at hl 0 rfl) ?_
            refine lv_dup hx hb dX7_isTooMany_48 rfl ?_
            refine R_getI (C := RX7) (T := TX7) (N := 36) hx hb hts i8 hown hK hW 26 hw.1 (by decide) rfl (by decide) (hts (.fieldLink RX7 176 "BoatLiftModel" "left" "I") (by decide +kernel)) (fun _ h => h) (fun _ _ _ => rfl) dX7_isTooMany_49 ?_
            have hw := hw.2
            refine lv_iconst (v := (1 : Int32)) hx hb dX7_isTooMany_52 (by decide) ?_
            refine lv_iadd hx hb dX7_isTooMany_53 ?_
            refine R_putI (C := RX7) (T := TX7) (N := 36) hx hb hts i8 tyX7 tyX7_ok nmX7 hown hK hW 26 hw.1 (by decide) rfl (by decide) (hts (.fieldLink RX7 176 "BoatLiftModel" "left" "I") (by decide +kernel)) (fun _ h => h) (Or.inl rfl) rfl (fun _ _ _ => rfl) (fun _ _ _ => rfl) dX7_isTooMany_54 (fun H locs hW => ?_)
            obtain ⟨m7, em7⟩ : ∃ z, z = sI m6 v0 26 ((mI m6 v0 26) + (1 : Int32)) := ⟨_, rfl⟩
            rw [← em7] at hW
            have hw := hw.2 m7 em7
            exact B57 v1 m7 hw _ _ _ hW (lv_sub hl [0, 1] rfl)
          · have hw := hw.2 c5
            refine lv_iconst (v := (1 : Int32)) hx hb dX7_isTooMany_35 (by decide) ?_
            exact R_zret hx hb hr hlk hW (Or.inr rfl) hw dX7_isTooMany_36
        · have hw := hw.2 c4
          refine lv_goto (tgt := 57) hx hb dX7_isTooMany_23 (by decide) ?_
          exact B57 v1 m3 hw _ _ _ hW (lv_sub hl [0, 1] rfl)
  unfold wp_X7_isTooMany at hw
  refine lv_aload_n hx hb dX7_isTooMany_0 rfl (lv_at hl 0 rfl) ?_
  refine lv_iconst (v := (0 : Int32)) hx hb dX7_isTooMany_1 (by decide) ?_
  refine R_putI (C := RX7) (T := TX7) (N := 36) hx hb hts i8 tyX7 tyX7_ok nmX7 hown hK hW 26 hw.1 (by decide) rfl (by decide) (hts (.fieldLink RX7 176 "BoatLiftModel" "left" "I") (by decide +kernel)) (fun _ h => h) (Or.inl rfl) rfl (fun _ _ _ => rfl) (fun _ _ _ => rfl) dX7_isTooMany_2 (fun H locs hW => ?_)
  obtain ⟨m8, em8⟩ : ∃ z, z = sI m0 v0 26 (0 : Int32) := ⟨_, rfl⟩
  rw [← em8] at hW
  have hw := hw.2 m8 em8
  refine lv_iconst (v := (0 : Int32)) hx hb dX7_isTooMany_5 (by decide) ?_
  refine lv_istore_n (lv' := [(1, .int (0 : Int32)), (0, .ref (ad g v0))]) hx hb dX7_isTooMany_6 rfl hl (by decide) rfl (fun ls hl => ?_)
  obtain ⟨n, hw⟩ := hw
  exact L7  n (0 : Int32) m8 hw _ _ _ hW (lv_sub hl [1, 0] rfl)

def wp_X7_goesOn_240 (K102 : Int32 → Mm → Prop) (v0 : Nat) (v1 : Int32) (v2 : Int32) (v3 : Int32) (v4 : Int32) (v5 : Int32) (v6 : Int32) (mm : Mm) (Φ : Unit → Mm → Prop) : Prop :=
  K102 (v6 + (1 : Int32)) mm
def wp_X7_goesOn_200 (K102 : Int32 → Mm → Prop) (K146 : Int32 → Int32 → Mm → Prop) (v0 : Nat) (v1 : Int32) (v2 : Int32) (v3 : Int32) (v4 : Int32) (v5 : Int32) (v6 : Int32) (v8 : Int32) (s0 : Int32) (mm : Mm) (Φ : Unit → Mm → Prop) : Prop :=
  K146 s0 (v8 + (1 : Int32)) mm
def wp_X7_goesOn_199 (K102 : Int32 → Mm → Prop) (K146 : Int32 → Int32 → Mm → Prop) (v0 : Nat) (v1 : Int32) (v2 : Int32) (v3 : Int32) (v4 : Int32) (v5 : Int32) (v6 : Int32) (v8 : Int32) (mm : Mm) (Φ : Unit → Mm → Prop) : Prop :=
  wp_X7_goesOn_200 K102 K146 v0 v1 v2 v3 v4 v5 v6 v8 (0 : Int32) mm Φ
def wp_X7_goesOn_195 (K102 : Int32 → Mm → Prop) (K146 : Int32 → Int32 → Mm → Prop) (v0 : Nat) (v1 : Int32) (v2 : Int32) (v3 : Int32) (v4 : Int32) (v5 : Int32) (v6 : Int32) (v8 : Int32) (mm : Mm) (Φ : Unit → Mm → Prop) : Prop :=
  wp_X7_goesOn_200 K102 K146 v0 v1 v2 v3 v4 v5 v6 v8 (1 : Int32) mm Φ
def wp_X7_goesOn_146 (K102 : Int32 → Mm → Prop) (K146 : Int32 → Int32 → Mm → Prop) (v0 : Nat) (v1 : Int32) (v2 : Int32) (v3 : Int32) (v4 : Int32) (v5 : Int32) (v6 : Int32) (v7 : Int32) (v8 : Int32) (mm : Mm) (Φ : Unit → Mm → Prop) : Prop :=
  ((v6 ≤ v8 → ((v7 = 0 → wp_X7_goesOn_240 K102 v0 v1 v2 v3 v4 v5 v6 mm Φ) ∧ (¬ v7 = 0 → mT mm v0 = 8 ∧ (mP mm v0 16) ≠ 0 ∧ mT mm v0 = 8 ∧ (mP mm v0 35) ≠ 0 ∧ mT mm (mP mm v0 35) = 9 ∧ vp_in v6 (mN mm (mP mm v0 35)) ∧ mT mm (mP mm v0 16) = 9 ∧ vp_in (mI mm (mP mm v0 35) v6.toNatClampNeg) (mN mm (mP mm v0 16)) ∧ mT mm v0 = 8 ∧ (mP mm v0 32) ≠ 0 ∧ mT mm (mP mm v0 32) = 9 ∧ vp_in v2 (mN mm (mP mm v0 32)) ∧ mT mm v0 = 8 ∧ wp_X7_begins mm v0 (mI mm (mP mm v0 16) (mI mm (mP mm v0 35) v6.toNatClampNeg).toNatClampNeg) v3 v4 v5 (mI mm (mP mm v0 32) v2.toNatClampNeg) (fun (_ : Unit) (m4 : Mm) => wp_X7_goesOn_240 K102 v0 v1 v2 v3 v4 v5 v6 m4 Φ)))) ∧ (¬ v6 ≤ v8 → ((v7 = 0 → wp_X7_goesOn_199 K102 K146 v0 v1 v2 v3 v4 v5 v6 v8 mm Φ) ∧ (¬ v7 = 0 → ((((v3 >>> (v8 &&& 31)) &&& (1 : Int32)) = (1 : Int32) → wp_X7_goesOn_195 K102 K146 v0 v1 v2 v3 v4 v5 v6 v8 mm Φ) ∧ (¬ ((v3 >>> (v8 &&& 31)) &&& (1 : Int32)) = (1 : Int32) → mT mm v0 = 8 ∧ (mP mm v0 16) ≠ 0 ∧ mT mm v0 = 8 ∧ (mP mm v0 35) ≠ 0 ∧ mT mm (mP mm v0 35) = 9 ∧ vp_in v8 (mN mm (mP mm v0 35)) ∧ mT mm (mP mm v0 16) = 9 ∧ vp_in (mI mm (mP mm v0 35) v8.toNatClampNeg) (mN mm (mP mm v0 16)) ∧ mT mm v0 = 8 ∧ (mP mm v0 16) ≠ 0 ∧ mT mm v0 = 8 ∧ (mP mm v0 35) ≠ 0 ∧ mT mm (mP mm v0 35) = 9 ∧ vp_in v6 (mN mm (mP mm v0 35)) ∧ mT mm (mP mm v0 16) = 9 ∧ vp_in (mI mm (mP mm v0 35) v6.toNatClampNeg) (mN mm (mP mm v0 16)) ∧ (((mI mm (mP mm v0 16) (mI mm (mP mm v0 35) v8.toNatClampNeg).toNatClampNeg) = (mI mm (mP mm v0 16) (mI mm (mP mm v0 35) v6.toNatClampNeg).toNatClampNeg) → wp_X7_goesOn_199 K102 K146 v0 v1 v2 v3 v4 v5 v6 v8 mm Φ) ∧ (¬ (mI mm (mP mm v0 16) (mI mm (mP mm v0 35) v8.toNatClampNeg).toNatClampNeg) = (mI mm (mP mm v0 16) (mI mm (mP mm v0 35) v6.toNatClampNeg).toNatClampNeg) → wp_X7_goesOn_195 K102 K146 v0 v1 v2 v3 v4 v5 v6 v8 mm Φ))))))))
def wp_X7_goesOn_141 (K102 : Int32 → Mm → Prop) (v0 : Nat) (v1 : Int32) (v2 : Int32) (v3 : Int32) (v4 : Int32) (v5 : Int32) (v6 : Int32) (s0 : Int32) (mm : Mm) (Φ : Unit → Mm → Prop) : Prop :=
  ∃ n, LOp (fun K x => wp_X7_goesOn_146 K102 (fun z0 z1 z2 => K (z0, z1, z2)) v0 v1 v2 v3 v4 v5 v6 x.1 x.2.1 x.2.2 Φ) n (s0, (0 : Int32), mm)
def wp_X7_goesOn_140 (K102 : Int32 → Mm → Prop) (v0 : Nat) (v1 : Int32) (v2 : Int32) (v3 : Int32) (v4 : Int32) (v5 : Int32) (v6 : Int32) (mm : Mm) (Φ : Unit → Mm → Prop) : Prop :=
  wp_X7_goesOn_141 K102 v0 v1 v2 v3 v4 v5 v6 (0 : Int32) mm Φ
def wp_X7_goesOn_102 (K102 : Int32 → Mm → Prop) (v0 : Nat) (v1 : Int32) (v2 : Int32) (v3 : Int32) (v4 : Int32) (v5 : Int32) (v6 : Int32) (mm : Mm) (Φ : Unit → Mm → Prop) : Prop :=
  mT mm v0 = 8 ∧ (((mI mm v0 26) ≤ v6 → Φ () mm) ∧ (¬ (mI mm v0 26) ≤ v6 → ((¬ ((v3 >>> (v6 &&& 31)) &&& (1 : Int32)) = 0 → wp_X7_goesOn_140 K102 v0 v1 v2 v3 v4 v5 v6 mm Φ) ∧ (((v3 >>> (v6 &&& 31)) &&& (1 : Int32)) = 0 → mT mm v0 = 8 ∧ (mP mm v0 16) ≠ 0 ∧ mT mm v0 = 8 ∧ (mP mm v0 35) ≠ 0 ∧ mT mm (mP mm v0 35) = 9 ∧ vp_in v6 (mN mm (mP mm v0 35)) ∧ mT mm (mP mm v0 16) = 9 ∧ vp_in (mI mm (mP mm v0 35) v6.toNatClampNeg) (mN mm (mP mm v0 16)) ∧ (((mI mm (mP mm v0 16) (mI mm (mP mm v0 35) v6.toNatClampNeg).toNatClampNeg) ≤ v1 → wp_X7_goesOn_140 K102 v0 v1 v2 v3 v4 v5 v6 mm Φ) ∧ (¬ (mI mm (mP mm v0 16) (mI mm (mP mm v0 35) v6.toNatClampNeg).toNatClampNeg) ≤ v1 → wp_X7_goesOn_141 K102 v0 v1 v2 v3 v4 v5 v6 (1 : Int32) mm Φ))))))
def wp_X7_goesOn_67 (v0 : Nat) (v1 : Int32) (v2 : Int32) (mm : Mm) (Φ : Unit → Mm → Prop) : Prop :=
  mT mm v0 = 8 ∧ (mP mm v0 32) ≠ 0 ∧ mT mm (mP mm v0 32) = 9 ∧ vp_in v2 (mN mm (mP mm v0 32)) ∧ mT mm v0 = 8 ∧ ∀ m11 : Mm, m11 = sI mm v0 27 (mI mm (mP mm v0 32) v2.toNatClampNeg) → mT m11 v0 = 8 ∧ ∀ m12 : Mm, m12 = sI m11 v0 28 v1 → Φ () m12
def wp_X7_goesOn (m0 : Mm) (v0 : Nat) (v1 : Int32) (v2 : Int32) (Φ : Unit → Mm → Prop) : Prop :=
  mT m0 v0 = 8 ∧ (mP m0 v0 31) ≠ 0 ∧ mT m0 (mP m0 v0 31) = 9 ∧ vp_in v2 (mN m0 (mP m0 v0 31)) ∧ ∀ x13 : Int32, x13 = (((mI m0 (mP m0 v0 31) v2.toNatClampNeg) / (4 : Int32)) - ((mI m0 (mP m0 v0 31) v2.toNatClampNeg) / (4 : Int32)) / (64 : Int32) * (64 : Int32)) → mT m0 v0 = 8 ∧ (mP m0 v0 31) ≠ 0 ∧ mT m0 (mP m0 v0 31) = 9 ∧ vp_in v2 (mN m0 (mP m0 v0 31)) ∧ ∀ x14 : Int32, x14 = (((mI m0 (mP m0 v0 31) v2.toNatClampNeg) / (2 : Int32)) - ((mI m0 (mP m0 v0 31) v2.toNatClampNeg) / (2 : Int32)) / (2 : Int32) * (2 : Int32)) → mT m0 v0 = 8 ∧ (mP m0 v0 31) ≠ 0 ∧ mT m0 (mP m0 v0 31) = 9 ∧ vp_in v2 (mN m0 (mP m0 v0 31)) ∧ ∀ x15 : Int32, x15 = ((mI m0 (mP m0 v0 31) v2.toNatClampNeg) - (mI m0 (mP m0 v0 31) v2.toNatClampNeg) / (2 : Int32) * (2 : Int32)) → mT m0 v0 = 8 ∧ ((¬ x13 = (((1 : Int32) <<< ((mI m0 v0 26) &&& 31)) - (1 : Int32)) → mT m0 v0 = 8 ∧ (mP m0 v0 32) ≠ 0 ∧ mT m0 (mP m0 v0 32) = 9 ∧ vp_in v2 (mN m0 (mP m0 v0 32)) ∧ mT m0 v0 = 8 ∧ wp_X7_begins m0 v0 v1 x13 x14 x15 (mI m0 (mP m0 v0 32) v2.toNatClampNeg) (fun (_ : Unit) (m18 : Mm) => ∃ n, LOp (fun K x => wp_X7_goesOn_102  (fun z0 z1 => K (z0, z1)) v0 v1 v2 x13 x14 x15 x.1 x.2 Φ) n ((0 : Int32), m18))) ∧ (x13 = (((1 : Int32) <<< ((mI m0 v0 26) &&& 31)) - (1 : Int32)) → mT m0 v0 = 8 ∧ (((mI m0 v0 27) = (-1 : Int32) → wp_X7_goesOn_67 v0 v1 v2 m0 Φ) ∧ (¬ (mI m0 v0 27) = (-1 : Int32) → mT m0 v0 = 8 ∧ (mP m0 v0 32) ≠ 0 ∧ mT m0 (mP m0 v0 32) = 9 ∧ vp_in v2 (mN m0 (mP m0 v0 32)) ∧ mT m0 v0 = 8 ∧ (((mI m0 v0 27) ≤ (mI m0 (mP m0 v0 32) v2.toNatClampNeg) → Φ () m0) ∧ (¬ (mI m0 v0 27) ≤ (mI m0 (mP m0 v0 32) v2.toNatClampNeg) → wp_X7_goesOn_67 v0 v1 v2 m0 Φ))))))
abbrev rm_X7_goesOn : Room := { frames := 7, cells := 0, slots := 0, locals := 161 }
set_option maxHeartbeats 4000000 in
set_option maxRecDepth 100000 in
theorem c_X7_goesOn (l : Launch) (g : Gv) (m0 : Mm) (v0 : Nat) (v1 : Int32) (v2 : Int32) (Φ : Unit → Mm → Prop) (hw : wp_X7_goesOn m0 v0 v1 v2 Φ) : Met l yX7_goesOn wsX7_goesOn rm_X7_goesOn (PP g [.ref (ad g v0), .int v1, .int v2] m0) (QQ g vV Φ) 0 0 (Ag g) := by
  refine CT_of (by decide +kernel) rfl (Nat.le_of_ble_eq_true rfl) ?_
  intro p e s m below meth c hx hb hr hml hown hts hlk hnm hK hW ls hl
  have hown : s.vm.findClass RX7 = some m.cls := hown
  have hl : lv_has ls 9 [(0, .ref (ad g v0)), (1, .int v1), (2, .int v2)] := hl
  have i8 : ∀ w ∈ u_ws RX7 TX7 36, w ∈ wsX7_goesOn := by decide +kernel
  have L102 : ∀ (v3 : Int32) (v4 : Int32) (v5 : Int32) (n : Nat) (v6 : Int32) (mm : Mm), LOp (fun K x => wp_X7_goesOn_102  (fun z0 z1 => K (z0, z1)) v0 v1 v2 v3 v4 v5 x.1 x.2 Φ) n (v6, mm) → WW p l e rm_X7_goesOn s m ([.ref (ad g v0), .int v1, .int v2] : List Value).toArray below meth c (MQ below (QQ g vV Φ) ([.ref (ad g v0), .int v1, .int v2] : List Value).toArray s 0 0 (Ag g)) g mm 9 0 0 102 [(0, .ref (ad g v0)), (1, .int v1), (2, .int v2), (3, .int v3), (4, .int v4), (5, .int v5), (6, .int v6)] [] := by
    intro v3 v4 v5 n
    induction n with
    | zero => intro v6 mm hw; exact hw.elim
    | succ n ih102 =>
      obtain ⟨K102, eK102⟩ : ∃ K : Int32 → Mm → Prop, K = fun v6 mm => LOp (fun K x => wp_X7_goesOn_102  (fun z0 z1 => K (z0, z1)) v0 v1 v2 v3 v4 v5 x.1 x.2 Φ) n (v6, mm) := ⟨_, rfl⟩
      have ih102 : ∀ (v6 : Int32) (mm : Mm), K102 v6 mm → WW p l e rm_X7_goesOn s m ([.ref (ad g v0), .int v1, .int v2] : List Value).toArray below meth c (MQ below (QQ g vV Φ) ([.ref (ad g v0), .int v1, .int v2] : List Value).toArray s 0 0 (Ag g)) g mm 9 0 0 102 [(0, .ref (ad g v0)), (1, .int v1), (2, .int v2), (3, .int v3), (4, .int v4), (5, .int v5), (6, .int v6)] [] := by rw [eK102]; exact ih102
      have B240 : ∀ (v6 : Int32) (mm : Mm), wp_X7_goesOn_240 K102 v0 v1 v2 v3 v4 v5 v6 mm Φ → WW p l e rm_X7_goesOn s m ([.ref (ad g v0), .int v1, .int v2] : List Value).toArray below meth c (MQ below (QQ g vV Φ) ([.ref (ad g v0), .int v1, .int v2] : List Value).toArray s 0 0 (Ag g)) g mm 9 0 0 240 [(0, .ref (ad g v0)), (1, .int v1), (2, .int v2), (3, .int v3), (4, .int v4), (5, .int v5), (6, .int v6)] [] := by
        intro v6 mm hw H locs ls hW hl
        unfold wp_X7_goesOn_240 at hw
        refine lv_iinc (v := (v6 + (1 : Int32))) (lv' := [(6, .int (v6 + (1 : Int32))), (0, .ref (ad g v0)), (1, .int v1), (2, .int v2), (3, .int v3), (4, .int v4), (5, .int v5)]) hx hb dX7_goesOn_240 hl (k := 6) rfl rfl (by decide) rfl (fun ls hl => ?_)
        refine lv_goto (tgt := 102) hx hb dX7_goesOn_243 (by decide) ?_
        exact ih102 (v6 + (1 : Int32)) mm hw _ _ _ hW (lv_sub hl [1, 2, 3, 4, 5, 6, 0] rfl)
      have L146 : ∀ (v6 : Int32) (n : Nat) (v7 : Int32) (v8 : Int32) (mm : Mm), LOp (fun K x => wp_X7_goesOn_146 K102 (fun z0 z1 z2 => K (z0, z1, z2)) v0 v1 v2 v3 v4 v5 v6 x.1 x.2.1 x.2.2 Φ) n (v7, v8, mm) → WW p l e rm_X7_goesOn s m ([.ref (ad g v0), .int v1, .int v2] : List Value).toArray below meth c (MQ below (QQ g vV Φ) ([.ref (ad g v0), .int v1, .int v2] : List Value).toArray s 0 0 (Ag g)) g mm 9 0 0 146 [(0, .ref (ad g v0)), (1, .int v1), (2, .int v2), (3, .int v3), (4, .int v4), (5, .int v5), (6, .int v6), (7, .int v7), (8, .int v8)] [] := by
        intro v6 n
        induction n with
        | zero => intro v7 v8 mm hw; exact hw.elim
        | succ n ih146 =>
          obtain ⟨K146, eK146⟩ : ∃ K : Int32 → Int32 → Mm → Prop, K = fun v7 v8 mm => LOp (fun K x => wp_X7_goesOn_146 K102 (fun z0 z1 z2 => K (z0, z1, z2)) v0 v1 v2 v3 v4 v5 v6 x.1 x.2.1 x.2.2 Φ) n (v7, v8, mm) := ⟨_, rfl⟩
          have ih146 : ∀ (v7 : Int32) (v8 : Int32) (mm : Mm), K146 v7 v8 mm → WW p l e rm_X7_goesOn s m ([.ref (ad g v0), .int v1, .int v2] : List Value).toArray below meth c (MQ below (QQ g vV Φ) ([.ref (ad g v0), .int v1, .int v2] : List Value).toArray s 0 0 (Ag g)) g mm 9 0 0 146 [(0, .ref (ad g v0)), (1, .int v1), (2, .int v2), (3, .int v3), (4, .int v4), (5, .int v5), (6, .int v6), (7, .int v7), (8, .int v8)] [] := by rw [eK146]; exact ih146
          have B200 : ∀ (v8 : Int32) (s0 : Int32) (mm : Mm), wp_X7_goesOn_200 K102 K146 v0 v1 v2 v3 v4 v5 v6 v8 s0 mm Φ → WW p l e rm_X7_goesOn s m ([.ref (ad g v0), .int v1, .int v2] : List Value).toArray below meth c (MQ below (QQ g vV Φ) ([.ref (ad g v0), .int v1, .int v2] : List Value).toArray s 0 0 (Ag g)) g mm 9 0 0 200 [(0, .ref (ad g v0)), (1, .int v1), (2, .int v2), (3, .int v3), (4, .int v4), (5, .int v5), (6, .int v6), (8, .int v8)] [.int s0] := by
            intro v8 s0 mm hw H locs ls hW hl
            unfold wp_X7_goesOn_200 at hw
            refine lv_istore (lv' := [(7, .int s0), (0, .ref (ad g v0)), (1, .int v1), (2, .int v2), (3, .int v3), (4, .int v4), (5, .int v5), (6, .int v6), (8, .int v8)]) hx hb dX7_goesOn_200 hl (by decide) rfl (fun ls hl => ?_)
            refine lv_iinc (v := (v8 + (1 : Int32))) (lv' := [(8, .int (v8 + (1 : Int32))), (7, .int s0), (0, .ref (ad g v0)), (1, .int v1), (2, .int v2), (3, .int v3), (4, .int v4), (5, .int v5), (6, .int v6)]) hx hb dX7_goesOn_202 hl (k := 8) rfl rfl (by decide) rfl (fun ls hl => ?_)
            refine lv_goto (tgt := 146) hx hb dX7_goesOn_205 (by decide) ?_
            exact ih146 s0 (v8 + (1 : Int32)) mm hw _ _ _ hW (lv_sub hl [2, 3, 4, 5, 6, 7, 8, 1, 0] rfl)
          have B199 : ∀ (v8 : Int32) (mm : Mm), wp_X7_goesOn_199 K102 K146 v0 v1 v2 v3 v4 v5 v6 v8 mm Φ → WW p l e rm_X7_goesOn s m ([.ref (ad g v0), .int v1, .int v2] : List Value).toArray below meth c (MQ below (QQ g vV Φ) ([.ref (ad g v0), .int v1, .int v2] : List Value).toArray s 0 0 (Ag g)) g mm 9 0 0 199 [(0, .ref (ad g v0)), (1, .int v1), (2, .int v2), (3, .int v3), (4, .int v4), (5, .int v5), (6, .int v6), (8, .int v8)] [] := by
            intro v8 mm hw H locs ls hW hl
            unfold wp_X7_goesOn_199 at hw
            refine lv_iconst (v := (0 : Int32)) hx hb dX7_goesOn_199 (by decide) ?_
            exact B200 v8 (0 : Int32) mm hw _ _ _ hW (lv_sub hl [0, 1, 2, 3, 4, 5, 6, 7] rfl)
          have B195 : ∀ (v8 : Int32) (mm : Mm), wp_X7_goesOn_195 K102 K146 v0 v1 v2 v3 v4 v5 v6 v8 mm Φ → WW p l e rm_X7_goesOn s m ([.ref (ad g v0), .int v1, .int v2] : List Value).toArray below meth c (MQ below (QQ g vV Φ) ([.ref (ad g v0), .int v1, .int v2] : List Value).toArray s 0 0 (Ag g)) g mm 9 0 0 195 [(0, .ref (ad g v0)), (1, .int v1), (2, .int v2), (3, .int v3), (4, .int v4), (5, .int v5), (6, .int v6), (8, .int v8)] [] := by
            intro v8 mm hw H locs ls hW hl
            unfold wp_X7_goesOn_195 at hw
            refine lv_iconst (v := (1 : Int32)) hx hb dX7_goesOn_195 (by decide) ?_
            refine lv_goto (tgt := 200) hx hb dX7_goesOn_196 (by decide) ?_
            exact B200 v8 (1 : Int32) mm hw _ _ _ hW (lv_sub hl [0, 1, 2, 3, 4, 5, 6, 7] rfl)
          intro v7 v8 mm hw H locs ls hW hl
          have hw : wp_X7_goesOn_146 K102 K146 v0 v1 v2 v3 v4 v5 v6 v7 v8 mm Φ := by rw [eK146]; exact hw
          unfold wp_X7_goesOn_146 at hw
          refine lv_iload hx hb dX7_goesOn_146 (lv_at hl 8 rfl) ?_
          refine lv_iload hx hb dX7_goesOn_148 (lv_at hl 6 rfl) ?_
          refine lv_icmp_ge (tgt := 208) hx hb dX7_goesOn_150 (by decide) (fun c1 => ?_) (fun c1 => ?_)
          · have hw := hw.1 c1
            refine lv_iload hx hb dX7_goesOn_208 (lv_at hl 7 rfl) ?_
            refine lv_if_eq (tgt := 240) hx hb dX7_goesOn_210 (by decide) (fun c2 => ?_) (fun c2 => ?_)
            · have hw := hw.1 c2
              exact B240 v6 mm hw _ _ _ hW (lv_sub hl [0, 1, 2, 3, 4, 5, 6] rfl)
            · have hw := hw.2 c2
              refine lv_aload_n hx hb dX7_goesOn_213 rfl (lv_at hl 0 rfl) ?_
              refine lv_aload_n hx hb dX7_goesOn_214 rfl (lv_at hl 0 rfl) ?_
              refine R_getP (C := RX7) (T := TX7) (N := 36) hx hb hts i8 hown hK hW 16 hw.1 (by decide) rfl (by decide) (hts (.fieldLink RX7 40 "BoatLiftModel" "there" "[I") (by decide +kernel)) (fun _ h => h) (fun _ _ _ => rfl) hw.2.1 dX7_goesOn_215 ?_
              have hw := hw.2.2
              refine lv_aload_n hx hb dX7_goesOn_218 rfl (lv_at hl 0 rfl) ?_
              refine R_getP (C := RX7) (T := TX7) (N := 36) hx hb hts i8 hown hK hW 35 hw.1 (by decide) rfl (by decide) (hts (.fieldLink RX7 81 "BoatLiftModel" "plan" "[I") (by decide +kernel)) (fun _ h => h) (fun _ _ _ => rfl) hw.2.1 dX7_goesOn_219 ?_
              have hw := hw.2.2
              refine lv_iload hx hb dX7_goesOn_222 (lv_at hl 6 rfl) ?_
              refine R_iald hx hb hK hW hw.1 hw.2.1 dX7_goesOn_224 ?_
              have hw := hw.2.2
              refine R_iald hx hb hK hW hw.1 hw.2.1 dX7_goesOn_225 ?_
              have hw := hw.2.2
              refine lv_iload_n hx hb dX7_goesOn_226 rfl (lv_at hl 3 rfl) ?_
              refine lv_iload hx hb dX7_goesOn_227 (lv_at hl 4 rfl) ?_
              refine lv_iload hx hb dX7_goesOn_229 (lv_at hl 5 rfl) ?_
              refine lv_aload_n hx hb dX7_goesOn_231 rfl (lv_at hl 0 rfl) ?_
              refine R_getP (C := RX7) (T := TX7) (N := 36) hx hb hts i8 hown hK hW 32 hw.1 (by decide) rfl (by decide) (hts (.fieldLink RX7 71 "BoatLiftModel" "wayWait" "[I") (by decide +kernel)) (fun _ h => h) (fun _ _ _ => rfl) hw.2.1 dX7_goesOn_232 ?_
              have hw := hw.2.2
              refine lv_iload_n hx hb dX7_goesOn_235 rfl (lv_at hl 2 rfl) ?_
              refine R_iald hx hb hK hW hw.1 hw.2.1 dX7_goesOn_236 ?_
              have hw := hw.2.2
              refine R_call (va_runV (As := [.int (mI mm (mP mm v0 16) (mI mm (mP mm v0 35) v6.toNatClampNeg).toNatClampNeg), .int v3, .int v4, .int v5, .int (mI mm (mP mm v0 32) v2.toNatClampNeg)]) (rest := []) ⟨hx, hb, hml, hown, hts⟩ (c_X7_begins l g mm v0 (mI mm (mP mm v0 16) (mI mm (mP mm v0 35) v6.toNatClampNeg).toNatClampNeg) v3 v4 v5 (mI mm (mP mm v0 32) v2.toNatClampNeg) _ hw.2) (cwV 5 hts gX7_goesOn_X7_begins rfl rfl rfl (by decide +kernel) ⟨by decide, by decide⟩) (PP.preV (q := (RX7, TX7, 36)) hK hW hw.1 (by decide) rfl) rfl rfl hl.1 rfl (lv_room (Nat.le_of_ble_eq_true rfl)) dX7_goesOn_237 ⟨by decide, by decide⟩) hW (fun _ m4 H locs hw hW => ?_)
              refine W.eq (g2 := F0 m 240 ls []) rfl ?_
              exact B240 v6 m4 hw _ _ _ hW (lv_sub hl [0, 1, 2, 3, 4, 5, 6] rfl)
          · have hw := hw.2 c1
            refine lv_iload hx hb dX7_goesOn_153 (lv_at hl 7 rfl) ?_
            refine lv_if_eq (tgt := 199) hx hb dX7_goesOn_155 (by decide) (fun c5 => ?_) (fun c5 => ?_)
            · have hw := hw.1 c5
              exact B199 v8 mm hw _ _ _ hW (lv_sub hl [0, 1, 2, 3, 4, 5, 6, 8] rfl)
            · have hw := hw.2 c5
              refine lv_iload_n hx hb dX7_goesOn_158 rfl (lv_at hl 3 rfl) ?_
              refine lv_iload hx hb dX7_goesOn_159 (lv_at hl 8 rfl) ?_
              refine lv_ishr hx hb dX7_goesOn_161 ?_
              refine lv_iconst (v := (1 : Int32)) hx hb dX7_goesOn_162 (by decide) ?_
              refine lv_iand hx hb dX7_goesOn_163 ?_
              refine lv_iconst (v := (1 : Int32)) hx hb dX7_goesOn_164 (by decide) ?_
              refine lv_icmp_eq (tgt := 195) hx hb dX7_goesOn_165 (by decide) (fun c6 => ?_) (fun c6 => ?_)
              · have hw := hw.1 c6
                exact B195 v8 mm hw _ _ _ hW (lv_sub hl [0, 1, 2, 3, 4, 5, 6, 8] rfl)
              · have hw := hw.2 c6
                refine lv_aload_n hx hb dX7_goesOn_168 rfl (lv_at hl 0 rfl) ?_
                refine R_getP (C := RX7) (T := TX7) (N := 36) hx hb hts i8 hown hK hW 16 hw.1 (by decide) rfl (by decide) (hts (.fieldLink RX7 40 "BoatLiftModel" "there" "[I") (by decide +kernel)) (fun _ h => h) (fun _ _ _ => rfl) hw.2.1 dX7_goesOn_169 ?_
                have hw := hw.2.2
                refine lv_aload_n hx hb dX7_goesOn_172 rfl (lv_at hl 0 rfl) ?_
                refine R_getP (C := RX7) (T := TX7) (N := 36) hx hb hts i8 hown hK hW 35 hw.1 (by decide) rfl (by decide) (hts (.fieldLink RX7 81 "BoatLiftModel" "plan" "[I") (by decide +kernel)) (fun _ h => h) (fun _ _ _ => rfl) hw.2.1 dX7_goesOn_173 ?_
                have hw := hw.2.2
                refine lv_iload hx hb dX7_goesOn_176 (lv_at hl 8 rfl) ?_
                refine R_iald hx hb hK hW hw.1 hw.2.1 dX7_goesOn_178 ?_
                have hw := hw.2.2
                refine R_iald hx hb hK hW hw.1 hw.2.1 dX7_goesOn_179 ?_
                have hw := hw.2.2
                refine lv_aload_n hx hb dX7_goesOn_180 rfl (lv_at hl 0 rfl) ?_
                refine R_getP (C := RX7) (T := TX7) (N := 36) hx hb hts i8 hown hK hW 16 hw.1 (by decide) rfl (by decide) (hts (.fieldLink RX7 40 "BoatLiftModel" "there" "[I") (by decide +kernel)) (fun _ h => h) (fun _ _ _ => rfl) hw.2.1 dX7_goesOn_181 ?_
                have hw := hw.2.2
                refine lv_aload_n hx hb dX7_goesOn_184 rfl (lv_at hl 0 rfl) ?_
                refine R_getP (C := RX7) (T := TX7) (N := 36) hx hb hts i8 hown hK hW 35 hw.1 (by decide) rfl (by decide) (hts (.fieldLink RX7 81 "BoatLiftModel" "plan" "[I") (by decide +kernel)) (fun _ h => h) (fun _ _ _ => rfl) hw.2.1 dX7_goesOn_185 ?_
                have hw := hw.2.2
                refine lv_iload hx hb dX7_goesOn_188 (lv_at hl 6 rfl) ?_
                refine R_iald hx hb hK hW hw.1 hw.2.1 dX7_goesOn_190 ?_
                have hw := hw.2.2
                refine R_iald hx hb hK hW hw.1 hw.2.1 dX7_goesOn_191 ?_
                have hw := hw.2.2
                refine lv_icmp_eq (tgt := 199) hx hb dX7_goesOn_192 (by decide) (fun c7 => ?_) (fun c7 => ?_)
                · have hw := hw.1 c7
                  exact B199 v8 mm hw _ _ _ hW (lv_sub hl [0, 1, 2, 3, 4, 5, 6, 8] rfl)
                · have hw := hw.2 c7
                  exact B195 v8 mm hw _ _ _ hW (lv_sub hl [0, 1, 2, 3, 4, 5, 6, 8] rfl)
      have B141 : ∀ (v6 : Int32) (s0 : Int32) (mm : Mm), wp_X7_goesOn_141 K102 v0 v1 v2 v3 v4 v5 v6 s0 mm Φ → WW p l e rm_X7_goesOn s m ([.ref (ad g v0), .int v1, .int v2] : List Value).toArray below meth c (MQ below (QQ g vV Φ) ([.ref (ad g v0), .int v1, .int v2] : List Value).toArray s 0 0 (Ag g)) g mm 9 0 0 141 [(0, .ref (ad g v0)), (1, .int v1), (2, .int v2), (3, .int v3), (4, .int v4), (5, .int v5), (6, .int v6)] [.int s0] := by
        intro v6 s0 mm hw H locs ls hW hl
        unfold wp_X7_goesOn_141 at hw
        refine lv_istore (lv' := [(7, .int s0), (0, .ref (ad g v0)), (1, .int v1), (2, .int v2), (3, .int v3), (4, .int v4), (5, .int v5), (6, .int v6)]) hx hb dX7_goesOn_141 hl (by decide) rfl (fun ls hl => ?_)
        refine lv_iconst (v := (0 : Int32)) hx hb dX7_goesOn_143 (by decide) ?_
        refine lv_istore (lv' := [(8, .int (0 : Int32)), (7, .int s0), (0, .ref (ad g v0)), (1, .int v1), (2, .int v2), (3, .int v3), (4, .int v4), (5, .int v5), (6, .int v6)]) hx hb dX7_goesOn_144 hl (by decide) rfl (fun ls hl => ?_)
        obtain ⟨n, hw⟩ := hw
        exact L146 v6 n s0 (0 : Int32) mm hw _ _ _ hW (lv_sub hl [2, 3, 4, 5, 6, 7, 8, 1, 0] rfl)
      have B140 : ∀ (v6 : Int32) (mm : Mm), wp_X7_goesOn_140 K102 v0 v1 v2 v3 v4 v5 v6 mm Φ → WW p l e rm_X7_goesOn s m ([.ref (ad g v0), .int v1, .int v2] : List Value).toArray below meth c (MQ below (QQ g vV Φ) ([.ref (ad g v0), .int v1, .int v2] : List Value).toArray s 0 0 (Ag g)) g mm 9 0 0 140 [(0, .ref (ad g v0)), (1, .int v1), (2, .int v2), (3, .int v3), (4, .int v4), (5, .int v5), (6, .int v6)] [] := by
        intro v6 mm hw H locs ls hW hl
        unfold wp_X7_goesOn_140 at hw
        refine lv_iconst (v := (0 : Int32)) hx hb dX7_goesOn_140 (by decide) ?_
        exact B141 v6 (0 : Int32) mm hw _ _ _ hW (lv_sub hl [0, 1, 2, 3, 4, 5, 6] rfl)
      intro v6 mm hw H locs ls hW hl
      have hw : wp_X7_goesOn_102 K102 v0 v1 v2 v3 v4 v5 v6 mm Φ := by rw [eK102]; exact hw
      unfold wp_X7_goesOn_102 at hw
      refine lv_iload hx hb dX7_goesOn_102 (lv_at hl 6 rfl) ?_
      refine lv_aload_n hx hb dX7_goesOn_104 rfl (lv_at hl 0 rfl) ?_
      refine R_getI (C := RX7) (T := TX7) (N := 36) hx hb hts i8 hown hK hW 26 hw.1 (by decide) rfl (by decide) (hts (.fieldLink RX7 176 "BoatLiftModel" "left" "I") (by decide +kernel)) (fun _ h => h) (fun _ _ _ => rfl) dX7_goesOn_105 ?_
      have hw := hw.2
      refine lv_icmp_ge (tgt := 246) hx hb dX7_goesOn_108 (by decide) (fun c8 => ?_) (fun c8 => ?_)
      · have hw := hw.1 c8
        exact R_vret hx hb hr hlk hW hw dX7_goesOn_246
      · have hw := hw.2 c8
        refine lv_iload_n hx hb dX7_goesOn_111 rfl (lv_at hl 3 rfl) ?_
        refine lv_iload hx hb dX7_goesOn_112 (lv_at hl 6 rfl) ?_
        refine lv_ishr hx hb dX7_goesOn_114 ?_
        refine lv_iconst (v := (1 : Int32)) hx hb dX7_goesOn_115 (by decide) ?_
        refine lv_iand hx hb dX7_goesOn_116 ?_
        refine lv_if_ne (tgt := 140) hx hb dX7_goesOn_117 (by decide) (fun c9 => ?_) (fun c9 => ?_)
        · have hw := hw.1 c9
          exact B140 v6 mm hw _ _ _ hW (lv_sub hl [0, 1, 2, 3, 4, 5, 6] rfl)
        · have hw := hw.2 c9
          refine lv_aload_n hx hb dX7_goesOn_120 rfl (lv_at hl 0 rfl) ?_
          refine R_getP (C := RX7) (T := TX7) (N := 36) hx hb hts i8 hown hK hW 16 hw.1 (by decide) rfl (by decide) (hts (.fieldLink RX7 40 "BoatLiftModel" "there" "[I") (by decide +kernel)) (fun _ h => h) (fun _ _ _ => rfl) hw.2.1 dX7_goesOn_121 ?_
          have hw := hw.2.2
          refine lv_aload_n hx hb dX7_goesOn_124 rfl (lv_at hl 0 rfl) ?_
          refine R_getP (C := RX7) (T := TX7) (N := 36) hx hb hts i8 hown hK hW 35 hw.1 (by decide) rfl (by decide) (hts (.fieldLink RX7 81 "BoatLiftModel" "plan" "[I") (by decide +kernel)) (fun _ h => h) (fun _ _ _ => rfl) hw.2.1 dX7_goesOn_125 ?_
          have hw := hw.2.2
          refine lv_iload hx hb dX7_goesOn_128 (lv_at hl 6 rfl) ?_
          refine R_iald hx hb hK hW hw.1 hw.2.1 dX7_goesOn_130 ?_
          have hw := hw.2.2
          refine R_iald hx hb hK hW hw.1 hw.2.1 dX7_goesOn_131 ?_
          have hw := hw.2.2
          refine lv_iload_n hx hb dX7_goesOn_132 rfl (lv_at hl 1 rfl) ?_
          refine lv_icmp_le (tgt := 140) hx hb dX7_goesOn_133 (by decide) (fun c10 => ?_) (fun c10 => ?_)
          · have hw := hw.1 c10
            exact B140 v6 mm hw _ _ _ hW (lv_sub hl [0, 1, 2, 3, 4, 5, 6] rfl)
          · have hw := hw.2 c10
            refine lv_iconst (v := (1 : Int32)) hx hb dX7_goesOn_136 (by decide) ?_
            refine lv_goto (tgt := 141) hx hb dX7_goesOn_137 (by decide) ?_
            exact B141 v6 (1 : Int32) mm hw _ _ _ hW (lv_sub hl [0, 1, 2, 3, 4, 5, 6] rfl)
  have B67 : ∀ (mm : Mm), wp_X7_goesOn_67 v0 v1 v2 mm Φ → WW p l e rm_X7_goesOn s m ([.ref (ad g v0), .int v1, .int v2] : List Value).toArray below meth c (MQ below (QQ g vV Φ) ([.ref (ad g v0), .int v1, .int v2] : List Value).toArray s 0 0 (Ag g)) g mm 9 0 0 67 [(0, .ref (ad g v0)), (1, .int v1), (2, .int v2)] [] := by
    intro  mm hw H locs ls hW hl
    unfold wp_X7_goesOn_67 at hw
    refine lv_aload_n hx hb dX7_goesOn_67 rfl (lv_at hl 0 rfl) ?_
    refine lv_aload_n hx hb dX7_goesOn_68 rfl (lv_at hl 0 rfl) ?_
    refine R_getP (C := RX7) (T := TX7) (N := 36) hx hb hts i8 hown hK hW 32 hw.1 (by decide) rfl (by decide) (hts (.fieldLink RX7 71 "BoatLiftModel" "wayWait" "[I") (by decide +kernel)) (fun _ h => h) (fun _ _ _ => rfl) hw.2.1 dX7_goesOn_69 ?_
    have hw := hw.2.2
    refine lv_iload_n hx hb dX7_goesOn_72 rfl (lv_at hl 2 rfl) ?_
    refine R_iald hx hb hK hW hw.1 hw.2.1 dX7_goesOn_73 ?_
    have hw := hw.2.2
    refine R_putI (C := RX7) (T := TX7) (N := 36) hx hb hts i8 tyX7 tyX7_ok nmX7 hown hK hW 27 hw.1 (by decide) rfl (by decide) (hts (.fieldLink RX7 196 "BoatLiftModel" "leastWait" "I") (by decide +kernel)) (fun _ h => h) (Or.inl rfl) rfl (fun _ _ _ => rfl) (fun _ _ _ => rfl) dX7_goesOn_74 (fun H locs hW => ?_)
    obtain ⟨m11, em11⟩ : ∃ z, z = sI mm v0 27 (mI mm (mP mm v0 32) v2.toNatClampNeg) := ⟨_, rfl⟩
    rw [← em11] at hW
    have hw := hw.2 m11 em11
    refine lv_aload_n hx hb dX7_goesOn_77 rfl (lv_at hl 0 rfl) ?_
    refine lv_iload_n hx hb dX7_goesOn_78 rfl (lv_at hl 1 rfl) ?_
    refine R_putI (C := RX7) (T := TX7) (N := 36) hx hb hts i8 tyX7 tyX7_ok nmX7 hown hK hW 28 hw.1 (by decide) rfl (by decide) (hts (.fieldLink RX7 199 "BoatLiftModel" "firstEnd" "I") (by decide +kernel)) (fun _ h => h) (Or.inl rfl) rfl (fun _ _ _ => rfl) (fun _ _ _ => rfl) dX7_goesOn_79 (fun H locs hW => ?_)
    obtain ⟨m12, em12⟩ : ∃ z, z = sI m11 v0 28 v1 := ⟨_, rfl⟩
    rw [← em12] at hW
    have hw := hw.2 m12 em12
    exact R_vret hx hb hr hlk hW hw dX7_goesOn_82
  unfold wp_X7_goesOn at hw
  refine lv_aload_n hx hb dX7_goesOn_0 rfl (lv_at hl 0 rfl) ?_
  refine R_getP (C := RX7) (T := TX7) (N := 36) hx hb hts i8 hown hK hW 31 hw.1 (by decide) rfl (by decide) (hts (.fieldLink RX7 68 "BoatLiftModel" "wayKey" "[I") (by decide +kernel)) (fun _ h => h) (fun _ _ _ => rfl) hw.2.1 dX7_goesOn_1 ?_
  have hw := hw.2.2
  refine lv_iload_n hx hb dX7_goesOn_4 rfl (lv_at hl 2 rfl) ?_
  refine R_iald hx hb hK hW hw.1 hw.2.1 dX7_goesOn_5 ?_
  have hw := hw.2.2
  refine lv_iconst (v := (4 : Int32)) hx hb dX7_goesOn_6 (by decide) ?_
  refine lv_idiv hx hb dX7_goesOn_7 (by decide) ?_
  refine lv_bipush (v := (64 : Int32)) hx hb dX7_goesOn_8 (by decide) ?_
  refine lv_irem hx hb dX7_goesOn_10 (by decide) ?_
  refine lv_topi (fun x13 ex13 => ?_)
  have hw := hw x13 ex13
  refine lv_istore_n (lv' := [(3, .int x13), (0, .ref (ad g v0)), (1, .int v1), (2, .int v2)]) hx hb dX7_goesOn_11 rfl hl (by decide) rfl (fun ls hl => ?_)
  refine lv_aload_n hx hb dX7_goesOn_12 rfl (lv_at hl 1 rfl) ?_
  refine R_getP (C := RX7) (T := TX7) (N := 36) hx hb hts i8 hown hK hW 31 hw.1 (by decide) rfl (by decide) (hts (.fieldLink RX7 68 "BoatLiftModel" "wayKey" "[I") (by decide +kernel)) (fun _ h => h) (fun _ _ _ => rfl) hw.2.1 dX7_goesOn_13 ?_
  have hw := hw.2.2
  refine lv_iload_n hx hb dX7_goesOn_16 rfl (lv_at hl 3 rfl) ?_
  refine R_iald hx hb hK hW hw.1 hw.2.1 dX7_goesOn_17 ?_
  have hw := hw.2.2
  refine lv_iconst (v := (2 : Int32)) hx hb dX7_goesOn_18 (by decide) ?_
  refine lv_idiv hx hb dX7_goesOn_19 (by decide) ?_
  refine lv_iconst (v := (2 : Int32)) hx hb dX7_goesOn_20 (by decide) ?_
  refine lv_irem hx hb dX7_goesOn_21 (by decide) ?_
  refine lv_topi (fun x14 ex14 => ?_)
  have hw := hw x14 ex14
  refine lv_istore (lv' := [(4, .int x14), (3, .int x13), (0, .ref (ad g v0)), (1, .int v1), (2, .int v2)]) hx hb dX7_goesOn_22 hl (by decide) rfl (fun ls hl => ?_)
  refine lv_aload_n hx hb dX7_goesOn_24 rfl (lv_at hl 2 rfl) ?_
  refine R_getP (C := RX7) (T := TX7) (N := 36) hx hb hts i8 hown hK hW 31 hw.1 (by decide) rfl (by decide) (hts (.fieldLink RX7 68 "BoatLiftModel" "wayKey" "[I") (by decide +kernel)) (fun _ h => h) (fun _ _ _ => rfl) hw.2.1 dX7_goesOn_25 ?_
  have hw := hw.2.2
  refine lv_iload_n hx hb dX7_goesOn_28 rfl (lv_at hl 4 rfl) ?_
  refine R_iald hx hb hK hW hw.1 hw.2.1 dX7_goesOn_29 ?_
  have hw := hw.2.2
  refine lv_iconst (v := (2 : Int32)) hx hb dX7_goesOn_30 (by decide) ?_
  refine lv_irem hx hb dX7_goesOn_31 (by decide) ?_
  refine lv_topi (fun x15 ex15 => ?_)
  have hw := hw x15 ex15
  refine lv_istore (lv' := [(5, .int x15), (4, .int x14), (3, .int x13), (0, .ref (ad g v0)), (1, .int v1), (2, .int v2)]) hx hb dX7_goesOn_32 hl (by decide) rfl (fun ls hl => ?_)
  refine lv_iload_n hx hb dX7_goesOn_34 rfl (lv_at hl 2 rfl) ?_
  refine lv_iconst (v := (1 : Int32)) hx hb dX7_goesOn_35 (by decide) ?_
  refine lv_aload_n hx hb dX7_goesOn_36 rfl (lv_at hl 3 rfl) ?_
  refine R_getI (C := RX7) (T := TX7) (N := 36) hx hb hts i8 hown hK hW 26 hw.1 (by decide) rfl (by decide) (hts (.fieldLink RX7 176 "BoatLiftModel" "left" "I") (by decide +kernel)) (fun _ h => h) (fun _ _ _ => rfl) dX7_goesOn_37 ?_
  have hw := hw.2
  refine lv_ishl hx hb dX7_goesOn_40 ?_
  refine lv_iconst (v := (1 : Int32)) hx hb dX7_goesOn_41 (by decide) ?_
  refine lv_isub hx hb dX7_goesOn_42 ?_
  refine lv_icmp_ne (tgt := 83) hx hb dX7_goesOn_43 (by decide) (fun c16 => ?_) (fun c16 => ?_)
  · have hw := hw.1 c16
    refine lv_aload_n hx hb dX7_goesOn_83 rfl (lv_at hl 3 rfl) ?_
    refine lv_iload_n hx hb dX7_goesOn_84 rfl (lv_at hl 4 rfl) ?_
    refine lv_iload_n hx hb dX7_goesOn_85 rfl (lv_at hl 2 rfl) ?_
    refine lv_iload hx hb dX7_goesOn_86 (lv_at hl 1 rfl) ?_
    refine lv_iload hx hb dX7_goesOn_88 (lv_at hl 0 rfl) ?_
    refine lv_aload_n hx hb dX7_goesOn_90 rfl (lv_at hl 3 rfl) ?_
    refine R_getP (C := RX7) (T := TX7) (N := 36) hx hb hts i8 hown hK hW 32 hw.1 (by decide) rfl (by decide) (hts (.fieldLink RX7 71 "BoatLiftModel" "wayWait" "[I") (by decide +kernel)) (fun _ h => h) (fun _ _ _ => rfl) hw.2.1 dX7_goesOn_91 ?_
    have hw := hw.2.2
    refine lv_iload_n hx hb dX7_goesOn_94 rfl (lv_at hl 5 rfl) ?_
    refine R_iald hx hb hK hW hw.1 hw.2.1 dX7_goesOn_95 ?_
    have hw := hw.2.2
    refine R_call (va_runV (As := [.int v1, .int x13, .int x14, .int x15, .int (mI m0 (mP m0 v0 32) v2.toNatClampNeg)]) (rest := []) ⟨hx, hb, hml, hown, hts⟩ (c_X7_begins l g m0 v0 v1 x13 x14 x15 (mI m0 (mP m0 v0 32) v2.toNatClampNeg) _ hw.2) (cwV 5 hts gX7_goesOn_X7_begins rfl rfl rfl (by decide +kernel) ⟨by decide, by decide⟩) (PP.preV (q := (RX7, TX7, 36)) hK hW hw.1 (by decide) rfl) rfl rfl hl.1 rfl (lv_room (Nat.le_of_ble_eq_true rfl)) dX7_goesOn_96 ⟨by decide, by decide⟩) hW (fun _ m18 H locs hw hW => ?_)
    refine W.eq (g2 := F0 m 99 ls []) rfl ?_
    refine lv_iconst (v := (0 : Int32)) hx hb dX7_goesOn_99 (by decide) ?_
    refine lv_istore (lv' := [(6, .int (0 : Int32)), (5, .int x15), (4, .int x14), (3, .int x13), (0, .ref (ad g v0)), (1, .int v1), (2, .int v2)]) hx hb dX7_goesOn_100 hl (by decide) rfl (fun ls hl => ?_)
    obtain ⟨n, hw⟩ := hw
    exact L102 x13 x14 x15 n (0 : Int32) m18 hw _ _ _ hW (lv_sub hl [4, 5, 6, 3, 2, 1, 0] rfl)
  · have hw := hw.2 c16
    refine lv_aload_n hx hb dX7_goesOn_46 rfl (lv_at hl 3 rfl) ?_
    refine R_getI (C := RX7) (T := TX7) (N := 36) hx hb hts i8 hown hK hW 27 hw.1 (by decide) rfl (by decide) (hts (.fieldLink RX7 196 "BoatLiftModel" "leastWait" "I") (by decide +kernel)) (fun _ h => h) (fun _ _ _ => rfl) dX7_goesOn_47 ?_
    have hw := hw.2
    refine lv_iconst (v := (-1 : Int32)) hx hb dX7_goesOn_50 (by decide) ?_
    refine lv_icmp_eq (tgt := 67) hx hb dX7_goesOn_51 (by decide) (fun c19 => ?_) (fun c19 => ?_)
    · have hw := hw.1 c19
      exact B67  m0 hw _ _ _ hW (lv_sub hl [3, 4, 5] rfl)
    · have hw := hw.2 c19
      refine lv_aload_n hx hb dX7_goesOn_54 rfl (lv_at hl 3 rfl) ?_
      refine R_getP (C := RX7) (T := TX7) (N := 36) hx hb hts i8 hown hK hW 32 hw.1 (by decide) rfl (by decide) (hts (.fieldLink RX7 71 "BoatLiftModel" "wayWait" "[I") (by decide +kernel)) (fun _ h => h) (fun _ _ _ => rfl) hw.2.1 dX7_goesOn_55 ?_
      have hw := hw.2.2
      refine lv_iload_n hx hb dX7_goesOn_58 rfl (lv_at hl 5 rfl) ?_
      refine R_iald hx hb hK hW hw.1 hw.2.1 dX7_goesOn_59 ?_
      have hw := hw.2.2
      refine lv_aload_n hx hb dX7_goesOn_60 rfl (lv_at hl 3 rfl) ?_
      refine R_getI (C := RX7) (T := TX7) (N := 36) hx hb hts i8 hown hK hW 27 hw.1 (by decide) rfl (by decide) (hts (.fieldLink RX7 196 "BoatLiftModel" "leastWait" "I") (by decide +kernel)) (fun _ h => h) (fun _ _ _ => rfl) dX7_goesOn_61 ?_
      have hw := hw.2
      refine lv_icmp_ge (tgt := 82) hx hb dX7_goesOn_64 (by decide) (fun c20 => ?_) (fun c20 => ?_)
      · have hw := hw.1 c20
        exact R_vret hx hb hr hlk hW hw dX7_goesOn_82
      · have hw := hw.2 c20
        exact B67  m0 hw _ _ _ hW (lv_sub hl [3, 4, 5] rfl)

def wp_X7_works_76 (K63 : Int32 → Mm → Prop) (K76 : Int32 → Mm → Prop) (v0 : Nat) (v1 : Int32) (v2 : Int32) (mm : Mm) (Φ : Unit → Mm → Prop) : Prop :=
  ((v2 = (-1 : Int32) → K63 (v1 + (1 : Int32)) mm) ∧ (¬ v2 = (-1 : Int32) → mT mm v0 = 8 ∧ wp_X7_goesOn mm v0 v1 v2 (fun (_ : Unit) (m3 : Mm) => mT m3 v0 = 8 ∧ (mP m3 v0 33) ≠ 0 ∧ mT m3 (mP m3 v0 33) = 9 ∧ vp_in v2 (mN m3 (mP m3 v0 33)) ∧ K76 (mI m3 (mP m3 v0 33) v2.toNatClampNeg) m3)))
def wp_X7_works_63 (K63 : Int32 → Mm → Prop) (v0 : Nat) (v1 : Int32) (mm : Mm) (Φ : Unit → Mm → Prop) : Prop :=
  (((40000 : Int32) ≤ v1 → Φ () mm) ∧ (¬ (40000 : Int32) ≤ v1 → mT mm v0 = 8 ∧ (mP mm v0 34) ≠ 0 ∧ mT mm (mP mm v0 34) = 9 ∧ vp_in v1 (mN mm (mP mm v0 34)) ∧ ∃ n, LOp (fun K x => wp_X7_works_76 K63 (fun z0 z1 => K (z0, z1)) v0 v1 x.1 x.2 Φ) n ((mI mm (mP mm v0 34) v1.toNatClampNeg), mm)))
def wp_X7_works_27 (K27 : Int32 → Mm → Prop) (v0 : Nat) (v1 : Int32) (mm : Mm) (Φ : Unit → Mm → Prop) : Prop :=
  (((40000 : Int32) ≤ v1 → mT mm v0 = 8 ∧ mT mm v0 = 8 ∧ mT mm v0 = 8 ∧ wp_X7_keeps mm v0 (mI mm v0 4) (0 : Int32) (mI mm v0 3) (0 : Int32) (0 : Int32) (fun (_ : Unit) (m7 : Mm) => ∃ n, LOp (fun K x => wp_X7_works_63  (fun z0 z1 => K (z0, z1)) v0 x.1 x.2 Φ) n ((0 : Int32), m7))) ∧ (¬ (40000 : Int32) ≤ v1 → mT mm v0 = 8 ∧ (mP mm v0 34) ≠ 0 ∧ mT mm (mP mm v0 34) = 9 ∧ vp_in v1 (mN mm (mP mm v0 34)) ∧ ∀ m8 : Mm, m8 = sI mm (mP mm v0 34) v1.toNatClampNeg (-1 : Int32) → K27 (v1 + (1 : Int32)) m8))
def wp_X7_works (m0 : Mm) (v0 : Nat) (Φ : Unit → Mm → Prop) : Prop :=
  mT m0 v0 = 8 ∧ mT m0 v0 = 8 ∧ ∀ m9 : Mm, m9 = sI m0 v0 24 ((mI m0 v0 24) + (1 : Int32)) → mT m9 v0 = 8 ∧ ∀ m10 : Mm, m10 = sI m9 v0 25 (0 : Int32) → mT m10 v0 = 8 ∧ ∀ m11 : Mm, m11 = sI m10 v0 27 (-1 : Int32) → mT m11 v0 = 8 ∧ ∀ m12 : Mm, m12 = sI m11 v0 28 (-1 : Int32) → ∃ n, LOp (fun K x => wp_X7_works_27  (fun z0 z1 => K (z0, z1)) v0 x.1 x.2 Φ) n ((0 : Int32), m12)
abbrev rm_X7_works : Room := { frames := 8, cells := 0, slots := 0, locals := 189 }
set_option maxHeartbeats 4000000 in
set_option maxRecDepth 100000 in
theorem c_X7_works (l : Launch) (g : Gv) (m0 : Mm) (v0 : Nat) (Φ : Unit → Mm → Prop) (hw : wp_X7_works m0 v0 Φ) : Met l yX7_works wsX7_works rm_X7_works (PP g [.ref (ad g v0)] m0) (QQ g vV Φ) 0 0 (Ag g) := by
  refine CT_of (by decide +kernel) rfl (Nat.le_of_ble_eq_true rfl) ?_
  intro p e s m below meth c hx hb hr hml hown hts hlk hnm hK hW ls hl
  have hown : s.vm.findClass RX7 = some m.cls := hown
  have hl : lv_has ls 3 [(0, .ref (ad g v0))] := hl
  have i8 : ∀ w ∈ u_ws RX7 TX7 36, w ∈ wsX7_works := by decide +kernel
  have L63 : ∀ (n : Nat) (v1 : Int32) (mm : Mm), LOp (fun K x => wp_X7_works_63  (fun z0 z1 => K (z0, z1)) v0 x.1 x.2 Φ) n (v1, mm) → WW p l e rm_X7_works s m ([.ref (ad g v0)] : List Value).toArray below meth c (MQ below (QQ g vV Φ) ([.ref (ad g v0)] : List Value).toArray s 0 0 (Ag g)) g mm 3 0 0 63 [(0, .ref (ad g v0)), (1, .int v1)] [] := by
    intro  n
    induction n with
    | zero => intro v1 mm hw; exact hw.elim
    | succ n ih63 =>
      obtain ⟨K63, eK63⟩ : ∃ K : Int32 → Mm → Prop, K = fun v1 mm => LOp (fun K x => wp_X7_works_63  (fun z0 z1 => K (z0, z1)) v0 x.1 x.2 Φ) n (v1, mm) := ⟨_, rfl⟩
      have ih63 : ∀ (v1 : Int32) (mm : Mm), K63 v1 mm → WW p l e rm_X7_works s m ([.ref (ad g v0)] : List Value).toArray below meth c (MQ below (QQ g vV Φ) ([.ref (ad g v0)] : List Value).toArray s 0 0 (Ag g)) g mm 3 0 0 63 [(0, .ref (ad g v0)), (1, .int v1)] [] := by rw [eK63]; exact ih63
      have L76 : ∀ (v1 : Int32) (n : Nat) (v2 : Int32) (mm : Mm), LOp (fun K x => wp_X7_works_76 K63 (fun z0 z1 => K (z0, z1)) v0 v1 x.1 x.2 Φ) n (v2, mm) → WW p l e rm_X7_works s m ([.ref (ad g v0)] : List Value).toArray below meth c (MQ below (QQ g vV Φ) ([.ref (ad g v0)] : List Value).toArray s 0 0 (Ag g)) g mm 3 0 0 76 [(0, .ref (ad g v0)), (1, .int v1), (2, .int v2)] [] := by
        intro v1 n
        induction n with
        | zero => intro v2 mm hw; exact hw.elim
        | succ n ih76 =>
          obtain ⟨K76, eK76⟩ : ∃ K : Int32 → Mm → Prop, K = fun v2 mm => LOp (fun K x => wp_X7_works_76 K63 (fun z0 z1 => K (z0, z1)) v0 v1 x.1 x.2 Φ) n (v2, mm) := ⟨_, rfl⟩
          have ih76 : ∀ (v2 : Int32) (mm : Mm), K76 v2 mm → WW p l e rm_X7_works s m ([.ref (ad g v0)] : List Value).toArray below meth c (MQ below (QQ g vV Φ) ([.ref (ad g v0)] : List Value).toArray s 0 0 (Ag g)) g mm 3 0 0 76 [(0, .ref (ad g v0)), (1, .int v1), (2, .int v2)] [] := by rw [eK76]; exact ih76
          intro v2 mm hw H locs ls hW hl
          have hw : wp_X7_works_76 K63 K76 v0 v1 v2 mm Φ := by rw [eK76]; exact hw
          unfold wp_X7_works_76 at hw
          refine lv_iload_n hx hb dX7_works_76 rfl (lv_at hl 2 rfl) ?_
          refine lv_iconst (v := (-1 : Int32)) hx hb dX7_works_77 (by decide) ?_
          refine lv_icmp_eq (tgt := 97) hx hb dX7_works_78 (by decide) (fun c1 => ?_) (fun c1 => ?_)
          · have hw := hw.1 c1
            refine lv_iinc (v := (v1 + (1 : Int32))) (lv' := [(1, .int (v1 + (1 : Int32))), (0, .ref (ad g v0)), (2, .int v2)]) hx hb dX7_works_97 hl (k := 1) rfl rfl (by decide) rfl (fun ls hl => ?_)
            refine lv_goto (tgt := 63) hx hb dX7_works_100 (by decide) ?_
            exact ih63 (v1 + (1 : Int32)) mm hw _ _ _ hW (lv_sub hl [1, 0] rfl)
          · have hw := hw.2 c1
            refine lv_aload_n hx hb dX7_works_81 rfl (lv_at hl 0 rfl) ?_
            refine lv_iload_n hx hb dX7_works_82 rfl (lv_at hl 1 rfl) ?_
            refine lv_iload_n hx hb dX7_works_83 rfl (lv_at hl 2 rfl) ?_
            refine R_call (va_runV (As := [.int v1, .int v2]) (rest := []) ⟨hx, hb, hml, hown, hts⟩ (c_X7_goesOn l g mm v0 v1 v2 _ hw.2) (cwV 2 hts gX7_works_X7_goesOn rfl rfl rfl (by decide +kernel) ⟨by decide, by decide⟩) (PP.preV (q := (RX7, TX7, 36)) hK hW hw.1 (by decide) rfl) rfl rfl hl.1 rfl (lv_room (Nat.le_of_ble_eq_true rfl)) dX7_works_84 ⟨by decide, by decide⟩) hW (fun _ m3 H locs hw hW => ?_)
            refine W.eq (g2 := F0 m 87 ls []) rfl ?_
            refine lv_aload_n hx hb dX7_works_87 rfl (lv_at hl 0 rfl) ?_
            refine R_getP (C := RX7) (T := TX7) (N := 36) hx hb hts i8 hown hK hW 33 hw.1 (by decide) rfl (by decide) (hts (.fieldLink RX7 74 "BoatLiftModel" "next" "[I") (by decide +kernel)) (fun _ h => h) (fun _ _ _ => rfl) hw.2.1 dX7_works_88 ?_
            have hw := hw.2.2
            refine lv_iload_n hx hb dX7_works_91 rfl (lv_at hl 2 rfl) ?_
            refine R_iald hx hb hK hW hw.1 hw.2.1 dX7_works_92 ?_
            have hw := hw.2.2
            refine lv_istore_n (lv' := [(2, .int (mI m3 (mP m3 v0 33) v2.toNatClampNeg)), (0, .ref (ad g v0)), (1, .int v1)]) hx hb dX7_works_93 rfl hl (by decide) rfl (fun ls hl => ?_)
            refine lv_goto (tgt := 76) hx hb dX7_works_94 (by decide) ?_
            exact ih76 (mI m3 (mP m3 v0 33) v2.toNatClampNeg) m3 hw _ _ _ hW (lv_sub hl [1, 2, 0] rfl)
      intro v1 mm hw H locs ls hW hl
      have hw : wp_X7_works_63 K63 v0 v1 mm Φ := by rw [eK63]; exact hw
      unfold wp_X7_works_63 at hw
      refine lv_iload_n hx hb dX7_works_63 rfl (lv_at hl 1 rfl) ?_
      refine lv_ldc hx hb hown (hts (.constant RX7 77 (40000)) (by decide +kernel)) dX7_works_64 ?_
      refine lv_icmp_ge (tgt := 103) hx hb dX7_works_66 (by decide) (fun c4 => ?_) (fun c4 => ?_)
      · have hw := hw.1 c4
        exact R_vret hx hb hr hlk hW hw dX7_works_103
      · have hw := hw.2 c4
        refine lv_aload_n hx hb dX7_works_69 rfl (lv_at hl 0 rfl) ?_
        refine R_getP (C := RX7) (T := TX7) (N := 36) hx hb hts i8 hown hK hW 34 hw.1 (by decide) rfl (by decide) (hts (.fieldLink RX7 78 "BoatLiftModel" "head" "[I") (by decide +kernel)) (fun _ h => h) (fun _ _ _ => rfl) hw.2.1 dX7_works_70 ?_
        have hw := hw.2.2
        refine lv_iload_n hx hb dX7_works_73 rfl (lv_at hl 1 rfl) ?_
        refine R_iald hx hb hK hW hw.1 hw.2.1 dX7_works_74 ?_
        have hw := hw.2.2
        refine lv_istore_n (lv' := [(2, .int (mI mm (mP mm v0 34) v1.toNatClampNeg)), (0, .ref (ad g v0)), (1, .int v1)]) hx hb dX7_works_75 rfl hl (by decide) rfl (fun ls hl => ?_)
        obtain ⟨n, hw⟩ := hw
        exact L76 v1 n (mI mm (mP mm v0 34) v1.toNatClampNeg) mm hw _ _ _ hW (lv_sub hl [1, 2, 0] rfl)
  have L27 : ∀ (n : Nat) (v1 : Int32) (mm : Mm), LOp (fun K x => wp_X7_works_27  (fun z0 z1 => K (z0, z1)) v0 x.1 x.2 Φ) n (v1, mm) → WW p l e rm_X7_works s m ([.ref (ad g v0)] : List Value).toArray below meth c (MQ below (QQ g vV Φ) ([.ref (ad g v0)] : List Value).toArray s 0 0 (Ag g)) g mm 3 0 0 27 [(0, .ref (ad g v0)), (1, .int v1)] [] := by
    intro  n
    induction n with
    | zero => intro v1 mm hw; exact hw.elim
    | succ n ih27 =>
      obtain ⟨K27, eK27⟩ : ∃ K : Int32 → Mm → Prop, K = fun v1 mm => LOp (fun K x => wp_X7_works_27  (fun z0 z1 => K (z0, z1)) v0 x.1 x.2 Φ) n (v1, mm) := ⟨_, rfl⟩
      have ih27 : ∀ (v1 : Int32) (mm : Mm), K27 v1 mm → WW p l e rm_X7_works s m ([.ref (ad g v0)] : List Value).toArray below meth c (MQ below (QQ g vV Φ) ([.ref (ad g v0)] : List Value).toArray s 0 0 (Ag g)) g mm 3 0 0 27 [(0, .ref (ad g v0)), (1, .int v1)] [] := by rw [eK27]; exact ih27
      intro v1 mm hw H locs ls hW hl
      have hw : wp_X7_works_27 K27 v0 v1 mm Φ := by rw [eK27]; exact hw
      unfold wp_X7_works_27 at hw
      refine lv_iload_n hx hb dX7_works_27 rfl (lv_at hl 1 rfl) ?_
      refine lv_ldc hx hb hown (hts (.constant RX7 77 (40000)) (by decide +kernel)) dX7_works_28 ?_
      refine lv_icmp_ge (tgt := 46) hx hb dX7_works_30 (by decide) (fun c5 => ?_) (fun c5 => ?_)
      · have hw := hw.1 c5
        refine lv_aload_n hx hb dX7_works_46 rfl (lv_at hl 0 rfl) ?_
        refine lv_aload_n hx hb dX7_works_47 rfl (lv_at hl 0 rfl) ?_
        refine R_getI (C := RX7) (T := TX7) (N := 36) hx hb hts i8 hown hK hW 4 hw.1 (by decide) rfl (by decide) (hts (.fieldLink RX7 164 "BoatLiftModel" "free" "I") (by decide +kernel)) (fun _ h => h) (fun _ _ _ => rfl) dX7_works_48 ?_
        have hw := hw.2
        refine lv_iconst (v := (0 : Int32)) hx hb dX7_works_51 (by decide) ?_
        refine lv_aload_n hx hb dX7_works_52 rfl (lv_at hl 0 rfl) ?_
        refine R_getI (C := RX7) (T := TX7) (N := 36) hx hb hts i8 hown hK hW 3 hw.1 (by decide) rfl (by decide) (hts (.fieldLink RX7 157 "BoatLiftModel" "side" "I") (by decide +kernel)) (fun _ h => h) (fun _ _ _ => rfl) dX7_works_53 ?_
        have hw := hw.2
        refine lv_iconst (v := (0 : Int32)) hx hb dX7_works_56 (by decide) ?_
        refine lv_iconst (v := (0 : Int32)) hx hb dX7_works_57 (by decide) ?_
        refine R_call (va_runV (As := [.int (mI mm v0 4), .int (0 : Int32), .int (mI mm v0 3), .int (0 : Int32), .int (0 : Int32)]) (rest := []) ⟨hx, hb, hml, hown, hts⟩ (c_X7_keeps l g mm v0 (mI mm v0 4) (0 : Int32) (mI mm v0 3) (0 : Int32) (0 : Int32) _ hw.2) (cwV 5 hts gX7_works_X7_keeps rfl rfl rfl (by decide +kernel) ⟨by decide, by decide⟩) (PP.preV (q := (RX7, TX7, 36)) hK hW hw.1 (by decide) rfl) rfl rfl hl.1 rfl (lv_room (Nat.le_of_ble_eq_true rfl)) dX7_works_58 ⟨by decide, by decide⟩) hW (fun _ m7 H locs hw hW => ?_)
        refine W.eq (g2 := F0 m 61 ls []) rfl ?_
        refine lv_iconst (v := (0 : Int32)) hx hb dX7_works_61 (by decide) ?_
        refine lv_istore_n (lv' := [(1, .int (0 : Int32)), (0, .ref (ad g v0))]) hx hb dX7_works_62 rfl hl (by decide) rfl (fun ls hl => ?_)
        obtain ⟨n, hw⟩ := hw
        exact L63  n (0 : Int32) m7 hw _ _ _ hW (lv_sub hl [1, 0] rfl)
      · have hw := hw.2 c5
        refine lv_aload_n hx hb dX7_works_33 rfl (lv_at hl 0 rfl) ?_
        refine R_getP (C := RX7) (T := TX7) (N := 36) hx hb hts i8 hown hK hW 34 hw.1 (by decide) rfl (by decide) (hts (.fieldLink RX7 78 "BoatLiftModel" "head" "[I") (by decide +kernel)) (fun _ h => h) (fun _ _ _ => rfl) hw.2.1 dX7_works_34 ?_
        have hw := hw.2.2
        refine lv_iload_n hx hb dX7_works_37 rfl (lv_at hl 1 rfl) ?_
        refine lv_iconst (v := (-1 : Int32)) hx hb dX7_works_38 (by decide) ?_
        refine R_iast hx hb hK hW hw.1 hw.2.1 dX7_works_39 (fun H locs hW => ?_)
        obtain ⟨m8, em8⟩ : ∃ z, z = sI mm (mP mm v0 34) v1.toNatClampNeg (-1 : Int32) := ⟨_, rfl⟩
        rw [← em8] at hW
        have hw := hw.2.2 m8 em8
        refine lv_iinc (v := (v1 + (1 : Int32))) (lv' := [(1, .int (v1 + (1 : Int32))), (0, .ref (ad g v0))]) hx hb dX7_works_40 hl (k := 1) rfl rfl (by decide) rfl (fun ls hl => ?_)
        refine lv_goto (tgt := 27) hx hb dX7_works_43 (by decide) ?_
        exact ih27 (v1 + (1 : Int32)) m8 hw _ _ _ hW (lv_sub hl [1, 0] rfl)
  unfold wp_X7_works at hw
  refine lv_aload_n hx hb dX7_works_0 rfl (lv_at hl 0 rfl) ?_
  refine lv_dup hx hb dX7_works_1 rfl ?_
  refine R_getI (C := RX7) (T := TX7) (N := 36) hx hb hts i8 hown hK hW 24 hw.1 (by decide) rfl (by decide) (hts (.fieldLink RX7 180 "BoatLiftModel" "turn" "I") (by decide +kernel)) (fun _ h => h) (fun _ _ _ => rfl) dX7_works_2 ?_
  have hw := hw.2
  refine lv_iconst (v := (1 : Int32)) hx hb dX7_works_5 (by decide) ?_
  refine lv_iadd hx hb dX7_works_6 ?_
  refine R_putI (C := RX7) (T := TX7) (N := 36) hx hb hts i8 tyX7 tyX7_ok nmX7 hown hK hW 24 hw.1 (by decide) rfl (by decide) (hts (.fieldLink RX7 180 "BoatLiftModel" "turn" "I") (by decide +kernel)) (fun _ h => h) (Or.inl rfl) rfl (fun _ _ _ => rfl) (fun _ _ _ => rfl) dX7_works_7 (fun H locs hW => ?_)
  obtain ⟨m9, em9⟩ : ∃ z, z = sI m0 v0 24 ((mI m0 v0 24) + (1 : Int32)) := ⟨_, rfl⟩
  rw [← em9] at hW
  have hw := hw.2 m9 em9
  refine lv_aload_n hx hb dX7_works_10 rfl (lv_at hl 0 rfl) ?_
  refine lv_iconst (v := (0 : Int32)) hx hb dX7_works_11 (by decide) ?_
  refine R_putI (C := RX7) (T := TX7) (N := 36) hx hb hts i8 tyX7 tyX7_ok nmX7 hown hK hW 25 hw.1 (by decide) rfl (by decide) (hts (.fieldLink RX7 183 "BoatLiftModel" "ways" "I") (by decide +kernel)) (fun _ h => h) (Or.inl rfl) rfl (fun _ _ _ => rfl) (fun _ _ _ => rfl) dX7_works_12 (fun H locs hW => ?_)
  obtain ⟨m10, em10⟩ : ∃ z, z = sI m9 v0 25 (0 : Int32) := ⟨_, rfl⟩
  rw [← em10] at hW
  have hw := hw.2 m10 em10
  refine lv_aload_n hx hb dX7_works_15 rfl (lv_at hl 0 rfl) ?_
  refine lv_iconst (v := (-1 : Int32)) hx hb dX7_works_16 (by decide) ?_
  refine R_putI (C := RX7) (T := TX7) (N := 36) hx hb hts i8 tyX7 tyX7_ok nmX7 hown hK hW 27 hw.1 (by decide) rfl (by decide) (hts (.fieldLink RX7 196 "BoatLiftModel" "leastWait" "I") (by decide +kernel)) (fun _ h => h) (Or.inl rfl) rfl (fun _ _ _ => rfl) (fun _ _ _ => rfl) dX7_works_17 (fun H locs hW => ?_)
  obtain ⟨m11, em11⟩ : ∃ z, z = sI m10 v0 27 (-1 : Int32) := ⟨_, rfl⟩
  rw [← em11] at hW
  have hw := hw.2 m11 em11
  refine lv_aload_n hx hb dX7_works_20 rfl (lv_at hl 0 rfl) ?_
  refine lv_iconst (v := (-1 : Int32)) hx hb dX7_works_21 (by decide) ?_
  refine R_putI (C := RX7) (T := TX7) (N := 36) hx hb hts i8 tyX7 tyX7_ok nmX7 hown hK hW 28 hw.1 (by decide) rfl (by decide) (hts (.fieldLink RX7 199 "BoatLiftModel" "firstEnd" "I") (by decide +kernel)) (fun _ h => h) (Or.inl rfl) rfl (fun _ _ _ => rfl) (fun _ _ _ => rfl) dX7_works_22 (fun H locs hW => ?_)
  obtain ⟨m12, em12⟩ : ∃ z, z = sI m11 v0 28 (-1 : Int32) := ⟨_, rfl⟩
  rw [← em12] at hW
  have hw := hw.2 m12 em12
  refine lv_iconst (v := (0 : Int32)) hx hb dX7_works_25 (by decide) ?_
  refine lv_istore_n (lv' := [(1, .int (0 : Int32)), (0, .ref (ad g v0))]) hx hb dX7_works_26 rfl hl (by decide) rfl (fun ls hl => ?_)
  obtain ⟨n, hw⟩ := hw
  exact L27  n (0 : Int32) m12 hw _ _ _ hW (lv_sub hl [1, 0] rfl)

def wp_X7_plan (m0 : Mm) (v0 : Nat) (Φ : Int32 → Mm → Prop) : Prop :=
  mT m0 v0 = 8 ∧ wp_X7_isTooMany m0 v0 (fun (r1 : Int32) (m2 : Mm) => ((r1 = 0 → mT m2 v0 = 8 ∧ wp_X7_works m2 v0 (fun (_ : Unit) (m5 : Mm) => mT m5 v0 = 8 ∧ Φ (mI m5 v0 27) m5)) ∧ (¬ r1 = 0 → Φ (-2 : Int32) m2)))
abbrev rm_X7_plan : Room := { frames := 9, cells := 0, slots := 0, locals := 211 }
set_option maxHeartbeats 4000000 in
set_option maxRecDepth 100000 in
theorem c_X7_plan (l : Launch) (g : Gv) (m0 : Mm) (v0 : Nat) (Φ : Int32 → Mm → Prop) (hw : wp_X7_plan m0 v0 Φ) : Met l yX7_plan wsX7_plan rm_X7_plan (PP g [.ref (ad g v0)] m0) (QQ g vI Φ) 0 0 (Ag g) := by
  refine CT_of (by decide +kernel) rfl (Nat.le_of_ble_eq_true rfl) ?_
  intro p e s m below meth c hx hb hr hml hown hts hlk hnm hK hW ls hl
  have hown : s.vm.findClass RX7 = some m.cls := hown
  have hl : lv_has ls 1 [(0, .ref (ad g v0))] := hl
  have i8 : ∀ w ∈ u_ws RX7 TX7 36, w ∈ wsX7_plan := by decide +kernel
  unfold wp_X7_plan at hw
  refine lv_aload_n hx hb dX7_plan_0 rfl (lv_at hl 0 rfl) ?_
  refine R_call (va_runV (As := []) (rest := []) ⟨hx, hb, hml, hown, hts⟩ (c_X7_isTooMany l g m0 v0 _ hw.2) (cwV 0 hts gX7_plan_X7_isTooMany rfl rfl rfl (by decide +kernel) ⟨by decide, by decide⟩) (PP.preV (q := (RX7, TX7, 36)) hK hW hw.1 (by decide) rfl) rfl rfl hl.1 rfl (lv_room (Nat.le_of_ble_eq_true rfl)) dX7_plan_1 ⟨by decide, by decide⟩) hW (fun r1 m2 H locs hw hW => ?_)
  refine W.eq (g2 := F0 m 4 ls [.int r1]) rfl ?_
  refine lv_if_eq (tgt := 10) hx hb dX7_plan_4 (by decide) (fun c3 => ?_) (fun c3 => ?_)
  · have hw := hw.1 c3
    refine lv_aload_n hx hb dX7_plan_10 rfl (lv_at hl 0 rfl) ?_
    refine R_call (va_runV (As := []) (rest := []) ⟨hx, hb, hml, hown, hts⟩ (c_X7_works l g m2 v0 _ hw.2) (cwV 0 hts gX7_plan_X7_works rfl rfl rfl (by decide +kernel) ⟨by decide, by decide⟩) (PP.preV (q := (RX7, TX7, 36)) hK hW hw.1 (by decide) rfl) rfl rfl hl.1 rfl (lv_room (Nat.le_of_ble_eq_true rfl)) dX7_plan_11 ⟨by decide, by decide⟩) hW (fun _ m5 H locs hw hW => ?_)
    refine W.eq (g2 := F0 m 14 ls []) rfl ?_
    refine lv_aload_n hx hb dX7_plan_14 rfl (lv_at hl 0 rfl) ?_
    refine R_getI (C := RX7) (T := TX7) (N := 36) hx hb hts i8 hown hK hW 27 hw.1 (by decide) rfl (by decide) (hts (.fieldLink RX7 196 "BoatLiftModel" "leastWait" "I") (by decide +kernel)) (fun _ h => h) (fun _ _ _ => rfl) dX7_plan_15 ?_
    have hw := hw.2
    exact R_iret hx hb hr hlk hW hw dX7_plan_18
  · have hw := hw.2 c3
    refine lv_bipush (v := (-2 : Int32)) hx hb dX7_plan_7 (by decide) ?_
    exact R_iret hx hb hr hlk hW hw dX7_plan_9

def wp_X7_ends (m0 : Mm) (v0 : Nat) (Φ : Int32 → Mm → Prop) : Prop :=
  mT m0 v0 = 8 ∧ wp_X7_isTooMany m0 v0 (fun (r1 : Int32) (m2 : Mm) => ((r1 = 0 → mT m2 v0 = 8 ∧ ((¬ (mI m2 v0 26) = 0 → mT m2 v0 = 8 ∧ wp_X7_works m2 v0 (fun (_ : Unit) (m6 : Mm) => mT m6 v0 = 8 ∧ Φ (mI m6 v0 28) m6)) ∧ ((mI m2 v0 26) = 0 → Φ (-1 : Int32) m2))) ∧ (¬ r1 = 0 → Φ (-2 : Int32) m2)))
abbrev rm_X7_ends : Room := { frames := 9, cells := 0, slots := 0, locals := 211 }
set_option maxHeartbeats 4000000 in
set_option maxRecDepth 100000 in
theorem c_X7_ends (l : Launch) (g : Gv) (m0 : Mm) (v0 : Nat) (Φ : Int32 → Mm → Prop) (hw : wp_X7_ends m0 v0 Φ) : Met l yX7_ends wsX7_ends rm_X7_ends (PP g [.ref (ad g v0)] m0) (QQ g vI Φ) 0 0 (Ag g) := by
  refine CT_of (by decide +kernel) rfl (Nat.le_of_ble_eq_true rfl) ?_
  intro p e s m below meth c hx hb hr hml hown hts hlk hnm hK hW ls hl
  have hown : s.vm.findClass RX7 = some m.cls := hown
  have hl : lv_has ls 1 [(0, .ref (ad g v0))] := hl
  have i8 : ∀ w ∈ u_ws RX7 TX7 36, w ∈ wsX7_ends := by decide +kernel
  unfold wp_X7_ends at hw
  refine lv_aload_n hx hb dX7_ends_0 rfl (lv_at hl 0 rfl) ?_
  refine R_call (va_runV (As := []) (rest := []) ⟨hx, hb, hml, hown, hts⟩ (c_X7_isTooMany l g m0 v0 _ hw.2) (cwV 0 hts gX7_ends_X7_isTooMany rfl rfl rfl (by decide +kernel) ⟨by decide, by decide⟩) (PP.preV (q := (RX7, TX7, 36)) hK hW hw.1 (by decide) rfl) rfl rfl hl.1 rfl (lv_room (Nat.le_of_ble_eq_true rfl)) dX7_ends_1 ⟨by decide, by decide⟩) hW (fun r1 m2 H locs hw hW => ?_)
  refine W.eq (g2 := F0 m 4 ls [.int r1]) rfl ?_
  refine lv_if_eq (tgt := 10) hx hb dX7_ends_4 (by decide) (fun c3 => ?_) (fun c3 => ?_)
  · have hw := hw.1 c3
    refine lv_aload_n hx hb dX7_ends_10 rfl (lv_at hl 0 rfl) ?_
    refine R_getI (C := RX7) (T := TX7) (N := 36) hx hb hts i8 hown hK hW 26 hw.1 (by decide) rfl (by decide) (hts (.fieldLink RX7 176 "BoatLiftModel" "left" "I") (by decide +kernel)) (fun _ h => h) (fun _ _ _ => rfl) dX7_ends_11 ?_
    have hw := hw.2
    refine lv_if_ne (tgt := 19) hx hb dX7_ends_14 (by decide) (fun c4 => ?_) (fun c4 => ?_)
    · have hw := hw.1 c4
      refine lv_aload_n hx hb dX7_ends_19 rfl (lv_at hl 0 rfl) ?_
      refine R_call (va_runV (As := []) (rest := []) ⟨hx, hb, hml, hown, hts⟩ (c_X7_works l g m2 v0 _ hw.2) (cwV 0 hts gX7_ends_X7_works rfl rfl rfl (by decide +kernel) ⟨by decide, by decide⟩) (PP.preV (q := (RX7, TX7, 36)) hK hW hw.1 (by decide) rfl) rfl rfl hl.1 rfl (lv_room (Nat.le_of_ble_eq_true rfl)) dX7_ends_20 ⟨by decide, by decide⟩) hW (fun _ m6 H locs hw hW => ?_)
      refine W.eq (g2 := F0 m 23 ls []) rfl ?_
      refine lv_aload_n hx hb dX7_ends_23 rfl (lv_at hl 0 rfl) ?_
      refine R_getI (C := RX7) (T := TX7) (N := 36) hx hb hts i8 hown hK hW 28 hw.1 (by decide) rfl (by decide) (hts (.fieldLink RX7 199 "BoatLiftModel" "firstEnd" "I") (by decide +kernel)) (fun _ h => h) (fun _ _ _ => rfl) dX7_ends_24 ?_
      have hw := hw.2
      exact R_iret hx hb hr hlk hW hw dX7_ends_27
    · have hw := hw.2 c4
      refine lv_iconst (v := (-1 : Int32)) hx hb dX7_ends_17 (by decide) ?_
      exact R_iret hx hb hr hlk hW hw dX7_ends_18
  · have hw := hw.2 c3
    refine lv_bipush (v := (-2 : Int32)) hx hb dX7_ends_7 (by decide) ?_
    exact R_iret hx hb hr hlk hW hw dX7_ends_9
