def wp_X2_bestByRiding_189 (BF : Mm → Nat → Int32 → Int32 → Int32 → Int32 → Int32 → (Int64 → Mm → Prop) → Prop) (K70 : Int64 → Int32 → Int64 → Int32 → Int32 → Mm → Prop) (v0 : Nat) (v1 : Int32) (v2 : Int32) (v3 : Int32) (v5 : Int32) (v6 : Int32) (v7 : Int32) (v8 : Int64) (v10 : Int32) (v11 : Int64) (v13 : Int32) (v14 : Int32) (mm : Mm) (Φ : Int64 → Mm → Prop) : Prop :=
  K70 v8 v10 v11 v13 (v14 + (1 : Int32)) mm
def wp_X2_bestByRiding_70 (BF : Mm → Nat → Int32 → Int32 → Int32 → Int32 → Int32 → (Int64 → Mm → Prop) → Prop) (K70 : Int64 → Int32 → Int64 → Int32 → Int32 → Mm → Prop) (v0 : Nat) (v1 : Int32) (v2 : Int32) (v3 : Int32) (v5 : Int32) (v6 : Int32) (v7 : Int32) (v8 : Int64) (v10 : Int32) (v11 : Int64) (v13 : Int32) (v14 : Int32) (mm : Mm) (Φ : Int64 → Mm → Prop) : Prop :=
  mT mm v0 = 3 ∧ (((mI mm v0 5) ≤ v14 → Φ v8 mm) ∧ (¬ (mI mm v0 5) ≤ v14 → mT mm v0 = 3 ∧ (mP mm v0 1) ≠ 0 ∧ mT mm (mP mm v0 1) = 9 ∧ vp_in v14 (mN mm (mP mm v0 1)) ∧ ((¬ (mI mm (mP mm v0 1) v14.toNatClampNeg) = v2 → wp_X2_bestByRiding_189 BF K70 v0 v1 v2 v3 v5 v6 v7 v8 v10 v11 v13 v14 mm Φ) ∧ ((mI mm (mP mm v0 1) v14.toNatClampNeg) = v2 → mT mm v0 = 3 ∧ (mP mm v0 2) ≠ 0 ∧ mT mm (mP mm v0 2) = 9 ∧ vp_in v14 (mN mm (mP mm v0 2)) ∧ ((v6 < (mI mm (mP mm v0 2) v14.toNatClampNeg) → wp_X2_bestByRiding_189 BF K70 v0 v1 v2 v3 v5 v6 v7 v8 v10 v11 v13 v14 mm Φ) ∧ (¬ v6 < (mI mm (mP mm v0 2) v14.toNatClampNeg) → ((¬ ((v3 >>> (v14 &&& 31)) &&& (1 : Int32)) = 0 → wp_X2_bestByRiding_189 BF K70 v0 v1 v2 v3 v5 v6 v7 v8 v10 v11 v13 v14 mm Φ) ∧ (((v3 >>> (v14 &&& 31)) &&& (1 : Int32)) = 0 → mT mm v0 = 3 ∧ (mP mm v0 3) ≠ 0 ∧ mT mm (mP mm v0 3) = 9 ∧ vp_in v14 (mN mm (mP mm v0 3)) ∧ ∀ x5 : Int32, x5 = (v10 - (mI mm (mP mm v0 3) v14.toNatClampNeg)) → ((0 ≤ x5 → mT mm v0 = 3 ∧ (mP mm v0 2) ≠ 0 ∧ mT mm (mP mm v0 2) = 9 ∧ vp_in v14 (mN mm (mP mm v0 2)) ∧ ∀ x7 : Int64, x7 = (v11 + (v6 - (mI mm (mP mm v0 2) v14.toNatClampNeg)).toInt64) → mT mm v0 = 3 ∧ BF mm v0 (v1 + (1 : Int32)) v7 (v13 ||| ((1 : Int32) <<< (v14 &&& 31))) (0 : Int32) (v5 + (1 : Int32)) (fun (r8 : Int64) (m9 : Mm) => ∀ x10 : Int64, x10 = (if ((x7 <<< ((16 : Int32).toInt64 &&& 63)) + r8) < v8 then ((x7 <<< ((16 : Int32).toInt64 &&& 63)) + r8) else v8) → wp_X2_bestByRiding_189 BF K70 v0 v1 v2 v3 v5 v6 v7 x10 x5 x7 (v13 ||| ((1 : Int32) <<< (v14 &&& 31))) v14 m9 Φ)) ∧ (¬ 0 ≤ x5 → Φ v8 mm))))))))))
def wp_X2_bestByRiding_53 (BF : Mm → Nat → Int32 → Int32 → Int32 → Int32 → Int32 → (Int64 → Mm → Prop) → Prop) (v0 : Nat) (v1 : Int32) (v2 : Int32) (v3 : Int32) (v5 : Int32) (v6 : Int32) (v7 : Int32) (s0 : Int64) (mm : Mm) (Φ : Int64 → Mm → Prop) : Prop :=
  mT mm v0 = 3 ∧ ∃ n, LOp (fun K x => wp_X2_bestByRiding_70 BF (fun z0 z1 z2 z3 z4 z5 => K (z0, z1, z2, z3, z4, z5)) v0 v1 v2 v3 v5 v6 v7 x.1 x.2.1 x.2.2.1 x.2.2.2.1 x.2.2.2.2.1 x.2.2.2.2.2 Φ) n (s0, (mI mm v0 6), (0 : Int64), v3, (0 : Int32), mm)
def wp_X2_bestByRiding (BF : Mm → Nat → Int32 → Int32 → Int32 → Int32 → Int32 → (Int64 → Mm → Prop) → Prop) (m0 : Mm) (v0 : Nat) (v1 : Int32) (v2 : Int32) (v3 : Int32) (v4 : Int32) (v5 : Int32) (Φ : Int64 → Mm → Prop) : Prop :=
  ((¬ (v1 - v1 / (13 : Int32) * (13 : Int32)) = (12 : Int32) → mT m0 v0 = 3 ∧ (mP m0 v0 4) ≠ 0 ∧ mT m0 (mP m0 v0 4) = 9 ∧ vp_in v1 (mN m0 (mP m0 v0 4)) ∧ wp_X6_otherSide m0 v2 (fun (r12 : Int32) (m13 : Mm) => ((v4 = 0 → mT m13 v0 = 3 ∧ BF m13 v0 (v1 + (1 : Int32)) r12 v3 (1 : Int32) (v5 + (1 : Int32)) (fun (r15 : Int64) (m16 : Mm) => wp_X2_bestByRiding_53 BF v0 v1 v2 v3 v5 (mI m0 (mP m0 v0 4) v1.toNatClampNeg) r12 r15 m16 Φ)) ∧ (¬ v4 = 0 → wp_X2_bestByRiding_53 BF v0 v1 v2 v3 v5 (mI m0 (mP m0 v0 4) v1.toNatClampNeg) r12 (274877906944 : Int64) m13 Φ)))) ∧ ((v1 - v1 / (13 : Int32) * (13 : Int32)) = (12 : Int32) → Φ (274877906944 : Int64) m0))
abbrev rm_X2_bestFrom (d : Nat) : Room := { frames := 2 * d + 2, cells := 0, slots := 0, locals := 65 * d + 80 }
abbrev rm_X2_bestByRiding (d : Nat) : Room := { frames := 2 * d + 3, cells := 0, slots := 0, locals := 65 * d + 109 }
set_option maxHeartbeats 4000000 in
set_option maxRecDepth 100000 in
theorem c_X2_bestByRiding (l : Launch) (g : Gv) (d : Nat) (BF : Mm → Nat → Int32 → Int32 → Int32 → Int32 → Int32 → (Int64 → Mm → Prop) → Prop) (hBF : ∀ (m0 : Mm) (v0 : Nat) (v1 v2 v3 v4 v5 : Int32) (Φ : Int64 → Mm → Prop), BF m0 v0 v1 v2 v3 v4 v5 Φ → Met l yX2_bestFrom wsX2_bestFrom (rm_X2_bestFrom d) (PP g [.ref (ad g v0), .int v1, .int v2, .int v3, .int v4, .int v5] m0) (QQ g vL Φ) 0 0 (Ag g)) (m0 : Mm) (v0 : Nat) (v1 : Int32) (v2 : Int32) (v3 : Int32) (v4 : Int32) (v5 : Int32) (Φ : Int64 → Mm → Prop) (hw : wp_X2_bestByRiding BF m0 v0 v1 v2 v3 v4 v5 Φ) : Met l yX2_bestByRiding wsX2_bestByRiding (rm_X2_bestByRiding d) (PP g [.ref (ad g v0), .int v1, .int v2, .int v3, .int v4, .int v5] m0) (QQ g vL Φ) 0 0 (Ag g) := by
  refine CT_of (by decide +kernel) rfl (Nat.le_of_ble_eq_true rfl) ?_
  intro p e s m below meth c hx hb hr hml hown hts hlk hnm hK hW ls hl
  have hown : s.vm.findClass RX2 = some m.cls := hown
  have hl : lv_has ls 17 [(0, .ref (ad g v0)), (1, .int v1), (2, .int v2), (3, .int v3), (4, .int v4), (5, .int v5)] := hl
  have i3 : ∀ w ∈ u_ws RX2 TX2 9, w ∈ wsX2_bestByRiding := by decide +kernel
  have L70 : ∀ (v6 : Int32) (v7 : Int32) (n : Nat) (v8 : Int64) (v10 : Int32) (v11 : Int64) (v13 : Int32) (v14 : Int32) (mm : Mm), LOp (fun K x => wp_X2_bestByRiding_70 BF (fun z0 z1 z2 z3 z4 z5 => K (z0, z1, z2, z3, z4, z5)) v0 v1 v2 v3 v5 v6 v7 x.1 x.2.1 x.2.2.1 x.2.2.2.1 x.2.2.2.2.1 x.2.2.2.2.2 Φ) n (v8, v10, v11, v13, v14, mm) → WW p l e (rm_X2_bestByRiding d) s m ([.ref (ad g v0), .int v1, .int v2, .int v3, .int v4, .int v5] : List Value).toArray below meth c (MQ below (QQ g vL Φ) ([.ref (ad g v0), .int v1, .int v2, .int v3, .int v4, .int v5] : List Value).toArray s 0 0 (Ag g)) g mm 17 0 0 70 [(0, .ref (ad g v0)), (1, .int v1), (2, .int v2), (3, .int v3), (5, .int v5), (6, .int v6), (7, .int v7), (8, .long v8), (10, .int v10), (11, .long v11), (13, .int v13), (14, .int v14)] [] := by
    intro v6 v7 n
    induction n with
    | zero => intro v8 v10 v11 v13 v14 mm hw; exact hw.elim
    | succ n ih70 =>
      obtain ⟨K70, eK70⟩ : ∃ K : Int64 → Int32 → Int64 → Int32 → Int32 → Mm → Prop, K = fun v8 v10 v11 v13 v14 mm => LOp (fun K x => wp_X2_bestByRiding_70 BF (fun z0 z1 z2 z3 z4 z5 => K (z0, z1, z2, z3, z4, z5)) v0 v1 v2 v3 v5 v6 v7 x.1 x.2.1 x.2.2.1 x.2.2.2.1 x.2.2.2.2.1 x.2.2.2.2.2 Φ) n (v8, v10, v11, v13, v14, mm) := ⟨_, rfl⟩
      have ih70 : ∀ (v8 : Int64) (v10 : Int32) (v11 : Int64) (v13 : Int32) (v14 : Int32) (mm : Mm), K70 v8 v10 v11 v13 v14 mm → WW p l e (rm_X2_bestByRiding d) s m ([.ref (ad g v0), .int v1, .int v2, .int v3, .int v4, .int v5] : List Value).toArray below meth c (MQ below (QQ g vL Φ) ([.ref (ad g v0), .int v1, .int v2, .int v3, .int v4, .int v5] : List Value).toArray s 0 0 (Ag g)) g mm 17 0 0 70 [(0, .ref (ad g v0)), (1, .int v1), (2, .int v2), (3, .int v3), (5, .int v5), (6, .int v6), (7, .int v7), (8, .long v8), (10, .int v10), (11, .long v11), (13, .int v13), (14, .int v14)] [] := by rw [eK70]; exact ih70
      have B189 : ∀ (v8 : Int64) (v10 : Int32) (v11 : Int64) (v13 : Int32) (v14 : Int32) (mm : Mm), wp_X2_bestByRiding_189 BF K70 v0 v1 v2 v3 v5 v6 v7 v8 v10 v11 v13 v14 mm Φ → WW p l e (rm_X2_bestByRiding d) s m ([.ref (ad g v0), .int v1, .int v2, .int v3, .int v4, .int v5] : List Value).toArray below meth c (MQ below (QQ g vL Φ) ([.ref (ad g v0), .int v1, .int v2, .int v3, .int v4, .int v5] : List Value).toArray s 0 0 (Ag g)) g mm 17 0 0 189 [(0, .ref (ad g v0)), (1, .int v1), (2, .int v2), (3, .int v3), (5, .int v5), (6, .int v6), (7, .int v7), (8, .long v8), (10, .int v10), (11, .long v11), (13, .int v13), (14, .int v14)] [] := by
        intro v8 v10 v11 v13 v14 mm hw H locs ls hW hl
        unfold wp_X2_bestByRiding_189 at hw
        refine lv_iinc (v := (v14 + (1 : Int32))) (lv' := [(14, .int (v14 + (1 : Int32))), (0, .ref (ad g v0)), (1, .int v1), (2, .int v2), (3, .int v3), (5, .int v5), (6, .int v6), (7, .int v7), (8, .long v8), (10, .int v10), (11, .long v11), (13, .int v13)]) hx hb dX2_bestByRiding_189 hl (k := 11) rfl rfl (by decide) rfl (fun ls hl => ?_)
        refine lv_goto (tgt := 70) hx hb dX2_bestByRiding_192 (by decide) ?_
        exact ih70 v8 v10 v11 v13 (v14 + (1 : Int32)) mm hw _ _ _ hW (lv_sub hl [1, 2, 3, 4, 5, 6, 7, 8, 9, 10, 11, 0] rfl)
      intro v8 v10 v11 v13 v14 mm hw H locs ls hW hl
      have hw : wp_X2_bestByRiding_70 BF K70 v0 v1 v2 v3 v5 v6 v7 v8 v10 v11 v13 v14 mm Φ := by rw [eK70]; exact hw
      unfold wp_X2_bestByRiding_70 at hw
      refine lv_iload hx hb dX2_bestByRiding_70 (lv_at hl 11 rfl) ?_
      refine lv_aload_n hx hb dX2_bestByRiding_72 rfl (lv_at hl 0 rfl) ?_
      refine R_getI (C := RX2) (T := TX2) (N := 9) hx hb hts i3 hown hK hW 5 hw.1 (by decide) rfl (by decide) (hts (.fieldLink RX2 30 "BoatLift$Planner" "boats" "I") (by decide +kernel)) (fun _ h => h) (fun _ _ _ => rfl) dX2_bestByRiding_73 ?_
      have hw := hw.2
      refine lv_icmp_ge (tgt := 195) hx hb dX2_bestByRiding_76 (by decide) (fun c1 => ?_) (fun c1 => ?_)
      · have hw := hw.1 c1
        refine lv_lload hx hb dX2_bestByRiding_195 (lv_at hl 7 rfl) ?_
        exact R_lret hx hb hr hlk hW hw dX2_bestByRiding_197
      · have hw := hw.2 c1
        refine lv_aload_n hx hb dX2_bestByRiding_79 rfl (lv_at hl 0 rfl) ?_
        refine R_getP (C := RX2) (T := TX2) (N := 9) hx hb hts i3 hown hK hW 1 hw.1 (by decide) rfl (by decide) (hts (.fieldLink RX2 11 "BoatLift$Planner" "sides" "[I") (by decide +kernel)) (fun _ h => h) (fun _ _ _ => rfl) hw.2.1 dX2_bestByRiding_80 ?_
        have hw := hw.2.2
        refine lv_iload hx hb dX2_bestByRiding_83 (lv_at hl 11 rfl) ?_
        refine R_iald hx hb hK hW hw.1 hw.2.1 dX2_bestByRiding_85 ?_
        have hw := hw.2.2
        refine lv_iload_n hx hb dX2_bestByRiding_86 rfl (lv_at hl 2 rfl) ?_
        refine lv_icmp_ne (tgt := 189) hx hb dX2_bestByRiding_87 (by decide) (fun c2 => ?_) (fun c2 => ?_)
        · have hw := hw.1 c2
          exact B189 v8 v10 v11 v13 v14 mm hw _ _ _ hW (lv_sub hl [0, 1, 2, 3, 4, 5, 6, 7, 8, 9, 10, 11] rfl)
        · have hw := hw.2 c2
          refine lv_aload_n hx hb dX2_bestByRiding_90 rfl (lv_at hl 0 rfl) ?_
          refine R_getP (C := RX2) (T := TX2) (N := 9) hx hb hts i3 hown hK hW 2 hw.1 (by decide) rfl (by decide) (hts (.fieldLink RX2 15 "BoatLift$Planner" "comes" "[I") (by decide +kernel)) (fun _ h => h) (fun _ _ _ => rfl) hw.2.1 dX2_bestByRiding_91 ?_
          have hw := hw.2.2
          refine lv_iload hx hb dX2_bestByRiding_94 (lv_at hl 11 rfl) ?_
          refine R_iald hx hb hK hW hw.1 hw.2.1 dX2_bestByRiding_96 ?_
          have hw := hw.2.2
          refine lv_iload hx hb dX2_bestByRiding_97 (lv_at hl 5 rfl) ?_
          refine lv_icmp_gt (tgt := 189) hx hb dX2_bestByRiding_99 (by decide) (fun c3 => ?_) (fun c3 => ?_)
          · have hw := hw.1 c3
            exact B189 v8 v10 v11 v13 v14 mm hw _ _ _ hW (lv_sub hl [0, 1, 2, 3, 4, 5, 6, 7, 8, 9, 10, 11] rfl)
          · have hw := hw.2 c3
            refine lv_iload_n hx hb dX2_bestByRiding_102 rfl (lv_at hl 3 rfl) ?_
            refine lv_iload hx hb dX2_bestByRiding_103 (lv_at hl 11 rfl) ?_
            refine lv_ishr hx hb dX2_bestByRiding_105 ?_
            refine lv_iconst (v := (1 : Int32)) hx hb dX2_bestByRiding_106 (by decide) ?_
            refine lv_iand hx hb dX2_bestByRiding_107 ?_
            refine lv_if_ne (tgt := 189) hx hb dX2_bestByRiding_108 (by decide) (fun c4 => ?_) (fun c4 => ?_)
            · have hw := hw.1 c4
              exact B189 v8 v10 v11 v13 v14 mm hw _ _ _ hW (lv_sub hl [0, 1, 2, 3, 4, 5, 6, 7, 8, 9, 10, 11] rfl)
            · have hw := hw.2 c4
              refine lv_iload hx hb dX2_bestByRiding_111 (lv_at hl 8 rfl) ?_
              refine lv_aload_n hx hb dX2_bestByRiding_113 rfl (lv_at hl 0 rfl) ?_
              refine R_getP (C := RX2) (T := TX2) (N := 9) hx hb hts i3 hown hK hW 3 hw.1 (by decide) rfl (by decide) (hts (.fieldLink RX2 18 "BoatLift$Planner" "lengths" "[I") (by decide +kernel)) (fun _ h => h) (fun _ _ _ => rfl) hw.2.1 dX2_bestByRiding_114 ?_
              have hw := hw.2.2
              refine lv_iload hx hb dX2_bestByRiding_117 (lv_at hl 11 rfl) ?_
              refine R_iald hx hb hK hW hw.1 hw.2.1 dX2_bestByRiding_119 ?_
              have hw := hw.2.2
              refine lv_isub hx hb dX2_bestByRiding_120 ?_
              refine lv_topi (fun x5 ex5 => ?_)
              have hw := hw x5 ex5
              refine lv_istore (lv' := [(10, .int x5), (0, .ref (ad g v0)), (1, .int v1), (2, .int v2), (3, .int v3), (5, .int v5), (6, .int v6), (7, .int v7), (8, .long v8), (11, .long v11), (13, .int v13), (14, .int v14)]) hx hb dX2_bestByRiding_121 hl (by decide) rfl (fun ls hl => ?_)
              refine lv_iload hx hb dX2_bestByRiding_123 (lv_at hl 0 rfl) ?_
              refine lv_if_ge (tgt := 131) hx hb dX2_bestByRiding_125 (by decide) (fun c6 => ?_) (fun c6 => ?_)
              · have hw := hw.1 c6
                refine lv_lload hx hb dX2_bestByRiding_131 (lv_at hl 9 rfl) ?_
                refine lv_iload hx hb dX2_bestByRiding_133 (lv_at hl 6 rfl) ?_
                refine lv_aload_n hx hb dX2_bestByRiding_135 rfl (lv_at hl 1 rfl) ?_
                refine R_getP (C := RX2) (T := TX2) (N := 9) hx hb hts i3 hown hK hW 2 hw.1 (by decide) rfl (by decide) (hts (.fieldLink RX2 15 "BoatLift$Planner" "comes" "[I") (by decide +kernel)) (fun _ h => h) (fun _ _ _ => rfl) hw.2.1 dX2_bestByRiding_136 ?_
                have hw := hw.2.2
                refine lv_iload hx hb dX2_bestByRiding_139 (lv_at hl 11 rfl) ?_
                refine R_iald hx hb hK hW hw.1 hw.2.1 dX2_bestByRiding_141 ?_
                have hw := hw.2.2
                refine lv_isub hx hb dX2_bestByRiding_142 ?_
                refine lv_i2l (v := (v6 - (mI mm (mP mm v0 2) v14.toNatClampNeg)).toInt64) hx hb dX2_bestByRiding_143 rfl ?_
                refine lv_ladd hx hb dX2_bestByRiding_144 ?_
                refine lv_topl (fun x7 ex7 => ?_)
                have hw := hw x7 ex7
                refine lv_lstore (lv' := [(11, .long x7), (10, .int x5), (0, .ref (ad g v0)), (1, .int v1), (2, .int v2), (3, .int v3), (5, .int v5), (6, .int v6), (7, .int v7), (8, .long v8), (13, .int v13), (14, .int v14)]) hx hb dX2_bestByRiding_145 hl (by decide) rfl (fun ls hl => ?_)
                refine lv_iload hx hb dX2_bestByRiding_147 (lv_at hl 10 rfl) ?_
                refine lv_iconst (v := (1 : Int32)) hx hb dX2_bestByRiding_149 (by decide) ?_
                refine lv_iload hx hb dX2_bestByRiding_150 (lv_at hl 11 rfl) ?_
                refine lv_ishl hx hb dX2_bestByRiding_152 ?_
                refine lv_ior hx hb dX2_bestByRiding_153 ?_
                refine lv_istore (lv' := [(13, .int (v13 ||| ((1 : Int32) <<< (v14 &&& 31)))), (11, .long x7), (10, .int x5), (0, .ref (ad g v0)), (1, .int v1), (2, .int v2), (3, .int v3), (5, .int v5), (6, .int v6), (7, .int v7), (8, .long v8), (14, .int v14)]) hx hb dX2_bestByRiding_154 hl (by decide) rfl (fun ls hl => ?_)
                refine lv_aload_n hx hb dX2_bestByRiding_156 rfl (lv_at hl 3 rfl) ?_
                refine lv_iload_n hx hb dX2_bestByRiding_157 rfl (lv_at hl 4 rfl) ?_
                refine lv_iconst (v := (1 : Int32)) hx hb dX2_bestByRiding_158 (by decide) ?_
                refine lv_iadd hx hb dX2_bestByRiding_159 ?_
                refine lv_iload hx hb dX2_bestByRiding_160 (lv_at hl 9 rfl) ?_
                refine lv_iload hx hb dX2_bestByRiding_162 (lv_at hl 0 rfl) ?_
                refine lv_iconst (v := (0 : Int32)) hx hb dX2_bestByRiding_164 (by decide) ?_
                refine lv_iload hx hb dX2_bestByRiding_165 (lv_at hl 7 rfl) ?_
                refine lv_iconst (v := (1 : Int32)) hx hb dX2_bestByRiding_167 (by decide) ?_
                refine lv_iadd hx hb dX2_bestByRiding_168 ?_
                refine R_call (va_runV (As := [.int (v1 + (1 : Int32)), .int v7, .int (v13 ||| ((1 : Int32) <<< (v14 &&& 31))), .int (0 : Int32), .int (v5 + (1 : Int32))]) (rest := []) ⟨hx, hb, hml, hown, hts⟩ (hBF mm v0 (v1 + (1 : Int32)) v7 (v13 ||| ((1 : Int32) <<< (v14 &&& 31))) (0 : Int32) (v5 + (1 : Int32)) _ hw.2) (cwV 5 hts gX2_bestByRiding_X2_bestFrom rfl rfl rfl (by decide +kernel) ⟨by dsimp only [rm_X2_bestFrom, rm_X2_bestByRiding]; omega, by dsimp only [rm_X2_bestFrom, rm_X2_bestByRiding]; omega⟩) (PP.preV (q := (RX2, TX2, 9)) hK hW hw.1 (by decide) rfl) rfl rfl hl.1 rfl (lv_room (Nat.le_of_ble_eq_true rfl)) dX2_bestByRiding_169 ⟨Nat.le_of_ble_eq_true rfl, Nat.le_of_ble_eq_true rfl⟩) hW (fun r8 m9 H locs hw hW => ?_)
                refine W.eq (g2 := F0 m 172 ls [.long r8]) rfl ?_
                refine lv_lstore (lv' := [(15, .long r8), (13, .int (v13 ||| ((1 : Int32) <<< (v14 &&& 31)))), (11, .long x7), (10, .int x5), (0, .ref (ad g v0)), (1, .int v1), (2, .int v2), (3, .int v3), (5, .int v5), (6, .int v6), (7, .int v7), (8, .long v8), (14, .int v14)]) hx hb dX2_bestByRiding_172 hl (by decide) rfl (fun ls hl => ?_)
                refine lv_lload hx hb dX2_bestByRiding_174 (lv_at hl 11 rfl) ?_
                refine lv_lload hx hb dX2_bestByRiding_176 (lv_at hl 2 rfl) ?_
                refine lv_bipush (v := (16 : Int32)) hx hb dX2_bestByRiding_178 (by decide) ?_
                refine lv_lshl (v := (x7 <<< ((16 : Int32).toInt64 &&& 63))) hx hb dX2_bestByRiding_180 rfl ?_
                refine lv_lload hx hb dX2_bestByRiding_181 (lv_at hl 0 rfl) ?_
                refine lv_ladd hx hb dX2_bestByRiding_183 ?_
                refine va_mmin_long hx hb (by rw [hml]; exact hl.1.symm) hown (hts (.methodLink RX2 80 Lib.MathLoose.min_long.x) (by decide +kernel)) (hts (.static Lib.MathLoose.min_long.x) (by decide +kernel)) (hts (.initialized "java/lang/Math") (by decide +kernel)) (hts (.code Lib.MathLoose.min_long.x Lib.MathLoose.min_long.code 4 (some .long)) (by decide +kernel)) (by dsimp only [rm_X2_bestByRiding]; omega) (Nat.le_trans (m := 15) (Nat.le_of_ble_eq_true rfl) (by dsimp only [rm_X2_bestByRiding]; omega)) (Nat.le_of_ble_eq_true rfl) (Nat.le_of_ble_eq_true rfl) dX2_bestByRiding_184 ?_
                refine lv_topl (fun x10 ex10 => ?_)
                have hw := hw x10 ex10
                refine lv_lstore (lv' := [(8, .long x10), (15, .long r8), (13, .int (v13 ||| ((1 : Int32) <<< (v14 &&& 31)))), (11, .long x7), (10, .int x5), (0, .ref (ad g v0)), (1, .int v1), (2, .int v2), (3, .int v3), (5, .int v5), (6, .int v6), (7, .int v7), (14, .int v14)]) hx hb dX2_bestByRiding_187 hl (by decide) rfl (fun ls hl => ?_)
                exact B189 x10 x5 x7 (v13 ||| ((1 : Int32) <<< (v14 &&& 31))) v14 m9 hw _ _ _ hW (lv_sub hl [5, 6, 7, 8, 9, 10, 11, 0, 4, 3, 2, 12] rfl)
              · have hw := hw.2 c6
                refine lv_goto (tgt := 195) hx hb dX2_bestByRiding_128 (by decide) ?_
                refine lv_lload hx hb dX2_bestByRiding_195 (lv_at hl 8 rfl) ?_
                exact R_lret hx hb hr hlk hW hw dX2_bestByRiding_197
  have B53 : ∀ (v6 : Int32) (v7 : Int32) (s0 : Int64) (mm : Mm), wp_X2_bestByRiding_53 BF v0 v1 v2 v3 v5 v6 v7 s0 mm Φ → WW p l e (rm_X2_bestByRiding d) s m ([.ref (ad g v0), .int v1, .int v2, .int v3, .int v4, .int v5] : List Value).toArray below meth c (MQ below (QQ g vL Φ) ([.ref (ad g v0), .int v1, .int v2, .int v3, .int v4, .int v5] : List Value).toArray s 0 0 (Ag g)) g mm 17 0 0 53 [(0, .ref (ad g v0)), (1, .int v1), (2, .int v2), (3, .int v3), (5, .int v5), (6, .int v6), (7, .int v7)] [.long s0] := by
    intro v6 v7 s0 mm hw H locs ls hW hl
    unfold wp_X2_bestByRiding_53 at hw
    refine lv_lstore (lv' := [(8, .long s0), (0, .ref (ad g v0)), (1, .int v1), (2, .int v2), (3, .int v3), (5, .int v5), (6, .int v6), (7, .int v7)]) hx hb dX2_bestByRiding_53 hl (by decide) rfl (fun ls hl => ?_)
    refine lv_aload_n hx hb dX2_bestByRiding_55 rfl (lv_at hl 1 rfl) ?_
    refine R_getI (C := RX2) (T := TX2) (N := 9) hx hb hts i3 hown hK hW 6 hw.1 (by decide) rfl (by decide) (hts (.fieldLink RX2 53 "BoatLift$Planner" "troughLength" "I") (by decide +kernel)) (fun _ h => h) (fun _ _ _ => rfl) dX2_bestByRiding_56 ?_
    have hw := hw.2
    refine lv_istore (lv' := [(10, .int (mI mm v0 6)), (8, .long s0), (0, .ref (ad g v0)), (1, .int v1), (2, .int v2), (3, .int v3), (5, .int v5), (6, .int v6), (7, .int v7)]) hx hb dX2_bestByRiding_59 hl (by decide) rfl (fun ls hl => ?_)
    refine lv_lconst (v := (0 : Int64)) hx hb dX2_bestByRiding_61 (by decide) ?_
    refine lv_lstore (lv' := [(11, .long (0 : Int64)), (10, .int (mI mm v0 6)), (8, .long s0), (0, .ref (ad g v0)), (1, .int v1), (2, .int v2), (3, .int v3), (5, .int v5), (6, .int v6), (7, .int v7)]) hx hb dX2_bestByRiding_62 hl (by decide) rfl (fun ls hl => ?_)
    refine lv_iload_n hx hb dX2_bestByRiding_64 rfl (lv_at hl 6 rfl) ?_
    refine lv_istore (lv' := [(13, .int v3), (11, .long (0 : Int64)), (10, .int (mI mm v0 6)), (8, .long s0), (0, .ref (ad g v0)), (1, .int v1), (2, .int v2), (3, .int v3), (5, .int v5), (6, .int v6), (7, .int v7)]) hx hb dX2_bestByRiding_65 hl (by decide) rfl (fun ls hl => ?_)
    refine lv_iconst (v := (0 : Int32)) hx hb dX2_bestByRiding_67 (by decide) ?_
    refine lv_istore (lv' := [(14, .int (0 : Int32)), (13, .int v3), (11, .long (0 : Int64)), (10, .int (mI mm v0 6)), (8, .long s0), (0, .ref (ad g v0)), (1, .int v1), (2, .int v2), (3, .int v3), (5, .int v5), (6, .int v6), (7, .int v7)]) hx hb dX2_bestByRiding_68 hl (by decide) rfl (fun ls hl => ?_)
    obtain ⟨n, hw⟩ := hw
    exact L70 v6 v7 n s0 (mI mm v0 6) (0 : Int64) v3 (0 : Int32) mm hw _ _ _ hW (lv_sub hl [5, 6, 7, 8, 9, 10, 11, 4, 3, 2, 1, 0] rfl)
  unfold wp_X2_bestByRiding at hw
  refine lv_iload_n hx hb dX2_bestByRiding_0 rfl (lv_at hl 1 rfl) ?_
  refine lv_bipush (v := (13 : Int32)) hx hb dX2_bestByRiding_1 (by decide) ?_
  refine lv_irem hx hb dX2_bestByRiding_3 (by decide) ?_
  refine lv_bipush (v := (12 : Int32)) hx hb dX2_bestByRiding_4 (by decide) ?_
  refine lv_icmp_ne (tgt := 13) hx hb dX2_bestByRiding_6 (by decide) (fun c11 => ?_) (fun c11 => ?_)
  · have hw := hw.1 c11
    refine lv_aload_n hx hb dX2_bestByRiding_13 rfl (lv_at hl 0 rfl) ?_
    refine R_getP (C := RX2) (T := TX2) (N := 9) hx hb hts i3 hown hK hW 4 hw.1 (by decide) rfl (by decide) (hts (.fieldLink RX2 21 "BoatLift$Planner" "minutes" "[I") (by decide +kernel)) (fun _ h => h) (fun _ _ _ => rfl) hw.2.1 dX2_bestByRiding_14 ?_
    have hw := hw.2.2
    refine lv_iload_n hx hb dX2_bestByRiding_17 rfl (lv_at hl 1 rfl) ?_
    refine R_iald hx hb hK hW hw.1 hw.2.1 dX2_bestByRiding_18 ?_
    have hw := hw.2.2
    refine lv_istore (lv' := [(6, .int (mI m0 (mP m0 v0 4) v1.toNatClampNeg)), (0, .ref (ad g v0)), (1, .int v1), (2, .int v2), (3, .int v3), (4, .int v4), (5, .int v5)]) hx hb dX2_bestByRiding_19 hl (by decide) rfl (fun ls hl => ?_)
    refine lv_iload_n hx hb dX2_bestByRiding_21 rfl (lv_at hl 3 rfl) ?_
    refine R_call (va_runSN (As := [.int v2]) (rest := []) ⟨hx, hb, hml, hown, hts⟩ (c_X6_otherSide l g m0 v2 _ hw) ⟨va_cnB 1 hts gX2_bestByRiding_X6_otherSide_n86 rfl rfl rfl hK.2.2.2.2.2.2.2.2.1 (hts (.initialized RX6) (by decide +kernel)) (by decide +kernel) ⟨by dsimp only [rm_X6_otherSide, rm_X2_bestByRiding]; omega, by dsimp only [rm_X6_otherSide, rm_X2_bestByRiding]; omega⟩, hts (.static yX6_otherSide) (by decide +kernel), trivial⟩ (PP.pre hK hW) rfl rfl hl.1 rfl (lv_room (Nat.le_of_ble_eq_true rfl)) dX2_bestByRiding_22 ⟨Nat.le_of_ble_eq_true rfl, Nat.le_of_ble_eq_true rfl⟩) hW (fun r12 m13 H locs hw hW => ?_)
    refine W.eq (g2 := F0 m 25 ls [.int r12]) rfl ?_
    refine lv_istore (lv' := [(7, .int r12), (6, .int (mI m0 (mP m0 v0 4) v1.toNatClampNeg)), (0, .ref (ad g v0)), (1, .int v1), (2, .int v2), (3, .int v3), (4, .int v4), (5, .int v5)]) hx hb dX2_bestByRiding_25 hl (by decide) rfl (fun ls hl => ?_)
    refine lv_iload hx hb dX2_bestByRiding_27 (lv_at hl 6 rfl) ?_
    refine lv_if_eq (tgt := 38) hx hb dX2_bestByRiding_29 (by decide) (fun c14 => ?_) (fun c14 => ?_)
    · have hw := hw.1 c14
      refine lv_aload_n hx hb dX2_bestByRiding_38 rfl (lv_at hl 2 rfl) ?_
      refine lv_iload_n hx hb dX2_bestByRiding_39 rfl (lv_at hl 3 rfl) ?_
      refine lv_iconst (v := (1 : Int32)) hx hb dX2_bestByRiding_40 (by decide) ?_
      refine lv_iadd hx hb dX2_bestByRiding_41 ?_
      refine lv_iload hx hb dX2_bestByRiding_42 (lv_at hl 0 rfl) ?_
      refine lv_iload_n hx hb dX2_bestByRiding_44 rfl (lv_at hl 5 rfl) ?_
      refine lv_iconst (v := (1 : Int32)) hx hb dX2_bestByRiding_45 (by decide) ?_
      refine lv_iload hx hb dX2_bestByRiding_46 (lv_at hl 7 rfl) ?_
      refine lv_iconst (v := (1 : Int32)) hx hb dX2_bestByRiding_48 (by decide) ?_
      refine lv_iadd hx hb dX2_bestByRiding_49 ?_
      refine R_call (va_runV (As := [.int (v1 + (1 : Int32)), .int r12, .int v3, .int (1 : Int32), .int (v5 + (1 : Int32))]) (rest := []) ⟨hx, hb, hml, hown, hts⟩ (hBF m13 v0 (v1 + (1 : Int32)) r12 v3 (1 : Int32) (v5 + (1 : Int32)) _ hw.2) (cwV 5 hts gX2_bestByRiding_X2_bestFrom rfl rfl rfl (by decide +kernel) ⟨by dsimp only [rm_X2_bestFrom, rm_X2_bestByRiding]; omega, by dsimp only [rm_X2_bestFrom, rm_X2_bestByRiding]; omega⟩) (PP.preV (q := (RX2, TX2, 9)) hK hW hw.1 (by decide) rfl) rfl rfl hl.1 rfl (lv_room (Nat.le_of_ble_eq_true rfl)) dX2_bestByRiding_50 ⟨Nat.le_of_ble_eq_true rfl, Nat.le_of_ble_eq_true rfl⟩) hW (fun r15 m16 H locs hw hW => ?_)
      refine W.eq (g2 := F0 m 53 ls [.long r15]) rfl ?_
      exact B53 (mI m0 (mP m0 v0 4) v1.toNatClampNeg) r12 r15 m16 hw _ _ _ hW (lv_sub hl [2, 3, 4, 5, 7, 1, 0] rfl)
    · have hw := hw.2 c14
      refine lv_ldc2 hx hb hown (hts (.constantLong RX2 70 (274877906944)) (by decide +kernel)) dX2_bestByRiding_32 ?_
      refine lv_goto (tgt := 53) hx hb dX2_bestByRiding_35 (by decide) ?_
      exact B53 (mI m0 (mP m0 v0 4) v1.toNatClampNeg) r12 (274877906944 : Int64) m13 hw _ _ _ hW (lv_sub hl [2, 3, 4, 5, 7, 1, 0] rfl)
  · have hw := hw.2 c11
    refine lv_ldc2 hx hb hown (hts (.constantLong RX2 70 (274877906944)) (by decide +kernel)) dX2_bestByRiding_9 ?_
    exact R_lret hx hb hr hlk hW hw dX2_bestByRiding_12

def wp_X2_bestFrom_174 (BF : Mm → Nat → Int32 → Int32 → Int32 → Int32 → Int32 → (Int64 → Mm → Prop) → Prop) (v0 : Nat) (v6 : Int32) (v7 : Int64) (mm : Mm) (Φ : Int64 → Mm → Prop) : Prop :=
  mT mm v0 = 3 ∧ (mP mm v0 7) ≠ 0 ∧ mT mm v0 = 3 ∧ mT mm (mP mm v0 7) = 10 ∧ vp_in v6 (mN mm (mP mm v0 7)) ∧ ∀ m1 : Mm, m1 = sL mm (mP mm v0 7) v6.toNatClampNeg (((mL mm v0 8) <<< ((40 : Int32).toInt64 &&& 63)) ||| v7) → Φ v7 m1
def wp_X2_bestFrom_63 (BF : Mm → Nat → Int32 → Int32 → Int32 → Int32 → Int32 → (Int64 → Mm → Prop) → Prop) (v0 : Nat) (v1 : Int32) (v2 : Int32) (v3 : Int32) (v4 : Int32) (v5 : Int32) (s0 : Int32) (s1 : Int32) (mm : Mm) (Φ : Int64 → Mm → Prop) : Prop :=
  mT mm v0 = 3 ∧ (((mP mm v0 7) = 0 → Φ (274877906944 : Int64) mm) ∧ (¬ (mP mm v0 7) = 0 → (((s0 + s1) < 0 → Φ (274877906944 : Int64) mm) ∧ (¬ (s0 + s1) < 0 → mT mm v0 = 3 ∧ (mP mm v0 7) ≠ 0 ∧ mT mm (mP mm v0 7) = 10 ∧ (((s0 + s1) < (nI (mN mm (mP mm v0 7))) → mT mm v0 = 3 ∧ (mP mm v0 7) ≠ 0 ∧ mT mm (mP mm v0 7) = 10 ∧ vp_in (s0 + s1) (mN mm (mP mm v0 7)) ∧ mT mm v0 = 3 ∧ ((¬ (lg_cmp (((mL mm (mP mm v0 7) (s0 + s1).toNatClampNeg).toUInt64 >>> ((40 : Int32).toInt64.toUInt64 &&& Int64.toUInt64 63)).toInt64) (mL mm v0 8)) = 0 → mT mm v0 = 3 ∧ wp_X2_bestByRiding BF mm v0 v1 v2 v3 v4 v5 (fun (r6 : Int64) (m7 : Mm) => mT m7 v0 = 3 ∧ (mP m7 v0 4) ≠ 0 ∧ mT m7 (mP m7 v0 4) = 9 ∧ vp_in v1 (mN m7 (mP m7 v0 4)) ∧ mT m7 v0 = 3 ∧ wp_X2_momentOfNextBoat m7 v0 (mI m7 (mP m7 v0 4) v1.toNatClampNeg) (fun (r8 : Int32) (m9 : Mm) => ((r8 = (-1 : Int32) → wp_X2_bestFrom_174 BF v0 (s0 + s1) r6 m9 Φ) ∧ (¬ r8 = (-1 : Int32) → mT m9 v0 = 3 ∧ BF m9 v0 r8 v2 v3 v4 (v5 + (1 : Int32)) (fun (r11 : Int64) (m12 : Mm) => wp_X2_bestFrom_174 BF v0 (s0 + s1) (if r11 < r6 then r11 else r6) m12 Φ)))))) ∧ ((lg_cmp (((mL mm (mP mm v0 7) (s0 + s1).toNatClampNeg).toUInt64 >>> ((40 : Int32).toInt64.toUInt64 &&& Int64.toUInt64 63)).toInt64) (mL mm v0 8)) = 0 → mT mm v0 = 3 ∧ (mP mm v0 7) ≠ 0 ∧ mT mm (mP mm v0 7) = 10 ∧ vp_in (s0 + s1) (mN mm (mP mm v0 7)) ∧ Φ ((mL mm (mP mm v0 7) (s0 + s1).toNatClampNeg) &&& (1099511627775 : Int64)) mm))) ∧ (¬ (s0 + s1) < (nI (mN mm (mP mm v0 7))) → Φ (274877906944 : Int64) mm))))))
def wp_X2_bestFrom (BF : Mm → Nat → Int32 → Int32 → Int32 → Int32 → Int32 → (Int64 → Mm → Prop) → Prop) (m0 : Mm) (v0 : Nat) (v1 : Int32) (v2 : Int32) (v3 : Int32) (v4 : Int32) (v5 : Int32) (Φ : Int64 → Mm → Prop) : Prop :=
  ((v1 < 0 → Φ (274877906944 : Int64) m0) ∧ (¬ v1 < 0 → (((91 : Int32) ≤ v1 → Φ (274877906944 : Int64) m0) ∧ (¬ (91 : Int32) ≤ v1 → ((v5 ≤ (18 : Int32) → mT m0 v0 = 3 ∧ ((¬ v3 = (((1 : Int32) <<< ((mI m0 v0 5) &&& 31)) - (1 : Int32)) → ((v4 = 0 → wp_X2_bestFrom_63 BF v0 v1 v2 v3 v4 v5 (((((v1 * (2 : Int32)) + v2) * (64 : Int32)) + v3) * (2 : Int32)) (0 : Int32) m0 Φ) ∧ (¬ v4 = 0 → wp_X2_bestFrom_63 BF v0 v1 v2 v3 v4 v5 (((((v1 * (2 : Int32)) + v2) * (64 : Int32)) + v3) * (2 : Int32)) (1 : Int32) m0 Φ))) ∧ (v3 = (((1 : Int32) <<< ((mI m0 v0 5) &&& 31)) - (1 : Int32)) → mT m0 v0 = 3 ∧ (mP m0 v0 4) ≠ 0 ∧ mT m0 (mP m0 v0 4) = 9 ∧ vp_in v1 (mN m0 (mP m0 v0 4)) ∧ Φ ((mI m0 (mP m0 v0 4) v1.toNatClampNeg).toInt64) m0))) ∧ (¬ v5 ≤ (18 : Int32) → Φ (274877906944 : Int64) m0))))))

set_option maxHeartbeats 4000000 in
set_option maxRecDepth 100000 in
theorem c_X2_bestFrom (l : Launch) (g : Gv) (d : Nat) (BF : Mm → Nat → Int32 → Int32 → Int32 → Int32 → Int32 → (Int64 → Mm → Prop) → Prop) (hBF : ∀ (m0 : Mm) (v0 : Nat) (v1 v2 v3 v4 v5 : Int32) (Φ : Int64 → Mm → Prop), BF m0 v0 v1 v2 v3 v4 v5 Φ → Met l yX2_bestFrom wsX2_bestFrom (rm_X2_bestFrom d) (PP g [.ref (ad g v0), .int v1, .int v2, .int v3, .int v4, .int v5] m0) (QQ g vL Φ) 0 0 (Ag g)) (m0 : Mm) (v0 : Nat) (v1 : Int32) (v2 : Int32) (v3 : Int32) (v4 : Int32) (v5 : Int32) (Φ : Int64 → Mm → Prop) (hw : wp_X2_bestFrom BF m0 v0 v1 v2 v3 v4 v5 Φ) : Met l yX2_bestFrom wsX2_bestFrom (rm_X2_bestFrom (d + 1)) (PP g [.ref (ad g v0), .int v1, .int v2, .int v3, .int v4, .int v5] m0) (QQ g vL Φ) 0 0 (Ag g) := by
  refine CT_of (by decide +kernel) rfl (Nat.le_of_ble_eq_true rfl) ?_
  intro p e s m below meth c hx hb hr hml hown hts hlk hnm hK hW ls hl
  have hown : s.vm.findClass RX2 = some m.cls := hown
  have hl : lv_has ls 10 [(0, .ref (ad g v0)), (1, .int v1), (2, .int v2), (3, .int v3), (4, .int v4), (5, .int v5)] := hl
  have i3 : ∀ w ∈ u_ws RX2 TX2 9, w ∈ wsX2_bestFrom := by decide +kernel
  have B174 : ∀ (v6 : Int32) (v7 : Int64) (mm : Mm), wp_X2_bestFrom_174 BF v0 v6 v7 mm Φ → WW p l e (rm_X2_bestFrom (d + 1)) s m ([.ref (ad g v0), .int v1, .int v2, .int v3, .int v4, .int v5] : List Value).toArray below meth c (MQ below (QQ g vL Φ) ([.ref (ad g v0), .int v1, .int v2, .int v3, .int v4, .int v5] : List Value).toArray s 0 0 (Ag g)) g mm 10 0 0 174 [(0, .ref (ad g v0)), (6, .int v6), (7, .long v7)] [] := by
    intro v6 v7 mm hw H locs ls hW hl
    unfold wp_X2_bestFrom_174 at hw
    refine lv_aload_n hx hb dX2_bestFrom_174 rfl (lv_at hl 0 rfl) ?_
    refine R_getP (C := RX2) (T := TX2) (N := 9) hx hb hts i3 hown hK hW 7 hw.1 (by decide) rfl (by decide) (hts (.fieldLink RX2 45 "BoatLift$Planner" "known" "[J") (by decide +kernel)) (fun _ h => h) (fun _ _ _ => rfl) hw.2.1 dX2_bestFrom_175 ?_
    have hw := hw.2.2
    refine lv_iload hx hb dX2_bestFrom_178 (lv_at hl 1 rfl) ?_
    refine lv_aload_n hx hb dX2_bestFrom_180 rfl (lv_at hl 0 rfl) ?_
    refine R_getL (C := RX2) (T := TX2) (N := 9) hx hb hts i3 hown hK hW 8 hw.1 (by decide) rfl (by decide) (hts (.fieldLink RX2 49 "BoatLift$Planner" "round" "J") (by decide +kernel)) (fun _ h => h) (fun _ _ _ => rfl) dX2_bestFrom_181 ?_
    have hw := hw.2
    refine lv_bipush (v := (40 : Int32)) hx hb dX2_bestFrom_184 (by decide) ?_
    refine lv_lshl (v := ((mL mm v0 8) <<< ((40 : Int32).toInt64 &&& 63))) hx hb dX2_bestFrom_186 rfl ?_
    refine lv_lload hx hb dX2_bestFrom_187 (lv_at hl 2 rfl) ?_
    refine lv_lor hx hb dX2_bestFrom_189 ?_
    refine R_last hx hb hK hW hw.1 hw.2.1 dX2_bestFrom_190 (fun H locs hW => ?_)
    obtain ⟨m1, em1⟩ : ∃ z, z = sL mm (mP mm v0 7) v6.toNatClampNeg (((mL mm v0 8) <<< ((40 : Int32).toInt64 &&& 63)) ||| v7) := ⟨_, rfl⟩
    rw [← em1] at hW
    have hw := hw.2.2 m1 em1
    refine lv_lload hx hb dX2_bestFrom_191 (lv_at hl 2 rfl) ?_
    exact R_lret hx hb hr hlk hW hw dX2_bestFrom_193
  have B63 : ∀ (s0 : Int32) (s1 : Int32) (mm : Mm), wp_X2_bestFrom_63 BF v0 v1 v2 v3 v4 v5 s0 s1 mm Φ → WW p l e (rm_X2_bestFrom (d + 1)) s m ([.ref (ad g v0), .int v1, .int v2, .int v3, .int v4, .int v5] : List Value).toArray below meth c (MQ below (QQ g vL Φ) ([.ref (ad g v0), .int v1, .int v2, .int v3, .int v4, .int v5] : List Value).toArray s 0 0 (Ag g)) g mm 10 0 0 63 [(0, .ref (ad g v0)), (1, .int v1), (2, .int v2), (3, .int v3), (4, .int v4), (5, .int v5)] [.int s1, .int s0] := by
    intro s0 s1 mm hw H locs ls hW hl
    unfold wp_X2_bestFrom_63 at hw
    refine lv_iadd hx hb dX2_bestFrom_63 ?_
    refine lv_istore (lv' := [(6, .int (s0 + s1)), (0, .ref (ad g v0)), (1, .int v1), (2, .int v2), (3, .int v3), (4, .int v4), (5, .int v5)]) hx hb dX2_bestFrom_64 hl (by decide) rfl (fun ls hl => ?_)
    refine lv_aload_n hx hb dX2_bestFrom_66 rfl (lv_at hl 1 rfl) ?_
    refine R_getN (C := RX2) (T := TX2) (N := 9) hx hb hts i3 hown hK hW 7 hw.1 (by decide) rfl (by decide) (hts (.fieldLink RX2 45 "BoatLift$Planner" "known" "[J") (by decide +kernel)) (fun _ h => h) (fun _ _ _ => rfl) dX2_bestFrom_67 ?_
    have hw := hw.2
    refine R_ifnull (tgt := 88) hx hb dX2_bestFrom_70 (by decide) (fun c2 => ?_) (fun c2 => ?_)
    · have hw := hw.1 c2
      refine lv_ldc2 hx hb hown (hts (.constantLong RX2 70 (274877906944)) (by decide +kernel)) dX2_bestFrom_88 ?_
      exact R_lret hx hb hr hlk hW hw dX2_bestFrom_91
    · have hw := hw.2 c2
      refine lv_iload hx hb dX2_bestFrom_73 (lv_at hl 0 rfl) ?_
      refine lv_if_lt (tgt := 88) hx hb dX2_bestFrom_75 (by decide) (fun c3 => ?_) (fun c3 => ?_)
      · have hw := hw.1 c3
        refine lv_ldc2 hx hb hown (hts (.constantLong RX2 70 (274877906944)) (by decide +kernel)) dX2_bestFrom_88 ?_
        exact R_lret hx hb hr hlk hW hw dX2_bestFrom_91
      · have hw := hw.2 c3
        refine lv_iload hx hb dX2_bestFrom_78 (lv_at hl 0 rfl) ?_
        refine lv_aload_n hx hb dX2_bestFrom_80 rfl (lv_at hl 1 rfl) ?_
        refine R_getP (C := RX2) (T := TX2) (N := 9) hx hb hts i3 hown hK hW 7 hw.1 (by decide) rfl (by decide) (hts (.fieldLink RX2 45 "BoatLift$Planner" "known" "[J") (by decide +kernel)) (fun _ h => h) (fun _ _ _ => rfl) hw.2.1 dX2_bestFrom_81 ?_
        have hw := hw.2.2
        refine R_alen hx hb hK hW hw.1 (by decide) (by decide) dX2_bestFrom_84 ?_
        have hw := hw.2
        refine lv_icmp_lt (tgt := 92) hx hb dX2_bestFrom_85 (by decide) (fun c4 => ?_) (fun c4 => ?_)
        · have hw := hw.1 c4
          refine lv_aload_n hx hb dX2_bestFrom_92 rfl (lv_at hl 1 rfl) ?_
          refine R_getP (C := RX2) (T := TX2) (N := 9) hx hb hts i3 hown hK hW 7 hw.1 (by decide) rfl (by decide) (hts (.fieldLink RX2 45 "BoatLift$Planner" "known" "[J") (by decide +kernel)) (fun _ h => h) (fun _ _ _ => rfl) hw.2.1 dX2_bestFrom_93 ?_
          have hw := hw.2.2
          refine lv_iload hx hb dX2_bestFrom_96 (lv_at hl 0 rfl) ?_
          refine R_lald hx hb hK hW hw.1 hw.2.1 dX2_bestFrom_98 ?_
          have hw := hw.2.2
          refine lv_bipush (v := (40 : Int32)) hx hb dX2_bestFrom_99 (by decide) ?_
          refine lv_lushr (v := ((mL mm (mP mm v0 7) (s0 + s1).toNatClampNeg).toUInt64 >>> ((40 : Int32).toInt64.toUInt64 &&& Int64.toUInt64 63)).toInt64) hx hb dX2_bestFrom_101 rfl ?_
          refine lv_aload_n hx hb dX2_bestFrom_102 rfl (lv_at hl 1 rfl) ?_
          refine R_getL (C := RX2) (T := TX2) (N := 9) hx hb hts i3 hown hK hW 8 hw.1 (by decide) rfl (by decide) (hts (.fieldLink RX2 49 "BoatLift$Planner" "round" "J") (by decide +kernel)) (fun _ h => h) (fun _ _ _ => rfl) dX2_bestFrom_103 ?_
          have hw := hw.2
          refine W.lcmp hx hb dX2_bestFrom_106 ?_
          refine lv_if_ne (tgt := 122) hx hb dX2_bestFrom_107 (by decide) (fun c5 => ?_) (fun c5 => ?_)
          · have hw := hw.1 c5
            refine lv_aload_n hx hb dX2_bestFrom_122 rfl (lv_at hl 1 rfl) ?_
            refine lv_iload_n hx hb dX2_bestFrom_123 rfl (lv_at hl 2 rfl) ?_
            refine lv_iload_n hx hb dX2_bestFrom_124 rfl (lv_at hl 3 rfl) ?_
            refine lv_iload_n hx hb dX2_bestFrom_125 rfl (lv_at hl 4 rfl) ?_
            refine lv_iload hx hb dX2_bestFrom_126 (lv_at hl 5 rfl) ?_
            refine lv_iload hx hb dX2_bestFrom_128 (lv_at hl 6 rfl) ?_
            refine R_call (va_runV (As := [.int v1, .int v2, .int v3, .int v4, .int v5]) (rest := []) ⟨hx, hb, hml, hown, hts⟩ (c_X2_bestByRiding l g d BF hBF mm v0 v1 v2 v3 v4 v5 _ hw.2) (cwV 5 hts gX2_bestFrom_X2_bestByRiding rfl rfl rfl (by decide +kernel) ⟨by dsimp only [rm_X2_bestByRiding, rm_X2_bestFrom]; omega, by dsimp only [rm_X2_bestByRiding, rm_X2_bestFrom]; omega⟩) (PP.preV (q := (RX2, TX2, 9)) hK hW hw.1 (by decide) rfl) rfl rfl hl.1 rfl (lv_room (Nat.le_of_ble_eq_true rfl)) dX2_bestFrom_130 ⟨Nat.le_of_ble_eq_true rfl, Nat.le_of_ble_eq_true rfl⟩) hW (fun r6 m7 H locs hw hW => ?_)
            refine W.eq (g2 := F0 m 133 ls [.long r6]) rfl ?_
            refine lv_lstore (lv' := [(7, .long r6), (6, .int (s0 + s1)), (0, .ref (ad g v0)), (1, .int v1), (2, .int v2), (3, .int v3), (4, .int v4), (5, .int v5)]) hx hb dX2_bestFrom_133 hl (by decide) rfl (fun ls hl => ?_)
            refine lv_aload_n hx hb dX2_bestFrom_135 rfl (lv_at hl 2 rfl) ?_
            refine lv_aload_n hx hb dX2_bestFrom_136 rfl (lv_at hl 2 rfl) ?_
            refine R_getP (C := RX2) (T := TX2) (N := 9) hx hb hts i3 hown hK hW 4 hw.1 (by decide) rfl (by decide) (hts (.fieldLink RX2 21 "BoatLift$Planner" "minutes" "[I") (by decide +kernel)) (fun _ h => h) (fun _ _ _ => rfl) hw.2.1 dX2_bestFrom_137 ?_
            have hw := hw.2.2
            refine lv_iload_n hx hb dX2_bestFrom_140 rfl (lv_at hl 3 rfl) ?_
            refine R_iald hx hb hK hW hw.1 hw.2.1 dX2_bestFrom_141 ?_
            have hw := hw.2.2
            refine R_call (va_runV (As := [.int (mI m7 (mP m7 v0 4) v1.toNatClampNeg)]) (rest := []) ⟨hx, hb, hml, hown, hts⟩ (c_X2_momentOfNextBoat l g m7 v0 (mI m7 (mP m7 v0 4) v1.toNatClampNeg) _ hw.2) (cwV 1 hts gX2_bestFrom_X2_momentOfNextBoat rfl rfl rfl (by decide +kernel) ⟨by dsimp only [rm_X2_momentOfNextBoat, rm_X2_bestFrom]; omega, by dsimp only [rm_X2_momentOfNextBoat, rm_X2_bestFrom]; omega⟩) (PP.preV (q := (RX2, TX2, 9)) hK hW hw.1 (by decide) rfl) rfl rfl hl.1 rfl (lv_room (Nat.le_of_ble_eq_true rfl)) dX2_bestFrom_142 ⟨Nat.le_of_ble_eq_true rfl, Nat.le_of_ble_eq_true rfl⟩) hW (fun r8 m9 H locs hw hW => ?_)
            refine W.eq (g2 := F0 m 145 ls [.int r8]) rfl ?_
            refine lv_istore (lv' := [(9, .int r8), (7, .long r6), (6, .int (s0 + s1)), (0, .ref (ad g v0)), (1, .int v1), (2, .int v2), (3, .int v3), (4, .int v4), (5, .int v5)]) hx hb dX2_bestFrom_145 hl (by decide) rfl (fun ls hl => ?_)
            refine lv_iload hx hb dX2_bestFrom_147 (lv_at hl 0 rfl) ?_
            refine lv_iconst (v := (-1 : Int32)) hx hb dX2_bestFrom_149 (by decide) ?_
            refine lv_icmp_eq (tgt := 174) hx hb dX2_bestFrom_150 (by decide) (fun c10 => ?_) (fun c10 => ?_)
            · have hw := hw.1 c10
              exact B174 (s0 + s1) r6 m9 hw _ _ _ hW (lv_sub hl [3, 2, 1] rfl)
            · have hw := hw.2 c10
              refine lv_lload hx hb dX2_bestFrom_153 (lv_at hl 1 rfl) ?_
              refine lv_aload_n hx hb dX2_bestFrom_155 rfl (lv_at hl 3 rfl) ?_
              refine lv_iload hx hb dX2_bestFrom_156 (lv_at hl 0 rfl) ?_
              refine lv_iload_n hx hb dX2_bestFrom_158 rfl (lv_at hl 5 rfl) ?_
              refine lv_iload_n hx hb dX2_bestFrom_159 rfl (lv_at hl 6 rfl) ?_
              refine lv_iload hx hb dX2_bestFrom_160 (lv_at hl 7 rfl) ?_
              refine lv_iload hx hb dX2_bestFrom_162 (lv_at hl 8 rfl) ?_
              refine lv_iconst (v := (1 : Int32)) hx hb dX2_bestFrom_164 (by decide) ?_
              refine lv_iadd hx hb dX2_bestFrom_165 ?_
              refine R_call (va_runV (As := [.int r8, .int v2, .int v3, .int v4, .int (v5 + (1 : Int32))]) (rest := [.long r6]) ⟨hx, hb, hml, hown, hts⟩ (hBF m9 v0 r8 v2 v3 v4 (v5 + (1 : Int32)) _ hw.2) (cwV 5 hts gX2_bestFrom_X2_bestFrom rfl rfl rfl (by decide +kernel) ⟨by dsimp only [rm_X2_bestFrom, rm_X2_bestFrom]; omega, by dsimp only [rm_X2_bestFrom, rm_X2_bestFrom]; omega⟩) (PP.preV (q := (RX2, TX2, 9)) hK hW hw.1 (by decide) rfl) rfl rfl hl.1 rfl (lv_room (Nat.le_of_ble_eq_true rfl)) dX2_bestFrom_166 ⟨Nat.le_of_ble_eq_true rfl, Nat.le_of_ble_eq_true rfl⟩) hW (fun r11 m12 H locs hw hW => ?_)
              refine W.eq (g2 := F0 m 169 ls [.long r11, .long r6]) rfl ?_
              refine va_mmin_long hx hb (by rw [hml]; exact hl.1.symm) hown (hts (.methodLink RX2 80 Lib.MathLoose.min_long.x) (by decide +kernel)) (hts (.static Lib.MathLoose.min_long.x) (by decide +kernel)) (hts (.initialized "java/lang/Math") (by decide +kernel)) (hts (.code Lib.MathLoose.min_long.x Lib.MathLoose.min_long.code 4 (some .long)) (by decide +kernel)) (by dsimp only [rm_X2_bestFrom]; omega) (Nat.le_trans (m := 15) (Nat.le_of_ble_eq_true rfl) (by dsimp only [rm_X2_bestFrom]; omega)) (Nat.le_of_ble_eq_true rfl) (Nat.le_of_ble_eq_true rfl) dX2_bestFrom_169 ?_
              refine lv_lstore (lv' := [(7, .long (if r11 < r6 then r11 else r6)), (9, .int r8), (6, .int (s0 + s1)), (0, .ref (ad g v0)), (1, .int v1), (2, .int v2), (3, .int v3), (4, .int v4), (5, .int v5)]) hx hb dX2_bestFrom_172 hl (by decide) rfl (fun ls hl => ?_)
              exact B174 (s0 + s1) (if r11 < r6 then r11 else r6) m12 hw _ _ _ hW (lv_sub hl [3, 2, 0] rfl)
          · have hw := hw.2 c5
            refine lv_aload_n hx hb dX2_bestFrom_110 rfl (lv_at hl 1 rfl) ?_
            refine R_getP (C := RX2) (T := TX2) (N := 9) hx hb hts i3 hown hK hW 7 hw.1 (by decide) rfl (by decide) (hts (.fieldLink RX2 45 "BoatLift$Planner" "known" "[J") (by decide +kernel)) (fun _ h => h) (fun _ _ _ => rfl) hw.2.1 dX2_bestFrom_111 ?_
            have hw := hw.2.2
            refine lv_iload hx hb dX2_bestFrom_114 (lv_at hl 0 rfl) ?_
            refine R_lald hx hb hK hW hw.1 hw.2.1 dX2_bestFrom_116 ?_
            have hw := hw.2.2
            refine lv_ldc2 hx hb hown (hts (.constantLong RX2 72 (1099511627775)) (by decide +kernel)) dX2_bestFrom_117 ?_
            refine lv_land hx hb dX2_bestFrom_120 ?_
            exact R_lret hx hb hr hlk hW hw dX2_bestFrom_121
        · have hw := hw.2 c4
          refine lv_ldc2 hx hb hown (hts (.constantLong RX2 70 (274877906944)) (by decide +kernel)) dX2_bestFrom_88 ?_
          exact R_lret hx hb hr hlk hW hw dX2_bestFrom_91
  unfold wp_X2_bestFrom at hw
  refine lv_iload_n hx hb dX2_bestFrom_0 rfl (lv_at hl 1 rfl) ?_
  refine lv_if_lt (tgt := 17) hx hb dX2_bestFrom_1 (by decide) (fun c13 => ?_) (fun c13 => ?_)
  · have hw := hw.1 c13
    refine lv_ldc2 hx hb hown (hts (.constantLong RX2 70 (274877906944)) (by decide +kernel)) dX2_bestFrom_17 ?_
    exact R_lret hx hb hr hlk hW hw dX2_bestFrom_20
  · have hw := hw.2 c13
    refine lv_iload_n hx hb dX2_bestFrom_4 rfl (lv_at hl 1 rfl) ?_
    refine lv_bipush (v := (91 : Int32)) hx hb dX2_bestFrom_5 (by decide) ?_
    refine lv_icmp_ge (tgt := 17) hx hb dX2_bestFrom_7 (by decide) (fun c14 => ?_) (fun c14 => ?_)
    · have hw := hw.1 c14
      refine lv_ldc2 hx hb hown (hts (.constantLong RX2 70 (274877906944)) (by decide +kernel)) dX2_bestFrom_17 ?_
      exact R_lret hx hb hr hlk hW hw dX2_bestFrom_20
    · have hw := hw.2 c14
      refine lv_iload hx hb dX2_bestFrom_10 (lv_at hl 5 rfl) ?_
      refine lv_bipush (v := (18 : Int32)) hx hb dX2_bestFrom_12 (by decide) ?_
      refine lv_icmp_le (tgt := 21) hx hb dX2_bestFrom_14 (by decide) (fun c15 => ?_) (fun c15 => ?_)
      · have hw := hw.1 c15
        refine lv_iload_n hx hb dX2_bestFrom_21 rfl (lv_at hl 3 rfl) ?_
        refine lv_iconst (v := (1 : Int32)) hx hb dX2_bestFrom_22 (by decide) ?_
        refine lv_aload_n hx hb dX2_bestFrom_23 rfl (lv_at hl 0 rfl) ?_
        refine R_getI (C := RX2) (T := TX2) (N := 9) hx hb hts i3 hown hK hW 5 hw.1 (by decide) rfl (by decide) (hts (.fieldLink RX2 30 "BoatLift$Planner" "boats" "I") (by decide +kernel)) (fun _ h => h) (fun _ _ _ => rfl) dX2_bestFrom_24 ?_
        have hw := hw.2
        refine lv_ishl hx hb dX2_bestFrom_27 ?_
        refine lv_iconst (v := (1 : Int32)) hx hb dX2_bestFrom_28 (by decide) ?_
        refine lv_isub hx hb dX2_bestFrom_29 ?_
        refine lv_icmp_ne (tgt := 41) hx hb dX2_bestFrom_30 (by decide) (fun c16 => ?_) (fun c16 => ?_)
        · have hw := hw.1 c16
          refine lv_iload_n hx hb dX2_bestFrom_41 rfl (lv_at hl 1 rfl) ?_
          refine lv_iconst (v := (2 : Int32)) hx hb dX2_bestFrom_42 (by decide) ?_
          refine lv_imul hx hb dX2_bestFrom_43 ?_
          refine lv_iload_n hx hb dX2_bestFrom_44 rfl (lv_at hl 2 rfl) ?_
          refine lv_iadd hx hb dX2_bestFrom_45 ?_
          refine lv_bipush (v := (64 : Int32)) hx hb dX2_bestFrom_46 (by decide) ?_
          refine lv_imul hx hb dX2_bestFrom_48 ?_
          refine lv_iload_n hx hb dX2_bestFrom_49 rfl (lv_at hl 3 rfl) ?_
          refine lv_iadd hx hb dX2_bestFrom_50 ?_
          refine lv_iconst (v := (2 : Int32)) hx hb dX2_bestFrom_51 (by decide) ?_
          refine lv_imul hx hb dX2_bestFrom_52 ?_
          refine lv_iload hx hb dX2_bestFrom_53 (lv_at hl 4 rfl) ?_
          refine lv_if_eq (tgt := 62) hx hb dX2_bestFrom_55 (by decide) (fun c17 => ?_) (fun c17 => ?_)
          · have hw := hw.1 c17
            refine lv_iconst (v := (0 : Int32)) hx hb dX2_bestFrom_62 (by decide) ?_
            exact B63 (((((v1 * (2 : Int32)) + v2) * (64 : Int32)) + v3) * (2 : Int32)) (0 : Int32) m0 hw _ _ _ hW (lv_sub hl [0, 1, 2, 3, 4, 5] rfl)
          · have hw := hw.2 c17
            refine lv_iconst (v := (1 : Int32)) hx hb dX2_bestFrom_58 (by decide) ?_
            refine lv_goto (tgt := 63) hx hb dX2_bestFrom_59 (by decide) ?_
            exact B63 (((((v1 * (2 : Int32)) + v2) * (64 : Int32)) + v3) * (2 : Int32)) (1 : Int32) m0 hw _ _ _ hW (lv_sub hl [0, 1, 2, 3, 4, 5] rfl)
        · have hw := hw.2 c16
          refine lv_aload_n hx hb dX2_bestFrom_33 rfl (lv_at hl 0 rfl) ?_
          refine R_getP (C := RX2) (T := TX2) (N := 9) hx hb hts i3 hown hK hW 4 hw.1 (by decide) rfl (by decide) (hts (.fieldLink RX2 21 "BoatLift$Planner" "minutes" "[I") (by decide +kernel)) (fun _ h => h) (fun _ _ _ => rfl) hw.2.1 dX2_bestFrom_34 ?_
          have hw := hw.2.2
          refine lv_iload_n hx hb dX2_bestFrom_37 rfl (lv_at hl 1 rfl) ?_
          refine R_iald hx hb hK hW hw.1 hw.2.1 dX2_bestFrom_38 ?_
          have hw := hw.2.2
          refine lv_i2l (v := (mI m0 (mP m0 v0 4) v1.toNatClampNeg).toInt64) hx hb dX2_bestFrom_39 rfl ?_
          exact R_lret hx hb hr hlk hW hw dX2_bestFrom_40
      · have hw := hw.2 c15
        refine lv_ldc2 hx hb hown (hts (.constantLong RX2 70 (274877906944)) (by decide +kernel)) dX2_bestFrom_17 ?_
        exact R_lret hx hb hr hlk hW hw dX2_bestFrom_20

/-- the search, so many levels deep -/
def BFn : Nat → Mm → Nat → Int32 → Int32 → Int32 → Int32 → Int32 → (Int64 → Mm → Prop) → Prop
  | 0 => fun _ _ _ _ _ _ _ _ => False
  | d + 1 => wp_X2_bestFrom (BFn d)
theorem c_BFn (l : Launch) (g : Gv) : ∀ (d : Nat) (m0 : Mm) (v0 : Nat) (v1 v2 v3 v4 v5 : Int32) (Φ : Int64 → Mm → Prop), BFn d m0 v0 v1 v2 v3 v4 v5 Φ → Met l yX2_bestFrom wsX2_bestFrom (rm_X2_bestFrom d) (PP g [.ref (ad g v0), .int v1, .int v2, .int v3, .int v4, .int v5] m0) (QQ g vL Φ) 0 0 (Ag g)
  | 0, _, _, _, _, _, _, _, _, hw => hw.elim
  | d + 1, m0, v0, v1, v2, v3, v4, v5, Φ, hw => c_X2_bestFrom l g d (BFn d) (fun m0 v0 v1 v2 v3 v4 v5 Φ h => c_BFn l g d m0 v0 v1 v2 v3 v4 v5 Φ h) m0 v0 v1 v2 v3 v4 v5 Φ hw

def wp_X2_best_40 (K40 : Int32 → Mm → Prop) (v0 : Nat) (v1 : Int32) (v4 : Int32) (mm : Mm) (Φ : Int64 → Mm → Prop) : Prop :=
  mT mm v0 = 3 ∧ (((mI mm v0 5) ≤ v4 → mT mm v0 = 3 ∧ BFn 20 mm v0 (0 : Int32) v1 (0 : Int32) (0 : Int32) (0 : Int32) (fun (r2 : Int64) (m3 : Mm) => Φ r2 m3)) ∧ (¬ (mI mm v0 5) ≤ v4 → mT mm v0 = 3 ∧ (mP mm v0 2) ≠ 0 ∧ mT mm (mP mm v0 2) = 9 ∧ vp_in v4 (mN mm (mP mm v0 2)) ∧ mT mm v0 = 3 ∧ wp_X2_layOutRow mm v0 (v4 + (1 : Int32)) (mI mm (mP mm v0 2) v4.toNatClampNeg) (fun (_ : Unit) (m5 : Mm) => K40 (v4 + (1 : Int32)) m5)))
def wp_X2_best_16 (v0 : Nat) (v1 : Int32) (v2 : Int32) (v3 : Int32) (mm : Mm) (Φ : Int64 → Mm → Prop) : Prop :=
  mT mm v0 = 3 ∧ mT mm v0 = 3 ∧ ∀ m6 : Mm, m6 = sL mm v0 8 ((mL mm v0 8) + (1 : Int64)) → mT m6 v0 = 3 ∧ ∀ m7 : Mm, m7 = sI m6 v0 6 v3 → mT m7 v0 = 3 ∧ wp_X2_layOutRow m7 v0 (0 : Int32) v2 (fun (_ : Unit) (m9 : Mm) => ∃ n, LOp (fun K x => wp_X2_best_40  (fun z0 z1 => K (z0, z1)) v0 v1 x.1 x.2 Φ) n ((0 : Int32), m9))
def wp_X2_best (m0 : Mm) (v0 : Nat) (v1 : Int32) (v2 : Int32) (v3 : Int32) (Φ : Int64 → Mm → Prop) : Prop :=
  mT m0 v0 = 3 ∧ ((¬ (mP m0 v0 7) = 0 → wp_X2_best_16 v0 v1 v2 v3 m0 Φ) ∧ ((mP m0 v0 7) = 0 → ∀ m11 : Mm, m11 = nw m0 10 23296 → mT m11 v0 = 3 ∧ (mS m0) ≠ 0 ∧ ∀ m12 : Mm, m12 = sP m11 v0 7 (mS m0) → wp_X2_best_16 v0 v1 v2 v3 m12 Φ))
abbrev rm_X2_best : Room := { frames := 43, cells := 1, slots := 23296, locals := 1409 }
set_option maxHeartbeats 4000000 in
set_option maxRecDepth 100000 in
theorem c_X2_best (l : Launch) (g : Gv) (m0 : Mm) (v0 : Nat) (v1 : Int32) (v2 : Int32) (v3 : Int32) (Φ : Int64 → Mm → Prop) (hw : wp_X2_best m0 v0 v1 v2 v3 Φ) : Met l yX2_best wsX2_best rm_X2_best (PP g [.ref (ad g v0), .int v1, .int v2, .int v3] m0) (QQ g vL Φ) 1 23296 (Ag g) := by
  refine CT_of (by decide +kernel) rfl (Nat.le_of_ble_eq_true rfl) ?_
  intro p e s m below meth c hx hb hr hml hown hts hlk hnm hK hW ls hl
  have hown : s.vm.findClass RX2 = some m.cls := hown
  have hl : lv_has ls 5 [(0, .ref (ad g v0)), (1, .int v1), (2, .int v2), (3, .int v3)] := hl
  have i3 : ∀ w ∈ u_ws RX2 TX2 9, w ∈ wsX2_best := by decide +kernel
  have L40 : ∀ (n : Nat) (v4 : Int32) (mm : Mm), LOp (fun K x => wp_X2_best_40  (fun z0 z1 => K (z0, z1)) v0 v1 x.1 x.2 Φ) n (v4, mm) → WW p l e rm_X2_best s m ([.ref (ad g v0), .int v1, .int v2, .int v3] : List Value).toArray below meth c (MQ below (QQ g vL Φ) ([.ref (ad g v0), .int v1, .int v2, .int v3] : List Value).toArray s 1 23296 (Ag g)) g mm 5 1 23296 40 [(0, .ref (ad g v0)), (1, .int v1), (4, .int v4)] [] := by
    intro  n
    induction n with
    | zero => intro v4 mm hw; exact hw.elim
    | succ n ih40 =>
      obtain ⟨K40, eK40⟩ : ∃ K : Int32 → Mm → Prop, K = fun v4 mm => LOp (fun K x => wp_X2_best_40  (fun z0 z1 => K (z0, z1)) v0 v1 x.1 x.2 Φ) n (v4, mm) := ⟨_, rfl⟩
      have ih40 : ∀ (v4 : Int32) (mm : Mm), K40 v4 mm → WW p l e rm_X2_best s m ([.ref (ad g v0), .int v1, .int v2, .int v3] : List Value).toArray below meth c (MQ below (QQ g vL Φ) ([.ref (ad g v0), .int v1, .int v2, .int v3] : List Value).toArray s 1 23296 (Ag g)) g mm 5 1 23296 40 [(0, .ref (ad g v0)), (1, .int v1), (4, .int v4)] [] := by rw [eK40]; exact ih40
      intro v4 mm hw H locs ls hW hl
      have hw : wp_X2_best_40 K40 v0 v1 v4 mm Φ := by rw [eK40]; exact hw
      unfold wp_X2_best_40 at hw
      refine lv_iload hx hb dX2_best_40 (lv_at hl 2 rfl) ?_
      refine lv_aload_n hx hb dX2_best_42 rfl (lv_at hl 0 rfl) ?_
      refine R_getI (C := RX2) (T := TX2) (N := 9) hx hb hts i3 hown hK hW 5 hw.1 (by decide) rfl (by decide) (hts (.fieldLink RX2 30 "BoatLift$Planner" "boats" "I") (by decide +kernel)) (fun _ h => h) (fun _ _ _ => rfl) dX2_best_43 ?_
      have hw := hw.2
      refine lv_icmp_ge (tgt := 70) hx hb dX2_best_46 (by decide) (fun c1 => ?_) (fun c1 => ?_)
      · have hw := hw.1 c1
        refine lv_aload_n hx hb dX2_best_70 rfl (lv_at hl 0 rfl) ?_
        refine lv_iconst (v := (0 : Int32)) hx hb dX2_best_71 (by decide) ?_
        refine lv_iload_n hx hb dX2_best_72 rfl (lv_at hl 1 rfl) ?_
        refine lv_iconst (v := (0 : Int32)) hx hb dX2_best_73 (by decide) ?_
        refine lv_iconst (v := (0 : Int32)) hx hb dX2_best_74 (by decide) ?_
        refine lv_iconst (v := (0 : Int32)) hx hb dX2_best_75 (by decide) ?_
        refine R_call (va_runV (As := [.int (0 : Int32), .int v1, .int (0 : Int32), .int (0 : Int32), .int (0 : Int32)]) (rest := []) ⟨hx, hb, hml, hown, hts⟩ (c_BFn l g 20 mm v0 (0 : Int32) v1 (0 : Int32) (0 : Int32) (0 : Int32) _ hw.2) (cwV 5 hts gX2_best_X2_bestFrom rfl rfl rfl (by decide +kernel) ⟨by decide, by decide⟩) (PP.preV (q := (RX2, TX2, 9)) hK hW hw.1 (by decide) rfl) rfl rfl hl.1 rfl (lv_room (Nat.le_of_ble_eq_true rfl)) dX2_best_76 ⟨by decide, by decide⟩) hW (fun r2 m3 H locs hw hW => ?_)
        refine W.eq (g2 := F0 m 79 ls [.long r2]) rfl ?_
        exact R_lret hx hb hr hlk hW hw dX2_best_79
      · have hw := hw.2 c1
        refine lv_aload_n hx hb dX2_best_49 rfl (lv_at hl 0 rfl) ?_
        refine lv_iload hx hb dX2_best_50 (lv_at hl 2 rfl) ?_
        refine lv_iconst (v := (1 : Int32)) hx hb dX2_best_52 (by decide) ?_
        refine lv_iadd hx hb dX2_best_53 ?_
        refine lv_aload_n hx hb dX2_best_54 rfl (lv_at hl 0 rfl) ?_
        refine R_getP (C := RX2) (T := TX2) (N := 9) hx hb hts i3 hown hK hW 2 hw.1 (by decide) rfl (by decide) (hts (.fieldLink RX2 15 "BoatLift$Planner" "comes" "[I") (by decide +kernel)) (fun _ h => h) (fun _ _ _ => rfl) hw.2.1 dX2_best_55 ?_
        have hw := hw.2.2
        refine lv_iload hx hb dX2_best_58 (lv_at hl 2 rfl) ?_
        refine R_iald hx hb hK hW hw.1 hw.2.1 dX2_best_60 ?_
        have hw := hw.2.2
        refine R_call (va_runV (As := [.int (v4 + (1 : Int32)), .int (mI mm (mP mm v0 2) v4.toNatClampNeg)]) (rest := []) ⟨hx, hb, hml, hown, hts⟩ (c_X2_layOutRow l g mm v0 (v4 + (1 : Int32)) (mI mm (mP mm v0 2) v4.toNatClampNeg) _ hw.2) (cwV 2 hts gX2_best_X2_layOutRow rfl rfl rfl (by decide +kernel) ⟨by decide, by decide⟩) (PP.preV (q := (RX2, TX2, 9)) hK hW hw.1 (by decide) rfl) rfl rfl hl.1 rfl (lv_room (Nat.le_of_ble_eq_true rfl)) dX2_best_61 ⟨by decide, by decide⟩) hW (fun _ m5 H locs hw hW => ?_)
        refine W.eq (g2 := F0 m 64 ls []) rfl ?_
        refine lv_iinc (v := (v4 + (1 : Int32))) (lv' := [(4, .int (v4 + (1 : Int32))), (0, .ref (ad g v0)), (1, .int v1)]) hx hb dX2_best_64 hl (k := 2) rfl rfl (by decide) rfl (fun ls hl => ?_)
        refine lv_goto (tgt := 40) hx hb dX2_best_67 (by decide) ?_
        exact ih40 (v4 + (1 : Int32)) m5 hw _ _ _ hW (lv_sub hl [1, 2, 0] rfl)
  have B16 : ∀ (mm : Mm), wp_X2_best_16 v0 v1 v2 v3 mm Φ → WW p l e rm_X2_best s m ([.ref (ad g v0), .int v1, .int v2, .int v3] : List Value).toArray below meth c (MQ below (QQ g vL Φ) ([.ref (ad g v0), .int v1, .int v2, .int v3] : List Value).toArray s 1 23296 (Ag g)) g mm 5 1 23296 16 [(0, .ref (ad g v0)), (1, .int v1), (2, .int v2), (3, .int v3)] [] := by
    intro  mm hw H locs ls hW hl
    unfold wp_X2_best_16 at hw
    refine lv_aload_n hx hb dX2_best_16 rfl (lv_at hl 0 rfl) ?_
    refine lv_dup hx hb dX2_best_17 rfl ?_
    refine R_getL (C := RX2) (T := TX2) (N := 9) hx hb hts i3 hown hK hW 8 hw.1 (by decide) rfl (by decide) (hts (.fieldLink RX2 49 "BoatLift$Planner" "round" "J") (by decide +kernel)) (fun _ h => h) (fun _ _ _ => rfl) dX2_best_18 ?_
    have hw := hw.2
    refine lv_lconst (v := (1 : Int64)) hx hb dX2_best_21 (by decide) ?_
    refine lv_ladd hx hb dX2_best_22 ?_
    refine R_putL (C := RX2) (T := TX2) (N := 9) hx hb hts i3 tyX2 tyX2_ok nmX2 hown hK hW 8 hw.1 (by decide) rfl (by decide) (hts (.fieldLink RX2 49 "BoatLift$Planner" "round" "J") (by decide +kernel)) (fun _ h => h) (Or.inl rfl) rfl (fun _ _ _ => rfl) (fun _ _ _ => rfl) dX2_best_23 (fun H locs hW => ?_)
    obtain ⟨m6, em6⟩ : ∃ z, z = sL mm v0 8 ((mL mm v0 8) + (1 : Int64)) := ⟨_, rfl⟩
    rw [← em6] at hW
    have hw := hw.2 m6 em6
    refine lv_aload_n hx hb dX2_best_26 rfl (lv_at hl 0 rfl) ?_
    refine lv_iload_n hx hb dX2_best_27 rfl (lv_at hl 3 rfl) ?_
    refine R_putI (C := RX2) (T := TX2) (N := 9) hx hb hts i3 tyX2 tyX2_ok nmX2 hown hK hW 6 hw.1 (by decide) rfl (by decide) (hts (.fieldLink RX2 53 "BoatLift$Planner" "troughLength" "I") (by decide +kernel)) (fun _ h => h) (Or.inl rfl) rfl (fun _ _ _ => rfl) (fun _ _ _ => rfl) dX2_best_28 (fun H locs hW => ?_)
    obtain ⟨m7, em7⟩ : ∃ z, z = sI m6 v0 6 v3 := ⟨_, rfl⟩
    rw [← em7] at hW
    have hw := hw.2 m7 em7
    refine lv_aload_n hx hb dX2_best_31 rfl (lv_at hl 0 rfl) ?_
    refine lv_iconst (v := (0 : Int32)) hx hb dX2_best_32 (by decide) ?_
    refine lv_iload_n hx hb dX2_best_33 rfl (lv_at hl 2 rfl) ?_
    refine R_call (va_runV (As := [.int (0 : Int32), .int v2]) (rest := []) ⟨hx, hb, hml, hown, hts⟩ (c_X2_layOutRow l g m7 v0 (0 : Int32) v2 _ hw.2) (cwV 2 hts gX2_best_X2_layOutRow rfl rfl rfl (by decide +kernel) ⟨by decide, by decide⟩) (PP.preV (q := (RX2, TX2, 9)) hK hW hw.1 (by decide) rfl) rfl rfl hl.1 rfl (lv_room (Nat.le_of_ble_eq_true rfl)) dX2_best_34 ⟨by decide, by decide⟩) hW (fun _ m9 H locs hw hW => ?_)
    refine W.eq (g2 := F0 m 37 ls []) rfl ?_
    refine lv_iconst (v := (0 : Int32)) hx hb dX2_best_37 (by decide) ?_
    refine lv_istore (lv' := [(4, .int (0 : Int32)), (0, .ref (ad g v0)), (1, .int v1), (2, .int v2), (3, .int v3)]) hx hb dX2_best_38 hl (by decide) rfl (fun ls hl => ?_)
    obtain ⟨n, hw⟩ := hw
    exact L40  n (0 : Int32) m9 hw _ _ _ hW (lv_sub hl [1, 2, 0] rfl)
  unfold wp_X2_best at hw
  refine lv_aload_n hx hb dX2_best_0 rfl (lv_at hl 0 rfl) ?_
  refine R_getN (C := RX2) (T := TX2) (N := 9) hx hb hts i3 hown hK hW 7 hw.1 (by decide) rfl (by decide) (hts (.fieldLink RX2 45 "BoatLift$Planner" "known" "[J") (by decide +kernel)) (fun _ h => h) (fun _ _ _ => rfl) dX2_best_1 ?_
  have hw := hw.2
  refine R_ifnonnull (tgt := 16) hx hb dX2_best_4 (by decide) (fun c10 => ?_) (fun c10 => ?_)
  · have hw := hw.1 c10
    refine W.widen (k := 1) (n := 23296) (by decide) (by decide) ?_
    exact B16  m0 hw _ _ _ hW (lv_sub hl [0, 1, 2, 3] rfl)
  · have hw := hw.2 c10
    refine lv_aload_n hx hb dX2_best_7 rfl (lv_at hl 0 rfl) ?_
    refine lv_sipush (v := (23296 : Int32)) hx hb dX2_best_8 (by decide) ?_
    refine R_newJ hx hb (hts (.arrayClass .long) (by decide +kernel)) hK hW 23296 (by decide) (by decide) (by decide) (by decide) (by decide) dX2_best_11 (fun H hW => ?_)
    obtain ⟨m11, em11⟩ : ∃ z, z = nw m0 10 23296 := ⟨_, rfl⟩
    rw [← em11] at hW
    have hw := hw m11 em11
    refine R_putP (C := RX2) (T := TX2) (N := 9) hx hb hts i3 tyX2 tyX2_ok nmX2 hown hK hW 7 hw.1 (by decide) rfl (by decide) (hts (.fieldLink RX2 45 "BoatLift$Planner" "known" "[J") (by decide +kernel)) (fun _ h => h) (Or.inl rfl) (Or.inr ⟨_, rfl⟩) hw.2.1 (fun _ _ _ => rfl) (fun _ _ _ => rfl) dX2_best_13 (fun H locs hW => ?_)
    obtain ⟨m12, em12⟩ : ∃ z, z = sP m11 v0 7 (mS m0) := ⟨_, rfl⟩
    rw [← em12] at hW
    have hw := hw.2.2 m12 em12
    exact B16  m12 hw _ _ _ hW (lv_sub hl [0, 1, 2, 3] rfl)

def wp_X2_best_k_40 (K40 : Int32 → Mm → Prop) (v0 : Nat) (v1 : Int32) (v4 : Int32) (mm : Mm) (Φ : Int64 → Mm → Prop) : Prop :=
  mT mm v0 = 3 ∧ (((mI mm v0 5) ≤ v4 → mT mm v0 = 3 ∧ BFn 20 mm v0 (0 : Int32) v1 (0 : Int32) (0 : Int32) (0 : Int32) (fun (r2 : Int64) (m3 : Mm) => Φ r2 m3)) ∧ (¬ (mI mm v0 5) ≤ v4 → mT mm v0 = 3 ∧ (mP mm v0 2) ≠ 0 ∧ mT mm (mP mm v0 2) = 9 ∧ vp_in v4 (mN mm (mP mm v0 2)) ∧ mT mm v0 = 3 ∧ wp_X2_layOutRow mm v0 (v4 + (1 : Int32)) (mI mm (mP mm v0 2) v4.toNatClampNeg) (fun (_ : Unit) (m5 : Mm) => K40 (v4 + (1 : Int32)) m5)))
def wp_X2_best_k_16 (v0 : Nat) (v1 : Int32) (v2 : Int32) (v3 : Int32) (mm : Mm) (Φ : Int64 → Mm → Prop) : Prop :=
  mT mm v0 = 3 ∧ mT mm v0 = 3 ∧ ∀ m6 : Mm, m6 = sL mm v0 8 ((mL mm v0 8) + (1 : Int64)) → mT m6 v0 = 3 ∧ ∀ m7 : Mm, m7 = sI m6 v0 6 v3 → mT m7 v0 = 3 ∧ wp_X2_layOutRow m7 v0 (0 : Int32) v2 (fun (_ : Unit) (m9 : Mm) => ∃ n, LOp (fun K x => wp_X2_best_k_40  (fun z0 z1 => K (z0, z1)) v0 v1 x.1 x.2 Φ) n ((0 : Int32), m9))
def wp_X2_best_k (m0 : Mm) (v0 : Nat) (v1 : Int32) (v2 : Int32) (v3 : Int32) (Φ : Int64 → Mm → Prop) : Prop :=
  mT m0 v0 = 3 ∧ ((¬ (mP m0 v0 7) = 0 → wp_X2_best_k_16 v0 v1 v2 v3 m0 Φ) ∧ ((mP m0 v0 7) = 0 → False))
abbrev rm_X2_best_k : Room := { frames := 43, cells := 0, slots := 0, locals := 1409 }
set_option maxHeartbeats 4000000 in
set_option maxRecDepth 100000 in
theorem c_X2_best_k (l : Launch) (g : Gv) (m0 : Mm) (v0 : Nat) (v1 : Int32) (v2 : Int32) (v3 : Int32) (Φ : Int64 → Mm → Prop) (hw : wp_X2_best_k m0 v0 v1 v2 v3 Φ) : Met l yX2_best wsX2_best rm_X2_best_k (PP g [.ref (ad g v0), .int v1, .int v2, .int v3] m0) (QQ g vL Φ) 0 0 (Ag g) := by
  refine CT_of (by decide +kernel) rfl (Nat.le_of_ble_eq_true rfl) ?_
  intro p e s m below meth c hx hb hr hml hown hts hlk hnm hK hW ls hl
  have hown : s.vm.findClass RX2 = some m.cls := hown
  have hl : lv_has ls 5 [(0, .ref (ad g v0)), (1, .int v1), (2, .int v2), (3, .int v3)] := hl
  have i3 : ∀ w ∈ u_ws RX2 TX2 9, w ∈ wsX2_best := by decide +kernel
  have L40 : ∀ (n : Nat) (v4 : Int32) (mm : Mm), LOp (fun K x => wp_X2_best_k_40  (fun z0 z1 => K (z0, z1)) v0 v1 x.1 x.2 Φ) n (v4, mm) → WW p l e rm_X2_best_k s m ([.ref (ad g v0), .int v1, .int v2, .int v3] : List Value).toArray below meth c (MQ below (QQ g vL Φ) ([.ref (ad g v0), .int v1, .int v2, .int v3] : List Value).toArray s 0 0 (Ag g)) g mm 5 0 0 40 [(0, .ref (ad g v0)), (1, .int v1), (4, .int v4)] [] := by
    intro  n
    induction n with
    | zero => intro v4 mm hw; exact hw.elim
    | succ n ih40 =>
      obtain ⟨K40, eK40⟩ : ∃ K : Int32 → Mm → Prop, K = fun v4 mm => LOp (fun K x => wp_X2_best_k_40  (fun z0 z1 => K (z0, z1)) v0 v1 x.1 x.2 Φ) n (v4, mm) := ⟨_, rfl⟩
      have ih40 : ∀ (v4 : Int32) (mm : Mm), K40 v4 mm → WW p l e rm_X2_best_k s m ([.ref (ad g v0), .int v1, .int v2, .int v3] : List Value).toArray below meth c (MQ below (QQ g vL Φ) ([.ref (ad g v0), .int v1, .int v2, .int v3] : List Value).toArray s 0 0 (Ag g)) g mm 5 0 0 40 [(0, .ref (ad g v0)), (1, .int v1), (4, .int v4)] [] := by rw [eK40]; exact ih40
      intro v4 mm hw H locs ls hW hl
      have hw : wp_X2_best_k_40 K40 v0 v1 v4 mm Φ := by rw [eK40]; exact hw
      unfold wp_X2_best_k_40 at hw
      refine lv_iload hx hb dX2_best_40 (lv_at hl 2 rfl) ?_
      refine lv_aload_n hx hb dX2_best_42 rfl (lv_at hl 0 rfl) ?_
      refine R_getI (C := RX2) (T := TX2) (N := 9) hx hb hts i3 hown hK hW 5 hw.1 (by decide) rfl (by decide) (hts (.fieldLink RX2 30 "BoatLift$Planner" "boats" "I") (by decide +kernel)) (fun _ h => h) (fun _ _ _ => rfl) dX2_best_43 ?_
      have hw := hw.2
      refine lv_icmp_ge (tgt := 70) hx hb dX2_best_46 (by decide) (fun c1 => ?_) (fun c1 => ?_)
      · have hw := hw.1 c1
        refine lv_aload_n hx hb dX2_best_70 rfl (lv_at hl 0 rfl) ?_
        refine lv_iconst (v := (0 : Int32)) hx hb dX2_best_71 (by decide) ?_
        refine lv_iload_n hx hb dX2_best_72 rfl (lv_at hl 1 rfl) ?_
        refine lv_iconst (v := (0 : Int32)) hx hb dX2_best_73 (by decide) ?_
        refine lv_iconst (v := (0 : Int32)) hx hb dX2_best_74 (by decide) ?_
        refine lv_iconst (v := (0 : Int32)) hx hb dX2_best_75 (by decide) ?_
        refine R_call (va_runV (As := [.int (0 : Int32), .int v1, .int (0 : Int32), .int (0 : Int32), .int (0 : Int32)]) (rest := []) ⟨hx, hb, hml, hown, hts⟩ (c_BFn l g 20 mm v0 (0 : Int32) v1 (0 : Int32) (0 : Int32) (0 : Int32) _ hw.2) (cwV 5 hts gX2_best_X2_bestFrom rfl rfl rfl (by decide +kernel) ⟨by decide, by decide⟩) (PP.preV (q := (RX2, TX2, 9)) hK hW hw.1 (by decide) rfl) rfl rfl hl.1 rfl (lv_room (Nat.le_of_ble_eq_true rfl)) dX2_best_76 ⟨by decide, by decide⟩) hW (fun r2 m3 H locs hw hW => ?_)
        refine W.eq (g2 := F0 m 79 ls [.long r2]) rfl ?_
        exact R_lret hx hb hr hlk hW hw dX2_best_79
      · have hw := hw.2 c1
        refine lv_aload_n hx hb dX2_best_49 rfl (lv_at hl 0 rfl) ?_
        refine lv_iload hx hb dX2_best_50 (lv_at hl 2 rfl) ?_
        refine lv_iconst (v := (1 : Int32)) hx hb dX2_best_52 (by decide) ?_
        refine lv_iadd hx hb dX2_best_53 ?_
        refine lv_aload_n hx hb dX2_best_54 rfl (lv_at hl 0 rfl) ?_
        refine R_getP (C := RX2) (T := TX2) (N := 9) hx hb hts i3 hown hK hW 2 hw.1 (by decide) rfl (by decide) (hts (.fieldLink RX2 15 "BoatLift$Planner" "comes" "[I") (by decide +kernel)) (fun _ h => h) (fun _ _ _ => rfl) hw.2.1 dX2_best_55 ?_
        have hw := hw.2.2
        refine lv_iload hx hb dX2_best_58 (lv_at hl 2 rfl) ?_
        refine R_iald hx hb hK hW hw.1 hw.2.1 dX2_best_60 ?_
        have hw := hw.2.2
        refine R_call (va_runV (As := [.int (v4 + (1 : Int32)), .int (mI mm (mP mm v0 2) v4.toNatClampNeg)]) (rest := []) ⟨hx, hb, hml, hown, hts⟩ (c_X2_layOutRow l g mm v0 (v4 + (1 : Int32)) (mI mm (mP mm v0 2) v4.toNatClampNeg) _ hw.2) (cwV 2 hts gX2_best_X2_layOutRow rfl rfl rfl (by decide +kernel) ⟨by decide, by decide⟩) (PP.preV (q := (RX2, TX2, 9)) hK hW hw.1 (by decide) rfl) rfl rfl hl.1 rfl (lv_room (Nat.le_of_ble_eq_true rfl)) dX2_best_61 ⟨by decide, by decide⟩) hW (fun _ m5 H locs hw hW => ?_)
        refine W.eq (g2 := F0 m 64 ls []) rfl ?_
        refine lv_iinc (v := (v4 + (1 : Int32))) (lv' := [(4, .int (v4 + (1 : Int32))), (0, .ref (ad g v0)), (1, .int v1)]) hx hb dX2_best_64 hl (k := 2) rfl rfl (by decide) rfl (fun ls hl => ?_)
        refine lv_goto (tgt := 40) hx hb dX2_best_67 (by decide) ?_
        exact ih40 (v4 + (1 : Int32)) m5 hw _ _ _ hW (lv_sub hl [1, 2, 0] rfl)
  have B16 : ∀ (mm : Mm), wp_X2_best_k_16 v0 v1 v2 v3 mm Φ → WW p l e rm_X2_best_k s m ([.ref (ad g v0), .int v1, .int v2, .int v3] : List Value).toArray below meth c (MQ below (QQ g vL Φ) ([.ref (ad g v0), .int v1, .int v2, .int v3] : List Value).toArray s 0 0 (Ag g)) g mm 5 0 0 16 [(0, .ref (ad g v0)), (1, .int v1), (2, .int v2), (3, .int v3)] [] := by
    intro  mm hw H locs ls hW hl
    unfold wp_X2_best_k_16 at hw
    refine lv_aload_n hx hb dX2_best_16 rfl (lv_at hl 0 rfl) ?_
    refine lv_dup hx hb dX2_best_17 rfl ?_
    refine R_getL (C := RX2) (T := TX2) (N := 9) hx hb hts i3 hown hK hW 8 hw.1 (by decide) rfl (by decide) (hts (.fieldLink RX2 49 "BoatLift$Planner" "round" "J") (by decide +kernel)) (fun _ h => h) (fun _ _ _ => rfl) dX2_best_18 ?_
    have hw := hw.2
    refine lv_lconst (v := (1 : Int64)) hx hb dX2_best_21 (by decide) ?_
    refine lv_ladd hx hb dX2_best_22 ?_
    refine R_putL (C := RX2) (T := TX2) (N := 9) hx hb hts i3 tyX2 tyX2_ok nmX2 hown hK hW 8 hw.1 (by decide) rfl (by decide) (hts (.fieldLink RX2 49 "BoatLift$Planner" "round" "J") (by decide +kernel)) (fun _ h => h) (Or.inl rfl) rfl (fun _ _ _ => rfl) (fun _ _ _ => rfl) dX2_best_23 (fun H locs hW => ?_)
    obtain ⟨m6, em6⟩ : ∃ z, z = sL mm v0 8 ((mL mm v0 8) + (1 : Int64)) := ⟨_, rfl⟩
    rw [← em6] at hW
    have hw := hw.2 m6 em6
    refine lv_aload_n hx hb dX2_best_26 rfl (lv_at hl 0 rfl) ?_
    refine lv_iload_n hx hb dX2_best_27 rfl (lv_at hl 3 rfl) ?_
    refine R_putI (C := RX2) (T := TX2) (N := 9) hx hb hts i3 tyX2 tyX2_ok nmX2 hown hK hW 6 hw.1 (by decide) rfl (by decide) (hts (.fieldLink RX2 53 "BoatLift$Planner" "troughLength" "I") (by decide +kernel)) (fun _ h => h) (Or.inl rfl) rfl (fun _ _ _ => rfl) (fun _ _ _ => rfl) dX2_best_28 (fun H locs hW => ?_)
    obtain ⟨m7, em7⟩ : ∃ z, z = sI m6 v0 6 v3 := ⟨_, rfl⟩
    rw [← em7] at hW
    have hw := hw.2 m7 em7
    refine lv_aload_n hx hb dX2_best_31 rfl (lv_at hl 0 rfl) ?_
    refine lv_iconst (v := (0 : Int32)) hx hb dX2_best_32 (by decide) ?_
    refine lv_iload_n hx hb dX2_best_33 rfl (lv_at hl 2 rfl) ?_
    refine R_call (va_runV (As := [.int (0 : Int32), .int v2]) (rest := []) ⟨hx, hb, hml, hown, hts⟩ (c_X2_layOutRow l g m7 v0 (0 : Int32) v2 _ hw.2) (cwV 2 hts gX2_best_X2_layOutRow rfl rfl rfl (by decide +kernel) ⟨by decide, by decide⟩) (PP.preV (q := (RX2, TX2, 9)) hK hW hw.1 (by decide) rfl) rfl rfl hl.1 rfl (lv_room (Nat.le_of_ble_eq_true rfl)) dX2_best_34 ⟨by decide, by decide⟩) hW (fun _ m9 H locs hw hW => ?_)
    refine W.eq (g2 := F0 m 37 ls []) rfl ?_
    refine lv_iconst (v := (0 : Int32)) hx hb dX2_best_37 (by decide) ?_
    refine lv_istore (lv' := [(4, .int (0 : Int32)), (0, .ref (ad g v0)), (1, .int v1), (2, .int v2), (3, .int v3)]) hx hb dX2_best_38 hl (by decide) rfl (fun ls hl => ?_)
    obtain ⟨n, hw⟩ := hw
    exact L40  n (0 : Int32) m9 hw _ _ _ hW (lv_sub hl [1, 2, 0] rfl)
  unfold wp_X2_best_k at hw
  refine lv_aload_n hx hb dX2_best_0 rfl (lv_at hl 0 rfl) ?_
  refine R_getN (C := RX2) (T := TX2) (N := 9) hx hb hts i3 hown hK hW 7 hw.1 (by decide) rfl (by decide) (hts (.fieldLink RX2 45 "BoatLift$Planner" "known" "[J") (by decide +kernel)) (fun _ h => h) (fun _ _ _ => rfl) dX2_best_1 ?_
  have hw := hw.2
  refine R_ifnonnull (tgt := 16) hx hb dX2_best_4 (by decide) (fun c10 => ?_) (fun c10 => ?_)
  · have hw := hw.1 c10
    exact B16  m0 hw _ _ _ hW (lv_sub hl [0, 1, 2, 3] rfl)
  · have hw := hw.2 c10
    exact hw.elim

def wp_X6_bestPlan (m0 : Mm) (v0 : Nat) (Φ : Int64 → Mm → Prop) : Prop :=
  mT m0 v0 = 7 ∧ (mP m0 v0 3) ≠ 0 ∧ mT m0 v0 = 7 ∧ mT m0 v0 = 7 ∧ mT m0 v0 = 7 ∧ mT m0 (mP m0 v0 3) = 3 ∧ wp_X2_best m0 (mP m0 v0 3) (mI m0 v0 9) (mI m0 v0 10) (mI m0 v0 8) (fun (r1 : Int64) (m2 : Mm) => Φ r1 m2)
abbrev rm_X6_bestPlan : Room := { frames := 44, cells := 1, slots := 23296, locals := 1433 }
set_option maxHeartbeats 4000000 in
set_option maxRecDepth 100000 in
theorem c_X6_bestPlan (l : Launch) (g : Gv) (m0 : Mm) (v0 : Nat) (Φ : Int64 → Mm → Prop) (hw : wp_X6_bestPlan m0 v0 Φ) : Met l yX6_bestPlan wsX6_bestPlan rm_X6_bestPlan (PP g [.ref (ad g v0)] m0) (QQ g vL Φ) 1 23296 (Ag g) := by
  refine CT_of (by decide +kernel) rfl (Nat.le_of_ble_eq_true rfl) ?_
  intro p e s m below meth c hx hb hr hml hown hts hlk hnm hK hW ls hl
  have hown : s.vm.findClass RX6 = some m.cls := hown
  have hl : lv_has ls 1 [(0, .ref (ad g v0))] := hl
  have i7 : ∀ w ∈ u_ws RX6 TX6 15, w ∈ wsX6_bestPlan := by decide +kernel
  unfold wp_X6_bestPlan at hw
  refine lv_aload_n hx hb dX6_bestPlan_0 rfl (lv_at hl 0 rfl) ?_
  refine R_getP (C := RX6) (T := TX6) (N := 15) hx hb hts i7 hown hK hW 3 hw.1 (by decide) rfl (by decide) (hts (.fieldLink RX6 39 "BoatLift" "planner" "LBoatLift$Planner;") (by decide +kernel)) (fun _ h => h) (fun _ _ _ => rfl) hw.2.1 dX6_bestPlan_1 ?_
  have hw := hw.2.2
  refine lv_aload_n hx hb dX6_bestPlan_4 rfl (lv_at hl 0 rfl) ?_
  refine R_getI (C := RX6) (T := TX6) (N := 15) hx hb hts i7 hown hK hW 9 hw.1 (by decide) rfl (by decide) (hts (.fieldLink RX6 67 "BoatLift" "troughSide" "I") (by decide +kernel)) (fun _ h => h) (fun _ _ _ => rfl) dX6_bestPlan_5 ?_
  have hw := hw.2
  refine lv_aload_n hx hb dX6_bestPlan_8 rfl (lv_at hl 0 rfl) ?_
  refine R_getI (C := RX6) (T := TX6) (N := 15) hx hb hts i7 hown hK hW 10 hw.1 (by decide) rfl (by decide) (hts (.fieldLink RX6 149 "BoatLift" "freeFrom" "I") (by decide +kernel)) (fun _ h => h) (fun _ _ _ => rfl) dX6_bestPlan_9 ?_
  have hw := hw.2
  refine lv_aload_n hx hb dX6_bestPlan_12 rfl (lv_at hl 0 rfl) ?_
  refine R_getI (C := RX6) (T := TX6) (N := 15) hx hb hts i7 hown hK hW 8 hw.1 (by decide) rfl (by decide) (hts (.fieldLink RX6 63 "BoatLift" "troughLength" "I") (by decide +kernel)) (fun _ h => h) (fun _ _ _ => rfl) dX6_bestPlan_13 ?_
  have hw := hw.2
  refine R_call (va_runV (As := [.int (mI m0 v0 9), .int (mI m0 v0 10), .int (mI m0 v0 8)]) (rest := []) ⟨hx, hb, hml, hown, hts⟩ (c_X2_best l g m0 (mP m0 v0 3) (mI m0 v0 9) (mI m0 v0 10) (mI m0 v0 8) _ hw.2) (cwV 3 hts gX6_bestPlan_X2_best rfl rfl rfl (by decide +kernel) ⟨by decide, by decide⟩) (PP.preV (q := (RX2, TX2, 9)) hK hW hw.1 (by decide) rfl) rfl rfl hl.1 rfl (lv_room (Nat.le_of_ble_eq_true rfl)) dX6_bestPlan_16 ⟨by decide, by decide⟩) hW (fun r1 m2 H locs hw hW => ?_)
  refine W.eq (g2 := F0 m 19 ls [.long r1]) rfl ?_
  exact R_lret hx hb hr hlk hW hw dX6_bestPlan_19

def wp_X6_bestPlan_k (m0 : Mm) (v0 : Nat) (Φ : Int64 → Mm → Prop) : Prop :=
  mT m0 v0 = 7 ∧ (mP m0 v0 3) ≠ 0 ∧ mT m0 v0 = 7 ∧ mT m0 v0 = 7 ∧ mT m0 v0 = 7 ∧ mT m0 (mP m0 v0 3) = 3 ∧ wp_X2_best_k m0 (mP m0 v0 3) (mI m0 v0 9) (mI m0 v0 10) (mI m0 v0 8) (fun (r1 : Int64) (m2 : Mm) => Φ r1 m2)
abbrev rm_X6_bestPlan_k : Room := { frames := 44, cells := 0, slots := 0, locals := 1433 }
set_option maxHeartbeats 4000000 in
set_option maxRecDepth 100000 in
theorem c_X6_bestPlan_k (l : Launch) (g : Gv) (m0 : Mm) (v0 : Nat) (Φ : Int64 → Mm → Prop) (hw : wp_X6_bestPlan_k m0 v0 Φ) : Met l yX6_bestPlan wsX6_bestPlan rm_X6_bestPlan_k (PP g [.ref (ad g v0)] m0) (QQ g vL Φ) 0 0 (Ag g) := by
  refine CT_of (by decide +kernel) rfl (Nat.le_of_ble_eq_true rfl) ?_
  intro p e s m below meth c hx hb hr hml hown hts hlk hnm hK hW ls hl
  have hown : s.vm.findClass RX6 = some m.cls := hown
  have hl : lv_has ls 1 [(0, .ref (ad g v0))] := hl
  have i7 : ∀ w ∈ u_ws RX6 TX6 15, w ∈ wsX6_bestPlan := by decide +kernel
  unfold wp_X6_bestPlan_k at hw
  refine lv_aload_n hx hb dX6_bestPlan_0 rfl (lv_at hl 0 rfl) ?_
  refine R_getP (C := RX6) (T := TX6) (N := 15) hx hb hts i7 hown hK hW 3 hw.1 (by decide) rfl (by decide) (hts (.fieldLink RX6 39 "BoatLift" "planner" "LBoatLift$Planner;") (by decide +kernel)) (fun _ h => h) (fun _ _ _ => rfl) hw.2.1 dX6_bestPlan_1 ?_
  have hw := hw.2.2
  refine lv_aload_n hx hb dX6_bestPlan_4 rfl (lv_at hl 0 rfl) ?_
  refine R_getI (C := RX6) (T := TX6) (N := 15) hx hb hts i7 hown hK hW 9 hw.1 (by decide) rfl (by decide) (hts (.fieldLink RX6 67 "BoatLift" "troughSide" "I") (by decide +kernel)) (fun _ h => h) (fun _ _ _ => rfl) dX6_bestPlan_5 ?_
  have hw := hw.2
  refine lv_aload_n hx hb dX6_bestPlan_8 rfl (lv_at hl 0 rfl) ?_
  refine R_getI (C := RX6) (T := TX6) (N := 15) hx hb hts i7 hown hK hW 10 hw.1 (by decide) rfl (by decide) (hts (.fieldLink RX6 149 "BoatLift" "freeFrom" "I") (by decide +kernel)) (fun _ h => h) (fun _ _ _ => rfl) dX6_bestPlan_9 ?_
  have hw := hw.2
  refine lv_aload_n hx hb dX6_bestPlan_12 rfl (lv_at hl 0 rfl) ?_
  refine R_getI (C := RX6) (T := TX6) (N := 15) hx hb hts i7 hown hK hW 8 hw.1 (by decide) rfl (by decide) (hts (.fieldLink RX6 63 "BoatLift" "troughLength" "I") (by decide +kernel)) (fun _ h => h) (fun _ _ _ => rfl) dX6_bestPlan_13 ?_
  have hw := hw.2
  refine R_call (va_runV (As := [.int (mI m0 v0 9), .int (mI m0 v0 10), .int (mI m0 v0 8)]) (rest := []) ⟨hx, hb, hml, hown, hts⟩ (c_X2_best_k l g m0 (mP m0 v0 3) (mI m0 v0 9) (mI m0 v0 10) (mI m0 v0 8) _ hw.2) (cwV 3 hts gX6_bestPlan_X2_best rfl rfl rfl (by decide +kernel) ⟨by decide, by decide⟩) (PP.preV (q := (RX2, TX2, 9)) hK hW hw.1 (by decide) rfl) rfl rfl hl.1 rfl (lv_room (Nat.le_of_ble_eq_true rfl)) dX6_bestPlan_16 ⟨by decide, by decide⟩) hW (fun r1 m2 H locs hw hW => ?_)
  refine W.eq (g2 := F0 m 19 ls [.long r1]) rfl ?_
  exact R_lret hx hb hr hlk hW hw dX6_bestPlan_19

def wp_X6_plan (m0 : Mm) (v0 : Nat) (Φ : Int32 → Mm → Prop) : Prop :=
  mT m0 v0 = 7 ∧ wp_X6_gatherLeft m0 v0 (fun (r1 : Int32) (m2 : Mm) => ((r1 ≤ (6 : Int32) → ((¬ r1 = 0 → mT m2 v0 = 7 ∧ wp_X6_bestPlan m2 v0 (fun (r5 : Int64) (m6 : Mm) => wp_X2_waitsOf m6 r5 (fun (r7 : Int32) (m8 : Mm) => Φ r7 m8))) ∧ (r1 = 0 → Φ (0 : Int32) m2))) ∧ (¬ r1 ≤ (6 : Int32) → Φ (-2 : Int32) m2)))
abbrev rm_X6_plan : Room := { frames := 45, cells := 1, slots := 23296, locals := 1453 }
set_option maxHeartbeats 4000000 in
set_option maxRecDepth 100000 in
theorem c_X6_plan (l : Launch) (g : Gv) (m0 : Mm) (v0 : Nat) (Φ : Int32 → Mm → Prop) (hw : wp_X6_plan m0 v0 Φ) : Met l yX6_plan wsX6_plan rm_X6_plan (PP g [.ref (ad g v0)] m0) (QQ g vI Φ) 1 23296 (Ag g) := by
  refine CT_of (by decide +kernel) rfl (Nat.le_of_ble_eq_true rfl) ?_
  intro p e s m below meth c hx hb hr hml hown hts hlk hnm hK hW ls hl
  have hown : s.vm.findClass RX6 = some m.cls := hown
  have hl : lv_has ls 2 [(0, .ref (ad g v0))] := hl
  unfold wp_X6_plan at hw
  refine lv_aload_n hx hb dX6_plan_0 rfl (lv_at hl 0 rfl) ?_
  refine R_call (va_runV (As := []) (rest := []) ⟨hx, hb, hml, hown, hts⟩ (c_X6_gatherLeft l g m0 v0 _ hw.2) (cwV 0 hts gX6_plan_X6_gatherLeft rfl rfl rfl (by decide +kernel) ⟨by decide, by decide⟩) (PP.preV (q := (RX6, TX6, 15)) hK hW hw.1 (by decide) rfl) rfl rfl hl.1 rfl (lv_room (Nat.le_of_ble_eq_true rfl)) dX6_plan_1 ⟨by decide, by decide⟩) hW (fun r1 m2 H locs hw hW => ?_)
  refine W.eq (g2 := F0 m 4 ls [.int r1]) rfl ?_
  refine lv_istore_n (lv' := [(1, .int r1), (0, .ref (ad g v0))]) hx hb dX6_plan_4 rfl hl (by decide) rfl (fun ls hl => ?_)
  refine lv_iload_n hx hb dX6_plan_5 rfl (lv_at hl 0 rfl) ?_
  refine lv_bipush (v := (6 : Int32)) hx hb dX6_plan_6 (by decide) ?_
  refine lv_icmp_le (tgt := 14) hx hb dX6_plan_8 (by decide) (fun c3 => ?_) (fun c3 => ?_)
  · have hw := hw.1 c3
    refine lv_iload_n hx hb dX6_plan_14 rfl (lv_at hl 0 rfl) ?_
    refine lv_if_ne (tgt := 22) hx hb dX6_plan_15 (by decide) (fun c4 => ?_) (fun c4 => ?_)
    · have hw := hw.1 c4
      refine lv_aload_n hx hb dX6_plan_22 rfl (lv_at hl 1 rfl) ?_
      refine R_call (va_runV (As := []) (rest := []) ⟨hx, hb, hml, hown, hts⟩ (c_X6_bestPlan l g m2 v0 _ hw.2) (cwV 0 hts gX6_plan_X6_bestPlan rfl rfl rfl (by decide +kernel) ⟨by decide, by decide⟩) (PP.preV (q := (RX6, TX6, 15)) hK hW hw.1 (by decide) rfl) rfl rfl hl.1 rfl (lv_room (Nat.le_of_ble_eq_true rfl)) dX6_plan_23 ⟨by decide, by decide⟩) hW (fun r5 m6 H locs hw hW => ?_)
      refine W.eq (g2 := F0 m 26 ls [.long r5]) rfl ?_
      refine R_call (va_runS (As := [.long r5]) (rest := []) ⟨hx, hb, hml, hown, hts⟩ (c_X2_waitsOf l g m6 r5 _ hw) (va_cwS 1 hts gX6_plan_X2_waitsOf rfl rfl rfl (by decide +kernel) ⟨by decide, by decide⟩) (PP.pre hK hW) rfl rfl hl.1 rfl (lv_room (Nat.le_of_ble_eq_true rfl)) dX6_plan_26 ⟨by decide, by decide⟩) hW (fun r7 m8 H locs hw hW => ?_)
      refine W.eq (g2 := F0 m 29 ls [.int r7]) rfl ?_
      exact R_iret hx hb hr hlk hW hw dX6_plan_29
    · have hw := hw.2 c4
      refine lv_iconst (v := (0 : Int32)) hx hb dX6_plan_18 (by decide) ?_
      refine lv_goto (tgt := 29) hx hb dX6_plan_19 (by decide) ?_
      refine W.widen (k := 1) (n := 23296) (by decide) (by decide) ?_
      exact R_iret hx hb hr hlk hW hw dX6_plan_29
  · have hw := hw.2 c3
    refine lv_bipush (v := (-2 : Int32)) hx hb dX6_plan_11 (by decide) ?_
    refine W.widen (k := 1) (n := 23296) (by decide) (by decide) ?_
    exact R_iret hx hb hr hlk hW hw dX6_plan_13

def wp_X6_plan_k (m0 : Mm) (v0 : Nat) (Φ : Int32 → Mm → Prop) : Prop :=
  mT m0 v0 = 7 ∧ wp_X6_gatherLeft m0 v0 (fun (r1 : Int32) (m2 : Mm) => ((r1 ≤ (6 : Int32) → ((¬ r1 = 0 → mT m2 v0 = 7 ∧ wp_X6_bestPlan_k m2 v0 (fun (r5 : Int64) (m6 : Mm) => wp_X2_waitsOf m6 r5 (fun (r7 : Int32) (m8 : Mm) => Φ r7 m8))) ∧ (r1 = 0 → Φ (0 : Int32) m2))) ∧ (¬ r1 ≤ (6 : Int32) → Φ (-2 : Int32) m2)))
abbrev rm_X6_plan_k : Room := { frames := 45, cells := 0, slots := 0, locals := 1453 }
set_option maxHeartbeats 4000000 in
set_option maxRecDepth 100000 in
theorem c_X6_plan_k (l : Launch) (g : Gv) (m0 : Mm) (v0 : Nat) (Φ : Int32 → Mm → Prop) (hw : wp_X6_plan_k m0 v0 Φ) : Met l yX6_plan wsX6_plan rm_X6_plan_k (PP g [.ref (ad g v0)] m0) (QQ g vI Φ) 0 0 (Ag g) := by
  refine CT_of (by decide +kernel) rfl (Nat.le_of_ble_eq_true rfl) ?_
  intro p e s m below meth c hx hb hr hml hown hts hlk hnm hK hW ls hl
  have hown : s.vm.findClass RX6 = some m.cls := hown
  have hl : lv_has ls 2 [(0, .ref (ad g v0))] := hl
  unfold wp_X6_plan_k at hw
  refine lv_aload_n hx hb dX6_plan_0 rfl (lv_at hl 0 rfl) ?_
  refine R_call (va_runV (As := []) (rest := []) ⟨hx, hb, hml, hown, hts⟩ (c_X6_gatherLeft l g m0 v0 _ hw.2) (cwV 0 hts gX6_plan_X6_gatherLeft rfl rfl rfl (by decide +kernel) ⟨by decide, by decide⟩) (PP.preV (q := (RX6, TX6, 15)) hK hW hw.1 (by decide) rfl) rfl rfl hl.1 rfl (lv_room (Nat.le_of_ble_eq_true rfl)) dX6_plan_1 ⟨by decide, by decide⟩) hW (fun r1 m2 H locs hw hW => ?_)
  refine W.eq (g2 := F0 m 4 ls [.int r1]) rfl ?_
  refine lv_istore_n (lv' := [(1, .int r1), (0, .ref (ad g v0))]) hx hb dX6_plan_4 rfl hl (by decide) rfl (fun ls hl => ?_)
  refine lv_iload_n hx hb dX6_plan_5 rfl (lv_at hl 0 rfl) ?_
  refine lv_bipush (v := (6 : Int32)) hx hb dX6_plan_6 (by decide) ?_
  refine lv_icmp_le (tgt := 14) hx hb dX6_plan_8 (by decide) (fun c3 => ?_) (fun c3 => ?_)
  · have hw := hw.1 c3
    refine lv_iload_n hx hb dX6_plan_14 rfl (lv_at hl 0 rfl) ?_
    refine lv_if_ne (tgt := 22) hx hb dX6_plan_15 (by decide) (fun c4 => ?_) (fun c4 => ?_)
    · have hw := hw.1 c4
      refine lv_aload_n hx hb dX6_plan_22 rfl (lv_at hl 1 rfl) ?_
      refine R_call (va_runV (As := []) (rest := []) ⟨hx, hb, hml, hown, hts⟩ (c_X6_bestPlan_k l g m2 v0 _ hw.2) (cwV 0 hts gX6_plan_X6_bestPlan rfl rfl rfl (by decide +kernel) ⟨by decide, by decide⟩) (PP.preV (q := (RX6, TX6, 15)) hK hW hw.1 (by decide) rfl) rfl rfl hl.1 rfl (lv_room (Nat.le_of_ble_eq_true rfl)) dX6_plan_23 ⟨by decide, by decide⟩) hW (fun r5 m6 H locs hw hW => ?_)
      refine W.eq (g2 := F0 m 26 ls [.long r5]) rfl ?_
      refine R_call (va_runS (As := [.long r5]) (rest := []) ⟨hx, hb, hml, hown, hts⟩ (c_X2_waitsOf l g m6 r5 _ hw) (va_cwS 1 hts gX6_plan_X2_waitsOf rfl rfl rfl (by decide +kernel) ⟨by decide, by decide⟩) (PP.pre hK hW) rfl rfl hl.1 rfl (lv_room (Nat.le_of_ble_eq_true rfl)) dX6_plan_26 ⟨by decide, by decide⟩) hW (fun r7 m8 H locs hw hW => ?_)
      refine W.eq (g2 := F0 m 29 ls [.int r7]) rfl ?_
      exact R_iret hx hb hr hlk hW hw dX6_plan_29
    · have hw := hw.2 c4
      refine lv_iconst (v := (0 : Int32)) hx hb dX6_plan_18 (by decide) ?_
      refine lv_goto (tgt := 29) hx hb dX6_plan_19 (by decide) ?_
      exact R_iret hx hb hr hlk hW hw dX6_plan_29
  · have hw := hw.2 c3
    refine lv_bipush (v := (-2 : Int32)) hx hb dX6_plan_11 (by decide) ?_
    exact R_iret hx hb hr hlk hW hw dX6_plan_13

def wp_X6_ends (m0 : Mm) (v0 : Nat) (Φ : Int32 → Mm → Prop) : Prop :=
  mT m0 v0 = 7 ∧ wp_X6_gatherLeft m0 v0 (fun (r1 : Int32) (m2 : Mm) => ((r1 ≤ (6 : Int32) → ((¬ r1 = 0 → mT m2 v0 = 7 ∧ wp_X6_bestPlan m2 v0 (fun (r5 : Int64) (m6 : Mm) => wp_X2_endOf m6 r5 (fun (r7 : Int32) (m8 : Mm) => Φ r7 m8))) ∧ (r1 = 0 → Φ (-1 : Int32) m2))) ∧ (¬ r1 ≤ (6 : Int32) → Φ (-2 : Int32) m2)))
abbrev rm_X6_ends : Room := { frames := 45, cells := 1, slots := 23296, locals := 1453 }
set_option maxHeartbeats 4000000 in
set_option maxRecDepth 100000 in
theorem c_X6_ends (l : Launch) (g : Gv) (m0 : Mm) (v0 : Nat) (Φ : Int32 → Mm → Prop) (hw : wp_X6_ends m0 v0 Φ) : Met l yX6_ends wsX6_ends rm_X6_ends (PP g [.ref (ad g v0)] m0) (QQ g vI Φ) 1 23296 (Ag g) := by
  refine CT_of (by decide +kernel) rfl (Nat.le_of_ble_eq_true rfl) ?_
  intro p e s m below meth c hx hb hr hml hown hts hlk hnm hK hW ls hl
  have hown : s.vm.findClass RX6 = some m.cls := hown
  have hl : lv_has ls 2 [(0, .ref (ad g v0))] := hl
  unfold wp_X6_ends at hw
  refine lv_aload_n hx hb dX6_ends_0 rfl (lv_at hl 0 rfl) ?_
  refine R_call (va_runV (As := []) (rest := []) ⟨hx, hb, hml, hown, hts⟩ (c_X6_gatherLeft l g m0 v0 _ hw.2) (cwV 0 hts gX6_ends_X6_gatherLeft rfl rfl rfl (by decide +kernel) ⟨by decide, by decide⟩) (PP.preV (q := (RX6, TX6, 15)) hK hW hw.1 (by decide) rfl) rfl rfl hl.1 rfl (lv_room (Nat.le_of_ble_eq_true rfl)) dX6_ends_1 ⟨by decide, by decide⟩) hW (fun r1 m2 H locs hw hW => ?_)
  refine W.eq (g2 := F0 m 4 ls [.int r1]) rfl ?_
  refine lv_istore_n (lv' := [(1, .int r1), (0, .ref (ad g v0))]) hx hb dX6_ends_4 rfl hl (by decide) rfl (fun ls hl => ?_)
  refine lv_iload_n hx hb dX6_ends_5 rfl (lv_at hl 0 rfl) ?_
  refine lv_bipush (v := (6 : Int32)) hx hb dX6_ends_6 (by decide) ?_
  refine lv_icmp_le (tgt := 14) hx hb dX6_ends_8 (by decide) (fun c3 => ?_) (fun c3 => ?_)
  · have hw := hw.1 c3
    refine lv_iload_n hx hb dX6_ends_14 rfl (lv_at hl 0 rfl) ?_
    refine lv_if_ne (tgt := 22) hx hb dX6_ends_15 (by decide) (fun c4 => ?_) (fun c4 => ?_)
    · have hw := hw.1 c4
      refine lv_aload_n hx hb dX6_ends_22 rfl (lv_at hl 1 rfl) ?_
      refine R_call (va_runV (As := []) (rest := []) ⟨hx, hb, hml, hown, hts⟩ (c_X6_bestPlan l g m2 v0 _ hw.2) (cwV 0 hts gX6_ends_X6_bestPlan rfl rfl rfl (by decide +kernel) ⟨by decide, by decide⟩) (PP.preV (q := (RX6, TX6, 15)) hK hW hw.1 (by decide) rfl) rfl rfl hl.1 rfl (lv_room (Nat.le_of_ble_eq_true rfl)) dX6_ends_23 ⟨by decide, by decide⟩) hW (fun r5 m6 H locs hw hW => ?_)
      refine W.eq (g2 := F0 m 26 ls [.long r5]) rfl ?_
      refine R_call (va_runS (As := [.long r5]) (rest := []) ⟨hx, hb, hml, hown, hts⟩ (c_X2_endOf l g m6 r5 _ hw) (va_cwS 1 hts gX6_ends_X2_endOf rfl rfl rfl (by decide +kernel) ⟨by decide, by decide⟩) (PP.pre hK hW) rfl rfl hl.1 rfl (lv_room (Nat.le_of_ble_eq_true rfl)) dX6_ends_26 ⟨by decide, by decide⟩) hW (fun r7 m8 H locs hw hW => ?_)
      refine W.eq (g2 := F0 m 29 ls [.int r7]) rfl ?_
      exact R_iret hx hb hr hlk hW hw dX6_ends_29
    · have hw := hw.2 c4
      refine lv_iconst (v := (-1 : Int32)) hx hb dX6_ends_18 (by decide) ?_
      refine lv_goto (tgt := 29) hx hb dX6_ends_19 (by decide) ?_
      refine W.widen (k := 1) (n := 23296) (by decide) (by decide) ?_
      exact R_iret hx hb hr hlk hW hw dX6_ends_29
  · have hw := hw.2 c3
    refine lv_bipush (v := (-2 : Int32)) hx hb dX6_ends_11 (by decide) ?_
    refine W.widen (k := 1) (n := 23296) (by decide) (by decide) ?_
    exact R_iret hx hb hr hlk hW hw dX6_ends_13

def wp_X6_ends_k (m0 : Mm) (v0 : Nat) (Φ : Int32 → Mm → Prop) : Prop :=
  mT m0 v0 = 7 ∧ wp_X6_gatherLeft m0 v0 (fun (r1 : Int32) (m2 : Mm) => ((r1 ≤ (6 : Int32) → ((¬ r1 = 0 → mT m2 v0 = 7 ∧ wp_X6_bestPlan_k m2 v0 (fun (r5 : Int64) (m6 : Mm) => wp_X2_endOf m6 r5 (fun (r7 : Int32) (m8 : Mm) => Φ r7 m8))) ∧ (r1 = 0 → Φ (-1 : Int32) m2))) ∧ (¬ r1 ≤ (6 : Int32) → Φ (-2 : Int32) m2)))
abbrev rm_X6_ends_k : Room := { frames := 45, cells := 0, slots := 0, locals := 1453 }
set_option maxHeartbeats 4000000 in
set_option maxRecDepth 100000 in
theorem c_X6_ends_k (l : Launch) (g : Gv) (m0 : Mm) (v0 : Nat) (Φ : Int32 → Mm → Prop) (hw : wp_X6_ends_k m0 v0 Φ) : Met l yX6_ends wsX6_ends rm_X6_ends_k (PP g [.ref (ad g v0)] m0) (QQ g vI Φ) 0 0 (Ag g) := by
  refine CT_of (by decide +kernel) rfl (Nat.le_of_ble_eq_true rfl) ?_
  intro p e s m below meth c hx hb hr hml hown hts hlk hnm hK hW ls hl
  have hown : s.vm.findClass RX6 = some m.cls := hown
  have hl : lv_has ls 2 [(0, .ref (ad g v0))] := hl
  unfold wp_X6_ends_k at hw
  refine lv_aload_n hx hb dX6_ends_0 rfl (lv_at hl 0 rfl) ?_
  refine R_call (va_runV (As := []) (rest := []) ⟨hx, hb, hml, hown, hts⟩ (c_X6_gatherLeft l g m0 v0 _ hw.2) (cwV 0 hts gX6_ends_X6_gatherLeft rfl rfl rfl (by decide +kernel) ⟨by decide, by decide⟩) (PP.preV (q := (RX6, TX6, 15)) hK hW hw.1 (by decide) rfl) rfl rfl hl.1 rfl (lv_room (Nat.le_of_ble_eq_true rfl)) dX6_ends_1 ⟨by decide, by decide⟩) hW (fun r1 m2 H locs hw hW => ?_)
  refine W.eq (g2 := F0 m 4 ls [.int r1]) rfl ?_
  refine lv_istore_n (lv' := [(1, .int r1), (0, .ref (ad g v0))]) hx hb dX6_ends_4 rfl hl (by decide) rfl (fun ls hl => ?_)
  refine lv_iload_n hx hb dX6_ends_5 rfl (lv_at hl 0 rfl) ?_
  refine lv_bipush (v := (6 : Int32)) hx hb dX6_ends_6 (by decide) ?_
  refine lv_icmp_le (tgt := 14) hx hb dX6_ends_8 (by decide) (fun c3 => ?_) (fun c3 => ?_)
  · have hw := hw.1 c3
    refine lv_iload_n hx hb dX6_ends_14 rfl (lv_at hl 0 rfl) ?_
    refine lv_if_ne (tgt := 22) hx hb dX6_ends_15 (by decide) (fun c4 => ?_) (fun c4 => ?_)
    · have hw := hw.1 c4
      refine lv_aload_n hx hb dX6_ends_22 rfl (lv_at hl 1 rfl) ?_
      refine R_call (va_runV (As := []) (rest := []) ⟨hx, hb, hml, hown, hts⟩ (c_X6_bestPlan_k l g m2 v0 _ hw.2) (cwV 0 hts gX6_ends_X6_bestPlan rfl rfl rfl (by decide +kernel) ⟨by decide, by decide⟩) (PP.preV (q := (RX6, TX6, 15)) hK hW hw.1 (by decide) rfl) rfl rfl hl.1 rfl (lv_room (Nat.le_of_ble_eq_true rfl)) dX6_ends_23 ⟨by decide, by decide⟩) hW (fun r5 m6 H locs hw hW => ?_)
      refine W.eq (g2 := F0 m 26 ls [.long r5]) rfl ?_
      refine R_call (va_runS (As := [.long r5]) (rest := []) ⟨hx, hb, hml, hown, hts⟩ (c_X2_endOf l g m6 r5 _ hw) (va_cwS 1 hts gX6_ends_X2_endOf rfl rfl rfl (by decide +kernel) ⟨by decide, by decide⟩) (PP.pre hK hW) rfl rfl hl.1 rfl (lv_room (Nat.le_of_ble_eq_true rfl)) dX6_ends_26 ⟨by decide, by decide⟩) hW (fun r7 m8 H locs hw hW => ?_)
      refine W.eq (g2 := F0 m 29 ls [.int r7]) rfl ?_
      exact R_iret hx hb hr hlk hW hw dX6_ends_29
    · have hw := hw.2 c4
      refine lv_iconst (v := (-1 : Int32)) hx hb dX6_ends_18 (by decide) ?_
      refine lv_goto (tgt := 29) hx hb dX6_ends_19 (by decide) ?_
      exact R_iret hx hb hr hlk hW hw dX6_ends_29
  · have hw := hw.2 c3
    refine lv_bipush (v := (-2 : Int32)) hx hb dX6_ends_11 (by decide) ?_
    exact R_iret hx hb hr hlk hW hw dX6_ends_13
