def wp_X7_queues_131 (K8 : Int32 → Mm → Prop) (v0 : Nat) (v1 : Int32) (v2 : Int32) (v3 : Int32) (v4 : Int32) (mm : Mm) (Φ : Unit → Mm → Prop) : Prop :=
  K8 (v4 + (1 : Int32)) mm
def wp_X7_queues_112 (K8 : Int32 → Mm → Prop) (v0 : Nat) (v1 : Int32) (v2 : Int32) (v3 : Int32) (v4 : Int32) (v5 : Int32) (mm : Mm) (Φ : Unit → Mm → Prop) : Prop :=
  mT mm v0 = 8 ∧ (mP mm v0 23) ≠ 0 ∧ mT mm (mP mm v0 23) = 9 ∧ vp_in v5 (mN mm (mP mm v0 23)) ∧ ∀ m1 : Mm, m1 = sI mm (mP mm v0 23) v5.toNatClampNeg v4 → mT m1 v0 = 8 ∧ mT m1 v0 = 8 ∧ ∀ m2 : Mm, m2 = sI m1 v0 22 ((mI m1 v0 22) + (1 : Int32)) → wp_X7_queues_131 K8 v0 v1 v2 v3 v4 m2 Φ
def wp_X7_queues_67 (K8 : Int32 → Mm → Prop) (K67 : Int32 → Mm → Prop) (v0 : Nat) (v1 : Int32) (v2 : Int32) (v3 : Int32) (v4 : Int32) (v5 : Int32) (mm : Mm) (Φ : Unit → Mm → Prop) : Prop :=
  ((v5 ≤ 0 → wp_X7_queues_112 K8 v0 v1 v2 v3 v4 v5 mm Φ) ∧ (¬ v5 ≤ 0 → mT mm v0 = 8 ∧ (mP mm v0 23) ≠ 0 ∧ mT mm (mP mm v0 23) = 9 ∧ vp_in (v5 - (1 : Int32)) (mN mm (mP mm v0 23)) ∧ mT mm v0 = 8 ∧ wp_X7_isAhead mm v0 v4 (mI mm (mP mm v0 23) (v5 - (1 : Int32)).toNatClampNeg) (fun (r4 : Int32) (m5 : Mm) => ((r4 = 0 → wp_X7_queues_112 K8 v0 v1 v2 v3 v4 v5 m5 Φ) ∧ (¬ r4 = 0 → mT m5 v0 = 8 ∧ (mP m5 v0 23) ≠ 0 ∧ mT m5 v0 = 8 ∧ (mP m5 v0 23) ≠ 0 ∧ mT m5 (mP m5 v0 23) = 9 ∧ vp_in (v5 - (1 : Int32)) (mN m5 (mP m5 v0 23)) ∧ mT m5 (mP m5 v0 23) = 9 ∧ vp_in v5 (mN m5 (mP m5 v0 23)) ∧ ∀ m7 : Mm, m7 = sI m5 (mP m5 v0 23) v5.toNatClampNeg (mI m5 (mP m5 v0 23) (v5 - (1 : Int32)).toNatClampNeg) → K67 (v5 + (-1 : Int32)) m7)))))
def wp_X7_queues_8 (K8 : Int32 → Mm → Prop) (v0 : Nat) (v1 : Int32) (v2 : Int32) (v3 : Int32) (v4 : Int32) (mm : Mm) (Φ : Unit → Mm → Prop) : Prop :=
  mT mm v0 = 8 ∧ (((mI mm v0 7) ≤ v4 → Φ () mm) ∧ (¬ (mI mm v0 7) ≤ v4 → mT mm v0 = 8 ∧ (mP mm v0 15) ≠ 0 ∧ mT mm (mP mm v0 15) = 9 ∧ vp_in v4 (mN mm (mP mm v0 15)) ∧ ((¬ (mI mm (mP mm v0 15) v4.toNatClampNeg) = v1 → wp_X7_queues_131 K8 v0 v1 v2 v3 v4 mm Φ) ∧ ((mI mm (mP mm v0 15) v4.toNatClampNeg) = v1 → mT mm v0 = 8 ∧ (mP mm v0 16) ≠ 0 ∧ mT mm (mP mm v0 16) = 9 ∧ vp_in v4 (mN mm (mP mm v0 16)) ∧ ((v2 < (mI mm (mP mm v0 16) v4.toNatClampNeg) → wp_X7_queues_131 K8 v0 v1 v2 v3 v4 mm Φ) ∧ (¬ v2 < (mI mm (mP mm v0 16) v4.toNatClampNeg) → mT mm v0 = 8 ∧ wp_X7_isLeft mm v0 v4 (fun (r11 : Int32) (m12 : Mm) => ((r11 = 0 → wp_X7_queues_131 K8 v0 v1 v2 v3 v4 m12 Φ) ∧ (¬ r11 = 0 → ((¬ ((v3 >>> (v4 &&& 31)) &&& (1 : Int32)) = (1 : Int32) → mT m12 v0 = 8 ∧ ∃ n, LOp (fun K x => wp_X7_queues_67 K8 (fun z0 z1 => K (z0, z1)) v0 v1 v2 v3 v4 x.1 x.2 Φ) n ((mI m12 v0 22), m12)) ∧ (((v3 >>> (v4 &&& 31)) &&& (1 : Int32)) = (1 : Int32) → wp_X7_queues_131 K8 v0 v1 v2 v3 v4 m12 Φ)))))))))))
def wp_X7_queues (m0 : Mm) (v0 : Nat) (v1 : Int32) (v2 : Int32) (v3 : Int32) (Φ : Unit → Mm → Prop) : Prop :=
  mT m0 v0 = 8 ∧ ∀ m15 : Mm, m15 = sI m0 v0 22 (0 : Int32) → ∃ n, LOp (fun K x => wp_X7_queues_8  (fun z0 z1 => K (z0, z1)) v0 v1 v2 v3 x.1 x.2 Φ) n ((0 : Int32), m15)
abbrev rm_X7_queues : Room := { frames := 5, cells := 0, slots := 0, locals := 107 }
set_option maxHeartbeats 4000000 in
set_option maxRecDepth 100000 in
theorem c_X7_queues (l : Launch) (g : Gv) (m0 : Mm) (v0 : Nat) (v1 : Int32) (v2 : Int32) (v3 : Int32) (Φ : Unit → Mm → Prop) (hw : wp_X7_queues m0 v0 v1 v2 v3 Φ) : Met l yX7_queues wsX7_queues rm_X7_queues (PP g [.ref (ad g v0), .int v1, .int v2, .int v3] m0) (QQ g vV Φ) 0 0 (Ag g) := by
  refine CT_of (by decide +kernel) rfl (Nat.le_of_ble_eq_true rfl) ?_
  intro p e s m below meth c hx hb hr hml hown hts hlk hnm hK hW ls hl
  have hown : s.vm.findClass RX7 = some m.cls := hown
  have hl : lv_has ls 6 [(0, .ref (ad g v0)), (1, .int v1), (2, .int v2), (3, .int v3)] := hl
  have i8 : ∀ w ∈ u_ws RX7 TX7 36, w ∈ wsX7_queues := by decide +kernel
  have L8 : ∀ (n : Nat) (v4 : Int32) (mm : Mm), LOp (fun K x => wp_X7_queues_8  (fun z0 z1 => K (z0, z1)) v0 v1 v2 v3 x.1 x.2 Φ) n (v4, mm) → WW p l e rm_X7_queues s m ([.ref (ad g v0), .int v1, .int v2, .int v3] : List Value).toArray below meth c (MQ below (QQ g vV Φ) ([.ref (ad g v0), .int v1, .int v2, .int v3] : List Value).toArray s 0 0 (Ag g)) g mm 6 0 0 8 [(0, .ref (ad g v0)), (1, .int v1), (2, .int v2), (3, .int v3), (4, .int v4)] [] := by
    intro  n
    induction n with
    | zero => intro v4 mm hw; exact hw.elim
    | succ n ih8 =>
      obtain ⟨K8, eK8⟩ : ∃ K : Int32 → Mm → Prop, K = fun v4 mm => LOp (fun K x => wp_X7_queues_8  (fun z0 z1 => K (z0, z1)) v0 v1 v2 v3 x.1 x.2 Φ) n (v4, mm) := ⟨_, rfl⟩
      have ih8 : ∀ (v4 : Int32) (mm : Mm), K8 v4 mm → WW p l e rm_X7_queues s m ([.ref (ad g v0), .int v1, .int v2, .int v3] : List Value).toArray below meth c (MQ below (QQ g vV Φ) ([.ref (ad g v0), .int v1, .int v2, .int v3] : List Value).toArray s 0 0 (Ag g)) g mm 6 0 0 8 [(0, .ref (ad g v0)), (1, .int v1), (2, .int v2), (3, .int v3), (4, .int v4)] [] := by rw [eK8]; exact ih8
      have B131 : ∀ (v4 : Int32) (mm : Mm), wp_X7_queues_131 K8 v0 v1 v2 v3 v4 mm Φ → WW p l e rm_X7_queues s m ([.ref (ad g v0), .int v1, .int v2, .int v3] : List Value).toArray below meth c (MQ below (QQ g vV Φ) ([.ref (ad g v0), .int v1, .int v2, .int v3] : List Value).toArray s 0 0 (Ag g)) g mm 6 0 0 131 [(0, .ref (ad g v0)), (1, .int v1), (2, .int v2), (3, .int v3), (4, .int v4)] [] := by
        intro v4 mm hw H locs ls hW hl
        unfold wp_X7_queues_131 at hw
        refine lv_iinc (v := (v4 + (1 : Int32))) (lv' := [(4, .int (v4 + (1 : Int32))), (0, .ref (ad g v0)), (1, .int v1), (2, .int v2), (3, .int v3)]) hx hb dX7_queues_131 hl (k := 4) rfl rfl (by decide) rfl (fun ls hl => ?_)
        refine lv_goto (tgt := 8) hx hb dX7_queues_134 (by decide) ?_
        exact ih8 (v4 + (1 : Int32)) mm hw _ _ _ hW (lv_sub hl [1, 2, 3, 4, 0] rfl)
      have B112 : ∀ (v4 : Int32) (v5 : Int32) (mm : Mm), wp_X7_queues_112 K8 v0 v1 v2 v3 v4 v5 mm Φ → WW p l e rm_X7_queues s m ([.ref (ad g v0), .int v1, .int v2, .int v3] : List Value).toArray below meth c (MQ below (QQ g vV Φ) ([.ref (ad g v0), .int v1, .int v2, .int v3] : List Value).toArray s 0 0 (Ag g)) g mm 6 0 0 112 [(0, .ref (ad g v0)), (1, .int v1), (2, .int v2), (3, .int v3), (4, .int v4), (5, .int v5)] [] := by
        intro v4 v5 mm hw H locs ls hW hl
        unfold wp_X7_queues_112 at hw
        refine lv_aload_n hx hb dX7_queues_112 rfl (lv_at hl 0 rfl) ?_
        refine R_getP (C := RX7) (T := TX7) (N := 36) hx hb hts i8 hown hK hW 23 hw.1 (by decide) rfl (by decide) (hts (.fieldLink RX7 58 "BoatLiftModel" "queue" "[I") (by decide +kernel)) (fun _ h => h) (fun _ _ _ => rfl) hw.2.1 dX7_queues_113 ?_
        have hw := hw.2.2
        refine lv_iload hx hb dX7_queues_116 (lv_at hl 5 rfl) ?_
        refine lv_iload hx hb dX7_queues_118 (lv_at hl 4 rfl) ?_
        refine R_iast hx hb hK hW hw.1 hw.2.1 dX7_queues_120 (fun H locs hW => ?_)
        obtain ⟨m1, em1⟩ : ∃ z, z = sI mm (mP mm v0 23) v5.toNatClampNeg v4 := ⟨_, rfl⟩
        rw [← em1] at hW
        have hw := hw.2.2 m1 em1
        refine lv_aload_n hx hb dX7_queues_121 rfl (lv_at hl 0 rfl) ?_
        refine lv_dup hx hb dX7_queues_122 rfl ?_
        refine R_getI (C := RX7) (T := TX7) (N := 36) hx hb hts i8 hown hK hW 22 hw.1 (by decide) rfl (by decide) (hts (.fieldLink RX7 144 "BoatLiftModel" "queued" "I") (by decide +kernel)) (fun _ h => h) (fun _ _ _ => rfl) dX7_queues_123 ?_
        have hw := hw.2
        refine lv_iconst (v := (1 : Int32)) hx hb dX7_queues_126 (by decide) ?_
        refine lv_iadd hx hb dX7_queues_127 ?_
        refine R_putI (C := RX7) (T := TX7) (N := 36) hx hb hts i8 tyX7 tyX7_ok nmX7 hown hK hW 22 hw.1 (by decide) rfl (by decide) (hts (.fieldLink RX7 144 "BoatLiftModel" "queued" "I") (by decide +kernel)) (fun _ h => h) (Or.inl rfl) rfl (fun _ _ _ => rfl) (fun _ _ _ => rfl) dX7_queues_128 (fun H locs hW => ?_)
        obtain ⟨m2, em2⟩ : ∃ z, z = sI m1 v0 22 ((mI m1 v0 22) + (1 : Int32)) := ⟨_, rfl⟩
        rw [← em2] at hW
        have hw := hw.2 m2 em2
        exact B131 v4 m2 hw _ _ _ hW (lv_sub hl [0, 1, 2, 3, 4] rfl)
      have L67 : ∀ (v4 : Int32) (n : Nat) (v5 : Int32) (mm : Mm), LOp (fun K x => wp_X7_queues_67 K8 (fun z0 z1 => K (z0, z1)) v0 v1 v2 v3 v4 x.1 x.2 Φ) n (v5, mm) → WW p l e rm_X7_queues s m ([.ref (ad g v0), .int v1, .int v2, .int v3] : List Value).toArray below meth c (MQ below (QQ g vV Φ) ([.ref (ad g v0), .int v1, .int v2, .int v3] : List Value).toArray s 0 0 (Ag g)) g mm 6 0 0 67 [(0, .ref (ad g v0)), (1, .int v1), (2, .int v2), (3, .int v3), (4, .int v4), (5, .int v5)] [] := by
        intro v4 n
        induction n with
        | zero => intro v5 mm hw; exact hw.elim
        | succ n ih67 =>
          obtain ⟨K67, eK67⟩ : ∃ K : Int32 → Mm → Prop, K = fun v5 mm => LOp (fun K x => wp_X7_queues_67 K8 (fun z0 z1 => K (z0, z1)) v0 v1 v2 v3 v4 x.1 x.2 Φ) n (v5, mm) := ⟨_, rfl⟩
          have ih67 : ∀ (v5 : Int32) (mm : Mm), K67 v5 mm → WW p l e rm_X7_queues s m ([.ref (ad g v0), .int v1, .int v2, .int v3] : List Value).toArray below meth c (MQ below (QQ g vV Φ) ([.ref (ad g v0), .int v1, .int v2, .int v3] : List Value).toArray s 0 0 (Ag g)) g mm 6 0 0 67 [(0, .ref (ad g v0)), (1, .int v1), (2, .int v2), (3, .int v3), (4, .int v4), (5, .int v5)] [] := by rw [eK67]; exact ih67
          intro v5 mm hw H locs ls hW hl
          have hw : wp_X7_queues_67 K8 K67 v0 v1 v2 v3 v4 v5 mm Φ := by rw [eK67]; exact hw
          unfold wp_X7_queues_67 at hw
          refine lv_iload hx hb dX7_queues_67 (lv_at hl 5 rfl) ?_
          refine lv_if_le (tgt := 112) hx hb dX7_queues_69 (by decide) (fun c3 => ?_) (fun c3 => ?_)
          · have hw := hw.1 c3
            exact B112 v4 v5 mm hw _ _ _ hW (lv_sub hl [0, 1, 2, 3, 4, 5] rfl)
          · have hw := hw.2 c3
            refine lv_aload_n hx hb dX7_queues_72 rfl (lv_at hl 0 rfl) ?_
            refine lv_iload hx hb dX7_queues_73 (lv_at hl 4 rfl) ?_
            refine lv_aload_n hx hb dX7_queues_75 rfl (lv_at hl 0 rfl) ?_
            refine R_getP (C := RX7) (T := TX7) (N := 36) hx hb hts i8 hown hK hW 23 hw.1 (by decide) rfl (by decide) (hts (.fieldLink RX7 58 "BoatLiftModel" "queue" "[I") (by decide +kernel)) (fun _ h => h) (fun _ _ _ => rfl) hw.2.1 dX7_queues_76 ?_
            have hw := hw.2.2
            refine lv_iload hx hb dX7_queues_79 (lv_at hl 5 rfl) ?_
            refine lv_iconst (v := (1 : Int32)) hx hb dX7_queues_81 (by decide) ?_
            refine lv_isub hx hb dX7_queues_82 ?_
            refine R_iald hx hb hK hW hw.1 hw.2.1 dX7_queues_83 ?_
            have hw := hw.2.2
            refine R_call (va_runV (As := [.int v4, .int (mI mm (mP mm v0 23) (v5 - (1 : Int32)).toNatClampNeg)]) (rest := []) ⟨hx, hb, hml, hown, hts⟩ (c_X7_isAhead l g mm v0 v4 (mI mm (mP mm v0 23) (v5 - (1 : Int32)).toNatClampNeg) _ hw.2) (cwV 2 hts gX7_queues_X7_isAhead rfl rfl rfl (by decide +kernel) ⟨by decide, by decide⟩) (PP.preV (q := (RX7, TX7, 36)) hK hW hw.1 (by decide) rfl) rfl rfl hl.1 rfl (lv_room (Nat.le_of_ble_eq_true rfl)) dX7_queues_84 ⟨by decide, by decide⟩) hW (fun r4 m5 H locs hw hW => ?_)
            refine W.eq (g2 := F0 m 87 ls [.int r4]) rfl ?_
            refine lv_if_eq (tgt := 112) hx hb dX7_queues_87 (by decide) (fun c6 => ?_) (fun c6 => ?_)
            · have hw := hw.1 c6
              exact B112 v4 v5 m5 hw _ _ _ hW (lv_sub hl [0, 1, 2, 3, 4, 5] rfl)
            · have hw := hw.2 c6
              refine lv_aload_n hx hb dX7_queues_90 rfl (lv_at hl 0 rfl) ?_
              refine R_getP (C := RX7) (T := TX7) (N := 36) hx hb hts i8 hown hK hW 23 hw.1 (by decide) rfl (by decide) (hts (.fieldLink RX7 58 "BoatLiftModel" "queue" "[I") (by decide +kernel)) (fun _ h => h) (fun _ _ _ => rfl) hw.2.1 dX7_queues_91 ?_
              have hw := hw.2.2
              refine lv_iload hx hb dX7_queues_94 (lv_at hl 5 rfl) ?_
              refine lv_aload_n hx hb dX7_queues_96 rfl (lv_at hl 0 rfl) ?_
              refine R_getP (C := RX7) (T := TX7) (N := 36) hx hb hts i8 hown hK hW 23 hw.1 (by decide) rfl (by decide) (hts (.fieldLink RX7 58 "BoatLiftModel" "queue" "[I") (by decide +kernel)) (fun _ h => h) (fun _ _ _ => rfl) hw.2.1 dX7_queues_97 ?_
              have hw := hw.2.2
              refine lv_iload hx hb dX7_queues_100 (lv_at hl 5 rfl) ?_
              refine lv_iconst (v := (1 : Int32)) hx hb dX7_queues_102 (by decide) ?_
              refine lv_isub hx hb dX7_queues_103 ?_
              refine R_iald hx hb hK hW hw.1 hw.2.1 dX7_queues_104 ?_
              have hw := hw.2.2
              refine R_iast hx hb hK hW hw.1 hw.2.1 dX7_queues_105 (fun H locs hW => ?_)
              obtain ⟨m7, em7⟩ : ∃ z, z = sI m5 (mP m5 v0 23) v5.toNatClampNeg (mI m5 (mP m5 v0 23) (v5 - (1 : Int32)).toNatClampNeg) := ⟨_, rfl⟩
              rw [← em7] at hW
              have hw := hw.2.2 m7 em7
              refine lv_iinc (v := (v5 + (-1 : Int32))) (lv' := [(5, .int (v5 + (-1 : Int32))), (0, .ref (ad g v0)), (1, .int v1), (2, .int v2), (3, .int v3), (4, .int v4)]) hx hb dX7_queues_106 hl (k := 5) rfl rfl (by decide) rfl (fun ls hl => ?_)
              refine lv_goto (tgt := 67) hx hb dX7_queues_109 (by decide) ?_
              exact ih67 (v5 + (-1 : Int32)) m7 hw _ _ _ hW (lv_sub hl [1, 2, 3, 4, 5, 0] rfl)
      intro v4 mm hw H locs ls hW hl
      have hw : wp_X7_queues_8 K8 v0 v1 v2 v3 v4 mm Φ := by rw [eK8]; exact hw
      unfold wp_X7_queues_8 at hw
      refine lv_iload hx hb dX7_queues_8 (lv_at hl 4 rfl) ?_
      refine lv_aload_n hx hb dX7_queues_10 rfl (lv_at hl 0 rfl) ?_
      refine R_getI (C := RX7) (T := TX7) (N := 36) hx hb hts i8 hown hK hW 7 hw.1 (by decide) rfl (by decide) (hts (.fieldLink RX7 126 "BoatLiftModel" "boats" "I") (by decide +kernel)) (fun _ h => h) (fun _ _ _ => rfl) dX7_queues_11 ?_
      have hw := hw.2
      refine lv_icmp_ge (tgt := 137) hx hb dX7_queues_14 (by decide) (fun c8 => ?_) (fun c8 => ?_)
      · have hw := hw.1 c8
        exact R_vret hx hb hr hlk hW hw dX7_queues_137
      · have hw := hw.2 c8
        refine lv_aload_n hx hb dX7_queues_17 rfl (lv_at hl 0 rfl) ?_
        refine R_getP (C := RX7) (T := TX7) (N := 36) hx hb hts i8 hown hK hW 15 hw.1 (by decide) rfl (by decide) (hts (.fieldLink RX7 37 "BoatLiftModel" "at" "[I") (by decide +kernel)) (fun _ h => h) (fun _ _ _ => rfl) hw.2.1 dX7_queues_18 ?_
        have hw := hw.2.2
        refine lv_iload hx hb dX7_queues_21 (lv_at hl 4 rfl) ?_
        refine R_iald hx hb hK hW hw.1 hw.2.1 dX7_queues_23 ?_
        have hw := hw.2.2
        refine lv_iload_n hx hb dX7_queues_24 rfl (lv_at hl 1 rfl) ?_
        refine lv_icmp_ne (tgt := 131) hx hb dX7_queues_25 (by decide) (fun c9 => ?_) (fun c9 => ?_)
        · have hw := hw.1 c9
          exact B131 v4 mm hw _ _ _ hW (lv_sub hl [0, 1, 2, 3, 4] rfl)
        · have hw := hw.2 c9
          refine lv_aload_n hx hb dX7_queues_28 rfl (lv_at hl 0 rfl) ?_
          refine R_getP (C := RX7) (T := TX7) (N := 36) hx hb hts i8 hown hK hW 16 hw.1 (by decide) rfl (by decide) (hts (.fieldLink RX7 40 "BoatLiftModel" "there" "[I") (by decide +kernel)) (fun _ h => h) (fun _ _ _ => rfl) hw.2.1 dX7_queues_29 ?_
          have hw := hw.2.2
          refine lv_iload hx hb dX7_queues_32 (lv_at hl 4 rfl) ?_
          refine R_iald hx hb hK hW hw.1 hw.2.1 dX7_queues_34 ?_
          have hw := hw.2.2
          refine lv_iload_n hx hb dX7_queues_35 rfl (lv_at hl 2 rfl) ?_
          refine lv_icmp_gt (tgt := 131) hx hb dX7_queues_36 (by decide) (fun c10 => ?_) (fun c10 => ?_)
          · have hw := hw.1 c10
            exact B131 v4 mm hw _ _ _ hW (lv_sub hl [0, 1, 2, 3, 4] rfl)
          · have hw := hw.2 c10
            refine lv_aload_n hx hb dX7_queues_39 rfl (lv_at hl 0 rfl) ?_
            refine lv_iload hx hb dX7_queues_40 (lv_at hl 4 rfl) ?_
            refine R_call (va_runV (As := [.int v4]) (rest := []) ⟨hx, hb, hml, hown, hts⟩ (c_X7_isLeft l g mm v0 v4 _ hw.2) (cwV 1 hts gX7_queues_X7_isLeft rfl rfl rfl (by decide +kernel) ⟨by decide, by decide⟩) (PP.preV (q := (RX7, TX7, 36)) hK hW hw.1 (by decide) rfl) rfl rfl hl.1 rfl (lv_room (Nat.le_of_ble_eq_true rfl)) dX7_queues_42 ⟨by decide, by decide⟩) hW (fun r11 m12 H locs hw hW => ?_)
            refine W.eq (g2 := F0 m 45 ls [.int r11]) rfl ?_
            refine lv_if_eq (tgt := 131) hx hb dX7_queues_45 (by decide) (fun c13 => ?_) (fun c13 => ?_)
            · have hw := hw.1 c13
              exact B131 v4 m12 hw _ _ _ hW (lv_sub hl [0, 1, 2, 3, 4] rfl)
            · have hw := hw.2 c13
              refine lv_iload_n hx hb dX7_queues_48 rfl (lv_at hl 3 rfl) ?_
              refine lv_iload hx hb dX7_queues_49 (lv_at hl 4 rfl) ?_
              refine lv_ishr hx hb dX7_queues_51 ?_
              refine lv_iconst (v := (1 : Int32)) hx hb dX7_queues_52 (by decide) ?_
              refine lv_iand hx hb dX7_queues_53 ?_
              refine lv_iconst (v := (1 : Int32)) hx hb dX7_queues_54 (by decide) ?_
              refine lv_icmp_ne (tgt := 61) hx hb dX7_queues_55 (by decide) (fun c14 => ?_) (fun c14 => ?_)
              · have hw := hw.1 c14
                refine lv_aload_n hx hb dX7_queues_61 rfl (lv_at hl 0 rfl) ?_
                refine R_getI (C := RX7) (T := TX7) (N := 36) hx hb hts i8 hown hK hW 22 hw.1 (by decide) rfl (by decide) (hts (.fieldLink RX7 144 "BoatLiftModel" "queued" "I") (by decide +kernel)) (fun _ h => h) (fun _ _ _ => rfl) dX7_queues_62 ?_
                have hw := hw.2
                refine lv_istore (lv' := [(5, .int (mI m12 v0 22)), (0, .ref (ad g v0)), (1, .int v1), (2, .int v2), (3, .int v3), (4, .int v4)]) hx hb dX7_queues_65 hl (by decide) rfl (fun ls hl => ?_)
                obtain ⟨n, hw⟩ := hw
                exact L67 v4 n (mI m12 v0 22) m12 hw _ _ _ hW (lv_sub hl [1, 2, 3, 4, 5, 0] rfl)
              · have hw := hw.2 c14
                refine lv_goto (tgt := 131) hx hb dX7_queues_58 (by decide) ?_
                exact B131 v4 m12 hw _ _ _ hW (lv_sub hl [0, 1, 2, 3, 4] rfl)
  unfold wp_X7_queues at hw
  refine lv_aload_n hx hb dX7_queues_0 rfl (lv_at hl 0 rfl) ?_
  refine lv_iconst (v := (0 : Int32)) hx hb dX7_queues_1 (by decide) ?_
  refine R_putI (C := RX7) (T := TX7) (N := 36) hx hb hts i8 tyX7 tyX7_ok nmX7 hown hK hW 22 hw.1 (by decide) rfl (by decide) (hts (.fieldLink RX7 144 "BoatLiftModel" "queued" "I") (by decide +kernel)) (fun _ h => h) (Or.inl rfl) rfl (fun _ _ _ => rfl) (fun _ _ _ => rfl) dX7_queues_2 (fun H locs hW => ?_)
  obtain ⟨m15, em15⟩ : ∃ z, z = sI m0 v0 22 (0 : Int32) := ⟨_, rfl⟩
  rw [← em15] at hW
  have hw := hw.2 m15 em15
  refine lv_iconst (v := (0 : Int32)) hx hb dX7_queues_5 (by decide) ?_
  refine lv_istore (lv' := [(4, .int (0 : Int32)), (0, .ref (ad g v0)), (1, .int v1), (2, .int v2), (3, .int v3)]) hx hb dX7_queues_6 hl (by decide) rfl (fun ls hl => ?_)
  obtain ⟨n, hw⟩ := hw
  exact L8  n (0 : Int32) m15 hw _ _ _ hW (lv_sub hl [1, 2, 3, 4, 0] rfl)

def wp_X7_fits_4 (K4 : Int32 → Int32 → Mm → Prop) (v0 : Nat) (v1 : Int32) (v2 : Int32) (mm : Mm) (Φ : Int32 → Mm → Prop) : Prop :=
  mT mm v0 = 8 ∧ (((mI mm v0 22) ≤ v1 → Φ v1 mm) ∧ (¬ (mI mm v0 22) ≤ v1 → mT mm v0 = 8 ∧ (mP mm v0 17) ≠ 0 ∧ mT mm v0 = 8 ∧ (mP mm v0 23) ≠ 0 ∧ mT mm (mP mm v0 23) = 9 ∧ vp_in v1 (mN mm (mP mm v0 23)) ∧ mT mm (mP mm v0 17) = 9 ∧ vp_in (mI mm (mP mm v0 23) v1.toNatClampNeg) (mN mm (mP mm v0 17)) ∧ mT mm v0 = 8 ∧ (((mI mm v0 2) < (v2 + (mI mm (mP mm v0 17) (mI mm (mP mm v0 23) v1.toNatClampNeg).toNatClampNeg)) → Φ v1 mm) ∧ (¬ (mI mm v0 2) < (v2 + (mI mm (mP mm v0 17) (mI mm (mP mm v0 23) v1.toNatClampNeg).toNatClampNeg)) → mT mm v0 = 8 ∧ (mP mm v0 17) ≠ 0 ∧ mT mm v0 = 8 ∧ (mP mm v0 23) ≠ 0 ∧ mT mm (mP mm v0 23) = 9 ∧ vp_in v1 (mN mm (mP mm v0 23)) ∧ mT mm (mP mm v0 17) = 9 ∧ vp_in (mI mm (mP mm v0 23) v1.toNatClampNeg) (mN mm (mP mm v0 17)) ∧ ∀ x3 : Int32, x3 = (v2 + (mI mm (mP mm v0 17) (mI mm (mP mm v0 23) v1.toNatClampNeg).toNatClampNeg)) → K4 (v1 + (1 : Int32)) x3 mm))))
def wp_X7_fits (m0 : Mm) (v0 : Nat) (Φ : Int32 → Mm → Prop) : Prop :=
  ∃ n, LOp (fun K x => wp_X7_fits_4  (fun z0 z1 z2 => K (z0, z1, z2)) v0 x.1 x.2.1 x.2.2 Φ) n ((0 : Int32), (0 : Int32), m0)
abbrev rm_X7_fits : Room := { frames := 0, cells := 0, slots := 0, locals := 0 }
set_option maxHeartbeats 4000000 in
set_option maxRecDepth 100000 in
theorem c_X7_fits (l : Launch) (g : Gv) (m0 : Mm) (v0 : Nat) (Φ : Int32 → Mm → Prop) (hw : wp_X7_fits m0 v0 Φ) : Met l yX7_fits wsX7_fits rm_X7_fits (PP g [.ref (ad g v0)] m0) (QQ g vI Φ) 0 0 (Ag g) := by
  refine CT_of (by decide +kernel) rfl (Nat.le_of_ble_eq_true rfl) ?_
  intro p e s m below meth c hx hb hr hml hown hts hlk hnm hK hW ls hl
  have hown : s.vm.findClass RX7 = some m.cls := hown
  have hl : lv_has ls 3 [(0, .ref (ad g v0))] := hl
  have i8 : ∀ w ∈ u_ws RX7 TX7 36, w ∈ wsX7_fits := by decide +kernel
  have L4 : ∀ (n : Nat) (v1 : Int32) (v2 : Int32) (mm : Mm), LOp (fun K x => wp_X7_fits_4  (fun z0 z1 z2 => K (z0, z1, z2)) v0 x.1 x.2.1 x.2.2 Φ) n (v1, v2, mm) → WW p l e rm_X7_fits s m ([.ref (ad g v0)] : List Value).toArray below meth c (MQ below (QQ g vI Φ) ([.ref (ad g v0)] : List Value).toArray s 0 0 (Ag g)) g mm 3 0 0 4 [(0, .ref (ad g v0)), (1, .int v1), (2, .int v2)] [] := by
    intro  n
    induction n with
    | zero => intro v1 v2 mm hw; exact hw.elim
    | succ n ih4 =>
      obtain ⟨K4, eK4⟩ : ∃ K : Int32 → Int32 → Mm → Prop, K = fun v1 v2 mm => LOp (fun K x => wp_X7_fits_4  (fun z0 z1 z2 => K (z0, z1, z2)) v0 x.1 x.2.1 x.2.2 Φ) n (v1, v2, mm) := ⟨_, rfl⟩
      have ih4 : ∀ (v1 : Int32) (v2 : Int32) (mm : Mm), K4 v1 v2 mm → WW p l e rm_X7_fits s m ([.ref (ad g v0)] : List Value).toArray below meth c (MQ below (QQ g vI Φ) ([.ref (ad g v0)] : List Value).toArray s 0 0 (Ag g)) g mm 3 0 0 4 [(0, .ref (ad g v0)), (1, .int v1), (2, .int v2)] [] := by rw [eK4]; exact ih4
      intro v1 v2 mm hw H locs ls hW hl
      have hw : wp_X7_fits_4 K4 v0 v1 v2 mm Φ := by rw [eK4]; exact hw
      unfold wp_X7_fits_4 at hw
      refine lv_iload_n hx hb dX7_fits_4 rfl (lv_at hl 1 rfl) ?_
      refine lv_aload_n hx hb dX7_fits_5 rfl (lv_at hl 0 rfl) ?_
      refine R_getI (C := RX7) (T := TX7) (N := 36) hx hb hts i8 hown hK hW 22 hw.1 (by decide) rfl (by decide) (hts (.fieldLink RX7 144 "BoatLiftModel" "queued" "I") (by decide +kernel)) (fun _ h => h) (fun _ _ _ => rfl) dX7_fits_6 ?_
      have hw := hw.2
      refine lv_icmp_ge (tgt := 52) hx hb dX7_fits_9 (by decide) (fun c1 => ?_) (fun c1 => ?_)
      · have hw := hw.1 c1
        refine lv_iload_n hx hb dX7_fits_52 rfl (lv_at hl 1 rfl) ?_
        exact R_iret hx hb hr hlk hW hw dX7_fits_53
      · have hw := hw.2 c1
        refine lv_iload_n hx hb dX7_fits_12 rfl (lv_at hl 2 rfl) ?_
        refine lv_aload_n hx hb dX7_fits_13 rfl (lv_at hl 0 rfl) ?_
        refine R_getP (C := RX7) (T := TX7) (N := 36) hx hb hts i8 hown hK hW 17 hw.1 (by decide) rfl (by decide) (hts (.fieldLink RX7 43 "BoatLiftModel" "size" "[I") (by decide +kernel)) (fun _ h => h) (fun _ _ _ => rfl) hw.2.1 dX7_fits_14 ?_
        have hw := hw.2.2
        refine lv_aload_n hx hb dX7_fits_17 rfl (lv_at hl 0 rfl) ?_
        refine R_getP (C := RX7) (T := TX7) (N := 36) hx hb hts i8 hown hK hW 23 hw.1 (by decide) rfl (by decide) (hts (.fieldLink RX7 58 "BoatLiftModel" "queue" "[I") (by decide +kernel)) (fun _ h => h) (fun _ _ _ => rfl) hw.2.1 dX7_fits_18 ?_
        have hw := hw.2.2
        refine lv_iload_n hx hb dX7_fits_21 rfl (lv_at hl 1 rfl) ?_
        refine R_iald hx hb hK hW hw.1 hw.2.1 dX7_fits_22 ?_
        have hw := hw.2.2
        refine R_iald hx hb hK hW hw.1 hw.2.1 dX7_fits_23 ?_
        have hw := hw.2.2
        refine lv_iadd hx hb dX7_fits_24 ?_
        refine lv_aload_n hx hb dX7_fits_25 rfl (lv_at hl 0 rfl) ?_
        refine R_getI (C := RX7) (T := TX7) (N := 36) hx hb hts i8 hown hK hW 2 hw.1 (by decide) rfl (by decide) (hts (.fieldLink RX7 13 "BoatLiftModel" "length" "I") (by decide +kernel)) (fun _ h => h) (fun _ _ _ => rfl) dX7_fits_26 ?_
        have hw := hw.2
        refine lv_icmp_gt (tgt := 52) hx hb dX7_fits_29 (by decide) (fun c2 => ?_) (fun c2 => ?_)
        · have hw := hw.1 c2
          refine lv_iload_n hx hb dX7_fits_52 rfl (lv_at hl 1 rfl) ?_
          exact R_iret hx hb hr hlk hW hw dX7_fits_53
        · have hw := hw.2 c2
          refine lv_iload_n hx hb dX7_fits_32 rfl (lv_at hl 2 rfl) ?_
          refine lv_aload_n hx hb dX7_fits_33 rfl (lv_at hl 0 rfl) ?_
          refine R_getP (C := RX7) (T := TX7) (N := 36) hx hb hts i8 hown hK hW 17 hw.1 (by decide) rfl (by decide) (hts (.fieldLink RX7 43 "BoatLiftModel" "size" "[I") (by decide +kernel)) (fun _ h => h) (fun _ _ _ => rfl) hw.2.1 dX7_fits_34 ?_
          have hw := hw.2.2
          refine lv_aload_n hx hb dX7_fits_37 rfl (lv_at hl 0 rfl) ?_
          refine R_getP (C := RX7) (T := TX7) (N := 36) hx hb hts i8 hown hK hW 23 hw.1 (by decide) rfl (by decide) (hts (.fieldLink RX7 58 "BoatLiftModel" "queue" "[I") (by decide +kernel)) (fun _ h => h) (fun _ _ _ => rfl) hw.2.1 dX7_fits_38 ?_
          have hw := hw.2.2
          refine lv_iload_n hx hb dX7_fits_41 rfl (lv_at hl 1 rfl) ?_
          refine R_iald hx hb hK hW hw.1 hw.2.1 dX7_fits_42 ?_
          have hw := hw.2.2
          refine R_iald hx hb hK hW hw.1 hw.2.1 dX7_fits_43 ?_
          have hw := hw.2.2
          refine lv_iadd hx hb dX7_fits_44 ?_
          refine lv_topi (fun x3 ex3 => ?_)
          have hw := hw x3 ex3
          refine lv_istore_n (lv' := [(2, .int x3), (0, .ref (ad g v0)), (1, .int v1)]) hx hb dX7_fits_45 rfl hl (by decide) rfl (fun ls hl => ?_)
          refine lv_iinc (v := (v1 + (1 : Int32))) (lv' := [(1, .int (v1 + (1 : Int32))), (2, .int x3), (0, .ref (ad g v0))]) hx hb dX7_fits_46 hl (k := 2) rfl rfl (by decide) rfl (fun ls hl => ?_)
          refine lv_goto (tgt := 4) hx hb dX7_fits_49 (by decide) ?_
          exact ih4 (v1 + (1 : Int32)) x3 mm hw _ _ _ hW (lv_sub hl [2, 0, 1] rfl)
  unfold wp_X7_fits at hw
  refine lv_iconst (v := (0 : Int32)) hx hb dX7_fits_0 (by decide) ?_
  refine lv_istore_n (lv' := [(1, .int (0 : Int32)), (0, .ref (ad g v0))]) hx hb dX7_fits_1 rfl hl (by decide) rfl (fun ls hl => ?_)
  refine lv_iconst (v := (0 : Int32)) hx hb dX7_fits_2 (by decide) ?_
  refine lv_istore_n (lv' := [(2, .int (0 : Int32)), (1, .int (0 : Int32)), (0, .ref (ad g v0))]) hx hb dX7_fits_3 rfl hl (by decide) rfl (fun ls hl => ?_)
  obtain ⟨n, hw⟩ := hw
  exact L4  n (0 : Int32) (0 : Int32) m0 hw _ _ _ hW (lv_sub hl [2, 1, 0] rfl)

def wp_X7_queue (m0 : Mm) (v0 : Nat) (v1 : Int32) (v2 : Int32) (v3 : Int32) (Φ : Int32 → Mm → Prop) : Prop :=
  wp_X7_isSide m0 v1 (fun (r1 : Int32) (m2 : Mm) => ((r1 = 0 → Φ (-1 : Int32) m2) ∧ (¬ r1 = 0 → wp_X7_lies m2 v2 (0 : Int32) (20000 : Int32) (fun (r4 : Int32) (m5 : Mm) => ((¬ r4 = 0 → mT m5 v0 = 8 ∧ wp_X7_queues m5 v0 v1 v2 (0 : Int32) (fun (_ : Unit) (m8 : Mm) => mT m8 v0 = 8 ∧ wp_X7_lies m8 v3 (0 : Int32) ((mI m8 v0 22) - (1 : Int32)) (fun (r9 : Int32) (m10 : Mm) => ((r9 = 0 → Φ (-1 : Int32) m10) ∧ (¬ r9 = 0 → mT m10 v0 = 8 ∧ (mP m10 v0 23) ≠ 0 ∧ mT m10 (mP m10 v0 23) = 9 ∧ vp_in v3 (mN m10 (mP m10 v0 23)) ∧ Φ (mI m10 (mP m10 v0 23) v3.toNatClampNeg) m10))))) ∧ (r4 = 0 → Φ (-1 : Int32) m5))))))
abbrev rm_X7_queue : Room := { frames := 6, cells := 0, slots := 0, locals := 132 }
set_option maxHeartbeats 4000000 in
set_option maxRecDepth 100000 in
theorem c_X7_queue (l : Launch) (g : Gv) (m0 : Mm) (v0 : Nat) (v1 : Int32) (v2 : Int32) (v3 : Int32) (Φ : Int32 → Mm → Prop) (hw : wp_X7_queue m0 v0 v1 v2 v3 Φ) : Met l yX7_queue wsX7_queue rm_X7_queue (PP g [.ref (ad g v0), .int v1, .int v2, .int v3] m0) (QQ g vI Φ) 0 0 (Ag g) := by
  refine CT_of (by decide +kernel) rfl (Nat.le_of_ble_eq_true rfl) ?_
  intro p e s m below meth c hx hb hr hml hown hts hlk hnm hK hW ls hl
  have hown : s.vm.findClass RX7 = some m.cls := hown
  have hl : lv_has ls 4 [(0, .ref (ad g v0)), (1, .int v1), (2, .int v2), (3, .int v3)] := hl
  have i8 : ∀ w ∈ u_ws RX7 TX7 36, w ∈ wsX7_queue := by decide +kernel
  unfold wp_X7_queue at hw
  refine lv_iload_n hx hb dX7_queue_0 rfl (lv_at hl 1 rfl) ?_
  refine R_call (va_runS (As := [.int v1]) (rest := []) ⟨hx, hb, hml, hown, hts⟩ (c_X7_isSide l g m0 v1 _ hw) (va_cwS 1 hts gX7_queue_X7_isSide rfl rfl rfl (by decide +kernel) ⟨by decide, by decide⟩) (PP.pre hK hW) rfl rfl hl.1 rfl (lv_room (Nat.le_of_ble_eq_true rfl)) dX7_queue_1 ⟨by decide, by decide⟩) hW (fun r1 m2 H locs hw hW => ?_)
  refine W.eq (g2 := F0 m 4 ls [.int r1]) rfl ?_
  refine lv_if_eq (tgt := 18) hx hb dX7_queue_4 (by decide) (fun c3 => ?_) (fun c3 => ?_)
  · have hw := hw.1 c3
    refine lv_iconst (v := (-1 : Int32)) hx hb dX7_queue_18 (by decide) ?_
    exact R_iret hx hb hr hlk hW hw dX7_queue_19
  · have hw := hw.2 c3
    refine lv_iload_n hx hb dX7_queue_7 rfl (lv_at hl 2 rfl) ?_
    refine lv_iconst (v := (0 : Int32)) hx hb dX7_queue_8 (by decide) ?_
    refine lv_sipush (v := (20000 : Int32)) hx hb dX7_queue_9 (by decide) ?_
    refine R_call (va_runS (As := [.int v2, .int (0 : Int32), .int (20000 : Int32)]) (rest := []) ⟨hx, hb, hml, hown, hts⟩ (c_X7_lies l g m2 v2 (0 : Int32) (20000 : Int32) _ hw) (va_cwS 3 hts gX7_queue_X7_lies rfl rfl rfl (by decide +kernel) ⟨by decide, by decide⟩) (PP.pre hK hW) rfl rfl hl.1 rfl (lv_room (Nat.le_of_ble_eq_true rfl)) dX7_queue_12 ⟨by decide, by decide⟩) hW (fun r4 m5 H locs hw hW => ?_)
    refine W.eq (g2 := F0 m 15 ls [.int r4]) rfl ?_
    refine lv_if_ne (tgt := 20) hx hb dX7_queue_15 (by decide) (fun c6 => ?_) (fun c6 => ?_)
    · have hw := hw.1 c6
      refine lv_aload_n hx hb dX7_queue_20 rfl (lv_at hl 0 rfl) ?_
      refine lv_iload_n hx hb dX7_queue_21 rfl (lv_at hl 1 rfl) ?_
      refine lv_iload_n hx hb dX7_queue_22 rfl (lv_at hl 2 rfl) ?_
      refine lv_iconst (v := (0 : Int32)) hx hb dX7_queue_23 (by decide) ?_
      refine R_call (va_runV (As := [.int v1, .int v2, .int (0 : Int32)]) (rest := []) ⟨hx, hb, hml, hown, hts⟩ (c_X7_queues l g m5 v0 v1 v2 (0 : Int32) _ hw.2) (cwV 3 hts gX7_queue_X7_queues rfl rfl rfl (by decide +kernel) ⟨by decide, by decide⟩) (PP.preV (q := (RX7, TX7, 36)) hK hW hw.1 (by decide) rfl) rfl rfl hl.1 rfl (lv_room (Nat.le_of_ble_eq_true rfl)) dX7_queue_24 ⟨by decide, by decide⟩) hW (fun _ m8 H locs hw hW => ?_)
      refine W.eq (g2 := F0 m 27 ls []) rfl ?_
      refine lv_iload_n hx hb dX7_queue_27 rfl (lv_at hl 3 rfl) ?_
      refine lv_iconst (v := (0 : Int32)) hx hb dX7_queue_28 (by decide) ?_
      refine lv_aload_n hx hb dX7_queue_29 rfl (lv_at hl 0 rfl) ?_
      refine R_getI (C := RX7) (T := TX7) (N := 36) hx hb hts i8 hown hK hW 22 hw.1 (by decide) rfl (by decide) (hts (.fieldLink RX7 144 "BoatLiftModel" "queued" "I") (by decide +kernel)) (fun _ h => h) (fun _ _ _ => rfl) dX7_queue_30 ?_
      have hw := hw.2
      refine lv_iconst (v := (1 : Int32)) hx hb dX7_queue_33 (by decide) ?_
      refine lv_isub hx hb dX7_queue_34 ?_
      refine R_call (va_runS (As := [.int v3, .int (0 : Int32), .int ((mI m8 v0 22) - (1 : Int32))]) (rest := []) ⟨hx, hb, hml, hown, hts⟩ (c_X7_lies l g m8 v3 (0 : Int32) ((mI m8 v0 22) - (1 : Int32)) _ hw) (va_cwS 3 hts gX7_queue_X7_lies rfl rfl rfl (by decide +kernel) ⟨by decide, by decide⟩) (PP.pre hK hW) rfl rfl hl.1 rfl (lv_room (Nat.le_of_ble_eq_true rfl)) dX7_queue_35 ⟨by decide, by decide⟩) hW (fun r9 m10 H locs hw hW => ?_)
      refine W.eq (g2 := F0 m 38 ls [.int r9]) rfl ?_
      refine lv_if_eq (tgt := 50) hx hb dX7_queue_38 (by decide) (fun c11 => ?_) (fun c11 => ?_)
      · have hw := hw.1 c11
        refine lv_iconst (v := (-1 : Int32)) hx hb dX7_queue_50 (by decide) ?_
        exact R_iret hx hb hr hlk hW hw dX7_queue_51
      · have hw := hw.2 c11
        refine lv_aload_n hx hb dX7_queue_41 rfl (lv_at hl 0 rfl) ?_
        refine R_getP (C := RX7) (T := TX7) (N := 36) hx hb hts i8 hown hK hW 23 hw.1 (by decide) rfl (by decide) (hts (.fieldLink RX7 58 "BoatLiftModel" "queue" "[I") (by decide +kernel)) (fun _ h => h) (fun _ _ _ => rfl) hw.2.1 dX7_queue_42 ?_
        have hw := hw.2.2
        refine lv_iload_n hx hb dX7_queue_45 rfl (lv_at hl 3 rfl) ?_
        refine R_iald hx hb hK hW hw.1 hw.2.1 dX7_queue_46 ?_
        have hw := hw.2.2
        refine lv_goto (tgt := 51) hx hb dX7_queue_47 (by decide) ?_
        exact R_iret hx hb hr hlk hW hw dX7_queue_51
    · have hw := hw.2 c6
      refine lv_iconst (v := (-1 : Int32)) hx hb dX7_queue_18 (by decide) ?_
      exact R_iret hx hb hr hlk hW hw dX7_queue_19

def wp_X7_fitting (m0 : Mm) (v0 : Nat) (v1 : Int32) (Φ : Int32 → Mm → Prop) : Prop :=
  wp_X7_lies m0 v1 (0 : Int32) (20000 : Int32) (fun (r1 : Int32) (m2 : Mm) => ((¬ r1 = 0 → mT m2 v0 = 8 ∧ mT m2 v0 = 8 ∧ wp_X7_queues m2 v0 (mI m2 v0 3) v1 (0 : Int32) (fun (_ : Unit) (m5 : Mm) => mT m5 v0 = 8 ∧ wp_X7_fits m5 v0 (fun (r6 : Int32) (m7 : Mm) => Φ r6 m7))) ∧ (r1 = 0 → Φ (-1 : Int32) m2)))
abbrev rm_X7_fitting : Room := { frames := 6, cells := 0, slots := 0, locals := 132 }
set_option maxHeartbeats 4000000 in
set_option maxRecDepth 100000 in
theorem c_X7_fitting (l : Launch) (g : Gv) (m0 : Mm) (v0 : Nat) (v1 : Int32) (Φ : Int32 → Mm → Prop) (hw : wp_X7_fitting m0 v0 v1 Φ) : Met l yX7_fitting wsX7_fitting rm_X7_fitting (PP g [.ref (ad g v0), .int v1] m0) (QQ g vI Φ) 0 0 (Ag g) := by
  refine CT_of (by decide +kernel) rfl (Nat.le_of_ble_eq_true rfl) ?_
  intro p e s m below meth c hx hb hr hml hown hts hlk hnm hK hW ls hl
  have hown : s.vm.findClass RX7 = some m.cls := hown
  have hl : lv_has ls 2 [(0, .ref (ad g v0)), (1, .int v1)] := hl
  have i8 : ∀ w ∈ u_ws RX7 TX7 36, w ∈ wsX7_fitting := by decide +kernel
  unfold wp_X7_fitting at hw
  refine lv_iload_n hx hb dX7_fitting_0 rfl (lv_at hl 1 rfl) ?_
  refine lv_iconst (v := (0 : Int32)) hx hb dX7_fitting_1 (by decide) ?_
  refine lv_sipush (v := (20000 : Int32)) hx hb dX7_fitting_2 (by decide) ?_
  refine R_call (va_runS (As := [.int v1, .int (0 : Int32), .int (20000 : Int32)]) (rest := []) ⟨hx, hb, hml, hown, hts⟩ (c_X7_lies l g m0 v1 (0 : Int32) (20000 : Int32) _ hw) (va_cwS 3 hts gX7_fitting_X7_lies rfl rfl rfl (by decide +kernel) ⟨by decide, by decide⟩) (PP.pre hK hW) rfl rfl hl.1 rfl (lv_room (Nat.le_of_ble_eq_true rfl)) dX7_fitting_5 ⟨by decide, by decide⟩) hW (fun r1 m2 H locs hw hW => ?_)
  refine W.eq (g2 := F0 m 8 ls [.int r1]) rfl ?_
  refine lv_if_ne (tgt := 13) hx hb dX7_fitting_8 (by decide) (fun c3 => ?_) (fun c3 => ?_)
  · have hw := hw.1 c3
    refine lv_aload_n hx hb dX7_fitting_13 rfl (lv_at hl 0 rfl) ?_
    refine lv_aload_n hx hb dX7_fitting_14 rfl (lv_at hl 0 rfl) ?_
    refine R_getI (C := RX7) (T := TX7) (N := 36) hx hb hts i8 hown hK hW 3 hw.1 (by decide) rfl (by decide) (hts (.fieldLink RX7 157 "BoatLiftModel" "side" "I") (by decide +kernel)) (fun _ h => h) (fun _ _ _ => rfl) dX7_fitting_15 ?_
    have hw := hw.2
    refine lv_iload_n hx hb dX7_fitting_18 rfl (lv_at hl 1 rfl) ?_
    refine lv_iconst (v := (0 : Int32)) hx hb dX7_fitting_19 (by decide) ?_
    refine R_call (va_runV (As := [.int (mI m2 v0 3), .int v1, .int (0 : Int32)]) (rest := []) ⟨hx, hb, hml, hown, hts⟩ (c_X7_queues l g m2 v0 (mI m2 v0 3) v1 (0 : Int32) _ hw.2) (cwV 3 hts gX7_fitting_X7_queues rfl rfl rfl (by decide +kernel) ⟨by decide, by decide⟩) (PP.preV (q := (RX7, TX7, 36)) hK hW hw.1 (by decide) rfl) rfl rfl hl.1 rfl (lv_room (Nat.le_of_ble_eq_true rfl)) dX7_fitting_20 ⟨by decide, by decide⟩) hW (fun _ m5 H locs hw hW => ?_)
    refine W.eq (g2 := F0 m 23 ls []) rfl ?_
    refine lv_aload_n hx hb dX7_fitting_23 rfl (lv_at hl 0 rfl) ?_
    refine R_call (va_runV (As := []) (rest := []) ⟨hx, hb, hml, hown, hts⟩ (c_X7_fits l g m5 v0 _ hw.2) (cwV 0 hts gX7_fitting_X7_fits rfl rfl rfl (by decide +kernel) ⟨by decide, by decide⟩) (PP.preV (q := (RX7, TX7, 36)) hK hW hw.1 (by decide) rfl) rfl rfl hl.1 rfl (lv_room (Nat.le_of_ble_eq_true rfl)) dX7_fitting_24 ⟨by decide, by decide⟩) hW (fun r6 m7 H locs hw hW => ?_)
    refine W.eq (g2 := F0 m 27 ls [.int r6]) rfl ?_
    exact R_iret hx hb hr hlk hW hw dX7_fitting_27
  · have hw := hw.2 c3
    refine lv_iconst (v := (-1 : Int32)) hx hb dX7_fitting_11 (by decide) ?_
    exact R_iret hx hb hr hlk hW hw dX7_fitting_12

def wp_X7_ride_119 (K75 : Int64 → Int32 → Mm → Prop) (v0 : Nat) (v1 : Int32) (v2 : Int32) (v5 : Int32) (s0 : Int64) (s1 : Int64) (mm : Mm) (Φ : Int32 → Mm → Prop) : Prop :=
  mT mm v0 = 8 ∧ (mP mm v0 21) ≠ 0 ∧ mT mm v0 = 8 ∧ (mP mm v0 23) ≠ 0 ∧ mT mm (mP mm v0 23) = 9 ∧ vp_in v5 (mN mm (mP mm v0 23)) ∧ mT mm (mP mm v0 21) = 9 ∧ vp_in (mI mm (mP mm v0 23) v5.toNatClampNeg) (mN mm (mP mm v0 21)) ∧ ∀ m1 : Mm, m1 = sI mm (mP mm v0 21) (mI mm (mP mm v0 23) v5.toNatClampNeg).toNatClampNeg v1 → K75 (s0 + s1) (v5 + (1 : Int32)) m1
def wp_X7_ride_75 (K75 : Int64 → Int32 → Mm → Prop) (v0 : Nat) (v1 : Int32) (v2 : Int32) (v3 : Int64) (v5 : Int32) (mm : Mm) (Φ : Int32 → Mm → Prop) : Prop :=
  ((v2 ≤ v5 → mT mm v0 = 8 ∧ (mP mm v0 12) ≠ 0 ∧ mT mm (mP mm v0 12) = 10 ∧ vp_in (1 : Int32) (mN mm (mP mm v0 12)) ∧ mT mm (mP mm v0 12) = 10 ∧ vp_in (1 : Int32) (mN mm (mP mm v0 12)) ∧ ∀ m3 : Mm, m3 = sL mm (mP mm v0 12) (1 : Int32).toNatClampNeg ((mL mm (mP mm v0 12) (1 : Int32).toNatClampNeg) - v3) → mT m3 v0 = 8 ∧ (mP m3 v0 12) ≠ 0 ∧ mT m3 (mP m3 v0 12) = 10 ∧ vp_in (0 : Int32) (mN m3 (mP m3 v0 12)) ∧ mT m3 (mP m3 v0 12) = 10 ∧ vp_in (0 : Int32) (mN m3 (mP m3 v0 12)) ∧ ∀ m4 : Mm, m4 = sL m3 (mP m3 v0 12) (0 : Int32).toNatClampNeg ((mL m3 (mP m3 v0 12) (0 : Int32).toNatClampNeg) + v3) → mT m4 v0 = 8 ∧ mT m4 v0 = 8 ∧ ∀ m5 : Mm, m5 = sI m4 v0 5 ((mI m4 v0 5) + (1 : Int32)) → mT m5 v0 = 8 ∧ mT m5 v0 = 8 ∧ ∀ m6 : Mm, m6 = sI m5 v0 6 ((mI m5 v0 6) + (1 : Int32)) → mT m6 v0 = 8 ∧ mT m6 v0 = 8 ∧ ∀ m7 : Mm, m7 = sI m6 v0 3 ((1 : Int32) - (mI m6 v0 3)) → mT m7 v0 = 8 ∧ wp_X7_lasts m7 v0 v1 (fun (r8 : Int32) (m9 : Mm) => mT m9 v0 = 8 ∧ ∀ m10 : Mm, m10 = sI m9 v0 4 (v1 + r8) → mT m10 v0 = 8 ∧ Φ (mI m10 v0 4) m10)) ∧ (¬ v2 ≤ v5 → mT mm v0 = 8 ∧ ((¬ (mI mm v0 3) = 0 → mT mm v0 = 8 ∧ (mP mm v0 19) ≠ 0 ∧ mT mm v0 = 8 ∧ (mP mm v0 23) ≠ 0 ∧ mT mm (mP mm v0 23) = 9 ∧ vp_in v5 (mN mm (mP mm v0 23)) ∧ mT mm (mP mm v0 19) = 9 ∧ vp_in (mI mm (mP mm v0 23) v5.toNatClampNeg) (mN mm (mP mm v0 19)) ∧ wp_X7_ride_119 K75 v0 v1 v2 v5 v3 ((-(mI mm (mP mm v0 19) (mI mm (mP mm v0 23) v5.toNatClampNeg).toNatClampNeg)).toInt64) mm Φ) ∧ ((mI mm v0 3) = 0 → mT mm v0 = 8 ∧ (mP mm v0 19) ≠ 0 ∧ mT mm v0 = 8 ∧ (mP mm v0 23) ≠ 0 ∧ mT mm (mP mm v0 23) = 9 ∧ vp_in v5 (mN mm (mP mm v0 23)) ∧ mT mm (mP mm v0 19) = 9 ∧ vp_in (mI mm (mP mm v0 23) v5.toNatClampNeg) (mN mm (mP mm v0 19)) ∧ wp_X7_ride_119 K75 v0 v1 v2 v5 v3 ((mI mm (mP mm v0 19) (mI mm (mP mm v0 23) v5.toNatClampNeg).toNatClampNeg).toInt64) mm Φ))))
def wp_X7_ride (m0 : Mm) (v0 : Nat) (v1 : Int32) (v2 : Int32) (Φ : Int32 → Mm → Prop) : Prop :=
  mT m0 v0 = 8 ∧ wp_X7_lies m0 v1 (mI m0 v0 4) (20000 : Int32) (fun (r12 : Int32) (m13 : Mm) => ((r12 = 0 → Φ (-1 : Int32) m13) ∧ (¬ r12 = 0 → ((v2 < 0 → Φ (-1 : Int32) m13) ∧ (¬ v2 < 0 → mT m13 v0 = 8 ∧ mT m13 v0 = 8 ∧ (mP m13 v0 9) ≠ 0 ∧ mT m13 (mP m13 v0 9) = 9 ∧ vp_in (4 : Int32) (mN m13 (mP m13 v0 9)) ∧ (((mI m13 (mP m13 v0 9) (4 : Int32).toNatClampNeg) ≤ (mI m13 v0 5) → Φ (-1 : Int32) m13) ∧ (¬ (mI m13 (mP m13 v0 9) (4 : Int32).toNatClampNeg) ≤ (mI m13 v0 5) → mT m13 v0 = 8 ∧ wp_X7_lasts m13 v0 v1 (fun (r17 : Int32) (m18 : Mm) => (((v1 + r17) ≤ (20000 : Int32) → mT m18 v0 = 8 ∧ mT m18 v0 = 8 ∧ wp_X7_queues m18 v0 (mI m18 v0 3) v1 (0 : Int32) (fun (_ : Unit) (m21 : Mm) => mT m21 v0 = 8 ∧ wp_X7_fits m21 v0 (fun (r22 : Int32) (m23 : Mm) => ((v2 ≤ r22 → mT m23 v0 = 8 ∧ ∃ n, LOp (fun K x => wp_X7_ride_75  (fun z0 z1 z2 => K (z0, z1, z2)) v0 v1 v2 x.1 x.2.1 x.2.2 Φ) n ((mI m23 v0 5).toInt64, (0 : Int32), m23)) ∧ (¬ v2 ≤ r22 → Φ (-1 : Int32) m23))))) ∧ (¬ (v1 + r17) ≤ (20000 : Int32) → Φ (-1 : Int32) m18))))))))))
abbrev rm_X7_ride : Room := { frames := 6, cells := 0, slots := 0, locals := 132 }
set_option maxHeartbeats 4000000 in
set_option maxRecDepth 100000 in
theorem c_X7_ride (l : Launch) (g : Gv) (m0 : Mm) (v0 : Nat) (v1 : Int32) (v2 : Int32) (Φ : Int32 → Mm → Prop) (hw : wp_X7_ride m0 v0 v1 v2 Φ) : Met l yX7_ride wsX7_ride rm_X7_ride (PP g [.ref (ad g v0), .int v1, .int v2] m0) (QQ g vI Φ) 0 0 (Ag g) := by
  refine CT_of (by decide +kernel) rfl (Nat.le_of_ble_eq_true rfl) ?_
  intro p e s m below meth c hx hb hr hml hown hts hlk hnm hK hW ls hl
  have hown : s.vm.findClass RX7 = some m.cls := hown
  have hl : lv_has ls 6 [(0, .ref (ad g v0)), (1, .int v1), (2, .int v2)] := hl
  have i8 : ∀ w ∈ u_ws RX7 TX7 36, w ∈ wsX7_ride := by decide +kernel
  have L75 : ∀ (n : Nat) (v3 : Int64) (v5 : Int32) (mm : Mm), LOp (fun K x => wp_X7_ride_75  (fun z0 z1 z2 => K (z0, z1, z2)) v0 v1 v2 x.1 x.2.1 x.2.2 Φ) n (v3, v5, mm) → WW p l e rm_X7_ride s m ([.ref (ad g v0), .int v1, .int v2] : List Value).toArray below meth c (MQ below (QQ g vI Φ) ([.ref (ad g v0), .int v1, .int v2] : List Value).toArray s 0 0 (Ag g)) g mm 6 0 0 75 [(0, .ref (ad g v0)), (1, .int v1), (2, .int v2), (3, .long v3), (5, .int v5)] [] := by
    intro  n
    induction n with
    | zero => intro v3 v5 mm hw; exact hw.elim
    | succ n ih75 =>
      obtain ⟨K75, eK75⟩ : ∃ K : Int64 → Int32 → Mm → Prop, K = fun v3 v5 mm => LOp (fun K x => wp_X7_ride_75  (fun z0 z1 z2 => K (z0, z1, z2)) v0 v1 v2 x.1 x.2.1 x.2.2 Φ) n (v3, v5, mm) := ⟨_, rfl⟩
      have ih75 : ∀ (v3 : Int64) (v5 : Int32) (mm : Mm), K75 v3 v5 mm → WW p l e rm_X7_ride s m ([.ref (ad g v0), .int v1, .int v2] : List Value).toArray below meth c (MQ below (QQ g vI Φ) ([.ref (ad g v0), .int v1, .int v2] : List Value).toArray s 0 0 (Ag g)) g mm 6 0 0 75 [(0, .ref (ad g v0)), (1, .int v1), (2, .int v2), (3, .long v3), (5, .int v5)] [] := by rw [eK75]; exact ih75
      have B119 : ∀ (v5 : Int32) (s0 : Int64) (s1 : Int64) (mm : Mm), wp_X7_ride_119 K75 v0 v1 v2 v5 s0 s1 mm Φ → WW p l e rm_X7_ride s m ([.ref (ad g v0), .int v1, .int v2] : List Value).toArray below meth c (MQ below (QQ g vI Φ) ([.ref (ad g v0), .int v1, .int v2] : List Value).toArray s 0 0 (Ag g)) g mm 6 0 0 119 [(0, .ref (ad g v0)), (1, .int v1), (2, .int v2), (5, .int v5)] [.long s1, .long s0] := by
        intro v5 s0 s1 mm hw H locs ls hW hl
        unfold wp_X7_ride_119 at hw
        refine lv_ladd hx hb dX7_ride_119 ?_
        refine lv_lstore_n (lv' := [(3, .long (s0 + s1)), (0, .ref (ad g v0)), (1, .int v1), (2, .int v2), (5, .int v5)]) hx hb dX7_ride_120 rfl hl (by decide) rfl (fun ls hl => ?_)
        refine lv_aload_n hx hb dX7_ride_121 rfl (lv_at hl 1 rfl) ?_
        refine R_getP (C := RX7) (T := TX7) (N := 36) hx hb hts i8 hown hK hW 21 hw.1 (by decide) rfl (by decide) (hts (.fieldLink RX7 55 "BoatLiftModel" "began" "[I") (by decide +kernel)) (fun _ h => h) (fun _ _ _ => rfl) hw.2.1 dX7_ride_122 ?_
        have hw := hw.2.2
        refine lv_aload_n hx hb dX7_ride_125 rfl (lv_at hl 1 rfl) ?_
        refine R_getP (C := RX7) (T := TX7) (N := 36) hx hb hts i8 hown hK hW 23 hw.1 (by decide) rfl (by decide) (hts (.fieldLink RX7 58 "BoatLiftModel" "queue" "[I") (by decide +kernel)) (fun _ h => h) (fun _ _ _ => rfl) hw.2.1 dX7_ride_126 ?_
        have hw := hw.2.2
        refine lv_iload hx hb dX7_ride_129 (lv_at hl 4 rfl) ?_
        refine R_iald hx hb hK hW hw.1 hw.2.1 dX7_ride_131 ?_
        have hw := hw.2.2
        refine lv_iload_n hx hb dX7_ride_132 rfl (lv_at hl 2 rfl) ?_
        refine R_iast hx hb hK hW hw.1 hw.2.1 dX7_ride_133 (fun H locs hW => ?_)
        obtain ⟨m1, em1⟩ : ∃ z, z = sI mm (mP mm v0 21) (mI mm (mP mm v0 23) v5.toNatClampNeg).toNatClampNeg v1 := ⟨_, rfl⟩
        rw [← em1] at hW
        have hw := hw.2.2 m1 em1
        refine lv_iinc (v := (v5 + (1 : Int32))) (lv' := [(5, .int (v5 + (1 : Int32))), (3, .long (s0 + s1)), (0, .ref (ad g v0)), (1, .int v1), (2, .int v2)]) hx hb dX7_ride_134 hl (k := 4) rfl rfl (by decide) rfl (fun ls hl => ?_)
        refine lv_goto (tgt := 75) hx hb dX7_ride_137 (by decide) ?_
        exact ih75 (s0 + s1) (v5 + (1 : Int32)) m1 hw _ _ _ hW (lv_sub hl [2, 3, 4, 1, 0] rfl)
      intro v3 v5 mm hw H locs ls hW hl
      have hw : wp_X7_ride_75 K75 v0 v1 v2 v3 v5 mm Φ := by rw [eK75]; exact hw
      unfold wp_X7_ride_75 at hw
      refine lv_iload hx hb dX7_ride_75 (lv_at hl 4 rfl) ?_
      refine lv_iload_n hx hb dX7_ride_77 rfl (lv_at hl 2 rfl) ?_
      refine lv_icmp_ge (tgt := 140) hx hb dX7_ride_78 (by decide) (fun c2 => ?_) (fun c2 => ?_)
      · have hw := hw.1 c2
        refine lv_aload_n hx hb dX7_ride_140 rfl (lv_at hl 0 rfl) ?_
        refine R_getP (C := RX7) (T := TX7) (N := 36) hx hb hts i8 hown hK hW 12 hw.1 (by decide) rfl (by decide) (hts (.fieldLink RX7 27 "BoatLiftModel" "stock" "[J") (by decide +kernel)) (fun _ h => h) (fun _ _ _ => rfl) hw.2.1 dX7_ride_141 ?_
        have hw := hw.2.2
        refine lv_iconst (v := (1 : Int32)) hx hb dX7_ride_144 (by decide) ?_
        refine lv_dup2_11 hx hb dX7_ride_145 rfl rfl ?_
        refine R_lald hx hb hK hW hw.1 hw.2.1 dX7_ride_146 ?_
        have hw := hw.2.2
        refine lv_lload_n hx hb dX7_ride_147 rfl (lv_at hl 3 rfl) ?_
        refine lv_lsub hx hb dX7_ride_148 ?_
        refine R_last hx hb hK hW hw.1 hw.2.1 dX7_ride_149 (fun H locs hW => ?_)
        obtain ⟨m3, em3⟩ : ∃ z, z = sL mm (mP mm v0 12) (1 : Int32).toNatClampNeg ((mL mm (mP mm v0 12) (1 : Int32).toNatClampNeg) - v3) := ⟨_, rfl⟩
        rw [← em3] at hW
        have hw := hw.2.2 m3 em3
        refine lv_aload_n hx hb dX7_ride_150 rfl (lv_at hl 0 rfl) ?_
        refine R_getP (C := RX7) (T := TX7) (N := 36) hx hb hts i8 hown hK hW 12 hw.1 (by decide) rfl (by decide) (hts (.fieldLink RX7 27 "BoatLiftModel" "stock" "[J") (by decide +kernel)) (fun _ h => h) (fun _ _ _ => rfl) hw.2.1 dX7_ride_151 ?_
        have hw := hw.2.2
        refine lv_iconst (v := (0 : Int32)) hx hb dX7_ride_154 (by decide) ?_
        refine lv_dup2_11 hx hb dX7_ride_155 rfl rfl ?_
        refine R_lald hx hb hK hW hw.1 hw.2.1 dX7_ride_156 ?_
        have hw := hw.2.2
        refine lv_lload_n hx hb dX7_ride_157 rfl (lv_at hl 3 rfl) ?_
        refine lv_ladd hx hb dX7_ride_158 ?_
        refine R_last hx hb hK hW hw.1 hw.2.1 dX7_ride_159 (fun H locs hW => ?_)
        obtain ⟨m4, em4⟩ : ∃ z, z = sL m3 (mP m3 v0 12) (0 : Int32).toNatClampNeg ((mL m3 (mP m3 v0 12) (0 : Int32).toNatClampNeg) + v3) := ⟨_, rfl⟩
        rw [← em4] at hW
        have hw := hw.2.2 m4 em4
        refine lv_aload_n hx hb dX7_ride_160 rfl (lv_at hl 0 rfl) ?_
        refine lv_dup hx hb dX7_ride_161 rfl ?_
        refine R_getI (C := RX7) (T := TX7) (N := 36) hx hb hts i8 hown hK hW 5 hw.1 (by decide) rfl (by decide) (hts (.fieldLink RX7 167 "BoatLiftModel" "rides" "I") (by decide +kernel)) (fun _ h => h) (fun _ _ _ => rfl) dX7_ride_162 ?_
        have hw := hw.2
        refine lv_iconst (v := (1 : Int32)) hx hb dX7_ride_165 (by decide) ?_
        refine lv_iadd hx hb dX7_ride_166 ?_
        refine R_putI (C := RX7) (T := TX7) (N := 36) hx hb hts i8 tyX7 tyX7_ok nmX7 hown hK hW 5 hw.1 (by decide) rfl (by decide) (hts (.fieldLink RX7 167 "BoatLiftModel" "rides" "I") (by decide +kernel)) (fun _ h => h) (Or.inl rfl) rfl (fun _ _ _ => rfl) (fun _ _ _ => rfl) dX7_ride_167 (fun H locs hW => ?_)
        obtain ⟨m5, em5⟩ : ∃ z, z = sI m4 v0 5 ((mI m4 v0 5) + (1 : Int32)) := ⟨_, rfl⟩
        rw [← em5] at hW
        have hw := hw.2 m5 em5
        refine lv_aload_n hx hb dX7_ride_170 rfl (lv_at hl 0 rfl) ?_
        refine lv_dup hx hb dX7_ride_171 rfl ?_
        refine R_getI (C := RX7) (T := TX7) (N := 36) hx hb hts i8 hown hK hW 6 hw.1 (by decide) rfl (by decide) (hts (.fieldLink RX7 173 "BoatLiftModel" "allRides" "I") (by decide +kernel)) (fun _ h => h) (fun _ _ _ => rfl) dX7_ride_172 ?_
        have hw := hw.2
        refine lv_iconst (v := (1 : Int32)) hx hb dX7_ride_175 (by decide) ?_
        refine lv_iadd hx hb dX7_ride_176 ?_
        refine R_putI (C := RX7) (T := TX7) (N := 36) hx hb hts i8 tyX7 tyX7_ok nmX7 hown hK hW 6 hw.1 (by decide) rfl (by decide) (hts (.fieldLink RX7 173 "BoatLiftModel" "allRides" "I") (by decide +kernel)) (fun _ h => h) (Or.inl rfl) rfl (fun _ _ _ => rfl) (fun _ _ _ => rfl) dX7_ride_177 (fun H locs hW => ?_)
        obtain ⟨m6, em6⟩ : ∃ z, z = sI m5 v0 6 ((mI m5 v0 6) + (1 : Int32)) := ⟨_, rfl⟩
        rw [← em6] at hW
        have hw := hw.2 m6 em6
        refine lv_aload_n hx hb dX7_ride_180 rfl (lv_at hl 0 rfl) ?_
        refine lv_iconst (v := (1 : Int32)) hx hb dX7_ride_181 (by decide) ?_
        refine lv_aload_n hx hb dX7_ride_182 rfl (lv_at hl 0 rfl) ?_
        refine R_getI (C := RX7) (T := TX7) (N := 36) hx hb hts i8 hown hK hW 3 hw.1 (by decide) rfl (by decide) (hts (.fieldLink RX7 157 "BoatLiftModel" "side" "I") (by decide +kernel)) (fun _ h => h) (fun _ _ _ => rfl) dX7_ride_183 ?_
        have hw := hw.2
        refine lv_isub hx hb dX7_ride_186 ?_
        refine R_putI (C := RX7) (T := TX7) (N := 36) hx hb hts i8 tyX7 tyX7_ok nmX7 hown hK hW 3 hw.1 (by decide) rfl (by decide) (hts (.fieldLink RX7 157 "BoatLiftModel" "side" "I") (by decide +kernel)) (fun _ h => h) (Or.inl rfl) rfl (fun _ _ _ => rfl) (fun _ _ _ => rfl) dX7_ride_187 (fun H locs hW => ?_)
        obtain ⟨m7, em7⟩ : ∃ z, z = sI m6 v0 3 ((1 : Int32) - (mI m6 v0 3)) := ⟨_, rfl⟩
        rw [← em7] at hW
        have hw := hw.2 m7 em7
        refine lv_aload_n hx hb dX7_ride_190 rfl (lv_at hl 0 rfl) ?_
        refine lv_iload_n hx hb dX7_ride_191 rfl (lv_at hl 1 rfl) ?_
        refine lv_aload_n hx hb dX7_ride_192 rfl (lv_at hl 0 rfl) ?_
        refine lv_iload_n hx hb dX7_ride_193 rfl (lv_at hl 1 rfl) ?_
        refine R_call (va_runV (As := [.int v1]) (rest := [.int v1, .ref (ad g v0)]) ⟨hx, hb, hml, hown, hts⟩ (c_X7_lasts l g m7 v0 v1 _ hw.2) (cwV 1 hts gX7_ride_X7_lasts rfl rfl rfl (by decide +kernel) ⟨by decide, by decide⟩) (PP.preV (q := (RX7, TX7, 36)) hK hW hw.1 (by decide) rfl) rfl rfl hl.1 rfl (lv_room (Nat.le_of_ble_eq_true rfl)) dX7_ride_194 ⟨by decide, by decide⟩) hW (fun r8 m9 H locs hw hW => ?_)
        refine W.eq (g2 := F0 m 197 ls [.int r8, .int v1, .ref (ad g v0)]) rfl ?_
        refine lv_iadd hx hb dX7_ride_197 ?_
        refine R_putI (C := RX7) (T := TX7) (N := 36) hx hb hts i8 tyX7 tyX7_ok nmX7 hown hK hW 4 hw.1 (by decide) rfl (by decide) (hts (.fieldLink RX7 164 "BoatLiftModel" "free" "I") (by decide +kernel)) (fun _ h => h) (Or.inl rfl) rfl (fun _ _ _ => rfl) (fun _ _ _ => rfl) dX7_ride_198 (fun H locs hW => ?_)
        obtain ⟨m10, em10⟩ : ∃ z, z = sI m9 v0 4 (v1 + r8) := ⟨_, rfl⟩
        rw [← em10] at hW
        have hw := hw.2 m10 em10
        refine lv_aload_n hx hb dX7_ride_201 rfl (lv_at hl 0 rfl) ?_
        refine R_getI (C := RX7) (T := TX7) (N := 36) hx hb hts i8 hown hK hW 4 hw.1 (by decide) rfl (by decide) (hts (.fieldLink RX7 164 "BoatLiftModel" "free" "I") (by decide +kernel)) (fun _ h => h) (fun _ _ _ => rfl) dX7_ride_202 ?_
        have hw := hw.2
        exact R_iret hx hb hr hlk hW hw dX7_ride_205
      · have hw := hw.2 c2
        refine lv_lload_n hx hb dX7_ride_81 rfl (lv_at hl 3 rfl) ?_
        refine lv_aload_n hx hb dX7_ride_82 rfl (lv_at hl 0 rfl) ?_
        refine R_getI (C := RX7) (T := TX7) (N := 36) hx hb hts i8 hown hK hW 3 hw.1 (by decide) rfl (by decide) (hts (.fieldLink RX7 157 "BoatLiftModel" "side" "I") (by decide +kernel)) (fun _ h => h) (fun _ _ _ => rfl) dX7_ride_83 ?_
        have hw := hw.2
        refine lv_if_ne (tgt := 105) hx hb dX7_ride_86 (by decide) (fun c11 => ?_) (fun c11 => ?_)
        · have hw := hw.1 c11
          refine lv_aload_n hx hb dX7_ride_105 rfl (lv_at hl 0 rfl) ?_
          refine R_getP (C := RX7) (T := TX7) (N := 36) hx hb hts i8 hown hK hW 19 hw.1 (by decide) rfl (by decide) (hts (.fieldLink RX7 49 "BoatLiftModel" "weight" "[I") (by decide +kernel)) (fun _ h => h) (fun _ _ _ => rfl) hw.2.1 dX7_ride_106 ?_
          have hw := hw.2.2
          refine lv_aload_n hx hb dX7_ride_109 rfl (lv_at hl 0 rfl) ?_
          refine R_getP (C := RX7) (T := TX7) (N := 36) hx hb hts i8 hown hK hW 23 hw.1 (by decide) rfl (by decide) (hts (.fieldLink RX7 58 "BoatLiftModel" "queue" "[I") (by decide +kernel)) (fun _ h => h) (fun _ _ _ => rfl) hw.2.1 dX7_ride_110 ?_
          have hw := hw.2.2
          refine lv_iload hx hb dX7_ride_113 (lv_at hl 4 rfl) ?_
          refine R_iald hx hb hK hW hw.1 hw.2.1 dX7_ride_115 ?_
          have hw := hw.2.2
          refine R_iald hx hb hK hW hw.1 hw.2.1 dX7_ride_116 ?_
          have hw := hw.2.2
          refine lv_ineg hx hb dX7_ride_117 ?_
          refine lv_i2l (v := (-(mI mm (mP mm v0 19) (mI mm (mP mm v0 23) v5.toNatClampNeg).toNatClampNeg)).toInt64) hx hb dX7_ride_118 rfl ?_
          exact B119 v5 v3 ((-(mI mm (mP mm v0 19) (mI mm (mP mm v0 23) v5.toNatClampNeg).toNatClampNeg)).toInt64) mm hw _ _ _ hW (lv_sub hl [0, 1, 2, 4] rfl)
        · have hw := hw.2 c11
          refine lv_aload_n hx hb dX7_ride_89 rfl (lv_at hl 0 rfl) ?_
          refine R_getP (C := RX7) (T := TX7) (N := 36) hx hb hts i8 hown hK hW 19 hw.1 (by decide) rfl (by decide) (hts (.fieldLink RX7 49 "BoatLiftModel" "weight" "[I") (by decide +kernel)) (fun _ h => h) (fun _ _ _ => rfl) hw.2.1 dX7_ride_90 ?_
          have hw := hw.2.2
          refine lv_aload_n hx hb dX7_ride_93 rfl (lv_at hl 0 rfl) ?_
          refine R_getP (C := RX7) (T := TX7) (N := 36) hx hb hts i8 hown hK hW 23 hw.1 (by decide) rfl (by decide) (hts (.fieldLink RX7 58 "BoatLiftModel" "queue" "[I") (by decide +kernel)) (fun _ h => h) (fun _ _ _ => rfl) hw.2.1 dX7_ride_94 ?_
          have hw := hw.2.2
          refine lv_iload hx hb dX7_ride_97 (lv_at hl 4 rfl) ?_
          refine R_iald hx hb hK hW hw.1 hw.2.1 dX7_ride_99 ?_
          have hw := hw.2.2
          refine R_iald hx hb hK hW hw.1 hw.2.1 dX7_ride_100 ?_
          have hw := hw.2.2
          refine lv_i2l (v := (mI mm (mP mm v0 19) (mI mm (mP mm v0 23) v5.toNatClampNeg).toNatClampNeg).toInt64) hx hb dX7_ride_101 rfl ?_
          refine lv_goto (tgt := 119) hx hb dX7_ride_102 (by decide) ?_
          exact B119 v5 v3 ((mI mm (mP mm v0 19) (mI mm (mP mm v0 23) v5.toNatClampNeg).toNatClampNeg).toInt64) mm hw _ _ _ hW (lv_sub hl [0, 1, 2, 4] rfl)
  unfold wp_X7_ride at hw
  refine lv_iload_n hx hb dX7_ride_0 rfl (lv_at hl 1 rfl) ?_
  refine lv_aload_n hx hb dX7_ride_1 rfl (lv_at hl 0 rfl) ?_
  refine R_getI (C := RX7) (T := TX7) (N := 36) hx hb hts i8 hown hK hW 4 hw.1 (by decide) rfl (by decide) (hts (.fieldLink RX7 164 "BoatLiftModel" "free" "I") (by decide +kernel)) (fun _ h => h) (fun _ _ _ => rfl) dX7_ride_2 ?_
  have hw := hw.2
  refine lv_sipush (v := (20000 : Int32)) hx hb dX7_ride_5 (by decide) ?_
  refine R_call (va_runS (As := [.int v1, .int (mI m0 v0 4), .int (20000 : Int32)]) (rest := []) ⟨hx, hb, hml, hown, hts⟩ (c_X7_lies l g m0 v1 (mI m0 v0 4) (20000 : Int32) _ hw) (va_cwS 3 hts gX7_ride_X7_lies rfl rfl rfl (by decide +kernel) ⟨by decide, by decide⟩) (PP.pre hK hW) rfl rfl hl.1 rfl (lv_room (Nat.le_of_ble_eq_true rfl)) dX7_ride_8 ⟨by decide, by decide⟩) hW (fun r12 m13 H locs hw hW => ?_)
  refine W.eq (g2 := F0 m 11 ls [.int r12]) rfl ?_
  refine lv_if_eq (tgt := 44) hx hb dX7_ride_11 (by decide) (fun c14 => ?_) (fun c14 => ?_)
  · have hw := hw.1 c14
    refine lv_iconst (v := (-1 : Int32)) hx hb dX7_ride_44 (by decide) ?_
    exact R_iret hx hb hr hlk hW hw dX7_ride_45
  · have hw := hw.2 c14
    refine lv_iload_n hx hb dX7_ride_14 rfl (lv_at hl 2 rfl) ?_
    refine lv_if_lt (tgt := 44) hx hb dX7_ride_15 (by decide) (fun c15 => ?_) (fun c15 => ?_)
    · have hw := hw.1 c15
      refine lv_iconst (v := (-1 : Int32)) hx hb dX7_ride_44 (by decide) ?_
      exact R_iret hx hb hr hlk hW hw dX7_ride_45
    · have hw := hw.2 c15
      refine lv_aload_n hx hb dX7_ride_18 rfl (lv_at hl 0 rfl) ?_
      refine R_getI (C := RX7) (T := TX7) (N := 36) hx hb hts i8 hown hK hW 5 hw.1 (by decide) rfl (by decide) (hts (.fieldLink RX7 167 "BoatLiftModel" "rides" "I") (by decide +kernel)) (fun _ h => h) (fun _ _ _ => rfl) dX7_ride_19 ?_
      have hw := hw.2
      refine lv_aload_n hx hb dX7_ride_22 rfl (lv_at hl 0 rfl) ?_
      refine R_getP (C := RX7) (T := TX7) (N := 36) hx hb hts i8 hown hK hW 9 hw.1 (by decide) rfl (by decide) (hts (.fieldLink RX7 17 "BoatLiftModel" "law" "[I") (by decide +kernel)) (fun _ h => h) (fun _ _ _ => rfl) hw.2.1 dX7_ride_23 ?_
      have hw := hw.2.2
      refine lv_iconst (v := (4 : Int32)) hx hb dX7_ride_26 (by decide) ?_
      refine R_iald hx hb hK hW hw.1 hw.2.1 dX7_ride_27 ?_
      have hw := hw.2.2
      refine lv_icmp_ge (tgt := 44) hx hb dX7_ride_28 (by decide) (fun c16 => ?_) (fun c16 => ?_)
      · have hw := hw.1 c16
        refine lv_iconst (v := (-1 : Int32)) hx hb dX7_ride_44 (by decide) ?_
        exact R_iret hx hb hr hlk hW hw dX7_ride_45
      · have hw := hw.2 c16
        refine lv_iload_n hx hb dX7_ride_31 rfl (lv_at hl 1 rfl) ?_
        refine lv_aload_n hx hb dX7_ride_32 rfl (lv_at hl 0 rfl) ?_
        refine lv_iload_n hx hb dX7_ride_33 rfl (lv_at hl 1 rfl) ?_
        refine R_call (va_runV (As := [.int v1]) (rest := [.int v1]) ⟨hx, hb, hml, hown, hts⟩ (c_X7_lasts l g m13 v0 v1 _ hw.2) (cwV 1 hts gX7_ride_X7_lasts rfl rfl rfl (by decide +kernel) ⟨by decide, by decide⟩) (PP.preV (q := (RX7, TX7, 36)) hK hW hw.1 (by decide) rfl) rfl rfl hl.1 rfl (lv_room (Nat.le_of_ble_eq_true rfl)) dX7_ride_34 ⟨by decide, by decide⟩) hW (fun r17 m18 H locs hw hW => ?_)
        refine W.eq (g2 := F0 m 37 ls [.int r17, .int v1]) rfl ?_
        refine lv_iadd hx hb dX7_ride_37 ?_
        refine lv_sipush (v := (20000 : Int32)) hx hb dX7_ride_38 (by decide) ?_
        refine lv_icmp_le (tgt := 46) hx hb dX7_ride_41 (by decide) (fun c19 => ?_) (fun c19 => ?_)
        · have hw := hw.1 c19
          refine lv_aload_n hx hb dX7_ride_46 rfl (lv_at hl 0 rfl) ?_
          refine lv_aload_n hx hb dX7_ride_47 rfl (lv_at hl 0 rfl) ?_
          refine R_getI (C := RX7) (T := TX7) (N := 36) hx hb hts i8 hown hK hW 3 hw.1 (by decide) rfl (by decide) (hts (.fieldLink RX7 157 "BoatLiftModel" "side" "I") (by decide +kernel)) (fun _ h => h) (fun _ _ _ => rfl) dX7_ride_48 ?_
          have hw := hw.2
          refine lv_iload_n hx hb dX7_ride_51 rfl (lv_at hl 1 rfl) ?_
          refine lv_iconst (v := (0 : Int32)) hx hb dX7_ride_52 (by decide) ?_
          refine R_call (va_runV (As := [.int (mI m18 v0 3), .int v1, .int (0 : Int32)]) (rest := []) ⟨hx, hb, hml, hown, hts⟩ (c_X7_queues l g m18 v0 (mI m18 v0 3) v1 (0 : Int32) _ hw.2) (cwV 3 hts gX7_ride_X7_queues rfl rfl rfl (by decide +kernel) ⟨by decide, by decide⟩) (PP.preV (q := (RX7, TX7, 36)) hK hW hw.1 (by decide) rfl) rfl rfl hl.1 rfl (lv_room (Nat.le_of_ble_eq_true rfl)) dX7_ride_53 ⟨by decide, by decide⟩) hW (fun _ m21 H locs hw hW => ?_)
          refine W.eq (g2 := F0 m 56 ls []) rfl ?_
          refine lv_iload_n hx hb dX7_ride_56 rfl (lv_at hl 2 rfl) ?_
          refine lv_aload_n hx hb dX7_ride_57 rfl (lv_at hl 0 rfl) ?_
          refine R_call (va_runV (As := []) (rest := [.int v2]) ⟨hx, hb, hml, hown, hts⟩ (c_X7_fits l g m21 v0 _ hw.2) (cwV 0 hts gX7_ride_X7_fits rfl rfl rfl (by decide +kernel) ⟨by decide, by decide⟩) (PP.preV (q := (RX7, TX7, 36)) hK hW hw.1 (by decide) rfl) rfl rfl hl.1 rfl (lv_room (Nat.le_of_ble_eq_true rfl)) dX7_ride_58 ⟨by decide, by decide⟩) hW (fun r22 m23 H locs hw hW => ?_)
          refine W.eq (g2 := F0 m 61 ls [.int r22, .int v2]) rfl ?_
          refine lv_icmp_le (tgt := 66) hx hb dX7_ride_61 (by decide) (fun c24 => ?_) (fun c24 => ?_)
          · have hw := hw.1 c24
            refine lv_aload_n hx hb dX7_ride_66 rfl (lv_at hl 0 rfl) ?_
            refine R_getI (C := RX7) (T := TX7) (N := 36) hx hb hts i8 hown hK hW 5 hw.1 (by decide) rfl (by decide) (hts (.fieldLink RX7 167 "BoatLiftModel" "rides" "I") (by decide +kernel)) (fun _ h => h) (fun _ _ _ => rfl) dX7_ride_67 ?_
            have hw := hw.2
            refine lv_i2l (v := (mI m23 v0 5).toInt64) hx hb dX7_ride_70 rfl ?_
            refine lv_lstore_n (lv' := [(3, .long (mI m23 v0 5).toInt64), (0, .ref (ad g v0)), (1, .int v1), (2, .int v2)]) hx hb dX7_ride_71 rfl hl (by decide) rfl (fun ls hl => ?_)
            refine lv_iconst (v := (0 : Int32)) hx hb dX7_ride_72 (by decide) ?_
            refine lv_istore (lv' := [(5, .int (0 : Int32)), (3, .long (mI m23 v0 5).toInt64), (0, .ref (ad g v0)), (1, .int v1), (2, .int v2)]) hx hb dX7_ride_73 hl (by decide) rfl (fun ls hl => ?_)
            obtain ⟨n, hw⟩ := hw
            exact L75  n ((mI m23 v0 5).toInt64) (0 : Int32) m23 hw _ _ _ hW (lv_sub hl [2, 3, 4, 1, 0] rfl)
          · have hw := hw.2 c24
            refine lv_iconst (v := (-1 : Int32)) hx hb dX7_ride_64 (by decide) ?_
            exact R_iret hx hb hr hlk hW hw dX7_ride_65
        · have hw := hw.2 c19
          refine lv_iconst (v := (-1 : Int32)) hx hb dX7_ride_44 (by decide) ?_
          exact R_iret hx hb hr hlk hW hw dX7_ride_45

def wp_X7_renew (m0 : Mm) (v0 : Nat) (v1 : Int32) (Φ : Int32 → Mm → Prop) : Prop :=
  mT m0 v0 = 8 ∧ wp_X7_lies m0 v1 (mI m0 v0 4) (20000 : Int32) (fun (r1 : Int32) (m2 : Mm) => ((r1 = 0 → Φ (-1 : Int32) m2) ∧ (¬ r1 = 0 → mT m2 v0 = 8 ∧ (mP m2 v0 9) ≠ 0 ∧ mT m2 (mP m2 v0 9) = 9 ∧ vp_in (5 : Int32) (mN m2 (mP m2 v0 9)) ∧ (((v1 + (mI m2 (mP m2 v0 9) (5 : Int32).toNatClampNeg)) ≤ (20000 : Int32) → mT m2 v0 = 8 ∧ (mP m2 v0 9) ≠ 0 ∧ mT m2 (mP m2 v0 9) = 9 ∧ vp_in (5 : Int32) (mN m2 (mP m2 v0 9)) ∧ mT m2 v0 = 8 ∧ ∀ m5 : Mm, m5 = sI m2 v0 4 (v1 + (mI m2 (mP m2 v0 9) (5 : Int32).toNatClampNeg)) → mT m5 v0 = 8 ∧ ∀ m6 : Mm, m6 = sI m5 v0 5 (0 : Int32) → mT m6 v0 = 8 ∧ Φ (mI m6 v0 4) m6) ∧ (¬ (v1 + (mI m2 (mP m2 v0 9) (5 : Int32).toNatClampNeg)) ≤ (20000 : Int32) → Φ (-1 : Int32) m2)))))
abbrev rm_X7_renew : Room := { frames := 1, cells := 0, slots := 0, locals := 22 }
set_option maxHeartbeats 4000000 in
set_option maxRecDepth 100000 in
theorem c_X7_renew (l : Launch) (g : Gv) (m0 : Mm) (v0 : Nat) (v1 : Int32) (Φ : Int32 → Mm → Prop) (hw : wp_X7_renew m0 v0 v1 Φ) : Met l yX7_renew wsX7_renew rm_X7_renew (PP g [.ref (ad g v0), .int v1] m0) (QQ g vI Φ) 0 0 (Ag g) := by
  refine CT_of (by decide +kernel) rfl (Nat.le_of_ble_eq_true rfl) ?_
  intro p e s m below meth c hx hb hr hml hown hts hlk hnm hK hW ls hl
  have hown : s.vm.findClass RX7 = some m.cls := hown
  have hl : lv_has ls 2 [(0, .ref (ad g v0)), (1, .int v1)] := hl
  have i8 : ∀ w ∈ u_ws RX7 TX7 36, w ∈ wsX7_renew := by decide +kernel
  unfold wp_X7_renew at hw
  refine lv_iload_n hx hb dX7_renew_0 rfl (lv_at hl 1 rfl) ?_
  refine lv_aload_n hx hb dX7_renew_1 rfl (lv_at hl 0 rfl) ?_
  refine R_getI (C := RX7) (T := TX7) (N := 36) hx hb hts i8 hown hK hW 4 hw.1 (by decide) rfl (by decide) (hts (.fieldLink RX7 164 "BoatLiftModel" "free" "I") (by decide +kernel)) (fun _ h => h) (fun _ _ _ => rfl) dX7_renew_2 ?_
  have hw := hw.2
  refine lv_sipush (v := (20000 : Int32)) hx hb dX7_renew_5 (by decide) ?_
  refine R_call (va_runS (As := [.int v1, .int (mI m0 v0 4), .int (20000 : Int32)]) (rest := []) ⟨hx, hb, hml, hown, hts⟩ (c_X7_lies l g m0 v1 (mI m0 v0 4) (20000 : Int32) _ hw) (va_cwS 3 hts gX7_renew_X7_lies rfl rfl rfl (by decide +kernel) ⟨by decide, by decide⟩) (PP.pre hK hW) rfl rfl hl.1 rfl (lv_room (Nat.le_of_ble_eq_true rfl)) dX7_renew_8 ⟨by decide, by decide⟩) hW (fun r1 m2 H locs hw hW => ?_)
  refine W.eq (g2 := F0 m 11 ls [.int r1]) rfl ?_
  refine lv_if_eq (tgt := 28) hx hb dX7_renew_11 (by decide) (fun c3 => ?_) (fun c3 => ?_)
  · have hw := hw.1 c3
    refine lv_iconst (v := (-1 : Int32)) hx hb dX7_renew_28 (by decide) ?_
    exact R_iret hx hb hr hlk hW hw dX7_renew_29
  · have hw := hw.2 c3
    refine lv_iload_n hx hb dX7_renew_14 rfl (lv_at hl 1 rfl) ?_
    refine lv_aload_n hx hb dX7_renew_15 rfl (lv_at hl 0 rfl) ?_
    refine R_getP (C := RX7) (T := TX7) (N := 36) hx hb hts i8 hown hK hW 9 hw.1 (by decide) rfl (by decide) (hts (.fieldLink RX7 17 "BoatLiftModel" "law" "[I") (by decide +kernel)) (fun _ h => h) (fun _ _ _ => rfl) hw.2.1 dX7_renew_16 ?_
    have hw := hw.2.2
    refine lv_iconst (v := (5 : Int32)) hx hb dX7_renew_19 (by decide) ?_
    refine R_iald hx hb hK hW hw.1 hw.2.1 dX7_renew_20 ?_
    have hw := hw.2.2
    refine lv_iadd hx hb dX7_renew_21 ?_
    refine lv_sipush (v := (20000 : Int32)) hx hb dX7_renew_22 (by decide) ?_
    refine lv_icmp_le (tgt := 30) hx hb dX7_renew_25 (by decide) (fun c4 => ?_) (fun c4 => ?_)
    · have hw := hw.1 c4
      refine lv_aload_n hx hb dX7_renew_30 rfl (lv_at hl 0 rfl) ?_
      refine lv_iload_n hx hb dX7_renew_31 rfl (lv_at hl 1 rfl) ?_
      refine lv_aload_n hx hb dX7_renew_32 rfl (lv_at hl 0 rfl) ?_
      refine R_getP (C := RX7) (T := TX7) (N := 36) hx hb hts i8 hown hK hW 9 hw.1 (by decide) rfl (by decide) (hts (.fieldLink RX7 17 "BoatLiftModel" "law" "[I") (by decide +kernel)) (fun _ h => h) (fun _ _ _ => rfl) hw.2.1 dX7_renew_33 ?_
      have hw := hw.2.2
      refine lv_iconst (v := (5 : Int32)) hx hb dX7_renew_36 (by decide) ?_
      refine R_iald hx hb hK hW hw.1 hw.2.1 dX7_renew_37 ?_
      have hw := hw.2.2
      refine lv_iadd hx hb dX7_renew_38 ?_
      refine R_putI (C := RX7) (T := TX7) (N := 36) hx hb hts i8 tyX7 tyX7_ok nmX7 hown hK hW 4 hw.1 (by decide) rfl (by decide) (hts (.fieldLink RX7 164 "BoatLiftModel" "free" "I") (by decide +kernel)) (fun _ h => h) (Or.inl rfl) rfl (fun _ _ _ => rfl) (fun _ _ _ => rfl) dX7_renew_39 (fun H locs hW => ?_)
      obtain ⟨m5, em5⟩ : ∃ z, z = sI m2 v0 4 (v1 + (mI m2 (mP m2 v0 9) (5 : Int32).toNatClampNeg)) := ⟨_, rfl⟩
      rw [← em5] at hW
      have hw := hw.2 m5 em5
      refine lv_aload_n hx hb dX7_renew_42 rfl (lv_at hl 0 rfl) ?_
      refine lv_iconst (v := (0 : Int32)) hx hb dX7_renew_43 (by decide) ?_
      refine R_putI (C := RX7) (T := TX7) (N := 36) hx hb hts i8 tyX7 tyX7_ok nmX7 hown hK hW 5 hw.1 (by decide) rfl (by decide) (hts (.fieldLink RX7 167 "BoatLiftModel" "rides" "I") (by decide +kernel)) (fun _ h => h) (Or.inl rfl) rfl (fun _ _ _ => rfl) (fun _ _ _ => rfl) dX7_renew_44 (fun H locs hW => ?_)
      obtain ⟨m6, em6⟩ : ∃ z, z = sI m5 v0 5 (0 : Int32) := ⟨_, rfl⟩
      rw [← em6] at hW
      have hw := hw.2 m6 em6
      refine lv_aload_n hx hb dX7_renew_47 rfl (lv_at hl 0 rfl) ?_
      refine R_getI (C := RX7) (T := TX7) (N := 36) hx hb hts i8 hown hK hW 4 hw.1 (by decide) rfl (by decide) (hts (.fieldLink RX7 164 "BoatLiftModel" "free" "I") (by decide +kernel)) (fun _ h => h) (fun _ _ _ => rfl) dX7_renew_48 ?_
      have hw := hw.2
      exact R_iret hx hb hr hlk hW hw dX7_renew_51
    · have hw := hw.2 c4
      refine lv_iconst (v := (-1 : Int32)) hx hb dX7_renew_28 (by decide) ?_
      exact R_iret hx hb hr hlk hW hw dX7_renew_29

def wp_X7_stock (m0 : Mm) (v0 : Nat) (v1 : Int32) (Φ : Int64 → Mm → Prop) : Prop :=
  wp_X7_isSide m0 v1 (fun (r1 : Int32) (m2 : Mm) => ((r1 = 0 → Φ (0 : Int64) m2) ∧ (¬ r1 = 0 → mT m2 v0 = 8 ∧ (mP m2 v0 12) ≠ 0 ∧ mT m2 (mP m2 v0 12) = 10 ∧ vp_in v1 (mN m2 (mP m2 v0 12)) ∧ Φ (mL m2 (mP m2 v0 12) v1.toNatClampNeg) m2)))
abbrev rm_X7_stock : Room := { frames := 2, cells := 0, slots := 0, locals := 42 }
set_option maxHeartbeats 4000000 in
set_option maxRecDepth 100000 in
theorem c_X7_stock (l : Launch) (g : Gv) (m0 : Mm) (v0 : Nat) (v1 : Int32) (Φ : Int64 → Mm → Prop) (hw : wp_X7_stock m0 v0 v1 Φ) : Met l yX7_stock wsX7_stock rm_X7_stock (PP g [.ref (ad g v0), .int v1] m0) (QQ g vL Φ) 0 0 (Ag g) := by
  refine CT_of (by decide +kernel) rfl (Nat.le_of_ble_eq_true rfl) ?_
  intro p e s m below meth c hx hb hr hml hown hts hlk hnm hK hW ls hl
  have hown : s.vm.findClass RX7 = some m.cls := hown
  have hl : lv_has ls 2 [(0, .ref (ad g v0)), (1, .int v1)] := hl
  have i8 : ∀ w ∈ u_ws RX7 TX7 36, w ∈ wsX7_stock := by decide +kernel
  unfold wp_X7_stock at hw
  refine lv_iload_n hx hb dX7_stock_0 rfl (lv_at hl 1 rfl) ?_
  refine R_call (va_runS (As := [.int v1]) (rest := []) ⟨hx, hb, hml, hown, hts⟩ (c_X7_isSide l g m0 v1 _ hw) (va_cwS 1 hts gX7_stock_X7_isSide rfl rfl rfl (by decide +kernel) ⟨by decide, by decide⟩) (PP.pre hK hW) rfl rfl hl.1 rfl (lv_room (Nat.le_of_ble_eq_true rfl)) dX7_stock_1 ⟨by decide, by decide⟩) hW (fun r1 m2 H locs hw hW => ?_)
  refine W.eq (g2 := F0 m 4 ls [.int r1]) rfl ?_
  refine lv_if_eq (tgt := 16) hx hb dX7_stock_4 (by decide) (fun c3 => ?_) (fun c3 => ?_)
  · have hw := hw.1 c3
    refine lv_lconst (v := (0 : Int64)) hx hb dX7_stock_16 (by decide) ?_
    exact R_lret hx hb hr hlk hW hw dX7_stock_17
  · have hw := hw.2 c3
    refine lv_aload_n hx hb dX7_stock_7 rfl (lv_at hl 0 rfl) ?_
    refine R_getP (C := RX7) (T := TX7) (N := 36) hx hb hts i8 hown hK hW 12 hw.1 (by decide) rfl (by decide) (hts (.fieldLink RX7 27 "BoatLiftModel" "stock" "[J") (by decide +kernel)) (fun _ h => h) (fun _ _ _ => rfl) hw.2.1 dX7_stock_8 ?_
    have hw := hw.2.2
    refine lv_iload_n hx hb dX7_stock_11 rfl (lv_at hl 1 rfl) ?_
    refine R_lald hx hb hK hW hw.1 hw.2.1 dX7_stock_12 ?_
    have hw := hw.2.2
    refine lv_goto (tgt := 17) hx hb dX7_stock_13 (by decide) ?_
    exact R_lret hx hb hr hlk hW hw dX7_stock_17

def wp_X7_level (m0 : Mm) (v0 : Nat) (v1 : Int32) (Φ : Int32 → Mm → Prop) : Prop :=
  wp_X7_isSide m0 v1 (fun (r1 : Int32) (m2 : Mm) => ((r1 = 0 → Φ (0 : Int32) m2) ∧ (¬ r1 = 0 → mT m2 v0 = 8 ∧ wp_X7_levelOf m2 v0 v1 (fun (r4 : Int32) (m5 : Mm) => Φ r4 m5))))
abbrev rm_X7_level : Room := { frames := 2, cells := 0, slots := 0, locals := 44 }
set_option maxHeartbeats 4000000 in
set_option maxRecDepth 100000 in
theorem c_X7_level (l : Launch) (g : Gv) (m0 : Mm) (v0 : Nat) (v1 : Int32) (Φ : Int32 → Mm → Prop) (hw : wp_X7_level m0 v0 v1 Φ) : Met l yX7_level wsX7_level rm_X7_level (PP g [.ref (ad g v0), .int v1] m0) (QQ g vI Φ) 0 0 (Ag g) := by
  refine CT_of (by decide +kernel) rfl (Nat.le_of_ble_eq_true rfl) ?_
  intro p e s m below meth c hx hb hr hml hown hts hlk hnm hK hW ls hl
  have hown : s.vm.findClass RX7 = some m.cls := hown
  have hl : lv_has ls 2 [(0, .ref (ad g v0)), (1, .int v1)] := hl
  unfold wp_X7_level at hw
  refine lv_iload_n hx hb dX7_level_0 rfl (lv_at hl 1 rfl) ?_
  refine R_call (va_runS (As := [.int v1]) (rest := []) ⟨hx, hb, hml, hown, hts⟩ (c_X7_isSide l g m0 v1 _ hw) (va_cwS 1 hts gX7_level_X7_isSide rfl rfl rfl (by decide +kernel) ⟨by decide, by decide⟩) (PP.pre hK hW) rfl rfl hl.1 rfl (lv_room (Nat.le_of_ble_eq_true rfl)) dX7_level_1 ⟨by decide, by decide⟩) hW (fun r1 m2 H locs hw hW => ?_)
  refine W.eq (g2 := F0 m 4 ls [.int r1]) rfl ?_
  refine lv_if_eq (tgt := 15) hx hb dX7_level_4 (by decide) (fun c3 => ?_) (fun c3 => ?_)
  · have hw := hw.1 c3
    refine lv_iconst (v := (0 : Int32)) hx hb dX7_level_15 (by decide) ?_
    exact R_iret hx hb hr hlk hW hw dX7_level_16
  · have hw := hw.2 c3
    refine lv_aload_n hx hb dX7_level_7 rfl (lv_at hl 0 rfl) ?_
    refine lv_iload_n hx hb dX7_level_8 rfl (lv_at hl 1 rfl) ?_
    refine R_call (va_runV (As := [.int v1]) (rest := []) ⟨hx, hb, hml, hown, hts⟩ (c_X7_levelOf l g m2 v0 v1 _ hw.2) (cwV 1 hts gX7_level_X7_levelOf rfl rfl rfl (by decide +kernel) ⟨by decide, by decide⟩) (PP.preV (q := (RX7, TX7, 36)) hK hW hw.1 (by decide) rfl) rfl rfl hl.1 rfl (lv_room (Nat.le_of_ble_eq_true rfl)) dX7_level_9 ⟨by decide, by decide⟩) hW (fun r4 m5 H locs hw hW => ?_)
    refine W.eq (g2 := F0 m 12 ls [.int r4]) rfl ?_
    refine lv_goto (tgt := 16) hx hb dX7_level_12 (by decide) ?_
    exact R_iret hx hb hr hlk hW hw dX7_level_16

def wp_X7_depth (m0 : Mm) (v0 : Nat) (v1 : Int32) (Φ : Int32 → Mm → Prop) : Prop :=
  wp_X7_isSide m0 v1 (fun (r1 : Int32) (m2 : Mm) => ((r1 = 0 → Φ (0 : Int32) m2) ∧ (¬ r1 = 0 → mT m2 v0 = 8 ∧ wp_X7_depthOf m2 v0 v1 (fun (r4 : Int32) (m5 : Mm) => Φ r4 m5))))
abbrev rm_X7_depth : Room := { frames := 3, cells := 0, slots := 0, locals := 65 }
set_option maxHeartbeats 4000000 in
set_option maxRecDepth 100000 in
theorem c_X7_depth (l : Launch) (g : Gv) (m0 : Mm) (v0 : Nat) (v1 : Int32) (Φ : Int32 → Mm → Prop) (hw : wp_X7_depth m0 v0 v1 Φ) : Met l yX7_depth wsX7_depth rm_X7_depth (PP g [.ref (ad g v0), .int v1] m0) (QQ g vI Φ) 0 0 (Ag g) := by
  refine CT_of (by decide +kernel) rfl (Nat.le_of_ble_eq_true rfl) ?_
  intro p e s m below meth c hx hb hr hml hown hts hlk hnm hK hW ls hl
  have hown : s.vm.findClass RX7 = some m.cls := hown
  have hl : lv_has ls 2 [(0, .ref (ad g v0)), (1, .int v1)] := hl
  unfold wp_X7_depth at hw
  refine lv_iload_n hx hb dX7_depth_0 rfl (lv_at hl 1 rfl) ?_
  refine R_call (va_runS (As := [.int v1]) (rest := []) ⟨hx, hb, hml, hown, hts⟩ (c_X7_isSide l g m0 v1 _ hw) (va_cwS 1 hts gX7_depth_X7_isSide rfl rfl rfl (by decide +kernel) ⟨by decide, by decide⟩) (PP.pre hK hW) rfl rfl hl.1 rfl (lv_room (Nat.le_of_ble_eq_true rfl)) dX7_depth_1 ⟨by decide, by decide⟩) hW (fun r1 m2 H locs hw hW => ?_)
  refine W.eq (g2 := F0 m 4 ls [.int r1]) rfl ?_
  refine lv_if_eq (tgt := 15) hx hb dX7_depth_4 (by decide) (fun c3 => ?_) (fun c3 => ?_)
  · have hw := hw.1 c3
    refine lv_iconst (v := (0 : Int32)) hx hb dX7_depth_15 (by decide) ?_
    exact R_iret hx hb hr hlk hW hw dX7_depth_16
  · have hw := hw.2 c3
    refine lv_aload_n hx hb dX7_depth_7 rfl (lv_at hl 0 rfl) ?_
    refine lv_iload_n hx hb dX7_depth_8 rfl (lv_at hl 1 rfl) ?_
    refine R_call (va_runV (As := [.int v1]) (rest := []) ⟨hx, hb, hml, hown, hts⟩ (c_X7_depthOf l g m2 v0 v1 _ hw.2) (cwV 1 hts gX7_depth_X7_depthOf rfl rfl rfl (by decide +kernel) ⟨by decide, by decide⟩) (PP.preV (q := (RX7, TX7, 36)) hK hW hw.1 (by decide) rfl) rfl rfl hl.1 rfl (lv_room (Nat.le_of_ble_eq_true rfl)) dX7_depth_9 ⟨by decide, by decide⟩) hW (fun r4 m5 H locs hw hW => ?_)
    refine W.eq (g2 := F0 m 12 ls [.int r4]) rfl ?_
    refine lv_goto (tgt := 16) hx hb dX7_depth_12 (by decide) ?_
    exact R_iret hx hb hr hlk hW hw dX7_depth_16

def wp_X7_look (m0 : Mm) (v0 : Nat) (v1 : Int32) (v2 : Int32) (Φ : Int32 → Mm → Prop) : Prop :=
  mT m0 v0 = 8 ∧ wp_X7_lies m0 v1 (0 : Int32) ((mI m0 v0 7) - (1 : Int32)) (fun (r1 : Int32) (m2 : Mm) => ((¬ r1 = 0 → ((v2 = (0 : Int32) → mT m2 v0 = 8 ∧ (mP m2 v0 15) ≠ 0 ∧ mT m2 (mP m2 v0 15) = 9 ∧ vp_in v1 (mN m2 (mP m2 v0 15)) ∧ Φ (mI m2 (mP m2 v0 15) v1.toNatClampNeg) m2) ∧ (v2 = (1 : Int32) → mT m2 v0 = 8 ∧ (mP m2 v0 16) ≠ 0 ∧ mT m2 (mP m2 v0 16) = 9 ∧ vp_in v1 (mN m2 (mP m2 v0 16)) ∧ Φ (mI m2 (mP m2 v0 16) v1.toNatClampNeg) m2) ∧ (v2 = (2 : Int32) → mT m2 v0 = 8 ∧ (mP m2 v0 17) ≠ 0 ∧ mT m2 (mP m2 v0 17) = 9 ∧ vp_in v1 (mN m2 (mP m2 v0 17)) ∧ Φ (mI m2 (mP m2 v0 17) v1.toNatClampNeg) m2) ∧ (v2 = (3 : Int32) → mT m2 v0 = 8 ∧ (mP m2 v0 18) ≠ 0 ∧ mT m2 (mP m2 v0 18) = 9 ∧ vp_in v1 (mN m2 (mP m2 v0 18)) ∧ Φ (mI m2 (mP m2 v0 18) v1.toNatClampNeg) m2) ∧ (v2 = (4 : Int32) → mT m2 v0 = 8 ∧ (mP m2 v0 19) ≠ 0 ∧ mT m2 (mP m2 v0 19) = 9 ∧ vp_in v1 (mN m2 (mP m2 v0 19)) ∧ Φ (mI m2 (mP m2 v0 19) v1.toNatClampNeg) m2) ∧ (v2 = (5 : Int32) → mT m2 v0 = 8 ∧ (mP m2 v0 20) ≠ 0 ∧ mT m2 (mP m2 v0 20) = 9 ∧ vp_in v1 (mN m2 (mP m2 v0 20)) ∧ Φ (mI m2 (mP m2 v0 20) v1.toNatClampNeg) m2) ∧ (v2 = (6 : Int32) → mT m2 v0 = 8 ∧ wp_X7_isFit m2 v0 v1 (fun (r11 : Int32) (m12 : Mm) => ((r11 = 0 → Φ (0 : Int32) m12) ∧ (¬ r11 = 0 → Φ (1 : Int32) m12)))) ∧ (v2 = (7 : Int32) → mT m2 v0 = 8 ∧ (mP m2 v0 21) ≠ 0 ∧ mT m2 (mP m2 v0 21) = 9 ∧ vp_in v1 (mN m2 (mP m2 v0 21)) ∧ Φ (mI m2 (mP m2 v0 21) v1.toNatClampNeg) m2) ∧ (v2 = (8 : Int32) → mT m2 v0 = 8 ∧ (mP m2 v0 21) ≠ 0 ∧ mT m2 (mP m2 v0 21) = 9 ∧ vp_in v1 (mN m2 (mP m2 v0 21)) ∧ ((¬ (mI m2 (mP m2 v0 21) v1.toNatClampNeg) = (-1 : Int32) → mT m2 v0 = 8 ∧ (mP m2 v0 21) ≠ 0 ∧ mT m2 (mP m2 v0 21) = 9 ∧ vp_in v1 (mN m2 (mP m2 v0 21)) ∧ mT m2 v0 = 8 ∧ (mP m2 v0 16) ≠ 0 ∧ mT m2 (mP m2 v0 16) = 9 ∧ vp_in v1 (mN m2 (mP m2 v0 16)) ∧ Φ ((mI m2 (mP m2 v0 21) v1.toNatClampNeg) - (mI m2 (mP m2 v0 16) v1.toNatClampNeg)) m2) ∧ ((mI m2 (mP m2 v0 21) v1.toNatClampNeg) = (-1 : Int32) → Φ (-1 : Int32) m2))) ∧ (¬ v2 = (0 : Int32) → ¬ v2 = (1 : Int32) → ¬ v2 = (2 : Int32) → ¬ v2 = (3 : Int32) → ¬ v2 = (4 : Int32) → ¬ v2 = (5 : Int32) → ¬ v2 = (6 : Int32) → ¬ v2 = (7 : Int32) → ¬ v2 = (8 : Int32) → Φ (-1 : Int32) m2))) ∧ (r1 = 0 → Φ (-1 : Int32) m2)))
abbrev rm_X7_look : Room := { frames := 4, cells := 0, slots := 0, locals := 86 }
set_option maxHeartbeats 4000000 in
set_option maxRecDepth 100000 in
theorem c_X7_look (l : Launch) (g : Gv) (m0 : Mm) (v0 : Nat) (v1 : Int32) (v2 : Int32) (Φ : Int32 → Mm → Prop) (hw : wp_X7_look m0 v0 v1 v2 Φ) : Met l yX7_look wsX7_look rm_X7_look (PP g [.ref (ad g v0), .int v1, .int v2] m0) (QQ g vI Φ) 0 0 (Ag g) := by
  refine CT_of (by decide +kernel) rfl (Nat.le_of_ble_eq_true rfl) ?_
  intro p e s m below meth c hx hb hr hml hown hts hlk hnm hK hW ls hl
  have hown : s.vm.findClass RX7 = some m.cls := hown
  have hl : lv_has ls 3 [(0, .ref (ad g v0)), (1, .int v1), (2, .int v2)] := hl
  have i8 : ∀ w ∈ u_ws RX7 TX7 36, w ∈ wsX7_look := by decide +kernel
  unfold wp_X7_look at hw
  refine lv_iload_n hx hb dX7_look_0 rfl (lv_at hl 1 rfl) ?_
  refine lv_iconst (v := (0 : Int32)) hx hb dX7_look_1 (by decide) ?_
  refine lv_aload_n hx hb dX7_look_2 rfl (lv_at hl 0 rfl) ?_
  refine R_getI (C := RX7) (T := TX7) (N := 36) hx hb hts i8 hown hK hW 7 hw.1 (by decide) rfl (by decide) (hts (.fieldLink RX7 126 "BoatLiftModel" "boats" "I") (by decide +kernel)) (fun _ h => h) (fun _ _ _ => rfl) dX7_look_3 ?_
  have hw := hw.2
  refine lv_iconst (v := (1 : Int32)) hx hb dX7_look_6 (by decide) ?_
  refine lv_isub hx hb dX7_look_7 ?_
  refine R_call (va_runS (As := [.int v1, .int (0 : Int32), .int ((mI m0 v0 7) - (1 : Int32))]) (rest := []) ⟨hx, hb, hml, hown, hts⟩ (c_X7_lies l g m0 v1 (0 : Int32) ((mI m0 v0 7) - (1 : Int32)) _ hw) (va_cwS 3 hts gX7_look_X7_lies rfl rfl rfl (by decide +kernel) ⟨by decide, by decide⟩) (PP.pre hK hW) rfl rfl hl.1 rfl (lv_room (Nat.le_of_ble_eq_true rfl)) dX7_look_8 ⟨by decide, by decide⟩) hW (fun r1 m2 H locs hw hW => ?_)
  refine W.eq (g2 := F0 m 11 ls [.int r1]) rfl ?_
  refine lv_if_ne (tgt := 16) hx hb dX7_look_11 (by decide) (fun c3 => ?_) (fun c3 => ?_)
  · have hw := hw.1 c3
    refine lv_iload_n hx hb dX7_look_16 rfl (lv_at hl 2 rfl) ?_
    by_cases c4 : v2 = (0 : Int32)
    · have hw := hw.1 c4
      refine lv_tableIn (tgt := 68) (off := 51) hx hb dX7_look_17 (by rw [c4]; decide) (by rw [c4]; decide) (by rw [c4]; decide) (by decide) ?_
      refine lv_aload_n hx hb dX7_look_68 rfl (lv_at hl 0 rfl) ?_
      refine R_getP (C := RX7) (T := TX7) (N := 36) hx hb hts i8 hown hK hW 15 hw.1 (by decide) rfl (by decide) (hts (.fieldLink RX7 37 "BoatLiftModel" "at" "[I") (by decide +kernel)) (fun _ h => h) (fun _ _ _ => rfl) hw.2.1 dX7_look_69 ?_
      have hw := hw.2.2
      refine lv_iload_n hx hb dX7_look_72 rfl (lv_at hl 1 rfl) ?_
      refine R_iald hx hb hK hW hw.1 hw.2.1 dX7_look_73 ?_
      have hw := hw.2.2
      exact R_iret hx hb hr hlk hW hw dX7_look_74
    by_cases c5 : v2 = (1 : Int32)
    · have hw := hw.2.1 c5
      refine lv_tableIn (tgt := 75) (off := 58) hx hb dX7_look_17 (by rw [c5]; decide) (by rw [c5]; decide) (by rw [c5]; decide) (by decide) ?_
      refine lv_aload_n hx hb dX7_look_75 rfl (lv_at hl 0 rfl) ?_
      refine R_getP (C := RX7) (T := TX7) (N := 36) hx hb hts i8 hown hK hW 16 hw.1 (by decide) rfl (by decide) (hts (.fieldLink RX7 40 "BoatLiftModel" "there" "[I") (by decide +kernel)) (fun _ h => h) (fun _ _ _ => rfl) hw.2.1 dX7_look_76 ?_
      have hw := hw.2.2
      refine lv_iload_n hx hb dX7_look_79 rfl (lv_at hl 1 rfl) ?_
      refine R_iald hx hb hK hW hw.1 hw.2.1 dX7_look_80 ?_
      have hw := hw.2.2
      exact R_iret hx hb hr hlk hW hw dX7_look_81
    by_cases c6 : v2 = (2 : Int32)
    · have hw := hw.2.2.1 c6
      refine lv_tableIn (tgt := 82) (off := 65) hx hb dX7_look_17 (by rw [c6]; decide) (by rw [c6]; decide) (by rw [c6]; decide) (by decide) ?_
      refine lv_aload_n hx hb dX7_look_82 rfl (lv_at hl 0 rfl) ?_
      refine R_getP (C := RX7) (T := TX7) (N := 36) hx hb hts i8 hown hK hW 17 hw.1 (by decide) rfl (by decide) (hts (.fieldLink RX7 43 "BoatLiftModel" "size" "[I") (by decide +kernel)) (fun _ h => h) (fun _ _ _ => rfl) hw.2.1 dX7_look_83 ?_
      have hw := hw.2.2
      refine lv_iload_n hx hb dX7_look_86 rfl (lv_at hl 1 rfl) ?_
      refine R_iald hx hb hK hW hw.1 hw.2.1 dX7_look_87 ?_
      have hw := hw.2.2
      exact R_iret hx hb hr hlk hW hw dX7_look_88
    by_cases c7 : v2 = (3 : Int32)
    · have hw := hw.2.2.2.1 c7
      refine lv_tableIn (tgt := 89) (off := 72) hx hb dX7_look_17 (by rw [c7]; decide) (by rw [c7]; decide) (by rw [c7]; decide) (by decide) ?_
      refine lv_aload_n hx hb dX7_look_89 rfl (lv_at hl 0 rfl) ?_
      refine R_getP (C := RX7) (T := TX7) (N := 36) hx hb hts i8 hown hK hW 18 hw.1 (by decide) rfl (by decide) (hts (.fieldLink RX7 46 "BoatLiftModel" "draught" "[I") (by decide +kernel)) (fun _ h => h) (fun _ _ _ => rfl) hw.2.1 dX7_look_90 ?_
      have hw := hw.2.2
      refine lv_iload_n hx hb dX7_look_93 rfl (lv_at hl 1 rfl) ?_
      refine R_iald hx hb hK hW hw.1 hw.2.1 dX7_look_94 ?_
      have hw := hw.2.2
      exact R_iret hx hb hr hlk hW hw dX7_look_95
    by_cases c8 : v2 = (4 : Int32)
    · have hw := hw.2.2.2.2.1 c8
      refine lv_tableIn (tgt := 96) (off := 79) hx hb dX7_look_17 (by rw [c8]; decide) (by rw [c8]; decide) (by rw [c8]; decide) (by decide) ?_
      refine lv_aload_n hx hb dX7_look_96 rfl (lv_at hl 0 rfl) ?_
      refine R_getP (C := RX7) (T := TX7) (N := 36) hx hb hts i8 hown hK hW 19 hw.1 (by decide) rfl (by decide) (hts (.fieldLink RX7 49 "BoatLiftModel" "weight" "[I") (by decide +kernel)) (fun _ h => h) (fun _ _ _ => rfl) hw.2.1 dX7_look_97 ?_
      have hw := hw.2.2
      refine lv_iload_n hx hb dX7_look_100 rfl (lv_at hl 1 rfl) ?_
      refine R_iald hx hb hK hW hw.1 hw.2.1 dX7_look_101 ?_
      have hw := hw.2.2
      exact R_iret hx hb hr hlk hW hw dX7_look_102
    by_cases c9 : v2 = (5 : Int32)
    · have hw := hw.2.2.2.2.2.1 c9
      refine lv_tableIn (tgt := 103) (off := 86) hx hb dX7_look_17 (by rw [c9]; decide) (by rw [c9]; decide) (by rw [c9]; decide) (by decide) ?_
      refine lv_aload_n hx hb dX7_look_103 rfl (lv_at hl 0 rfl) ?_
      refine R_getP (C := RX7) (T := TX7) (N := 36) hx hb hts i8 hown hK hW 20 hw.1 (by decide) rfl (by decide) (hts (.fieldLink RX7 52 "BoatLiftModel" "rank" "[I") (by decide +kernel)) (fun _ h => h) (fun _ _ _ => rfl) hw.2.1 dX7_look_104 ?_
      have hw := hw.2.2
      refine lv_iload_n hx hb dX7_look_107 rfl (lv_at hl 1 rfl) ?_
      refine R_iald hx hb hK hW hw.1 hw.2.1 dX7_look_108 ?_
      have hw := hw.2.2
      exact R_iret hx hb hr hlk hW hw dX7_look_109
    by_cases c10 : v2 = (6 : Int32)
    · have hw := hw.2.2.2.2.2.2.1 c10
      refine lv_tableIn (tgt := 110) (off := 93) hx hb dX7_look_17 (by rw [c10]; decide) (by rw [c10]; decide) (by rw [c10]; decide) (by decide) ?_
      refine lv_aload_n hx hb dX7_look_110 rfl (lv_at hl 0 rfl) ?_
      refine lv_iload_n hx hb dX7_look_111 rfl (lv_at hl 1 rfl) ?_
      refine R_call (va_runV (As := [.int v1]) (rest := []) ⟨hx, hb, hml, hown, hts⟩ (c_X7_isFit l g m2 v0 v1 _ hw.2) (cwV 1 hts gX7_look_X7_isFit rfl rfl rfl (by decide +kernel) ⟨by decide, by decide⟩) (PP.preV (q := (RX7, TX7, 36)) hK hW hw.1 (by decide) rfl) rfl rfl hl.1 rfl (lv_room (Nat.le_of_ble_eq_true rfl)) dX7_look_112 ⟨by decide, by decide⟩) hW (fun r11 m12 H locs hw hW => ?_)
      refine W.eq (g2 := F0 m 115 ls [.int r11]) rfl ?_
      refine lv_if_eq (tgt := 122) hx hb dX7_look_115 (by decide) (fun c13 => ?_) (fun c13 => ?_)
      · have hw := hw.1 c13
        refine lv_iconst (v := (0 : Int32)) hx hb dX7_look_122 (by decide) ?_
        exact R_iret hx hb hr hlk hW hw dX7_look_123
      · have hw := hw.2 c13
        refine lv_iconst (v := (1 : Int32)) hx hb dX7_look_118 (by decide) ?_
        refine lv_goto (tgt := 123) hx hb dX7_look_119 (by decide) ?_
        exact R_iret hx hb hr hlk hW hw dX7_look_123
    by_cases c14 : v2 = (7 : Int32)
    · have hw := hw.2.2.2.2.2.2.2.1 c14
      refine lv_tableIn (tgt := 124) (off := 107) hx hb dX7_look_17 (by rw [c14]; decide) (by rw [c14]; decide) (by rw [c14]; decide) (by decide) ?_
      refine lv_aload_n hx hb dX7_look_124 rfl (lv_at hl 0 rfl) ?_
      refine R_getP (C := RX7) (T := TX7) (N := 36) hx hb hts i8 hown hK hW 21 hw.1 (by decide) rfl (by decide) (hts (.fieldLink RX7 55 "BoatLiftModel" "began" "[I") (by decide +kernel)) (fun _ h => h) (fun _ _ _ => rfl) hw.2.1 dX7_look_125 ?_
      have hw := hw.2.2
      refine lv_iload_n hx hb dX7_look_128 rfl (lv_at hl 1 rfl) ?_
      refine R_iald hx hb hK hW hw.1 hw.2.1 dX7_look_129 ?_
      have hw := hw.2.2
      exact R_iret hx hb hr hlk hW hw dX7_look_130
    by_cases c15 : v2 = (8 : Int32)
    · have hw := hw.2.2.2.2.2.2.2.2.1 c15
      refine lv_tableIn (tgt := 131) (off := 114) hx hb dX7_look_17 (by rw [c15]; decide) (by rw [c15]; decide) (by rw [c15]; decide) (by decide) ?_
      refine lv_aload_n hx hb dX7_look_131 rfl (lv_at hl 0 rfl) ?_
      refine R_getP (C := RX7) (T := TX7) (N := 36) hx hb hts i8 hown hK hW 21 hw.1 (by decide) rfl (by decide) (hts (.fieldLink RX7 55 "BoatLiftModel" "began" "[I") (by decide +kernel)) (fun _ h => h) (fun _ _ _ => rfl) hw.2.1 dX7_look_132 ?_
      have hw := hw.2.2
      refine lv_iload_n hx hb dX7_look_135 rfl (lv_at hl 1 rfl) ?_
      refine R_iald hx hb hK hW hw.1 hw.2.1 dX7_look_136 ?_
      have hw := hw.2.2
      refine lv_iconst (v := (-1 : Int32)) hx hb dX7_look_137 (by decide) ?_
      refine lv_icmp_ne (tgt := 145) hx hb dX7_look_138 (by decide) (fun c16 => ?_) (fun c16 => ?_)
      · have hw := hw.1 c16
        refine lv_aload_n hx hb dX7_look_145 rfl (lv_at hl 0 rfl) ?_
        refine R_getP (C := RX7) (T := TX7) (N := 36) hx hb hts i8 hown hK hW 21 hw.1 (by decide) rfl (by decide) (hts (.fieldLink RX7 55 "BoatLiftModel" "began" "[I") (by decide +kernel)) (fun _ h => h) (fun _ _ _ => rfl) hw.2.1 dX7_look_146 ?_
        have hw := hw.2.2
        refine lv_iload_n hx hb dX7_look_149 rfl (lv_at hl 1 rfl) ?_
        refine R_iald hx hb hK hW hw.1 hw.2.1 dX7_look_150 ?_
        have hw := hw.2.2
        refine lv_aload_n hx hb dX7_look_151 rfl (lv_at hl 0 rfl) ?_
        refine R_getP (C := RX7) (T := TX7) (N := 36) hx hb hts i8 hown hK hW 16 hw.1 (by decide) rfl (by decide) (hts (.fieldLink RX7 40 "BoatLiftModel" "there" "[I") (by decide +kernel)) (fun _ h => h) (fun _ _ _ => rfl) hw.2.1 dX7_look_152 ?_
        have hw := hw.2.2
        refine lv_iload_n hx hb dX7_look_155 rfl (lv_at hl 1 rfl) ?_
        refine R_iald hx hb hK hW hw.1 hw.2.1 dX7_look_156 ?_
        have hw := hw.2.2
        refine lv_isub hx hb dX7_look_157 ?_
        exact R_iret hx hb hr hlk hW hw dX7_look_158
      · have hw := hw.2 c16
        refine lv_iconst (v := (-1 : Int32)) hx hb dX7_look_141 (by decide) ?_
        refine lv_goto (tgt := 158) hx hb dX7_look_142 (by decide) ?_
        exact R_iret hx hb hr hlk hW hw dX7_look_158
    have hw := hw.2.2.2.2.2.2.2.2.2 c4 c5 c6 c7 c8 c9 c10 c14 c15
    refine lv_tableOut (tgt := 159) hx hb dX7_look_17 ?_ (by decide) ?_
    · have z0 := lv_neT c4 (a := 0) (by decide); have z1 := lv_neT c5 (a := 1) (by decide); have z2 := lv_neT c6 (a := 2) (by decide); have z3 := lv_neT c7 (a := 3) (by decide); have z4 := lv_neT c8 (a := 4) (by decide); have z5 := lv_neT c9 (a := 5) (by decide); have z6 := lv_neT c10 (a := 6) (by decide); have z7 := lv_neT c14 (a := 7) (by decide); have z8 := lv_neT c15 (a := 8) (by decide); omega
    · refine lv_iconst (v := (-1 : Int32)) hx hb dX7_look_159 (by decide) ?_
      exact R_iret hx hb hr hlk hW hw dX7_look_160
  · have hw := hw.2 c3
    refine lv_iconst (v := (-1 : Int32)) hx hb dX7_look_14 (by decide) ?_
    exact R_iret hx hb hr hlk hW hw dX7_look_15

def wp_X7_count_205 (K169 : Int32 → Int32 → Mm → Prop) (v0 : Nat) (v3 : Int32) (s0 : Int32) (s1 : Int32) (mm : Mm) (Φ : Int32 → Mm → Prop) : Prop :=
  K169 (s0 + s1) (v3 + (1 : Int32)) mm
def wp_X7_count_169 (K169 : Int32 → Int32 → Mm → Prop) (v0 : Nat) (v2 : Int32) (v3 : Int32) (mm : Mm) (Φ : Int32 → Mm → Prop) : Prop :=
  mT mm v0 = 8 ∧ (((mI mm v0 7) ≤ v3 → Φ v2 mm) ∧ (¬ (mI mm v0 7) ≤ v3 → mT mm v0 = 8 ∧ (mP mm v0 21) ≠ 0 ∧ mT mm (mP mm v0 21) = 9 ∧ vp_in v3 (mN mm (mP mm v0 21)) ∧ (((mI mm (mP mm v0 21) v3.toNatClampNeg) = (-1 : Int32) → wp_X7_count_205 K169 v0 v3 v2 (0 : Int32) mm Φ) ∧ (¬ (mI mm (mP mm v0 21) v3.toNatClampNeg) = (-1 : Int32) → mT mm v0 = 8 ∧ (mP mm v0 21) ≠ 0 ∧ mT mm (mP mm v0 21) = 9 ∧ vp_in v3 (mN mm (mP mm v0 21)) ∧ mT mm v0 = 8 ∧ (mP mm v0 16) ≠ 0 ∧ mT mm (mP mm v0 16) = 9 ∧ vp_in v3 (mN mm (mP mm v0 16)) ∧ wp_X7_count_205 K169 v0 v3 v2 ((mI mm (mP mm v0 21) v3.toNatClampNeg) - (mI mm (mP mm v0 16) v3.toNatClampNeg)) mm Φ))))
def wp_X7_count_152 (K128 : Int32 → Int32 → Mm → Prop) (v0 : Nat) (v3 : Int32) (s0 : Int32) (s1 : Int32) (mm : Mm) (Φ : Int32 → Mm → Prop) : Prop :=
  K128 (s0 + s1) (v3 + (1 : Int32)) mm
def wp_X7_count_128 (K128 : Int32 → Int32 → Mm → Prop) (v0 : Nat) (v2 : Int32) (v3 : Int32) (mm : Mm) (Φ : Int32 → Mm → Prop) : Prop :=
  mT mm v0 = 8 ∧ (((mI mm v0 7) ≤ v3 → Φ v2 mm) ∧ (¬ (mI mm v0 7) ≤ v3 → mT mm v0 = 8 ∧ (mP mm v0 21) ≠ 0 ∧ mT mm (mP mm v0 21) = 9 ∧ vp_in v3 (mN mm (mP mm v0 21)) ∧ (((mI mm (mP mm v0 21) v3.toNatClampNeg) = (-1 : Int32) → wp_X7_count_152 K128 v0 v3 v2 (0 : Int32) mm Φ) ∧ (¬ (mI mm (mP mm v0 21) v3.toNatClampNeg) = (-1 : Int32) → wp_X7_count_152 K128 v0 v3 v2 (1 : Int32) mm Φ))))
def wp_X7_count (m0 : Mm) (v0 : Nat) (v1 : Int32) (Φ : Int32 → Mm → Prop) : Prop :=
  wp_X7_lies m0 v1 (10 : Int32) (15 : Int32) (fun (r5 : Int32) (m6 : Mm) => ((r5 = 0 → wp_X7_lies m6 v1 (20 : Int32) (21 : Int32) (fun (r8 : Int32) (m9 : Mm) => ((r8 = 0 → ((v1 = (0 : Int32) → mT m9 v0 = 8 ∧ Φ (mI m9 v0 2) m9) ∧ (v1 = (1 : Int32) → mT m9 v0 = 8 ∧ Φ (mI m9 v0 3) m9) ∧ (v1 = (2 : Int32) → mT m9 v0 = 8 ∧ Φ (mI m9 v0 4) m9) ∧ (v1 = (3 : Int32) → mT m9 v0 = 8 ∧ Φ (mI m9 v0 5) m9) ∧ (v1 = (4 : Int32) → mT m9 v0 = 8 ∧ Φ (mI m9 v0 6) m9) ∧ (v1 = (5 : Int32) → mT m9 v0 = 8 ∧ Φ (mI m9 v0 7) m9) ∧ (v1 = (6 : Int32) → ∃ n, LOp (fun K x => wp_X7_count_128  (fun z0 z1 z2 => K (z0, z1, z2)) v0 x.1 x.2.1 x.2.2 Φ) n ((0 : Int32), (0 : Int32), m9)) ∧ (v1 = (7 : Int32) → mT m9 v0 = 8 ∧ Φ (mI m9 v0 1) m9) ∧ (v1 = (8 : Int32) → ∃ n, LOp (fun K x => wp_X7_count_169  (fun z0 z1 z2 => K (z0, z1, z2)) v0 x.1 x.2.1 x.2.2 Φ) n ((0 : Int32), (0 : Int32), m9)) ∧ (¬ v1 = (0 : Int32) → ¬ v1 = (1 : Int32) → ¬ v1 = (2 : Int32) → ¬ v1 = (3 : Int32) → ¬ v1 = (4 : Int32) → ¬ v1 = (5 : Int32) → ¬ v1 = (6 : Int32) → ¬ v1 = (7 : Int32) → ¬ v1 = (8 : Int32) → Φ (-1 : Int32) m9))) ∧ (¬ r8 = 0 → mT m9 v0 = 8 ∧ (mP m9 v0 11) ≠ 0 ∧ mT m9 (mP m9 v0 11) = 9 ∧ vp_in (v1 - (20 : Int32)) (mN m9 (mP m9 v0 11)) ∧ Φ (mI m9 (mP m9 v0 11) (v1 - (20 : Int32)).toNatClampNeg) m9)))) ∧ (¬ r5 = 0 → mT m6 v0 = 8 ∧ (mP m6 v0 9) ≠ 0 ∧ mT m6 (mP m6 v0 9) = 9 ∧ vp_in (v1 - (10 : Int32)) (mN m6 (mP m6 v0 9)) ∧ Φ (mI m6 (mP m6 v0 9) (v1 - (10 : Int32)).toNatClampNeg) m6)))
abbrev rm_X7_count : Room := { frames := 1, cells := 0, slots := 0, locals := 22 }
set_option maxHeartbeats 4000000 in
set_option maxRecDepth 100000 in
theorem c_X7_count (l : Launch) (g : Gv) (m0 : Mm) (v0 : Nat) (v1 : Int32) (Φ : Int32 → Mm → Prop) (hw : wp_X7_count m0 v0 v1 Φ) : Met l yX7_count wsX7_count rm_X7_count (PP g [.ref (ad g v0), .int v1] m0) (QQ g vI Φ) 0 0 (Ag g) := by
  refine CT_of (by decide +kernel) rfl (Nat.le_of_ble_eq_true rfl) ?_
  intro p e s m below meth c hx hb hr hml hown hts hlk hnm hK hW ls hl
  have hown : s.vm.findClass RX7 = some m.cls := hown
  have hl : lv_has ls 4 [(0, .ref (ad g v0)), (1, .int v1)] := hl
  have i8 : ∀ w ∈ u_ws RX7 TX7 36, w ∈ wsX7_count := by decide +kernel
  have L169 : ∀ (n : Nat) (v2 : Int32) (v3 : Int32) (mm : Mm), LOp (fun K x => wp_X7_count_169  (fun z0 z1 z2 => K (z0, z1, z2)) v0 x.1 x.2.1 x.2.2 Φ) n (v2, v3, mm) → WW p l e rm_X7_count s m ([.ref (ad g v0), .int v1] : List Value).toArray below meth c (MQ below (QQ g vI Φ) ([.ref (ad g v0), .int v1] : List Value).toArray s 0 0 (Ag g)) g mm 4 0 0 169 [(0, .ref (ad g v0)), (2, .int v2), (3, .int v3)] [] := by
    intro  n
    induction n with
    | zero => intro v2 v3 mm hw; exact hw.elim
    | succ n ih169 =>
      obtain ⟨K169, eK169⟩ : ∃ K : Int32 → Int32 → Mm → Prop, K = fun v2 v3 mm => LOp (fun K x => wp_X7_count_169  (fun z0 z1 z2 => K (z0, z1, z2)) v0 x.1 x.2.1 x.2.2 Φ) n (v2, v3, mm) := ⟨_, rfl⟩
      have ih169 : ∀ (v2 : Int32) (v3 : Int32) (mm : Mm), K169 v2 v3 mm → WW p l e rm_X7_count s m ([.ref (ad g v0), .int v1] : List Value).toArray below meth c (MQ below (QQ g vI Φ) ([.ref (ad g v0), .int v1] : List Value).toArray s 0 0 (Ag g)) g mm 4 0 0 169 [(0, .ref (ad g v0)), (2, .int v2), (3, .int v3)] [] := by rw [eK169]; exact ih169
      have B205 : ∀ (v3 : Int32) (s0 : Int32) (s1 : Int32) (mm : Mm), wp_X7_count_205 K169 v0 v3 s0 s1 mm Φ → WW p l e rm_X7_count s m ([.ref (ad g v0), .int v1] : List Value).toArray below meth c (MQ below (QQ g vI Φ) ([.ref (ad g v0), .int v1] : List Value).toArray s 0 0 (Ag g)) g mm 4 0 0 205 [(0, .ref (ad g v0)), (3, .int v3)] [.int s1, .int s0] := by
        intro v3 s0 s1 mm hw H locs ls hW hl
        unfold wp_X7_count_205 at hw
        refine lv_iadd hx hb dX7_count_205 ?_
        refine lv_istore_n (lv' := [(2, .int (s0 + s1)), (0, .ref (ad g v0)), (3, .int v3)]) hx hb dX7_count_206 rfl hl (by decide) rfl (fun ls hl => ?_)
        refine lv_iinc (v := (v3 + (1 : Int32))) (lv' := [(3, .int (v3 + (1 : Int32))), (2, .int (s0 + s1)), (0, .ref (ad g v0))]) hx hb dX7_count_207 hl (k := 2) rfl rfl (by decide) rfl (fun ls hl => ?_)
        refine lv_goto (tgt := 169) hx hb dX7_count_210 (by decide) ?_
        exact ih169 (s0 + s1) (v3 + (1 : Int32)) mm hw _ _ _ hW (lv_sub hl [2, 1, 0] rfl)
      intro v2 v3 mm hw H locs ls hW hl
      have hw : wp_X7_count_169 K169 v0 v2 v3 mm Φ := by rw [eK169]; exact hw
      unfold wp_X7_count_169 at hw
      refine lv_iload_n hx hb dX7_count_169 rfl (lv_at hl 2 rfl) ?_
      refine lv_aload_n hx hb dX7_count_170 rfl (lv_at hl 0 rfl) ?_
      refine R_getI (C := RX7) (T := TX7) (N := 36) hx hb hts i8 hown hK hW 7 hw.1 (by decide) rfl (by decide) (hts (.fieldLink RX7 126 "BoatLiftModel" "boats" "I") (by decide +kernel)) (fun _ h => h) (fun _ _ _ => rfl) dX7_count_171 ?_
      have hw := hw.2
      refine lv_icmp_ge (tgt := 213) hx hb dX7_count_174 (by decide) (fun c1 => ?_) (fun c1 => ?_)
      · have hw := hw.1 c1
        refine lv_iload_n hx hb dX7_count_213 rfl (lv_at hl 1 rfl) ?_
        exact R_iret hx hb hr hlk hW hw dX7_count_214
      · have hw := hw.2 c1
        refine lv_iload_n hx hb dX7_count_177 rfl (lv_at hl 1 rfl) ?_
        refine lv_aload_n hx hb dX7_count_178 rfl (lv_at hl 0 rfl) ?_
        refine R_getP (C := RX7) (T := TX7) (N := 36) hx hb hts i8 hown hK hW 21 hw.1 (by decide) rfl (by decide) (hts (.fieldLink RX7 55 "BoatLiftModel" "began" "[I") (by decide +kernel)) (fun _ h => h) (fun _ _ _ => rfl) hw.2.1 dX7_count_179 ?_
        have hw := hw.2.2
        refine lv_iload_n hx hb dX7_count_182 rfl (lv_at hl 2 rfl) ?_
        refine R_iald hx hb hK hW hw.1 hw.2.1 dX7_count_183 ?_
        have hw := hw.2.2
        refine lv_iconst (v := (-1 : Int32)) hx hb dX7_count_184 (by decide) ?_
        refine lv_icmp_eq (tgt := 204) hx hb dX7_count_185 (by decide) (fun c2 => ?_) (fun c2 => ?_)
        · have hw := hw.1 c2
          refine lv_iconst (v := (0 : Int32)) hx hb dX7_count_204 (by decide) ?_
          exact B205 v3 v2 (0 : Int32) mm hw _ _ _ hW (lv_sub hl [0, 2] rfl)
        · have hw := hw.2 c2
          refine lv_aload_n hx hb dX7_count_188 rfl (lv_at hl 0 rfl) ?_
          refine R_getP (C := RX7) (T := TX7) (N := 36) hx hb hts i8 hown hK hW 21 hw.1 (by decide) rfl (by decide) (hts (.fieldLink RX7 55 "BoatLiftModel" "began" "[I") (by decide +kernel)) (fun _ h => h) (fun _ _ _ => rfl) hw.2.1 dX7_count_189 ?_
          have hw := hw.2.2
          refine lv_iload_n hx hb dX7_count_192 rfl (lv_at hl 2 rfl) ?_
          refine R_iald hx hb hK hW hw.1 hw.2.1 dX7_count_193 ?_
          have hw := hw.2.2
          refine lv_aload_n hx hb dX7_count_194 rfl (lv_at hl 0 rfl) ?_
          refine R_getP (C := RX7) (T := TX7) (N := 36) hx hb hts i8 hown hK hW 16 hw.1 (by decide) rfl (by decide) (hts (.fieldLink RX7 40 "BoatLiftModel" "there" "[I") (by decide +kernel)) (fun _ h => h) (fun _ _ _ => rfl) hw.2.1 dX7_count_195 ?_
          have hw := hw.2.2
          refine lv_iload_n hx hb dX7_count_198 rfl (lv_at hl 2 rfl) ?_
          refine R_iald hx hb hK hW hw.1 hw.2.1 dX7_count_199 ?_
          have hw := hw.2.2
          refine lv_isub hx hb dX7_count_200 ?_
          refine lv_goto (tgt := 205) hx hb dX7_count_201 (by decide) ?_
          exact B205 v3 v2 ((mI mm (mP mm v0 21) v3.toNatClampNeg) - (mI mm (mP mm v0 16) v3.toNatClampNeg)) mm hw _ _ _ hW (lv_sub hl [0, 2] rfl)
  have L128 : ∀ (n : Nat) (v2 : Int32) (v3 : Int32) (mm : Mm), LOp (fun K x => wp_X7_count_128  (fun z0 z1 z2 => K (z0, z1, z2)) v0 x.1 x.2.1 x.2.2 Φ) n (v2, v3, mm) → WW p l e rm_X7_count s m ([.ref (ad g v0), .int v1] : List Value).toArray below meth c (MQ below (QQ g vI Φ) ([.ref (ad g v0), .int v1] : List Value).toArray s 0 0 (Ag g)) g mm 4 0 0 128 [(0, .ref (ad g v0)), (2, .int v2), (3, .int v3)] [] := by
    intro  n
    induction n with
    | zero => intro v2 v3 mm hw; exact hw.elim
    | succ n ih128 =>
      obtain ⟨K128, eK128⟩ : ∃ K : Int32 → Int32 → Mm → Prop, K = fun v2 v3 mm => LOp (fun K x => wp_X7_count_128  (fun z0 z1 z2 => K (z0, z1, z2)) v0 x.1 x.2.1 x.2.2 Φ) n (v2, v3, mm) := ⟨_, rfl⟩
      have ih128 : ∀ (v2 : Int32) (v3 : Int32) (mm : Mm), K128 v2 v3 mm → WW p l e rm_X7_count s m ([.ref (ad g v0), .int v1] : List Value).toArray below meth c (MQ below (QQ g vI Φ) ([.ref (ad g v0), .int v1] : List Value).toArray s 0 0 (Ag g)) g mm 4 0 0 128 [(0, .ref (ad g v0)), (2, .int v2), (3, .int v3)] [] := by rw [eK128]; exact ih128
      have B152 : ∀ (v3 : Int32) (s0 : Int32) (s1 : Int32) (mm : Mm), wp_X7_count_152 K128 v0 v3 s0 s1 mm Φ → WW p l e rm_X7_count s m ([.ref (ad g v0), .int v1] : List Value).toArray below meth c (MQ below (QQ g vI Φ) ([.ref (ad g v0), .int v1] : List Value).toArray s 0 0 (Ag g)) g mm 4 0 0 152 [(0, .ref (ad g v0)), (3, .int v3)] [.int s1, .int s0] := by
        intro v3 s0 s1 mm hw H locs ls hW hl
        unfold wp_X7_count_152 at hw
        refine lv_iadd hx hb dX7_count_152 ?_
        refine lv_istore_n (lv' := [(2, .int (s0 + s1)), (0, .ref (ad g v0)), (3, .int v3)]) hx hb dX7_count_153 rfl hl (by decide) rfl (fun ls hl => ?_)
        refine lv_iinc (v := (v3 + (1 : Int32))) (lv' := [(3, .int (v3 + (1 : Int32))), (2, .int (s0 + s1)), (0, .ref (ad g v0))]) hx hb dX7_count_154 hl (k := 2) rfl rfl (by decide) rfl (fun ls hl => ?_)
        refine lv_goto (tgt := 128) hx hb dX7_count_157 (by decide) ?_
        exact ih128 (s0 + s1) (v3 + (1 : Int32)) mm hw _ _ _ hW (lv_sub hl [2, 1, 0] rfl)
      intro v2 v3 mm hw H locs ls hW hl
      have hw : wp_X7_count_128 K128 v0 v2 v3 mm Φ := by rw [eK128]; exact hw
      unfold wp_X7_count_128 at hw
      refine lv_iload_n hx hb dX7_count_128 rfl (lv_at hl 2 rfl) ?_
      refine lv_aload_n hx hb dX7_count_129 rfl (lv_at hl 0 rfl) ?_
      refine R_getI (C := RX7) (T := TX7) (N := 36) hx hb hts i8 hown hK hW 7 hw.1 (by decide) rfl (by decide) (hts (.fieldLink RX7 126 "BoatLiftModel" "boats" "I") (by decide +kernel)) (fun _ h => h) (fun _ _ _ => rfl) dX7_count_130 ?_
      have hw := hw.2
      refine lv_icmp_ge (tgt := 160) hx hb dX7_count_133 (by decide) (fun c3 => ?_) (fun c3 => ?_)
      · have hw := hw.1 c3
        refine lv_iload_n hx hb dX7_count_160 rfl (lv_at hl 1 rfl) ?_
        exact R_iret hx hb hr hlk hW hw dX7_count_161
      · have hw := hw.2 c3
        refine lv_iload_n hx hb dX7_count_136 rfl (lv_at hl 1 rfl) ?_
        refine lv_aload_n hx hb dX7_count_137 rfl (lv_at hl 0 rfl) ?_
        refine R_getP (C := RX7) (T := TX7) (N := 36) hx hb hts i8 hown hK hW 21 hw.1 (by decide) rfl (by decide) (hts (.fieldLink RX7 55 "BoatLiftModel" "began" "[I") (by decide +kernel)) (fun _ h => h) (fun _ _ _ => rfl) hw.2.1 dX7_count_138 ?_
        have hw := hw.2.2
        refine lv_iload_n hx hb dX7_count_141 rfl (lv_at hl 2 rfl) ?_
        refine R_iald hx hb hK hW hw.1 hw.2.1 dX7_count_142 ?_
        have hw := hw.2.2
        refine lv_iconst (v := (-1 : Int32)) hx hb dX7_count_143 (by decide) ?_
        refine lv_icmp_eq (tgt := 151) hx hb dX7_count_144 (by decide) (fun c4 => ?_) (fun c4 => ?_)
        · have hw := hw.1 c4
          refine lv_iconst (v := (0 : Int32)) hx hb dX7_count_151 (by decide) ?_
          exact B152 v3 v2 (0 : Int32) mm hw _ _ _ hW (lv_sub hl [0, 2] rfl)
        · have hw := hw.2 c4
          refine lv_iconst (v := (1 : Int32)) hx hb dX7_count_147 (by decide) ?_
          refine lv_goto (tgt := 152) hx hb dX7_count_148 (by decide) ?_
          exact B152 v3 v2 (1 : Int32) mm hw _ _ _ hW (lv_sub hl [0, 2] rfl)
  unfold wp_X7_count at hw
  refine lv_iload_n hx hb dX7_count_0 rfl (lv_at hl 1 rfl) ?_
  refine lv_bipush (v := (10 : Int32)) hx hb dX7_count_1 (by decide) ?_
  refine lv_bipush (v := (15 : Int32)) hx hb dX7_count_3 (by decide) ?_
  refine R_call (va_runS (As := [.int v1, .int (10 : Int32), .int (15 : Int32)]) (rest := []) ⟨hx, hb, hml, hown, hts⟩ (c_X7_lies l g m0 v1 (10 : Int32) (15 : Int32) _ hw) (va_cwS 3 hts gX7_count_X7_lies rfl rfl rfl (by decide +kernel) ⟨by decide, by decide⟩) (PP.pre hK hW) rfl rfl hl.1 rfl (lv_room (Nat.le_of_ble_eq_true rfl)) dX7_count_5 ⟨by decide, by decide⟩) hW (fun r5 m6 H locs hw hW => ?_)
  refine W.eq (g2 := F0 m 8 ls [.int r5]) rfl ?_
  refine lv_if_eq (tgt := 21) hx hb dX7_count_8 (by decide) (fun c7 => ?_) (fun c7 => ?_)
  · have hw := hw.1 c7
    refine lv_iload_n hx hb dX7_count_21 rfl (lv_at hl 1 rfl) ?_
    refine lv_bipush (v := (20 : Int32)) hx hb dX7_count_22 (by decide) ?_
    refine lv_bipush (v := (21 : Int32)) hx hb dX7_count_24 (by decide) ?_
    refine R_call (va_runS (As := [.int v1, .int (20 : Int32), .int (21 : Int32)]) (rest := []) ⟨hx, hb, hml, hown, hts⟩ (c_X7_lies l g m6 v1 (20 : Int32) (21 : Int32) _ hw) (va_cwS 3 hts gX7_count_X7_lies rfl rfl rfl (by decide +kernel) ⟨by decide, by decide⟩) (PP.pre hK hW) rfl rfl hl.1 rfl (lv_room (Nat.le_of_ble_eq_true rfl)) dX7_count_26 ⟨by decide, by decide⟩) hW (fun r8 m9 H locs hw hW => ?_)
    refine W.eq (g2 := F0 m 29 ls [.int r8]) rfl ?_
    refine lv_if_eq (tgt := 42) hx hb dX7_count_29 (by decide) (fun c10 => ?_) (fun c10 => ?_)
    · have hw := hw.1 c10
      refine lv_iconst (v := (0 : Int32)) hx hb dX7_count_42 (by decide) ?_
      refine lv_istore_n (lv' := [(2, .int (0 : Int32)), (0, .ref (ad g v0)), (1, .int v1)]) hx hb dX7_count_43 rfl hl (by decide) rfl (fun ls hl => ?_)
      refine lv_iload_n hx hb dX7_count_44 rfl (lv_at hl 2 rfl) ?_
      by_cases c11 : v1 = (0 : Int32)
      · have hw := hw.1 c11
        refine lv_tableIn (tgt := 96) (off := 51) hx hb dX7_count_45 (by rw [c11]; decide) (by rw [c11]; decide) (by rw [c11]; decide) (by decide) ?_
        refine lv_aload_n hx hb dX7_count_96 rfl (lv_at hl 1 rfl) ?_
        refine R_getI (C := RX7) (T := TX7) (N := 36) hx hb hts i8 hown hK hW 2 hw.1 (by decide) rfl (by decide) (hts (.fieldLink RX7 13 "BoatLiftModel" "length" "I") (by decide +kernel)) (fun _ h => h) (fun _ _ _ => rfl) dX7_count_97 ?_
        have hw := hw.2
        exact R_iret hx hb hr hlk hW hw dX7_count_100
      by_cases c12 : v1 = (1 : Int32)
      · have hw := hw.2.1 c12
        refine lv_tableIn (tgt := 101) (off := 56) hx hb dX7_count_45 (by rw [c12]; decide) (by rw [c12]; decide) (by rw [c12]; decide) (by decide) ?_
        refine lv_aload_n hx hb dX7_count_101 rfl (lv_at hl 1 rfl) ?_
        refine R_getI (C := RX7) (T := TX7) (N := 36) hx hb hts i8 hown hK hW 3 hw.1 (by decide) rfl (by decide) (hts (.fieldLink RX7 157 "BoatLiftModel" "side" "I") (by decide +kernel)) (fun _ h => h) (fun _ _ _ => rfl) dX7_count_102 ?_
        have hw := hw.2
        exact R_iret hx hb hr hlk hW hw dX7_count_105
      by_cases c13 : v1 = (2 : Int32)
      · have hw := hw.2.2.1 c13
        refine lv_tableIn (tgt := 106) (off := 61) hx hb dX7_count_45 (by rw [c13]; decide) (by rw [c13]; decide) (by rw [c13]; decide) (by decide) ?_
        refine lv_aload_n hx hb dX7_count_106 rfl (lv_at hl 1 rfl) ?_
        refine R_getI (C := RX7) (T := TX7) (N := 36) hx hb hts i8 hown hK hW 4 hw.1 (by decide) rfl (by decide) (hts (.fieldLink RX7 164 "BoatLiftModel" "free" "I") (by decide +kernel)) (fun _ h => h) (fun _ _ _ => rfl) dX7_count_107 ?_
        have hw := hw.2
        exact R_iret hx hb hr hlk hW hw dX7_count_110
      by_cases c14 : v1 = (3 : Int32)
      · have hw := hw.2.2.2.1 c14
        refine lv_tableIn (tgt := 111) (off := 66) hx hb dX7_count_45 (by rw [c14]; decide) (by rw [c14]; decide) (by rw [c14]; decide) (by decide) ?_
        refine lv_aload_n hx hb dX7_count_111 rfl (lv_at hl 1 rfl) ?_
        refine R_getI (C := RX7) (T := TX7) (N := 36) hx hb hts i8 hown hK hW 5 hw.1 (by decide) rfl (by decide) (hts (.fieldLink RX7 167 "BoatLiftModel" "rides" "I") (by decide +kernel)) (fun _ h => h) (fun _ _ _ => rfl) dX7_count_112 ?_
        have hw := hw.2
        exact R_iret hx hb hr hlk hW hw dX7_count_115
      by_cases c15 : v1 = (4 : Int32)
      · have hw := hw.2.2.2.2.1 c15
        refine lv_tableIn (tgt := 116) (off := 71) hx hb dX7_count_45 (by rw [c15]; decide) (by rw [c15]; decide) (by rw [c15]; decide) (by decide) ?_
        refine lv_aload_n hx hb dX7_count_116 rfl (lv_at hl 1 rfl) ?_
        refine R_getI (C := RX7) (T := TX7) (N := 36) hx hb hts i8 hown hK hW 6 hw.1 (by decide) rfl (by decide) (hts (.fieldLink RX7 173 "BoatLiftModel" "allRides" "I") (by decide +kernel)) (fun _ h => h) (fun _ _ _ => rfl) dX7_count_117 ?_
        have hw := hw.2
        exact R_iret hx hb hr hlk hW hw dX7_count_120
      by_cases c16 : v1 = (5 : Int32)
      · have hw := hw.2.2.2.2.2.1 c16
        refine lv_tableIn (tgt := 121) (off := 76) hx hb dX7_count_45 (by rw [c16]; decide) (by rw [c16]; decide) (by rw [c16]; decide) (by decide) ?_
        refine lv_aload_n hx hb dX7_count_121 rfl (lv_at hl 1 rfl) ?_
        refine R_getI (C := RX7) (T := TX7) (N := 36) hx hb hts i8 hown hK hW 7 hw.1 (by decide) rfl (by decide) (hts (.fieldLink RX7 126 "BoatLiftModel" "boats" "I") (by decide +kernel)) (fun _ h => h) (fun _ _ _ => rfl) dX7_count_122 ?_
        have hw := hw.2
        exact R_iret hx hb hr hlk hW hw dX7_count_125
      by_cases c17 : v1 = (6 : Int32)
      · have hw := hw.2.2.2.2.2.2.1 c17
        refine lv_tableIn (tgt := 126) (off := 81) hx hb dX7_count_45 (by rw [c17]; decide) (by rw [c17]; decide) (by rw [c17]; decide) (by decide) ?_
        refine lv_iconst (v := (0 : Int32)) hx hb dX7_count_126 (by decide) ?_
        refine lv_istore_n (lv' := [(3, .int (0 : Int32)), (2, .int (0 : Int32)), (0, .ref (ad g v0)), (1, .int v1)]) hx hb dX7_count_127 rfl hl (by decide) rfl (fun ls hl => ?_)
        obtain ⟨n, hw⟩ := hw
        exact L128  n (0 : Int32) (0 : Int32) m9 hw _ _ _ hW (lv_sub hl [2, 1, 0] rfl)
      by_cases c18 : v1 = (7 : Int32)
      · have hw := hw.2.2.2.2.2.2.2.1 c18
        refine lv_tableIn (tgt := 162) (off := 117) hx hb dX7_count_45 (by rw [c18]; decide) (by rw [c18]; decide) (by rw [c18]; decide) (by decide) ?_
        refine lv_aload_n hx hb dX7_count_162 rfl (lv_at hl 1 rfl) ?_
        refine R_getI (C := RX7) (T := TX7) (N := 36) hx hb hts i8 hown hK hW 1 hw.1 (by decide) rfl (by decide) (hts (.fieldLink RX7 88 "BoatLiftModel" "taped" "I") (by decide +kernel)) (fun _ h => h) (fun _ _ _ => rfl) dX7_count_163 ?_
        have hw := hw.2
        exact R_iret hx hb hr hlk hW hw dX7_count_166
      by_cases c19 : v1 = (8 : Int32)
      · have hw := hw.2.2.2.2.2.2.2.2.1 c19
        refine lv_tableIn (tgt := 167) (off := 122) hx hb dX7_count_45 (by rw [c19]; decide) (by rw [c19]; decide) (by rw [c19]; decide) (by decide) ?_
        refine lv_iconst (v := (0 : Int32)) hx hb dX7_count_167 (by decide) ?_
        refine lv_istore_n (lv' := [(3, .int (0 : Int32)), (2, .int (0 : Int32)), (0, .ref (ad g v0)), (1, .int v1)]) hx hb dX7_count_168 rfl hl (by decide) rfl (fun ls hl => ?_)
        obtain ⟨n, hw⟩ := hw
        exact L169  n (0 : Int32) (0 : Int32) m9 hw _ _ _ hW (lv_sub hl [2, 1, 0] rfl)
      have hw := hw.2.2.2.2.2.2.2.2.2 c11 c12 c13 c14 c15 c16 c17 c18 c19
      refine lv_tableOut (tgt := 215) hx hb dX7_count_45 ?_ (by decide) ?_
      · have z0 := lv_neT c11 (a := 0) (by decide); have z1 := lv_neT c12 (a := 1) (by decide); have z2 := lv_neT c13 (a := 2) (by decide); have z3 := lv_neT c14 (a := 3) (by decide); have z4 := lv_neT c15 (a := 4) (by decide); have z5 := lv_neT c16 (a := 5) (by decide); have z6 := lv_neT c17 (a := 6) (by decide); have z7 := lv_neT c18 (a := 7) (by decide); have z8 := lv_neT c19 (a := 8) (by decide); omega
      · refine lv_iconst (v := (-1 : Int32)) hx hb dX7_count_215 (by decide) ?_
        exact R_iret hx hb hr hlk hW hw dX7_count_216
    · have hw := hw.2 c10
      refine lv_aload_n hx hb dX7_count_32 rfl (lv_at hl 0 rfl) ?_
      refine R_getP (C := RX7) (T := TX7) (N := 36) hx hb hts i8 hown hK hW 11 hw.1 (by decide) rfl (by decide) (hts (.fieldLink RX7 24 "BoatLiftModel" "area" "[I") (by decide +kernel)) (fun _ h => h) (fun _ _ _ => rfl) hw.2.1 dX7_count_33 ?_
      have hw := hw.2.2
      refine lv_iload_n hx hb dX7_count_36 rfl (lv_at hl 1 rfl) ?_
      refine lv_bipush (v := (20 : Int32)) hx hb dX7_count_37 (by decide) ?_
      refine lv_isub hx hb dX7_count_39 ?_
      refine R_iald hx hb hK hW hw.1 hw.2.1 dX7_count_40 ?_
      have hw := hw.2.2
      exact R_iret hx hb hr hlk hW hw dX7_count_41
  · have hw := hw.2 c7
    refine lv_aload_n hx hb dX7_count_11 rfl (lv_at hl 0 rfl) ?_
    refine R_getP (C := RX7) (T := TX7) (N := 36) hx hb hts i8 hown hK hW 9 hw.1 (by decide) rfl (by decide) (hts (.fieldLink RX7 17 "BoatLiftModel" "law" "[I") (by decide +kernel)) (fun _ h => h) (fun _ _ _ => rfl) hw.2.1 dX7_count_12 ?_
    have hw := hw.2.2
    refine lv_iload_n hx hb dX7_count_15 rfl (lv_at hl 1 rfl) ?_
    refine lv_bipush (v := (10 : Int32)) hx hb dX7_count_16 (by decide) ?_
    refine lv_isub hx hb dX7_count_18 ?_
    refine R_iald hx hb hK hW hw.1 hw.2.1 dX7_count_19 ?_
    have hw := hw.2.2
    exact R_iret hx hb hr hlk hW hw dX7_count_20
