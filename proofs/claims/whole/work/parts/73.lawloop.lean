theorem lw_cmp {L t : Nat} (hL : L ≤ 3584) (ht : 7 * t ≤ L) : (Int32.ofNat L - 7 < nI (7 * t)) ↔ L < 7 * t + 7 := by
  have h : (nI L - nI 7).toInt = (L : Int) - 7 := pk_sub_toInt (by omega) (by omega)
  have h2 : (Int32.ofNat L - 7) = nI L - nI 7 := rfl
  rw [h2, Int32.lt_iff_toInt_lt, h, nI_toInt (by omega)]
  omega
set_option maxHeartbeats 8000000 in
set_option maxRecDepth 100000 in
theorem law_loop {p : Program} {l : Launch} {e : Env} {s : State} {m : MethodId} {below : List Frame} {meth : Method} {c : Code} {g : Gv} {b L : Nat} {xs : Nat → Int32} (hL : L ≤ 3584) (C0 : lw_At p s m meth c b L xs) (hK : Kk g s) (hg : g.2 4 = s.heap.size) (I : Nat → Nat → Mm → Prop) (hI : ∀ (t u : Nat) (mm : Mm), 7 * t + 7 ≤ L → u ≤ 1 → I t u mm → lawcase xs t u mm (fun u2 m2 => u2 ≤ 1 ∧ I (t + 1) u2 m2)) :
    ∀ (n t u : Nat) (mm : Mm) (x : Int32), I t u mm → u ≤ 1 → 7 * t ≤ L → x = nI (7 * t) → L - 7 * t < n → WW p l e room_1 s m #[Value.ref b] below meth c (lw_Z below #[Value.ref b] s) g mm 4 (41 + 3 * t + u) (1351224 + 72 * t + 23296 * u) 18 [(0, .ref b), (1, .ref (ad g 8)), (2, .ref (ad g 26)), (3, .int x)] [] := by
  intro n
  induction n with
  | zero => intro t u mm x _ _ _ _ h; exact absurd h (Nat.not_lt_zero _)
  | succ n ih =>
    intro t u mm x hi hu ht ex hn H locs ls hW hl
    have C1 := C0
    obtain ⟨hx, hb, hr, hml, hown, hts, hX, hbl, hlocks, hgv⟩ := C0
    have hbA : ¬ Ag g b := by show ¬ g.2 4 ≤ b; omega
    refine lv_iload_n hx hb dL_law_18 rfl (lv_at hl 3 rfl) ?_
    refine lv_aload_n hx hb dL_law_19 rfl (lv_at hl 0 rfl) ?_
    refine va_slen hx hb hX hbl hbA hW.2 dL_law_20 ?_
    refine lv_bipush (v := (7 : Int32)) hx hb dL_law_21 (by decide) ?_
    refine lv_isub hx hb dL_law_23 ?_
    refine lv_icmp_gt (tgt := 683) hx hb dL_law_24 (by decide) (fun c1 => ?_) (fun c1 => ?_)
    · refine lv_iconst (v := (1 : Int32)) hx hb dL_law_683 (by decide) ?_
      refine va_forget (fun q hq => by have := hW.2.2.2 q hq; rw [← hg]; exact this) ?_
      refine W.widen (k := 600000) (n := 7302250) (by omega) (by omega) ?_
      exact lw_ret hx hb hr hlocks dL_law_684
    · have hlt : 7 * t + 7 ≤ L := by
        rw [ex] at c1
        have := mt (lw_cmp hL ht).mpr c1
        omega
      have hw := hI t u mm hlt hu hi
      have hend : ∀ (u : Nat) (mm : Mm), (u ≤ 1 ∧ I (t + 1) u mm) → WW p l e room_1 s m #[Value.ref b] below meth c (lw_Z below #[Value.ref b] s) g mm 4 (41 + 3 * (t + 1) + u) (1351224 + 72 * (t + 1) + 23296 * u) 677 [(0, .ref b), (1, .ref (ad g 8)), (2, .ref (ad g 26)), (3, .int x)] [] := by
        intro u mm hq H locs ls hW hl
        refine lv_iinc (v := x + (7 : Int32)) (lv' := [(3, .int (x + (7 : Int32))), (0, .ref b), (1, .ref (ad g 8)), (2, .ref (ad g 26))]) hx hb dL_law_677 hl (k := 3) rfl rfl (by decide) rfl (fun ls hl => ?_)
        refine lv_goto (tgt := 18) hx hb dL_law_680 (by decide) ?_
        refine ih (t + 1) u mm (x + (7 : Int32)) hq.2 hq.1 (by omega) ?_ (by omega) _ _ _ hW (lv_sub hl [1, 2, 3, 0] rfl)
        rw [ex]
        exact (nI_add (7 * t) 7).trans (congrArg nI (by omega))
      have h0 : vp_in x L ∧ x.toNatClampNeg = 7 * t := by
        rw [ex]
        exact ⟨vp_in_nI (by omega) (by omega), nI_clamp (by omega)⟩
      refine lv_aload_n hx hb dL_law_27 rfl (lv_at hl 0 rfl) ?_
      refine lv_iload_n hx hb dL_law_28 rfl (lv_at hl 3 rfl) ?_
      refine va_sld hx hb hX hbl hbA hW.2 h0.1 dL_law_29 ?_
      rw [h0.2]
      refine lv_bipush (v := (31 : Int32)) hx hb dL_law_30 (by decide) ?_
      refine lv_iand hx hb dL_law_32 ?_
      unfold lawcase at hw
      by_cases c10 : (xs (7 * t) &&& (31 : Int32)) = (0 : Int32)
      · refine lv_tableIn (tgt := 120) (off := 87) hx hb dL_law_33 (by rw [c10]; decide) (by rw [c10]; decide) (by rw [c10]; decide) (by decide) ?_
        exact law_case0 hL C1 hK hg hlt hu ex hend (hw.1 c10) hW hl rfl rfl
      by_cases c11 : (xs (7 * t) &&& (31 : Int32)) = (1 : Int32)
      · refine lv_tableIn (tgt := 183) (off := 150) hx hb dL_law_33 (by rw [c11]; decide) (by rw [c11]; decide) (by rw [c11]; decide) (by decide) ?_
        exact law_case1 hL C1 hK hg hlt hu ex hend (hw.2.1 c11) hW hl rfl rfl
      by_cases c12 : (xs (7 * t) &&& (31 : Int32)) = (2 : Int32)
      · refine lv_tableIn (tgt := 206) (off := 173) hx hb dL_law_33 (by rw [c12]; decide) (by rw [c12]; decide) (by rw [c12]; decide) (by decide) ?_
        exact law_case2 hL C1 hK hg hlt hu ex hend (hw.2.2.1 c12) hW hl rfl rfl
      by_cases c13 : (xs (7 * t) &&& (31 : Int32)) = (3 : Int32)
      · refine lv_tableIn (tgt := 229) (off := 196) hx hb dL_law_33 (by rw [c13]; decide) (by rw [c13]; decide) (by rw [c13]; decide) (by decide) ?_
        exact law_case3 hL C1 hK hg hlt hu ex hend (hw.2.2.2.1 c13) hW hl rfl rfl
      by_cases c14 : (xs (7 * t) &&& (31 : Int32)) = (4 : Int32)
      · refine lv_tableIn (tgt := 262) (off := 229) hx hb dL_law_33 (by rw [c14]; decide) (by rw [c14]; decide) (by rw [c14]; decide) (by decide) ?_
        exact law_case4 hL C1 hK hg hlt hu ex hend (hw.2.2.2.2.1 c14) hW hl rfl rfl
      by_cases c15 : (xs (7 * t) &&& (31 : Int32)) = (5 : Int32)
      · refine lv_tableIn (tgt := 295) (off := 262) hx hb dL_law_33 (by rw [c15]; decide) (by rw [c15]; decide) (by rw [c15]; decide) (by decide) ?_
        exact law_case5 hL C1 hK hg hlt hu ex hend (hw.2.2.2.2.2.1 c15) hW hl rfl rfl
      by_cases c16 : (xs (7 * t) &&& (31 : Int32)) = (6 : Int32)
      · refine lv_tableIn (tgt := 328) (off := 295) hx hb dL_law_33 (by rw [c16]; decide) (by rw [c16]; decide) (by rw [c16]; decide) (by decide) ?_
        exact law_case6 hL C1 hK hg hlt hu ex hend (hw.2.2.2.2.2.2.1 c16) hW hl rfl rfl
      by_cases c17 : (xs (7 * t) &&& (31 : Int32)) = (7 : Int32)
      · refine lv_tableIn (tgt := 403) (off := 370) hx hb dL_law_33 (by rw [c17]; decide) (by rw [c17]; decide) (by rw [c17]; decide) (by decide) ?_
        exact law_case7 hL C1 hK hg hlt hu ex hend (hw.2.2.2.2.2.2.2.1 c17) hW hl rfl rfl
      by_cases c18 : (xs (7 * t) &&& (31 : Int32)) = (8 : Int32)
      · refine lv_tableIn (tgt := 446) (off := 413) hx hb dL_law_33 (by rw [c18]; decide) (by rw [c18]; decide) (by rw [c18]; decide) (by decide) ?_
        exact law_case8 hL C1 hK hg hlt hu ex hend (hw.2.2.2.2.2.2.2.2.1 c18) hW hl rfl rfl
      by_cases c19 : (xs (7 * t) &&& (31 : Int32)) = (9 : Int32)
      · refine lv_tableIn (tgt := 469) (off := 436) hx hb dL_law_33 (by rw [c19]; decide) (by rw [c19]; decide) (by rw [c19]; decide) (by decide) ?_
        exact law_case9 hL C1 hK hg hlt hu ex hend (hw.2.2.2.2.2.2.2.2.2.1 c19) hW hl rfl rfl
      by_cases c20 : (xs (7 * t) &&& (31 : Int32)) = (10 : Int32)
      · refine lv_tableIn (tgt := 502) (off := 469) hx hb dL_law_33 (by rw [c20]; decide) (by rw [c20]; decide) (by rw [c20]; decide) (by decide) ?_
        exact law_case10 hL C1 hK hg hlt hu ex hend (hw.2.2.2.2.2.2.2.2.2.2.1 c20) hW hl rfl rfl
      by_cases c21 : (xs (7 * t) &&& (31 : Int32)) = (11 : Int32)
      · refine lv_tableIn (tgt := 525) (off := 492) hx hb dL_law_33 (by rw [c21]; decide) (by rw [c21]; decide) (by rw [c21]; decide) (by decide) ?_
        exact law_case11 hL C1 hK hg hlt hu ex hend (hw.2.2.2.2.2.2.2.2.2.2.2.1 c21) hW hl rfl rfl
      by_cases c22 : (xs (7 * t) &&& (31 : Int32)) = (12 : Int32)
      · refine lv_tableIn (tgt := 538) (off := 505) hx hb dL_law_33 (by rw [c22]; decide) (by rw [c22]; decide) (by rw [c22]; decide) (by decide) ?_
        exact law_case12 hL C1 hK hg hlt hu ex hend (hw.2.2.2.2.2.2.2.2.2.2.2.2.1 c22) hW hl rfl rfl
      by_cases c23 : (xs (7 * t) &&& (31 : Int32)) = (13 : Int32)
      · refine lv_tableIn (tgt := 551) (off := 518) hx hb dL_law_33 (by rw [c23]; decide) (by rw [c23]; decide) (by rw [c23]; decide) (by decide) ?_
        exact law_case13 hL C1 hK hg hlt hu ex hend (hw.2.2.2.2.2.2.2.2.2.2.2.2.2.1 c23) hW hl rfl rfl
      by_cases c24 : (xs (7 * t) &&& (31 : Int32)) = (14 : Int32)
      · refine lv_tableIn (tgt := 575) (off := 542) hx hb dL_law_33 (by rw [c24]; decide) (by rw [c24]; decide) (by rw [c24]; decide) (by decide) ?_
        exact law_case14 hL C1 hK hg hlt hu ex hend (hw.2.2.2.2.2.2.2.2.2.2.2.2.2.2.1 c24) hW hl rfl rfl
      by_cases c25 : (xs (7 * t) &&& (31 : Int32)) = (15 : Int32)
      · refine lv_tableIn (tgt := 598) (off := 565) hx hb dL_law_33 (by rw [c25]; decide) (by rw [c25]; decide) (by rw [c25]; decide) (by decide) ?_
        exact law_case15 hL C1 hK hg hlt hu ex hend (hw.2.2.2.2.2.2.2.2.2.2.2.2.2.2.2.1 c25) hW hl rfl rfl
      by_cases c26 : (xs (7 * t) &&& (31 : Int32)) = (16 : Int32)
      · refine lv_tableIn (tgt := 621) (off := 588) hx hb dL_law_33 (by rw [c26]; decide) (by rw [c26]; decide) (by rw [c26]; decide) (by decide) ?_
        exact law_case16 hL C1 hK hg hlt hu ex hend (hw.2.2.2.2.2.2.2.2.2.2.2.2.2.2.2.2.1 c26) hW hl rfl rfl
      by_cases c27 : (xs (7 * t) &&& (31 : Int32)) = (17 : Int32)
      · refine lv_tableIn (tgt := 654) (off := 621) hx hb dL_law_33 (by rw [c27]; decide) (by rw [c27]; decide) (by rw [c27]; decide) (by decide) ?_
        exact law_case17 hL C1 hK hg hlt hu ex hend (hw.2.2.2.2.2.2.2.2.2.2.2.2.2.2.2.2.2.1 c27) hW hl rfl rfl
      refine lv_tableOut (tgt := 677) hx hb dL_law_33 ?_ (by decide) ?_
      · have z0 := lv_neT c10 (a := 0) (by decide); have z1 := lv_neT c11 (a := 1) (by decide); have z2 := lv_neT c12 (a := 2) (by decide); have z3 := lv_neT c13 (a := 3) (by decide); have z4 := lv_neT c14 (a := 4) (by decide); have z5 := lv_neT c15 (a := 5) (by decide); have z6 := lv_neT c16 (a := 6) (by decide); have z7 := lv_neT c17 (a := 7) (by decide); have z8 := lv_neT c18 (a := 8) (by decide); have z9 := lv_neT c19 (a := 9) (by decide); have z10 := lv_neT c20 (a := 10) (by decide); have z11 := lv_neT c21 (a := 11) (by decide); have z12 := lv_neT c22 (a := 12) (by decide); have z13 := lv_neT c23 (a := 13) (by decide); have z14 := lv_neT c24 (a := 14) (by decide); have z15 := lv_neT c25 (a := 15) (by decide); have z16 := lv_neT c26 (a := 16) (by decide); have z17 := lv_neT c27 (a := 17) (by decide); omega
      · refine W.widen (k := 41 + 3 * (t + 1) + u) (n := 1351224 + 72 * (t + 1) + 23296 * u) (by omega) (by omega) ?_
        exact hend u mm ⟨hu, (hw.2.2.2.2.2.2.2.2.2.2.2.2.2.2.2.2.2.2 c10 c11 c12 c13 c14 c15 c16 c17 c18 c19 c20 c21 c22 c23 c24 c25 c26 c27).2⟩ _ _ _ hW hl
