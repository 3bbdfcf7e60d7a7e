/-- one call of the script at 7 t: what must hold of it; u: has the planner's table been made (0, 1)? -/
def lawcase (xs : Nat → Int32) (t u : Nat) (m : Mm) (K : Nat → Mm → Prop) : Prop :=
  ((xs (7 * t) &&& 31) = (0 : Int32) → mT m 8 = 7 ∧ wp_X6_feed m 8 (xs (7 * t + 1)) (xs (7 * t + 2)) (xs (7 * t + 3)) (xs (7 * t + 4)) (xs (7 * t + 5)) (fun (r1 : Int32) (m1 : Mm) => mT m1 26 = 8 ∧ wp_X7_feed m1 26 (xs (7 * t + 1)) (xs (7 * t + 2)) (xs (7 * t + 3)) (xs (7 * t + 4)) (xs (7 * t + 5)) (fun (r2 : Int32) (m2 : Mm) => r1 = r2 ∧ K u m2))) ∧
  ((xs (7 * t) &&& 31) = (1 : Int32) → mT m 8 = 7 ∧ wp_X6_law m 8 (xs (7 * t + 1)) (fun (r1 : Int32) (m1 : Mm) => mT m1 26 = 8 ∧ wp_X7_law m1 26 (xs (7 * t + 1)) (fun (r2 : Int32) (m2 : Mm) => r1 = r2 ∧ K u m2))) ∧
  ((xs (7 * t) &&& 31) = (2 : Int32) → mT m 8 = 7 ∧ wp_X6_trough m 8 (xs (7 * t + 1)) (fun (r1 : Int32) (m1 : Mm) => mT m1 26 = 8 ∧ wp_X7_trough m1 26 (xs (7 * t + 1)) (fun (r2 : Int32) (m2 : Mm) => r1 = r2 ∧ K u m2))) ∧
  ((xs (7 * t) &&& 31) = (3 : Int32) → mT m 8 = 7 ∧ wp_X6_area m 8 (xs (7 * t + 1)) (xs (7 * t + 2)) (fun (r1 : Int32) (m1 : Mm) => mT m1 26 = 8 ∧ wp_X7_area m1 26 (xs (7 * t + 1)) (xs (7 * t + 2)) (fun (r2 : Int32) (m2 : Mm) => r1 = r2 ∧ K u m2))) ∧
  ((xs (7 * t) &&& 31) = (4 : Int32) → mT m 8 = 7 ∧ wp_X6_flow m 8 (xs (7 * t + 1)) (xs (7 * t + 2)) (fun (r1 : Int32) (m1 : Mm) => mT m1 26 = 8 ∧ wp_X7_flow m1 26 (xs (7 * t + 1)) (xs (7 * t + 2)) (fun (r2 : Int32) (m2 : Mm) => r1 = r2 ∧ K u m2))) ∧
  ((xs (7 * t) &&& 31) = (5 : Int32) → mT m 8 = 7 ∧ wp_X6_ice m 8 (xs (7 * t + 1)) (xs (7 * t + 2)) (fun (r1 : Int32) (m1 : Mm) => mT m1 26 = 8 ∧ wp_X7_ice m1 26 (xs (7 * t + 1)) (xs (7 * t + 2)) (fun (r2 : Int32) (m2 : Mm) => r1 = r2 ∧ K u m2))) ∧
  ((xs (7 * t) &&& 31) = (6 : Int32) → mT m 8 = 7 ∧ wp_X6_boat m 8 (xs (7 * t + 1)) (xs (7 * t + 2)) (xs (7 * t + 3)) (xs (7 * t + 4)) (xs (7 * t + 5)) (xs (7 * t + 6)) (fun (r1 : Int32) (m1 : Mm) => mT m1 26 = 8 ∧ wp_X7_boat m1 26 (xs (7 * t + 1)) (xs (7 * t + 2)) (xs (7 * t + 3)) (xs (7 * t + 4)) (xs (7 * t + 5)) (xs (7 * t + 6)) (fun (r2 : Int32) (m2 : Mm) => r1 = r2 ∧ K u m2))) ∧
  ((xs (7 * t) &&& 31) = (7 : Int32) → mT m 8 = 7 ∧ wp_X6_queue m 8 (xs (7 * t + 1)) (xs (7 * t + 2)) (xs (7 * t + 3)) (fun (r1 : Int32) (m1 : Mm) => mT m1 26 = 8 ∧ wp_X7_queue m1 26 (xs (7 * t + 1)) (xs (7 * t + 2)) (xs (7 * t + 3)) (fun (r2 : Int32) (m2 : Mm) => r1 = r2 ∧ K u m2))) ∧
  ((xs (7 * t) &&& 31) = (8 : Int32) → mT m 8 = 7 ∧ wp_X6_fitting m 8 (xs (7 * t + 1)) (fun (r1 : Int32) (m1 : Mm) => mT m1 26 = 8 ∧ wp_X7_fitting m1 26 (xs (7 * t + 1)) (fun (r2 : Int32) (m2 : Mm) => r1 = r2 ∧ K u m2))) ∧
  ((xs (7 * t) &&& 31) = (9 : Int32) → mT m 8 = 7 ∧ wp_X6_ride m 8 (xs (7 * t + 1)) (xs (7 * t + 2)) (fun (r1 : Int32) (m1 : Mm) => mT m1 26 = 8 ∧ wp_X7_ride m1 26 (xs (7 * t + 1)) (xs (7 * t + 2)) (fun (r2 : Int32) (m2 : Mm) => r1 = r2 ∧ K u m2))) ∧
  ((xs (7 * t) &&& 31) = (10 : Int32) → mT m 8 = 7 ∧ wp_X6_renew m 8 (xs (7 * t + 1)) (fun (r1 : Int32) (m1 : Mm) => mT m1 26 = 8 ∧ wp_X7_renew m1 26 (xs (7 * t + 1)) (fun (r2 : Int32) (m2 : Mm) => r1 = r2 ∧ K u m2))) ∧
  ((xs (7 * t) &&& 31) = (11 : Int32) → (u = 0 ∧ mT m 8 = 7 ∧ wp_X6_plan m 8  (fun (r1 : Int32) (m1 : Mm) => mT m1 26 = 8 ∧ wp_X7_plan m1 26  (fun (r2 : Int32) (m2 : Mm) => r1 = r2 ∧ K 1 m2))) ∨ mT m 8 = 7 ∧ wp_X6_plan_k m 8  (fun (r1 : Int32) (m1 : Mm) => mT m1 26 = 8 ∧ wp_X7_plan m1 26  (fun (r2 : Int32) (m2 : Mm) => r1 = r2 ∧ K u m2))) ∧
  ((xs (7 * t) &&& 31) = (12 : Int32) → (u = 0 ∧ mT m 8 = 7 ∧ wp_X6_ends m 8  (fun (r1 : Int32) (m1 : Mm) => mT m1 26 = 8 ∧ wp_X7_ends m1 26  (fun (r2 : Int32) (m2 : Mm) => r1 = r2 ∧ K 1 m2))) ∨ mT m 8 = 7 ∧ wp_X6_ends_k m 8  (fun (r1 : Int32) (m1 : Mm) => mT m1 26 = 8 ∧ wp_X7_ends m1 26  (fun (r2 : Int32) (m2 : Mm) => r1 = r2 ∧ K u m2))) ∧
  ((xs (7 * t) &&& 31) = (13 : Int32) → mT m 8 = 7 ∧ wp_X6_stock m 8 (xs (7 * t + 1)) (fun (r1 : Int64) (m1 : Mm) => mT m1 26 = 8 ∧ wp_X7_stock m1 26 (xs (7 * t + 1)) (fun (r2 : Int64) (m2 : Mm) => r1 = r2 ∧ K u m2))) ∧
  ((xs (7 * t) &&& 31) = (14 : Int32) → mT m 8 = 7 ∧ wp_X6_level m 8 (xs (7 * t + 1)) (fun (r1 : Int32) (m1 : Mm) => mT m1 26 = 8 ∧ wp_X7_level m1 26 (xs (7 * t + 1)) (fun (r2 : Int32) (m2 : Mm) => r1 = r2 ∧ K u m2))) ∧
  ((xs (7 * t) &&& 31) = (15 : Int32) → mT m 8 = 7 ∧ wp_X6_depth m 8 (xs (7 * t + 1)) (fun (r1 : Int32) (m1 : Mm) => mT m1 26 = 8 ∧ wp_X7_depth m1 26 (xs (7 * t + 1)) (fun (r2 : Int32) (m2 : Mm) => r1 = r2 ∧ K u m2))) ∧
  ((xs (7 * t) &&& 31) = (16 : Int32) → mT m 8 = 7 ∧ wp_X6_look m 8 (xs (7 * t + 1)) (xs (7 * t + 2)) (fun (r1 : Int32) (m1 : Mm) => mT m1 26 = 8 ∧ wp_X7_look m1 26 (xs (7 * t + 1)) (xs (7 * t + 2)) (fun (r2 : Int32) (m2 : Mm) => r1 = r2 ∧ K u m2))) ∧
  ((xs (7 * t) &&& 31) = (17 : Int32) → mT m 8 = 7 ∧ wp_X6_count m 8 (xs (7 * t + 1)) (fun (r1 : Int32) (m1 : Mm) => mT m1 26 = 8 ∧ wp_X7_count m1 26 (xs (7 * t + 1)) (fun (r2 : Int32) (m2 : Mm) => r1 = r2 ∧ K u m2))) ∧
  (¬ (xs (7 * t) &&& 31) = (0 : Int32) → ¬ (xs (7 * t) &&& 31) = (1 : Int32) → ¬ (xs (7 * t) &&& 31) = (2 : Int32) → ¬ (xs (7 * t) &&& 31) = (3 : Int32) → ¬ (xs (7 * t) &&& 31) = (4 : Int32) → ¬ (xs (7 * t) &&& 31) = (5 : Int32) → ¬ (xs (7 * t) &&& 31) = (6 : Int32) → ¬ (xs (7 * t) &&& 31) = (7 : Int32) → ¬ (xs (7 * t) &&& 31) = (8 : Int32) → ¬ (xs (7 * t) &&& 31) = (9 : Int32) → ¬ (xs (7 * t) &&& 31) = (10 : Int32) → ¬ (xs (7 * t) &&& 31) = (11 : Int32) → ¬ (xs (7 * t) &&& 31) = (12 : Int32) → ¬ (xs (7 * t) &&& 31) = (13 : Int32) → ¬ (xs (7 * t) &&& 31) = (14 : Int32) → ¬ (xs (7 * t) &&& 31) = (15 : Int32) → ¬ (xs (7 * t) &&& 31) = (16 : Int32) → ¬ (xs (7 * t) &&& 31) = (17 : Int32) → K u m)
section LAWW
theorem lw_ix {L t : Nat} (hL : L ≤ 3584) (ht : 7 * t + 7 ≤ L) {x : Int32} (ex : x = nI (7 * t)) (k : Nat) (hk : k < 7) : vp_in (x + nI k) L ∧ (x + nI k).toNatClampNeg = 7 * t + k := by
  rw [ex, nI_add]
  exact ⟨vp_in_nI (by omega) (by omega), nI_clamp (by omega)⟩
set_option maxHeartbeats 4000000 in
set_option maxRecDepth 100000 in
theorem law_case0 {p : Program} {l : Launch} {e : Env} {s : State} {m : MethodId} {below : List Frame} {meth : Method} {c : Code} {g : Gv} {b L : Nat} {xs : Nat → Int32} (hL : L ≤ 3584) (C0 : lw_At p s m meth c b L xs) (hK : Kk g s) (hg : g.2 4 = s.heap.size) {t u : Nat} (ht : 7 * t + 7 ≤ L) (hu : u ≤ 1) {x : Int32} (ex : x = nI (7 * t)) {K : Nat → Mm → Prop}
    (hend : ∀ (u : Nat) (mm : Mm), K u mm → WW p l e room_1 s m #[Value.ref b] below meth c (lw_Z below #[Value.ref b] s) g mm 4 (41 + 3 * (t + 1) + u) (1351224 + 72 * (t + 1) + 23296 * u) 677 [(0, .ref b), (1, .ref (ad g 8)), (2, .ref (ad g 26)), (3, .int x)] []) {mm : Mm} (hw : mT mm 8 = 7 ∧ wp_X6_feed mm 8 (xs (7 * t + 1)) (xs (7 * t + 2)) (xs (7 * t + 3)) (xs (7 * t + 4)) (xs (7 * t + 5)) (fun (r1 : Int32) (m1 : Mm) => mT m1 26 = 8 ∧ wp_X7_feed m1 26 (xs (7 * t + 1)) (xs (7 * t + 2)) (xs (7 * t + 3)) (xs (7 * t + 4)) (xs (7 * t + 5)) (fun (r2 : Int32) (m2 : Mm) => r1 = r2 ∧ K u m2)))
    {H : Heap} {locs : List Loc} {ls : Array Slot} (hW : Wo g mm s H locs) (hl : lv_has ls 4 [(0, .ref b), (1, .ref (ad g 8)), (2, .ref (ad g 26)), (3, .int x)]) {cells slots : Nat} (ec : cells = 41 + 3 * t + u) (es : slots = 1351224 + 72 * t + 23296 * u) : W p l e room_1 s m #[Value.ref b] below meth c H locs cells slots (lw_Z below #[Value.ref b] s) (F0 m 120 ls []) := by
  obtain ⟨hx, hb, hr, hml, hown, hts, hX, hbl, hlocks, hgv⟩ := C0
  have hts := fun w h => hts w (wsL_law_in w h)
  have hbA : ¬ Ag g b := by show ¬ g.2 4 ≤ b; omega
  have hown : s.vm.findClass RL = some m.cls := hown
  have hin : ∀ k : Nat, k < 7 → vp_in (x + nI k) L ∧ (x + nI k).toNatClampNeg = 7 * t + k := fun k hk => lw_ix hL ht ex k hk
  have h1 : vp_in (x + (1 : Int32)) L ∧ (x + (1 : Int32)).toNatClampNeg = 7 * t + 1 := hin 1 (by decide)
  have h2 : vp_in (x + (2 : Int32)) L ∧ (x + (2 : Int32)).toNatClampNeg = 7 * t + 2 := hin 2 (by decide)
  have h3 : vp_in (x + (3 : Int32)) L ∧ (x + (3 : Int32)).toNatClampNeg = 7 * t + 3 := hin 3 (by decide)
  have h4 : vp_in (x + (4 : Int32)) L ∧ (x + (4 : Int32)).toNatClampNeg = 7 * t + 4 := hin 4 (by decide)
  have h5 : vp_in (x + (5 : Int32)) L ∧ (x + (5 : Int32)).toNatClampNeg = 7 * t + 5 := hin 5 (by decide)
  refine lv_aload_n hx hb dL_law_120 rfl (lv_at hl 1 rfl) ?_
  refine lv_aload_n hx hb dL_law_121 rfl (lv_at hl 0 rfl) ?_
  refine lv_iload_n hx hb dL_law_122 rfl (lv_at hl 3 rfl) ?_
  refine lv_iconst (v := (1 : Int32)) hx hb dL_law_123 (by decide) ?_
  refine lv_iadd hx hb dL_law_124 ?_
  refine va_sld hx hb hX hbl hbA hW.2 h1.1 dL_law_125 ?_
  rw [h1.2]
  refine lv_aload_n hx hb dL_law_126 rfl (lv_at hl 0 rfl) ?_
  refine lv_iload_n hx hb dL_law_127 rfl (lv_at hl 3 rfl) ?_
  refine lv_iconst (v := (2 : Int32)) hx hb dL_law_128 (by decide) ?_
  refine lv_iadd hx hb dL_law_129 ?_
  refine va_sld hx hb hX hbl hbA hW.2 h2.1 dL_law_130 ?_
  rw [h2.2]
  refine lv_aload_n hx hb dL_law_131 rfl (lv_at hl 0 rfl) ?_
  refine lv_iload_n hx hb dL_law_132 rfl (lv_at hl 3 rfl) ?_
  refine lv_iconst (v := (3 : Int32)) hx hb dL_law_133 (by decide) ?_
  refine lv_iadd hx hb dL_law_134 ?_
  refine va_sld hx hb hX hbl hbA hW.2 h3.1 dL_law_135 ?_
  rw [h3.2]
  refine lv_aload_n hx hb dL_law_136 rfl (lv_at hl 0 rfl) ?_
  refine lv_iload_n hx hb dL_law_137 rfl (lv_at hl 3 rfl) ?_
  refine lv_iconst (v := (4 : Int32)) hx hb dL_law_138 (by decide) ?_
  refine lv_iadd hx hb dL_law_139 ?_
  refine va_sld hx hb hX hbl hbA hW.2 h4.1 dL_law_140 ?_
  rw [h4.2]
  refine lv_aload_n hx hb dL_law_141 rfl (lv_at hl 0 rfl) ?_
  refine lv_iload_n hx hb dL_law_142 rfl (lv_at hl 3 rfl) ?_
  refine lv_iconst (v := (5 : Int32)) hx hb dL_law_143 (by decide) ?_
  refine lv_iadd hx hb dL_law_144 ?_
  refine va_sld hx hb hX hbl hbA hW.2 h5.1 dL_law_145 ?_
  rw [h5.2]
  refine R_call (va_runV (As := [.int (xs (7 * t + 1)), .int (xs (7 * t + 2)), .int (xs (7 * t + 3)), .int (xs (7 * t + 4)), .int (xs (7 * t + 5))]) (rest := []) ⟨hx, hb, hml, hown, hts⟩ (c_X6_feed l g mm 8 (xs (7 * t + 1)) (xs (7 * t + 2)) (xs (7 * t + 3)) (xs (7 * t + 4)) (xs (7 * t + 5)) _ hw.2) (cwV 5 hts gL_law_X6_feed rfl rfl rfl (by decide +kernel) ⟨by decide, by decide⟩) (PP.preV (q := (RX6, TX6, 15)) hK hW hw.1 (by decide) rfl) rfl rfl hl.1 rfl (lv_room (Nat.le_of_ble_eq_true rfl)) dL_law_146 ⟨by show _ ≤ 600000; omega, by show _ ≤ 7302250; omega⟩) hW (fun r1 m1 H locs hw hW => ?_)
  refine W.eq (g2 := F0 m 149 ls [.int r1]) rfl ?_
  refine lv_aload_n hx hb dL_law_149 rfl (lv_at hl 2 rfl) ?_
  refine lv_aload_n hx hb dL_law_150 rfl (lv_at hl 0 rfl) ?_
  refine lv_iload_n hx hb dL_law_151 rfl (lv_at hl 3 rfl) ?_
  refine lv_iconst (v := (1 : Int32)) hx hb dL_law_152 (by decide) ?_
  refine lv_iadd hx hb dL_law_153 ?_
  refine va_sld hx hb hX hbl hbA hW.2 h1.1 dL_law_154 ?_
  rw [h1.2]
  refine lv_aload_n hx hb dL_law_155 rfl (lv_at hl 0 rfl) ?_
  refine lv_iload_n hx hb dL_law_156 rfl (lv_at hl 3 rfl) ?_
  refine lv_iconst (v := (2 : Int32)) hx hb dL_law_157 (by decide) ?_
  refine lv_iadd hx hb dL_law_158 ?_
  refine va_sld hx hb hX hbl hbA hW.2 h2.1 dL_law_159 ?_
  rw [h2.2]
  refine lv_aload_n hx hb dL_law_160 rfl (lv_at hl 0 rfl) ?_
  refine lv_iload_n hx hb dL_law_161 rfl (lv_at hl 3 rfl) ?_
  refine lv_iconst (v := (3 : Int32)) hx hb dL_law_162 (by decide) ?_
  refine lv_iadd hx hb dL_law_163 ?_
  refine va_sld hx hb hX hbl hbA hW.2 h3.1 dL_law_164 ?_
  rw [h3.2]
  refine lv_aload_n hx hb dL_law_165 rfl (lv_at hl 0 rfl) ?_
  refine lv_iload_n hx hb dL_law_166 rfl (lv_at hl 3 rfl) ?_
  refine lv_iconst (v := (4 : Int32)) hx hb dL_law_167 (by decide) ?_
  refine lv_iadd hx hb dL_law_168 ?_
  refine va_sld hx hb hX hbl hbA hW.2 h4.1 dL_law_169 ?_
  rw [h4.2]
  refine lv_aload_n hx hb dL_law_170 rfl (lv_at hl 0 rfl) ?_
  refine lv_iload_n hx hb dL_law_171 rfl (lv_at hl 3 rfl) ?_
  refine lv_iconst (v := (5 : Int32)) hx hb dL_law_172 (by decide) ?_
  refine lv_iadd hx hb dL_law_173 ?_
  refine va_sld hx hb hX hbl hbA hW.2 h5.1 dL_law_174 ?_
  rw [h5.2]
  refine R_call (va_runV (As := [.int (xs (7 * t + 1)), .int (xs (7 * t + 2)), .int (xs (7 * t + 3)), .int (xs (7 * t + 4)), .int (xs (7 * t + 5))]) (rest := [.int r1]) ⟨hx, hb, hml, hown, hts⟩ (c_X7_feed l g m1 26 (xs (7 * t + 1)) (xs (7 * t + 2)) (xs (7 * t + 3)) (xs (7 * t + 4)) (xs (7 * t + 5)) _ hw.2) (cwV 5 hts gL_law_X7_feed rfl rfl rfl (by decide +kernel) ⟨by decide, by decide⟩) (PP.preV (q := (RX7, TX7, 36)) hK hW hw.1 (by decide) rfl) rfl rfl hl.1 rfl (lv_room (Nat.le_of_ble_eq_true rfl)) dL_law_175 ⟨by show _ ≤ 600000; omega, by show _ ≤ 7302250; omega⟩) hW (fun r2 m2 H locs hw hW => ?_)
  refine W.eq (g2 := F0 m 178 ls [.int r2, .int r1]) rfl ?_
  refine lv_icmp_eq (tgt := 677) hx hb dL_law_178 (by decide) (fun c1 => ?_) (fun c1 => ?_)
  · have hw := hw.2
    refine W.widen (k := 41 + 3 * (t + 1) + u) (n := 1351224 + 72 * (t + 1) + 23296 * u) (by omega) (by omega) ?_
    exact hend u m2 hw _ _ _ hW hl
  · exact absurd hw.1 c1
set_option maxHeartbeats 4000000 in
set_option maxRecDepth 100000 in
theorem law_case1 {p : Program} {l : Launch} {e : Env} {s : State} {m : MethodId} {below : List Frame} {meth : Method} {c : Code} {g : Gv} {b L : Nat} {xs : Nat → Int32} (hL : L ≤ 3584) (C0 : lw_At p s m meth c b L xs) (hK : Kk g s) (hg : g.2 4 = s.heap.size) {t u : Nat} (ht : 7 * t + 7 ≤ L) (hu : u ≤ 1) {x : Int32} (ex : x = nI (7 * t)) {K : Nat → Mm → Prop}
    (hend : ∀ (u : Nat) (mm : Mm), K u mm → WW p l e room_1 s m #[Value.ref b] below meth c (lw_Z below #[Value.ref b] s) g mm 4 (41 + 3 * (t + 1) + u) (1351224 + 72 * (t + 1) + 23296 * u) 677 [(0, .ref b), (1, .ref (ad g 8)), (2, .ref (ad g 26)), (3, .int x)] []) {mm : Mm} (hw : mT mm 8 = 7 ∧ wp_X6_law mm 8 (xs (7 * t + 1)) (fun (r1 : Int32) (m1 : Mm) => mT m1 26 = 8 ∧ wp_X7_law m1 26 (xs (7 * t + 1)) (fun (r2 : Int32) (m2 : Mm) => r1 = r2 ∧ K u m2)))
    {H : Heap} {locs : List Loc} {ls : Array Slot} (hW : Wo g mm s H locs) (hl : lv_has ls 4 [(0, .ref b), (1, .ref (ad g 8)), (2, .ref (ad g 26)), (3, .int x)]) {cells slots : Nat} (ec : cells = 41 + 3 * t + u) (es : slots = 1351224 + 72 * t + 23296 * u) : W p l e room_1 s m #[Value.ref b] below meth c H locs cells slots (lw_Z below #[Value.ref b] s) (F0 m 183 ls []) := by
  obtain ⟨hx, hb, hr, hml, hown, hts, hX, hbl, hlocks, hgv⟩ := C0
  have hts := fun w h => hts w (wsL_law_in w h)
  have hbA : ¬ Ag g b := by show ¬ g.2 4 ≤ b; omega
  have hown : s.vm.findClass RL = some m.cls := hown
  have hin : ∀ k : Nat, k < 7 → vp_in (x + nI k) L ∧ (x + nI k).toNatClampNeg = 7 * t + k := fun k hk => lw_ix hL ht ex k hk
  have h1 : vp_in (x + (1 : Int32)) L ∧ (x + (1 : Int32)).toNatClampNeg = 7 * t + 1 := hin 1 (by decide)
  refine lv_aload_n hx hb dL_law_183 rfl (lv_at hl 1 rfl) ?_
  refine lv_aload_n hx hb dL_law_184 rfl (lv_at hl 0 rfl) ?_
  refine lv_iload_n hx hb dL_law_185 rfl (lv_at hl 3 rfl) ?_
  refine lv_iconst (v := (1 : Int32)) hx hb dL_law_186 (by decide) ?_
  refine lv_iadd hx hb dL_law_187 ?_
  refine va_sld hx hb hX hbl hbA hW.2 h1.1 dL_law_188 ?_
  rw [h1.2]
  refine R_call (va_runV (As := [.int (xs (7 * t + 1))]) (rest := []) ⟨hx, hb, hml, hown, hts⟩ (c_X6_law l g mm 8 (xs (7 * t + 1)) _ hw.2) (cwV 1 hts gL_law_X6_law rfl rfl rfl (by decide +kernel) ⟨by decide, by decide⟩) (PP.preV (q := (RX6, TX6, 15)) hK hW hw.1 (by decide) rfl) rfl rfl hl.1 rfl (lv_room (Nat.le_of_ble_eq_true rfl)) dL_law_189 ⟨by show _ ≤ 600000; omega, by show _ ≤ 7302250; omega⟩) hW (fun r1 m1 H locs hw hW => ?_)
  refine W.eq (g2 := F0 m 192 ls [.int r1]) rfl ?_
  refine lv_aload_n hx hb dL_law_192 rfl (lv_at hl 2 rfl) ?_
  refine lv_aload_n hx hb dL_law_193 rfl (lv_at hl 0 rfl) ?_
  refine lv_iload_n hx hb dL_law_194 rfl (lv_at hl 3 rfl) ?_
  refine lv_iconst (v := (1 : Int32)) hx hb dL_law_195 (by decide) ?_
  refine lv_iadd hx hb dL_law_196 ?_
  refine va_sld hx hb hX hbl hbA hW.2 h1.1 dL_law_197 ?_
  rw [h1.2]
  refine R_call (va_runV (As := [.int (xs (7 * t + 1))]) (rest := [.int r1]) ⟨hx, hb, hml, hown, hts⟩ (c_X7_law l g m1 26 (xs (7 * t + 1)) _ hw.2) (cwV 1 hts gL_law_X7_law rfl rfl rfl (by decide +kernel) ⟨by decide, by decide⟩) (PP.preV (q := (RX7, TX7, 36)) hK hW hw.1 (by decide) rfl) rfl rfl hl.1 rfl (lv_room (Nat.le_of_ble_eq_true rfl)) dL_law_198 ⟨by show _ ≤ 600000; omega, by show _ ≤ 7302250; omega⟩) hW (fun r2 m2 H locs hw hW => ?_)
  refine W.eq (g2 := F0 m 201 ls [.int r2, .int r1]) rfl ?_
  refine lv_icmp_eq (tgt := 677) hx hb dL_law_201 (by decide) (fun c1 => ?_) (fun c1 => ?_)
  · have hw := hw.2
    refine W.widen (k := 41 + 3 * (t + 1) + u) (n := 1351224 + 72 * (t + 1) + 23296 * u) (by omega) (by omega) ?_
    exact hend u m2 hw _ _ _ hW hl
  · exact absurd hw.1 c1
set_option maxHeartbeats 4000000 in
set_option maxRecDepth 100000 in
theorem law_case2 {p : Program} {l : Launch} {e : Env} {s : State} {m : MethodId} {below : List Frame} {meth : Method} {c : Code} {g : Gv} {b L : Nat} {xs : Nat → Int32} (hL : L ≤ 3584) (C0 : lw_At p s m meth c b L xs) (hK : Kk g s) (hg : g.2 4 = s.heap.size) {t u : Nat} (ht : 7 * t + 7 ≤ L) (hu : u ≤ 1) {x : Int32} (ex : x = nI (7 * t)) {K : Nat → Mm → Prop}
    (hend : ∀ (u : Nat) (mm : Mm), K u mm → WW p l e room_1 s m #[Value.ref b] below meth c (lw_Z below #[Value.ref b] s) g mm 4 (41 + 3 * (t + 1) + u) (1351224 + 72 * (t + 1) + 23296 * u) 677 [(0, .ref b), (1, .ref (ad g 8)), (2, .ref (ad g 26)), (3, .int x)] []) {mm : Mm} (hw : mT mm 8 = 7 ∧ wp_X6_trough mm 8 (xs (7 * t + 1)) (fun (r1 : Int32) (m1 : Mm) => mT m1 26 = 8 ∧ wp_X7_trough m1 26 (xs (7 * t + 1)) (fun (r2 : Int32) (m2 : Mm) => r1 = r2 ∧ K u m2)))
    {H : Heap} {locs : List Loc} {ls : Array Slot} (hW : Wo g mm s H locs) (hl : lv_has ls 4 [(0, .ref b), (1, .ref (ad g 8)), (2, .ref (ad g 26)), (3, .int x)]) {cells slots : Nat} (ec : cells = 41 + 3 * t + u) (es : slots = 1351224 + 72 * t + 23296 * u) : W p l e room_1 s m #[Value.ref b] below meth c H locs cells slots (lw_Z below #[Value.ref b] s) (F0 m 206 ls []) := by
  obtain ⟨hx, hb, hr, hml, hown, hts, hX, hbl, hlocks, hgv⟩ := C0
  have hts := fun w h => hts w (wsL_law_in w h)
  have hbA : ¬ Ag g b := by show ¬ g.2 4 ≤ b; omega
  have hown : s.vm.findClass RL = some m.cls := hown
  have hin : ∀ k : Nat, k < 7 → vp_in (x + nI k) L ∧ (x + nI k).toNatClampNeg = 7 * t + k := fun k hk => lw_ix hL ht ex k hk
  have h1 : vp_in (x + (1 : Int32)) L ∧ (x + (1 : Int32)).toNatClampNeg = 7 * t + 1 := hin 1 (by decide)
  refine lv_aload_n hx hb dL_law_206 rfl (lv_at hl 1 rfl) ?_
  refine lv_aload_n hx hb dL_law_207 rfl (lv_at hl 0 rfl) ?_
  refine lv_iload_n hx hb dL_law_208 rfl (lv_at hl 3 rfl) ?_
  refine lv_iconst (v := (1 : Int32)) hx hb dL_law_209 (by decide) ?_
  refine lv_iadd hx hb dL_law_210 ?_
  refine va_sld hx hb hX hbl hbA hW.2 h1.1 dL_law_211 ?_
  rw [h1.2]
  refine R_call (va_runV (As := [.int (xs (7 * t + 1))]) (rest := []) ⟨hx, hb, hml, hown, hts⟩ (c_X6_trough l g mm 8 (xs (7 * t + 1)) _ hw.2) (cwV 1 hts gL_law_X6_trough rfl rfl rfl (by decide +kernel) ⟨by decide, by decide⟩) (PP.preV (q := (RX6, TX6, 15)) hK hW hw.1 (by decide) rfl) rfl rfl hl.1 rfl (lv_room (Nat.le_of_ble_eq_true rfl)) dL_law_212 ⟨by show _ ≤ 600000; omega, by show _ ≤ 7302250; omega⟩) hW (fun r1 m1 H locs hw hW => ?_)
  refine W.eq (g2 := F0 m 215 ls [.int r1]) rfl ?_
  refine lv_aload_n hx hb dL_law_215 rfl (lv_at hl 2 rfl) ?_
  refine lv_aload_n hx hb dL_law_216 rfl (lv_at hl 0 rfl) ?_
  refine lv_iload_n hx hb dL_law_217 rfl (lv_at hl 3 rfl) ?_
  refine lv_iconst (v := (1 : Int32)) hx hb dL_law_218 (by decide) ?_
  refine lv_iadd hx hb dL_law_219 ?_
  refine va_sld hx hb hX hbl hbA hW.2 h1.1 dL_law_220 ?_
  rw [h1.2]
  refine R_call (va_runV (As := [.int (xs (7 * t + 1))]) (rest := [.int r1]) ⟨hx, hb, hml, hown, hts⟩ (c_X7_trough l g m1 26 (xs (7 * t + 1)) _ hw.2) (cwV 1 hts gL_law_X7_trough rfl rfl rfl (by decide +kernel) ⟨by decide, by decide⟩) (PP.preV (q := (RX7, TX7, 36)) hK hW hw.1 (by decide) rfl) rfl rfl hl.1 rfl (lv_room (Nat.le_of_ble_eq_true rfl)) dL_law_221 ⟨by show _ ≤ 600000; omega, by show _ ≤ 7302250; omega⟩) hW (fun r2 m2 H locs hw hW => ?_)
  refine W.eq (g2 := F0 m 224 ls [.int r2, .int r1]) rfl ?_
  refine lv_icmp_eq (tgt := 677) hx hb dL_law_224 (by decide) (fun c1 => ?_) (fun c1 => ?_)
  · have hw := hw.2
    refine W.widen (k := 41 + 3 * (t + 1) + u) (n := 1351224 + 72 * (t + 1) + 23296 * u) (by omega) (by omega) ?_
    exact hend u m2 hw _ _ _ hW hl
  · exact absurd hw.1 c1
set_option maxHeartbeats 4000000 in
set_option maxRecDepth 100000 in
theorem law_case3 {p : Program} {l : Launch} {e : Env} {s : State} {m : MethodId} {below : List Frame} {meth : Method} {c : Code} {g : Gv} {b L : Nat} {xs : Nat → Int32} (hL : L ≤ 3584) (C0 : lw_At p s m meth c b L xs) (hK : Kk g s) (hg : g.2 4 = s.heap.size) {t u : Nat} (ht : 7 * t + 7 ≤ L) (hu : u ≤ 1) {x : Int32} (ex : x = nI (7 * t)) {K : Nat → Mm → Prop}
    (hend : ∀ (u : Nat) (mm : Mm), K u mm → WW p l e room_1 s m #[Value.ref b] below meth c (lw_Z below #[Value.ref b] s) g mm 4 (41 + 3 * (t + 1) + u) (1351224 + 72 * (t + 1) + 23296 * u) 677 [(0, .ref b), (1, .ref (ad g 8)), (2, .ref (ad g 26)), (3, .int x)] []) {mm : Mm} (hw : mT mm 8 = 7 ∧ wp_X6_area mm 8 (xs (7 * t + 1)) (xs (7 * t + 2)) (fun (r1 : Int32) (m1 : Mm) => mT m1 26 = 8 ∧ wp_X7_area m1 26 (xs (7 * t + 1)) (xs (7 * t + 2)) (fun (r2 : Int32) (m2 : Mm) => r1 = r2 ∧ K u m2)))
    {H : Heap} {locs : List Loc} {ls : Array Slot} (hW : Wo g mm s H locs) (hl : lv_has ls 4 [(0, .ref b), (1, .ref (ad g 8)), (2, .ref (ad g 26)), (3, .int x)]) {cells slots : Nat} (ec : cells = 41 + 3 * t + u) (es : slots = 1351224 + 72 * t + 23296 * u) : W p l e room_1 s m #[Value.ref b] below meth c H locs cells slots (lw_Z below #[Value.ref b] s) (F0 m 229 ls []) := by
  obtain ⟨hx, hb, hr, hml, hown, hts, hX, hbl, hlocks, hgv⟩ := C0
  have hts := fun w h => hts w (wsL_law_in w h)
  have hbA : ¬ Ag g b := by show ¬ g.2 4 ≤ b; omega
  have hown : s.vm.findClass RL = some m.cls := hown
  have hin : ∀ k : Nat, k < 7 → vp_in (x + nI k) L ∧ (x + nI k).toNatClampNeg = 7 * t + k := fun k hk => lw_ix hL ht ex k hk
  have h1 : vp_in (x + (1 : Int32)) L ∧ (x + (1 : Int32)).toNatClampNeg = 7 * t + 1 := hin 1 (by decide)
  have h2 : vp_in (x + (2 : Int32)) L ∧ (x + (2 : Int32)).toNatClampNeg = 7 * t + 2 := hin 2 (by decide)
  refine lv_aload_n hx hb dL_law_229 rfl (lv_at hl 1 rfl) ?_
  refine lv_aload_n hx hb dL_law_230 rfl (lv_at hl 0 rfl) ?_
  refine lv_iload_n hx hb dL_law_231 rfl (lv_at hl 3 rfl) ?_
  refine lv_iconst (v := (1 : Int32)) hx hb dL_law_232 (by decide) ?_
  refine lv_iadd hx hb dL_law_233 ?_
  refine va_sld hx hb hX hbl hbA hW.2 h1.1 dL_law_234 ?_
  rw [h1.2]
  refine lv_aload_n hx hb dL_law_235 rfl (lv_at hl 0 rfl) ?_
  refine lv_iload_n hx hb dL_law_236 rfl (lv_at hl 3 rfl) ?_
  refine lv_iconst (v := (2 : Int32)) hx hb dL_law_237 (by decide) ?_
  refine lv_iadd hx hb dL_law_238 ?_
  refine va_sld hx hb hX hbl hbA hW.2 h2.1 dL_law_239 ?_
  rw [h2.2]
  refine R_call (va_runV (As := [.int (xs (7 * t + 1)), .int (xs (7 * t + 2))]) (rest := []) ⟨hx, hb, hml, hown, hts⟩ (c_X6_area l g mm 8 (xs (7 * t + 1)) (xs (7 * t + 2)) _ hw.2) (cwV 2 hts gL_law_X6_area rfl rfl rfl (by decide +kernel) ⟨by decide, by decide⟩) (PP.preV (q := (RX6, TX6, 15)) hK hW hw.1 (by decide) rfl) rfl rfl hl.1 rfl (lv_room (Nat.le_of_ble_eq_true rfl)) dL_law_240 ⟨by show _ ≤ 600000; omega, by show _ ≤ 7302250; omega⟩) hW (fun r1 m1 H locs hw hW => ?_)
  refine W.eq (g2 := F0 m 243 ls [.int r1]) rfl ?_
  refine lv_aload_n hx hb dL_law_243 rfl (lv_at hl 2 rfl) ?_
  refine lv_aload_n hx hb dL_law_244 rfl (lv_at hl 0 rfl) ?_
  refine lv_iload_n hx hb dL_law_245 rfl (lv_at hl 3 rfl) ?_
  refine lv_iconst (v := (1 : Int32)) hx hb dL_law_246 (by decide) ?_
  refine lv_iadd hx hb dL_law_247 ?_
  refine va_sld hx hb hX hbl hbA hW.2 h1.1 dL_law_248 ?_
  rw [h1.2]
  refine lv_aload_n hx hb dL_law_249 rfl (lv_at hl 0 rfl) ?_
  refine lv_iload_n hx hb dL_law_250 rfl (lv_at hl 3 rfl) ?_
  refine lv_iconst (v := (2 : Int32)) hx hb dL_law_251 (by decide) ?_
  refine lv_iadd hx hb dL_law_252 ?_
  refine va_sld hx hb hX hbl hbA hW.2 h2.1 dL_law_253 ?_
  rw [h2.2]
  refine R_call (va_runV (As := [.int (xs (7 * t + 1)), .int (xs (7 * t + 2))]) (rest := [.int r1]) ⟨hx, hb, hml, hown, hts⟩ (c_X7_area l g m1 26 (xs (7 * t + 1)) (xs (7 * t + 2)) _ hw.2) (cwV 2 hts gL_law_X7_area rfl rfl rfl (by decide +kernel) ⟨by decide, by decide⟩) (PP.preV (q := (RX7, TX7, 36)) hK hW hw.1 (by decide) rfl) rfl rfl hl.1 rfl (lv_room (Nat.le_of_ble_eq_true rfl)) dL_law_254 ⟨by show _ ≤ 600000; omega, by show _ ≤ 7302250; omega⟩) hW (fun r2 m2 H locs hw hW => ?_)
  refine W.eq (g2 := F0 m 257 ls [.int r2, .int r1]) rfl ?_
  refine lv_icmp_eq (tgt := 677) hx hb dL_law_257 (by decide) (fun c1 => ?_) (fun c1 => ?_)
  · have hw := hw.2
    refine W.widen (k := 41 + 3 * (t + 1) + u) (n := 1351224 + 72 * (t + 1) + 23296 * u) (by omega) (by omega) ?_
    exact hend u m2 hw _ _ _ hW hl
  · exact absurd hw.1 c1
set_option maxHeartbeats 4000000 in
set_option maxRecDepth 100000 in
theorem law_case4 {p : Program} {l : Launch} {e : Env} {s : State} {m : MethodId} {below : List Frame} {meth : Method} {c : Code} {g : Gv} {b L : Nat} {xs : Nat → Int32} (hL : L ≤ 3584) (C0 : lw_At p s m meth c b L xs) (hK : Kk g s) (hg : g.2 4 = s.heap.size) {t u : Nat} (ht : 7 * t + 7 ≤ L) (hu : u ≤ 1) {x : Int32} (ex : x = nI (7 * t)) {K : Nat → Mm → Prop}
    (hend : ∀ (u : Nat) (mm : Mm), K u mm → WW p l e room_1 s m #[Value.ref b] below meth c (lw_Z below #[Value.ref b] s) g mm 4 (41 + 3 * (t + 1) + u) (1351224 + 72 * (t + 1) + 23296 * u) 677 [(0, .ref b), (1, .ref (ad g 8)), (2, .ref (ad g 26)), (3, .int x)] []) {mm : Mm} (hw : mT mm 8 = 7 ∧ wp_X6_flow mm 8 (xs (7 * t + 1)) (xs (7 * t + 2)) (fun (r1 : Int32) (m1 : Mm) => mT m1 26 = 8 ∧ wp_X7_flow m1 26 (xs (7 * t + 1)) (xs (7 * t + 2)) (fun (r2 : Int32) (m2 : Mm) => r1 = r2 ∧ K u m2)))
    {H : Heap} {locs : List Loc} {ls : Array Slot} (hW : Wo g mm s H locs) (hl : lv_has ls 4 [(0, .ref b), (1, .ref (ad g 8)), (2, .ref (ad g 26)), (3, .int x)]) {cells slots : Nat} (ec : cells = 41 + 3 * t + u) (es : slots = 1351224 + 72 * t + 23296 * u) : W p l e room_1 s m #[Value.ref b] below meth c H locs cells slots (lw_Z below #[Value.ref b] s) (F0 m 262 ls []) := by
  obtain ⟨hx, hb, hr, hml, hown, hts, hX, hbl, hlocks, hgv⟩ := C0
  have hts := fun w h => hts w (wsL_law_in w h)
  have hbA : ¬ Ag g b := by show ¬ g.2 4 ≤ b; omega
  have hown : s.vm.findClass RL = some m.cls := hown
  have hin : ∀ k : Nat, k < 7 → vp_in (x + nI k) L ∧ (x + nI k).toNatClampNeg = 7 * t + k := fun k hk => lw_ix hL ht ex k hk
  have h1 : vp_in (x + (1 : Int32)) L ∧ (x + (1 : Int32)).toNatClampNeg = 7 * t + 1 := hin 1 (by decide)
  have h2 : vp_in (x + (2 : Int32)) L ∧ (x + (2 : Int32)).toNatClampNeg = 7 * t + 2 := hin 2 (by decide)
  refine lv_aload_n hx hb dL_law_262 rfl (lv_at hl 1 rfl) ?_
  refine lv_aload_n hx hb dL_law_263 rfl (lv_at hl 0 rfl) ?_
  refine lv_iload_n hx hb dL_law_264 rfl (lv_at hl 3 rfl) ?_
  refine lv_iconst (v := (1 : Int32)) hx hb dL_law_265 (by decide) ?_
  refine lv_iadd hx hb dL_law_266 ?_
  refine va_sld hx hb hX hbl hbA hW.2 h1.1 dL_law_267 ?_
  rw [h1.2]
  refine lv_aload_n hx hb dL_law_268 rfl (lv_at hl 0 rfl) ?_
  refine lv_iload_n hx hb dL_law_269 rfl (lv_at hl 3 rfl) ?_
  refine lv_iconst (v := (2 : Int32)) hx hb dL_law_270 (by decide) ?_
  refine lv_iadd hx hb dL_law_271 ?_
  refine va_sld hx hb hX hbl hbA hW.2 h2.1 dL_law_272 ?_
  rw [h2.2]
  refine R_call (va_runV (As := [.int (xs (7 * t + 1)), .int (xs (7 * t + 2))]) (rest := []) ⟨hx, hb, hml, hown, hts⟩ (c_X6_flow l g mm 8 (xs (7 * t + 1)) (xs (7 * t + 2)) _ hw.2) (cwV 2 hts gL_law_X6_flow rfl rfl rfl (by decide +kernel) ⟨by decide, by decide⟩) (PP.preV (q := (RX6, TX6, 15)) hK hW hw.1 (by decide) rfl) rfl rfl hl.1 rfl (lv_room (Nat.le_of_ble_eq_true rfl)) dL_law_273 ⟨by show _ ≤ 600000; omega, by show _ ≤ 7302250; omega⟩) hW (fun r1 m1 H locs hw hW => ?_)
  refine W.eq (g2 := F0 m 276 ls [.int r1]) rfl ?_
  refine lv_aload_n hx hb dL_law_276 rfl (lv_at hl 2 rfl) ?_
  refine lv_aload_n hx hb dL_law_277 rfl (lv_at hl 0 rfl) ?_
  refine lv_iload_n hx hb dL_law_278 rfl (lv_at hl 3 rfl) ?_
  refine lv_iconst (v := (1 : Int32)) hx hb dL_law_279 (by decide) ?_
  refine lv_iadd hx hb dL_law_280 ?_
  refine va_sld hx hb hX hbl hbA hW.2 h1.1 dL_law_281 ?_
  rw [h1.2]
  refine lv_aload_n hx hb dL_law_282 rfl (lv_at hl 0 rfl) ?_
  refine lv_iload_n hx hb dL_law_283 rfl (lv_at hl 3 rfl) ?_
  refine lv_iconst (v := (2 : Int32)) hx hb dL_law_284 (by decide) ?_
  refine lv_iadd hx hb dL_law_285 ?_
  refine va_sld hx hb hX hbl hbA hW.2 h2.1 dL_law_286 ?_
  rw [h2.2]
  refine R_call (va_runV (As := [.int (xs (7 * t + 1)), .int (xs (7 * t + 2))]) (rest := [.int r1]) ⟨hx, hb, hml, hown, hts⟩ (c_X7_flow l g m1 26 (xs (7 * t + 1)) (xs (7 * t + 2)) _ hw.2) (cwV 2 hts gL_law_X7_flow rfl rfl rfl (by decide +kernel) ⟨by decide, by decide⟩) (PP.preV (q := (RX7, TX7, 36)) hK hW hw.1 (by decide) rfl) rfl rfl hl.1 rfl (lv_room (Nat.le_of_ble_eq_true rfl)) dL_law_287 ⟨by show _ ≤ 600000; omega, by show _ ≤ 7302250; omega⟩) hW (fun r2 m2 H locs hw hW => ?_)
  refine W.eq (g2 := F0 m 290 ls [.int r2, .int r1]) rfl ?_
  refine lv_icmp_eq (tgt := 677) hx hb dL_law_290 (by decide) (fun c1 => ?_) (fun c1 => ?_)
  · have hw := hw.2
    refine W.widen (k := 41 + 3 * (t + 1) + u) (n := 1351224 + 72 * (t + 1) + 23296 * u) (by omega) (by omega) ?_
    exact hend u m2 hw _ _ _ hW hl
  · exact absurd hw.1 c1
set_option maxHeartbeats 4000000 in
set_option maxRecDepth 100000 in
theorem law_case5 {p : Program} {l : Launch} {e : Env} {s : State} {m : MethodId} {below : List Frame} {meth : Method} {c : Code} {g : Gv} {b L : Nat} {xs : Nat → Int32} (hL : L ≤ 3584) (C0 : lw_At p s m meth c b L xs) (hK : Kk g s) (hg : g.2 4 = s.heap.size) {t u : Nat} (ht : 7 * t + 7 ≤ L) (hu : u ≤ 1) {x : Int32} (ex : x = nI (7 * t)) {K : Nat → Mm → Prop}
    (hend : ∀ (u : Nat) (mm : Mm), K u mm → WW p l e room_1 s m #[Value.ref b] below meth c (lw_Z below #[Value.ref b] s) g mm 4 (41 + 3 * (t + 1) + u) (1351224 + 72 * (t + 1) + 23296 * u) 677 [(0, .ref b), (1, .ref (ad g 8)), (2, .ref (ad g 26)), (3, .int x)] []) {mm : Mm} (hw : mT mm 8 = 7 ∧ wp_X6_ice mm 8 (xs (7 * t + 1)) (xs (7 * t + 2)) (fun (r1 : Int32) (m1 : Mm) => mT m1 26 = 8 ∧ wp_X7_ice m1 26 (xs (7 * t + 1)) (xs (7 * t + 2)) (fun (r2 : Int32) (m2 : Mm) => r1 = r2 ∧ K u m2)))
    {H : Heap} {locs : List Loc} {ls : Array Slot} (hW : Wo g mm s H locs) (hl : lv_has ls 4 [(0, .ref b), (1, .ref (ad g 8)), (2, .ref (ad g 26)), (3, .int x)]) {cells slots : Nat} (ec : cells = 41 + 3 * t + u) (es : slots = 1351224 + 72 * t + 23296 * u) : W p l e room_1 s m #[Value.ref b] below meth c H locs cells slots (lw_Z below #[Value.ref b] s) (F0 m 295 ls []) := by
  obtain ⟨hx, hb, hr, hml, hown, hts, hX, hbl, hlocks, hgv⟩ := C0
  have hts := fun w h => hts w (wsL_law_in w h)
  have hbA : ¬ Ag g b := by show ¬ g.2 4 ≤ b; omega
  have hown : s.vm.findClass RL = some m.cls := hown
  have hin : ∀ k : Nat, k < 7 → vp_in (x + nI k) L ∧ (x + nI k).toNatClampNeg = 7 * t + k := fun k hk => lw_ix hL ht ex k hk
  have h1 : vp_in (x + (1 : Int32)) L ∧ (x + (1 : Int32)).toNatClampNeg = 7 * t + 1 := hin 1 (by decide)
  have h2 : vp_in (x + (2 : Int32)) L ∧ (x + (2 : Int32)).toNatClampNeg = 7 * t + 2 := hin 2 (by decide)
  refine lv_aload_n hx hb dL_law_295 rfl (lv_at hl 1 rfl) ?_
  refine lv_aload_n hx hb dL_law_296 rfl (lv_at hl 0 rfl) ?_
  refine lv_iload_n hx hb dL_law_297 rfl (lv_at hl 3 rfl) ?_
  refine lv_iconst (v := (1 : Int32)) hx hb dL_law_298 (by decide) ?_
  refine lv_iadd hx hb dL_law_299 ?_
  refine va_sld hx hb hX hbl hbA hW.2 h1.1 dL_law_300 ?_
  rw [h1.2]
  refine lv_aload_n hx hb dL_law_301 rfl (lv_at hl 0 rfl) ?_
  refine lv_iload_n hx hb dL_law_302 rfl (lv_at hl 3 rfl) ?_
  refine lv_iconst (v := (2 : Int32)) hx hb dL_law_303 (by decide) ?_
  refine lv_iadd hx hb dL_law_304 ?_
  refine va_sld hx hb hX hbl hbA hW.2 h2.1 dL_law_305 ?_
  rw [h2.2]
  refine R_call (va_runV (As := [.int (xs (7 * t + 1)), .int (xs (7 * t + 2))]) (rest := []) ⟨hx, hb, hml, hown, hts⟩ (c_X6_ice l g mm 8 (xs (7 * t + 1)) (xs (7 * t + 2)) _ hw.2) (cwV 2 hts gL_law_X6_ice rfl rfl rfl (by decide +kernel) ⟨by decide, by decide⟩) (PP.preV (q := (RX6, TX6, 15)) hK hW hw.1 (by decide) rfl) rfl rfl hl.1 rfl (lv_room (Nat.le_of_ble_eq_true rfl)) dL_law_306 ⟨by show _ ≤ 600000; omega, by show _ ≤ 7302250; omega⟩) hW (fun r1 m1 H locs hw hW => ?_)
  refine W.eq (g2 := F0 m 309 ls [.int r1]) rfl ?_
  refine lv_aload_n hx hb dL_law_309 rfl (lv_at hl 2 rfl) ?_
  refine lv_aload_n hx hb dL_law_310 rfl (lv_at hl 0 rfl) ?_
  refine lv_iload_n hx hb dL_law_311 rfl (lv_at hl 3 rfl) ?_
  refine lv_iconst (v := (1 : Int32)) hx hb dL_law_312 (by decide) ?_
  refine lv_iadd hx hb dL_law_313 ?_
  refine va_sld hx hb hX hbl hbA hW.2 h1.1 dL_law_314 ?_
  rw [h1.2]
  refine lv_aload_n hx hb dL_law_315 rfl (lv_at hl 0 rfl) ?_
  refine lv_iload_n hx hb dL_law_316 rfl (lv_at hl 3 rfl) ?_
  refine lv_iconst (v := (2 : Int32)) hx hb dL_law_317 (by decide) ?_
  refine lv_iadd hx hb dL_law_318 ?_
  refine va_sld hx hb hX hbl hbA hW.2 h2.1 dL_law_319 ?_
  rw [h2.2]
  refine R_call (va_runV (As := [.int (xs (7 * t + 1)), .int (xs (7 * t + 2))]) (rest := [.int r1]) ⟨hx, hb, hml, hown, hts⟩ (c_X7_ice l g m1 26 (xs (7 * t + 1)) (xs (7 * t + 2)) _ hw.2) (cwV 2 hts gL_law_X7_ice rfl rfl rfl (by decide +kernel) ⟨by decide, by decide⟩) (PP.preV (q := (RX7, TX7, 36)) hK hW hw.1 (by decide) rfl) rfl rfl hl.1 rfl (lv_room (Nat.le_of_ble_eq_true rfl)) dL_law_320 ⟨by show _ ≤ 600000; omega, by show _ ≤ 7302250; omega⟩) hW (fun r2 m2 H locs hw hW => ?_)
  refine W.eq (g2 := F0 m 323 ls [.int r2, .int r1]) rfl ?_
  refine lv_icmp_eq (tgt := 677) hx hb dL_law_323 (by decide) (fun c1 => ?_) (fun c1 => ?_)
  · have hw := hw.2
    refine W.widen (k := 41 + 3 * (t + 1) + u) (n := 1351224 + 72 * (t + 1) + 23296 * u) (by omega) (by omega) ?_
    exact hend u m2 hw _ _ _ hW hl
  · exact absurd hw.1 c1
set_option maxHeartbeats 4000000 in
set_option maxRecDepth 100000 in
theorem law_case6 {p : Program} {l : Launch} {e : Env} {s : State} {m : MethodId} {below : List Frame} {meth : Method} {c : Code} {g : Gv} {b L : Nat} {xs : Nat → Int32} (hL : L ≤ 3584) (C0 : lw_At p s m meth c b L xs) (hK : Kk g s) (hg : g.2 4 = s.heap.size) {t u : Nat} (ht : 7 * t + 7 ≤ L) (hu : u ≤ 1) {x : Int32} (ex : x = nI (7 * t)) {K : Nat → Mm → Prop}
    (hend : ∀ (u : Nat) (mm : Mm), K u mm → WW p l e room_1 s m #[Value.ref b] below meth c (lw_Z below #[Value.ref b] s) g mm 4 (41 + 3 * (t + 1) + u) (1351224 + 72 * (t + 1) + 23296 * u) 677 [(0, .ref b), (1, .ref (ad g 8)), (2, .ref (ad g 26)), (3, .int x)] []) {mm : Mm} (hw : mT mm 8 = 7 ∧ wp_X6_boat mm 8 (xs (7 * t + 1)) (xs (7 * t + 2)) (xs (7 * t + 3)) (xs (7 * t + 4)) (xs (7 * t + 5)) (xs (7 * t + 6)) (fun (r1 : Int32) (m1 : Mm) => mT m1 26 = 8 ∧ wp_X7_boat m1 26 (xs (7 * t + 1)) (xs (7 * t + 2)) (xs (7 * t + 3)) (xs (7 * t + 4)) (xs (7 * t + 5)) (xs (7 * t + 6)) (fun (r2 : Int32) (m2 : Mm) => r1 = r2 ∧ K u m2)))
    {H : Heap} {locs : List Loc} {ls : Array Slot} (hW : Wo g mm s H locs) (hl : lv_has ls 4 [(0, .ref b), (1, .ref (ad g 8)), (2, .ref (ad g 26)), (3, .int x)]) {cells slots : Nat} (ec : cells = 41 + 3 * t + u) (es : slots = 1351224 + 72 * t + 23296 * u) : W p l e room_1 s m #[Value.ref b] below meth c H locs cells slots (lw_Z below #[Value.ref b] s) (F0 m 328 ls []) := by
  obtain ⟨hx, hb, hr, hml, hown, hts, hX, hbl, hlocks, hgv⟩ := C0
  have hts := fun w h => hts w (wsL_law_in w h)
  have hbA : ¬ Ag g b := by show ¬ g.2 4 ≤ b; omega
  have hown : s.vm.findClass RL = some m.cls := hown
  have hin : ∀ k : Nat, k < 7 → vp_in (x + nI k) L ∧ (x + nI k).toNatClampNeg = 7 * t + k := fun k hk => lw_ix hL ht ex k hk
  have h1 : vp_in (x + (1 : Int32)) L ∧ (x + (1 : Int32)).toNatClampNeg = 7 * t + 1 := hin 1 (by decide)
  have h2 : vp_in (x + (2 : Int32)) L ∧ (x + (2 : Int32)).toNatClampNeg = 7 * t + 2 := hin 2 (by decide)
  have h3 : vp_in (x + (3 : Int32)) L ∧ (x + (3 : Int32)).toNatClampNeg = 7 * t + 3 := hin 3 (by decide)
  have h4 : vp_in (x + (4 : Int32)) L ∧ (x + (4 : Int32)).toNatClampNeg = 7 * t + 4 := hin 4 (by decide)
  have h5 : vp_in (x + (5 : Int32)) L ∧ (x + (5 : Int32)).toNatClampNeg = 7 * t + 5 := hin 5 (by decide)
  have h6 : vp_in (x + (6 : Int32)) L ∧ (x + (6 : Int32)).toNatClampNeg = 7 * t + 6 := hin 6 (by decide)
  refine lv_aload_n hx hb dL_law_328 rfl (lv_at hl 1 rfl) ?_
  refine lv_aload_n hx hb dL_law_329 rfl (lv_at hl 0 rfl) ?_
  refine lv_iload_n hx hb dL_law_330 rfl (lv_at hl 3 rfl) ?_
  refine lv_iconst (v := (1 : Int32)) hx hb dL_law_331 (by decide) ?_
  refine lv_iadd hx hb dL_law_332 ?_
  refine va_sld hx hb hX hbl hbA hW.2 h1.1 dL_law_333 ?_
  rw [h1.2]
  refine lv_aload_n hx hb dL_law_334 rfl (lv_at hl 0 rfl) ?_
  refine lv_iload_n hx hb dL_law_335 rfl (lv_at hl 3 rfl) ?_
  refine lv_iconst (v := (2 : Int32)) hx hb dL_law_336 (by decide) ?_
  refine lv_iadd hx hb dL_law_337 ?_
  refine va_sld hx hb hX hbl hbA hW.2 h2.1 dL_law_338 ?_
  rw [h2.2]
  refine lv_aload_n hx hb dL_law_339 rfl (lv_at hl 0 rfl) ?_
  refine lv_iload_n hx hb dL_law_340 rfl (lv_at hl 3 rfl) ?_
  refine lv_iconst (v := (3 : Int32)) hx hb dL_law_341 (by decide) ?_
  refine lv_iadd hx hb dL_law_342 ?_
  refine va_sld hx hb hX hbl hbA hW.2 h3.1 dL_law_343 ?_
  rw [h3.2]
  refine lv_aload_n hx hb dL_law_344 rfl (lv_at hl 0 rfl) ?_
  refine lv_iload_n hx hb dL_law_345 rfl (lv_at hl 3 rfl) ?_
  refine lv_iconst (v := (4 : Int32)) hx hb dL_law_346 (by decide) ?_
  refine lv_iadd hx hb dL_law_347 ?_
  refine va_sld hx hb hX hbl hbA hW.2 h4.1 dL_law_348 ?_
  rw [h4.2]
  refine lv_aload_n hx hb dL_law_349 rfl (lv_at hl 0 rfl) ?_
  refine lv_iload_n hx hb dL_law_350 rfl (lv_at hl 3 rfl) ?_
  refine lv_iconst (v := (5 : Int32)) hx hb dL_law_351 (by decide) ?_
  refine lv_iadd hx hb dL_law_352 ?_
  refine va_sld hx hb hX hbl hbA hW.2 h5.1 dL_law_353 ?_
  rw [h5.2]
  refine lv_aload_n hx hb dL_law_354 rfl (lv_at hl 0 rfl) ?_
  refine lv_iload_n hx hb dL_law_355 rfl (lv_at hl 3 rfl) ?_
  refine lv_bipush (v := (6 : Int32)) hx hb dL_law_356 (by decide) ?_
  refine lv_iadd hx hb dL_law_358 ?_
  refine va_sld hx hb hX hbl hbA hW.2 h6.1 dL_law_359 ?_
  rw [h6.2]
  refine R_call (va_runV (As := [.int (xs (7 * t + 1)), .int (xs (7 * t + 2)), .int (xs (7 * t + 3)), .int (xs (7 * t + 4)), .int (xs (7 * t + 5)), .int (xs (7 * t + 6))]) (rest := []) ⟨hx, hb, hml, hown, hts⟩ (c_X6_boat l g mm 8 (xs (7 * t + 1)) (xs (7 * t + 2)) (xs (7 * t + 3)) (xs (7 * t + 4)) (xs (7 * t + 5)) (xs (7 * t + 6)) _ hw.2) (cwV 6 hts gL_law_X6_boat rfl rfl rfl (by decide +kernel) ⟨by decide, by decide⟩) (PP.preV (q := (RX6, TX6, 15)) hK hW hw.1 (by decide) rfl) rfl rfl hl.1 rfl (lv_room (Nat.le_of_ble_eq_true rfl)) dL_law_360 ⟨by show _ ≤ 600000; omega, by show _ ≤ 7302250; omega⟩) hW (fun r1 m1 H locs hw hW => ?_)
  refine W.eq (g2 := F0 m 363 ls [.int r1]) rfl ?_
  refine lv_aload_n hx hb dL_law_363 rfl (lv_at hl 2 rfl) ?_
  refine lv_aload_n hx hb dL_law_364 rfl (lv_at hl 0 rfl) ?_
  refine lv_iload_n hx hb dL_law_365 rfl (lv_at hl 3 rfl) ?_
  refine lv_iconst (v := (1 : Int32)) hx hb dL_law_366 (by decide) ?_
  refine lv_iadd hx hb dL_law_367 ?_
  refine va_sld hx hb hX hbl hbA hW.2 h1.1 dL_law_368 ?_
  rw [h1.2]
  refine lv_aload_n hx hb dL_law_369 rfl (lv_at hl 0 rfl) ?_
  refine lv_iload_n hx hb dL_law_370 rfl (lv_at hl 3 rfl) ?_
  refine lv_iconst (v := (2 : Int32)) hx hb dL_law_371 (by decide) ?_
  refine lv_iadd hx hb dL_law_372 ?_
  refine va_sld hx hb hX hbl hbA hW.2 h2.1 dL_law_373 ?_
  rw [h2.2]
  refine lv_aload_n hx hb dL_law_374 rfl (lv_at hl 0 rfl) ?_
  refine lv_iload_n hx hb dL_law_375 rfl (lv_at hl 3 rfl) ?_
  refine lv_iconst (v := (3 : Int32)) hx hb dL_law_376 (by decide) ?_
  refine lv_iadd hx hb dL_law_377 ?_
  refine va_sld hx hb hX hbl hbA hW.2 h3.1 dL_law_378 ?_
  rw [h3.2]
  refine lv_aload_n hx hb dL_law_379 rfl (lv_at hl 0 rfl) ?_
  refine lv_iload_n hx hb dL_law_380 rfl (lv_at hl 3 rfl) ?_
  refine lv_iconst (v := (4 : Int32)) hx hb dL_law_381 (by decide) ?_
  refine lv_iadd hx hb dL_law_382 ?_
  refine va_sld hx hb hX hbl hbA hW.2 h4.1 dL_law_383 ?_
  rw [h4.2]
  refine lv_aload_n hx hb dL_law_384 rfl (lv_at hl 0 rfl) ?_
  refine lv_iload_n hx hb dL_law_385 rfl (lv_at hl 3 rfl) ?_
  refine lv_iconst (v := (5 : Int32)) hx hb dL_law_386 (by decide) ?_
  refine lv_iadd hx hb dL_law_387 ?_
  refine va_sld hx hb hX hbl hbA hW.2 h5.1 dL_law_388 ?_
  rw [h5.2]
  refine lv_aload_n hx hb dL_law_389 rfl (lv_at hl 0 rfl) ?_
  refine lv_iload_n hx hb dL_law_390 rfl (lv_at hl 3 rfl) ?_
  refine lv_bipush (v := (6 : Int32)) hx hb dL_law_391 (by decide) ?_
  refine lv_iadd hx hb dL_law_393 ?_
  refine va_sld hx hb hX hbl hbA hW.2 h6.1 dL_law_394 ?_
  rw [h6.2]
  refine R_call (va_runV (As := [.int (xs (7 * t + 1)), .int (xs (7 * t + 2)), .int (xs (7 * t + 3)), .int (xs (7 * t + 4)), .int (xs (7 * t + 5)), .int (xs (7 * t + 6))]) (rest := [.int r1]) ⟨hx, hb, hml, hown, hts⟩ (c_X7_boat l g m1 26 (xs (7 * t + 1)) (xs (7 * t + 2)) (xs (7 * t + 3)) (xs (7 * t + 4)) (xs (7 * t + 5)) (xs (7 * t + 6)) _ hw.2) (cwV 6 hts gL_law_X7_boat rfl rfl rfl (by decide +kernel) ⟨by decide, by decide⟩) (PP.preV (q := (RX7, TX7, 36)) hK hW hw.1 (by decide) rfl) rfl rfl hl.1 rfl (lv_room (Nat.le_of_ble_eq_true rfl)) dL_law_395 ⟨by show _ ≤ 600000; omega, by show _ ≤ 7302250; omega⟩) hW (fun r2 m2 H locs hw hW => ?_)
  refine W.eq (g2 := F0 m 398 ls [.int r2, .int r1]) rfl ?_
  refine lv_icmp_eq (tgt := 677) hx hb dL_law_398 (by decide) (fun c1 => ?_) (fun c1 => ?_)
  · have hw := hw.2
    refine W.widen (k := 41 + 3 * (t + 1) + u) (n := 1351224 + 72 * (t + 1) + 23296 * u) (by omega) (by omega) ?_
    exact hend u m2 hw _ _ _ hW hl
  · exact absurd hw.1 c1
set_option maxHeartbeats 4000000 in
set_option maxRecDepth 100000 in
theorem law_case7 {p : Program} {l : Launch} {e : Env} {s : State} {m : MethodId} {below : List Frame} {meth : Method} {c : Code} {g : Gv} {b L : Nat} {xs : Nat → Int32} (hL : L ≤ 3584) (C0 : lw_At p s m meth c b L xs) (hK : Kk g s) (hg : g.2 4 = s.heap.size) {t u : Nat} (ht : 7 * t + 7 ≤ L) (hu : u ≤ 1) {x : Int32} (ex : x = nI (7 * t)) {K : Nat → Mm → Prop}
    (hend : ∀ (u : Nat) (mm : Mm), K u mm → WW p l e room_1 s m #[Value.ref b] below meth c (lw_Z below #[Value.ref b] s) g mm 4 (41 + 3 * (t + 1) + u) (1351224 + 72 * (t + 1) + 23296 * u) 677 [(0, .ref b), (1, .ref (ad g 8)), (2, .ref (ad g 26)), (3, .int x)] []) {mm : Mm} (hw : mT mm 8 = 7 ∧ wp_X6_queue mm 8 (xs (7 * t + 1)) (xs (7 * t + 2)) (xs (7 * t + 3)) (fun (r1 : Int32) (m1 : Mm) => mT m1 26 = 8 ∧ wp_X7_queue m1 26 (xs (7 * t + 1)) (xs (7 * t + 2)) (xs (7 * t + 3)) (fun (r2 : Int32) (m2 : Mm) => r1 = r2 ∧ K u m2)))
    {H : Heap} {locs : List Loc} {ls : Array Slot} (hW : Wo g mm s H locs) (hl : lv_has ls 4 [(0, .ref b), (1, .ref (ad g 8)), (2, .ref (ad g 26)), (3, .int x)]) {cells slots : Nat} (ec : cells = 41 + 3 * t + u) (es : slots = 1351224 + 72 * t + 23296 * u) : W p l e room_1 s m #[Value.ref b] below meth c H locs cells slots (lw_Z below #[Value.ref b] s) (F0 m 403 ls []) := by
  obtain ⟨hx, hb, hr, hml, hown, hts, hX, hbl, hlocks, hgv⟩ := C0
  have hts := fun w h => hts w (wsL_law_in w h)
  have hbA : ¬ Ag g b := by show ¬ g.2 4 ≤ b; omega
  have hown : s.vm.findClass RL = some m.cls := hown
  have hin : ∀ k : Nat, k < 7 → vp_in (x + nI k) L ∧ (x + nI k).toNatClampNeg = 7 * t + k := fun k hk => lw_ix hL ht ex k hk
  have h1 : vp_in (x + (1 : Int32)) L ∧ (x + (1 : Int32)).toNatClampNeg = 7 * t + 1 := hin 1 (by decide)
  have h2 : vp_in (x + (2 : Int32)) L ∧ (x + (2 : Int32)).toNatClampNeg = 7 * t + 2 := hin 2 (by decide)
  have h3 : vp_in (x + (3 : Int32)) L ∧ (x + (3 : Int32)).toNatClampNeg = 7 * t + 3 := hin 3 (by decide)
  refine lv_aload_n hx hb dL_law_403 rfl (lv_at hl 1 rfl) ?_
  refine lv_aload_n hx hb dL_law_404 rfl (lv_at hl 0 rfl) ?_
  refine lv_iload_n hx hb dL_law_405 rfl (lv_at hl 3 rfl) ?_
  refine lv_iconst (v := (1 : Int32)) hx hb dL_law_406 (by decide) ?_
  refine lv_iadd hx hb dL_law_407 ?_
  refine va_sld hx hb hX hbl hbA hW.2 h1.1 dL_law_408 ?_
  rw [h1.2]
  refine lv_aload_n hx hb dL_law_409 rfl (lv_at hl 0 rfl) ?_
  refine lv_iload_n hx hb dL_law_410 rfl (lv_at hl 3 rfl) ?_
  refine lv_iconst (v := (2 : Int32)) hx hb dL_law_411 (by decide) ?_
  refine lv_iadd hx hb dL_law_412 ?_
  refine va_sld hx hb hX hbl hbA hW.2 h2.1 dL_law_413 ?_
  rw [h2.2]
  refine lv_aload_n hx hb dL_law_414 rfl (lv_at hl 0 rfl) ?_
  refine lv_iload_n hx hb dL_law_415 rfl (lv_at hl 3 rfl) ?_
  refine lv_iconst (v := (3 : Int32)) hx hb dL_law_416 (by decide) ?_
  refine lv_iadd hx hb dL_law_417 ?_
  refine va_sld hx hb hX hbl hbA hW.2 h3.1 dL_law_418 ?_
  rw [h3.2]
  refine R_call (va_runV (As := [.int (xs (7 * t + 1)), .int (xs (7 * t + 2)), .int (xs (7 * t + 3))]) (rest := []) ⟨hx, hb, hml, hown, hts⟩ (c_X6_queue l g mm 8 (xs (7 * t + 1)) (xs (7 * t + 2)) (xs (7 * t + 3)) _ hw.2) (cwV 3 hts gL_law_X6_queue rfl rfl rfl (by decide +kernel) ⟨by decide, by decide⟩) (PP.preV (q := (RX6, TX6, 15)) hK hW hw.1 (by decide) rfl) rfl rfl hl.1 rfl (lv_room (Nat.le_of_ble_eq_true rfl)) dL_law_419 ⟨by show _ ≤ 600000; omega, by show _ ≤ 7302250; omega⟩) hW (fun r1 m1 H locs hw hW => ?_)
  refine W.eq (g2 := F0 m 422 ls [.int r1]) rfl ?_
  refine lv_aload_n hx hb dL_law_422 rfl (lv_at hl 2 rfl) ?_
  refine lv_aload_n hx hb dL_law_423 rfl (lv_at hl 0 rfl) ?_
  refine lv_iload_n hx hb dL_law_424 rfl (lv_at hl 3 rfl) ?_
  refine lv_iconst (v := (1 : Int32)) hx hb dL_law_425 (by decide) ?_
  refine lv_iadd hx hb dL_law_426 ?_
  refine va_sld hx hb hX hbl hbA hW.2 h1.1 dL_law_427 ?_
  rw [h1.2]
  refine lv_aload_n hx hb dL_law_428 rfl (lv_at hl 0 rfl) ?_
  refine lv_iload_n hx hb dL_law_429 rfl (lv_at hl 3 rfl) ?_
  refine lv_iconst (v := (2 : Int32)) hx hb dL_law_430 (by decide) ?_
  refine lv_iadd hx hb dL_law_431 ?_
  refine va_sld hx hb hX hbl hbA hW.2 h2.1 dL_law_432 ?_
  rw [h2.2]
  refine lv_aload_n hx hb dL_law_433 rfl (lv_at hl 0 rfl) ?_
  refine lv_iload_n hx hb dL_law_434 rfl (lv_at hl 3 rfl) ?_
  refine lv_iconst (v := (3 : Int32)) hx hb dL_law_435 (by decide) ?_
  refine lv_iadd hx hb dL_law_436 ?_
  refine va_sld hx hb hX hbl hbA hW.2 h3.1 dL_law_437 ?_
  rw [h3.2]
  refine R_call (va_runV (As := [.int (xs (7 * t + 1)), .int (xs (7 * t + 2)), .int (xs (7 * t + 3))]) (rest := [.int r1]) ⟨hx, hb, hml, hown, hts⟩ (c_X7_queue l g m1 26 (xs (7 * t + 1)) (xs (7 * t + 2)) (xs (7 * t + 3)) _ hw.2) (cwV 3 hts gL_law_X7_queue rfl rfl rfl (by decide +kernel) ⟨by decide, by decide⟩) (PP.preV (q := (RX7, TX7, 36)) hK hW hw.1 (by decide) rfl) rfl rfl hl.1 rfl (lv_room (Nat.le_of_ble_eq_true rfl)) dL_law_438 ⟨by show _ ≤ 600000; omega, by show _ ≤ 7302250; omega⟩) hW (fun r2 m2 H locs hw hW => ?_)
  refine W.eq (g2 := F0 m 441 ls [.int r2, .int r1]) rfl ?_
  refine lv_icmp_eq (tgt := 677) hx hb dL_law_441 (by decide) (fun c1 => ?_) (fun c1 => ?_)
  · have hw := hw.2
    refine W.widen (k := 41 + 3 * (t + 1) + u) (n := 1351224 + 72 * (t + 1) + 23296 * u) (by omega) (by omega) ?_
    exact hend u m2 hw _ _ _ hW hl
  · exact absurd hw.1 c1
set_option maxHeartbeats 4000000 in
set_option maxRecDepth 100000 in
theorem law_case8 {p : Program} {l : Launch} {e : Env} {s : State} {m : MethodId} {below : List Frame} {meth : Method} {c : Code} {g : Gv} {b L : Nat} {xs : Nat → Int32} (hL : L ≤ 3584) (C0 : lw_At p s m meth c b L xs) (hK : Kk g s) (hg : g.2 4 = s.heap.size) {t u : Nat} (ht : 7 * t + 7 ≤ L) (hu : u ≤ 1) {x : Int32} (ex : x = nI (7 * t)) {K : Nat → Mm → Prop}
    (hend : ∀ (u : Nat) (mm : Mm), K u mm → WW p l e room_1 s m #[Value.ref b] below meth c (lw_Z below #[Value.ref b] s) g mm 4 (41 + 3 * (t + 1) + u) (1351224 + 72 * (t + 1) + 23296 * u) 677 [(0, .ref b), (1, .ref (ad g 8)), (2, .ref (ad g 26)), (3, .int x)] []) {mm : Mm} (hw : mT mm 8 = 7 ∧ wp_X6_fitting mm 8 (xs (7 * t + 1)) (fun (r1 : Int32) (m1 : Mm) => mT m1 26 = 8 ∧ wp_X7_fitting m1 26 (xs (7 * t + 1)) (fun (r2 : Int32) (m2 : Mm) => r1 = r2 ∧ K u m2)))
    {H : Heap} {locs : List Loc} {ls : Array Slot} (hW : Wo g mm s H locs) (hl : lv_has ls 4 [(0, .ref b), (1, .ref (ad g 8)), (2, .ref (ad g 26)), (3, .int x)]) {cells slots : Nat} (ec : cells = 41 + 3 * t + u) (es : slots = 1351224 + 72 * t + 23296 * u) : W p l e room_1 s m #[Value.ref b] below meth c H locs cells slots (lw_Z below #[Value.ref b] s) (F0 m 446 ls []) := by
  obtain ⟨hx, hb, hr, hml, hown, hts, hX, hbl, hlocks, hgv⟩ := C0
  have hts := fun w h => hts w (wsL_law_in w h)
  have hbA : ¬ Ag g b := by show ¬ g.2 4 ≤ b; omega
  have hown : s.vm.findClass RL = some m.cls := hown
  have hin : ∀ k : Nat, k < 7 → vp_in (x + nI k) L ∧ (x + nI k).toNatClampNeg = 7 * t + k := fun k hk => lw_ix hL ht ex k hk
  have h1 : vp_in (x + (1 : Int32)) L ∧ (x + (1 : Int32)).toNatClampNeg = 7 * t + 1 := hin 1 (by decide)
  refine lv_aload_n hx hb dL_law_446 rfl (lv_at hl 1 rfl) ?_
  refine lv_aload_n hx hb dL_law_447 rfl (lv_at hl 0 rfl) ?_
  refine lv_iload_n hx hb dL_law_448 rfl (lv_at hl 3 rfl) ?_
  refine lv_iconst (v := (1 : Int32)) hx hb dL_law_449 (by decide) ?_
  refine lv_iadd hx hb dL_law_450 ?_
  refine va_sld hx hb hX hbl hbA hW.2 h1.1 dL_law_451 ?_
  rw [h1.2]
  refine R_call (va_runV (As := [.int (xs (7 * t + 1))]) (rest := []) ⟨hx, hb, hml, hown, hts⟩ (c_X6_fitting l g mm 8 (xs (7 * t + 1)) _ hw.2) (cwV 1 hts gL_law_X6_fitting rfl rfl rfl (by decide +kernel) ⟨by decide, by decide⟩) (PP.preV (q := (RX6, TX6, 15)) hK hW hw.1 (by decide) rfl) rfl rfl hl.1 rfl (lv_room (Nat.le_of_ble_eq_true rfl)) dL_law_452 ⟨by show _ ≤ 600000; omega, by show _ ≤ 7302250; omega⟩) hW (fun r1 m1 H locs hw hW => ?_)
  refine W.eq (g2 := F0 m 455 ls [.int r1]) rfl ?_
  refine lv_aload_n hx hb dL_law_455 rfl (lv_at hl 2 rfl) ?_
  refine lv_aload_n hx hb dL_law_456 rfl (lv_at hl 0 rfl) ?_
  refine lv_iload_n hx hb dL_law_457 rfl (lv_at hl 3 rfl) ?_
  refine lv_iconst (v := (1 : Int32)) hx hb dL_law_458 (by decide) ?_
  refine lv_iadd hx hb dL_law_459 ?_
  refine va_sld hx hb hX hbl hbA hW.2 h1.1 dL_law_460 ?_
  rw [h1.2]
  refine R_call (va_runV (As := [.int (xs (7 * t + 1))]) (rest := [.int r1]) ⟨hx, hb, hml, hown, hts⟩ (c_X7_fitting l g m1 26 (xs (7 * t + 1)) _ hw.2) (cwV 1 hts gL_law_X7_fitting rfl rfl rfl (by decide +kernel) ⟨by decide, by decide⟩) (PP.preV (q := (RX7, TX7, 36)) hK hW hw.1 (by decide) rfl) rfl rfl hl.1 rfl (lv_room (Nat.le_of_ble_eq_true rfl)) dL_law_461 ⟨by show _ ≤ 600000; omega, by show _ ≤ 7302250; omega⟩) hW (fun r2 m2 H locs hw hW => ?_)
  refine W.eq (g2 := F0 m 464 ls [.int r2, .int r1]) rfl ?_
  refine lv_icmp_eq (tgt := 677) hx hb dL_law_464 (by decide) (fun c1 => ?_) (fun c1 => ?_)
  · have hw := hw.2
    refine W.widen (k := 41 + 3 * (t + 1) + u) (n := 1351224 + 72 * (t + 1) + 23296 * u) (by omega) (by omega) ?_
    exact hend u m2 hw _ _ _ hW hl
  · exact absurd hw.1 c1
set_option maxHeartbeats 4000000 in
set_option maxRecDepth 100000 in
theorem law_case9 {p : Program} {l : Launch} {e : Env} {s : State} {m : MethodId} {below : List Frame} {meth : Method} {c : Code} {g : Gv} {b L : Nat} {xs : Nat → Int32} (hL : L ≤ 3584) (C0 : lw_At p s m meth c b L xs) (hK : Kk g s) (hg : g.2 4 = s.heap.size) {t u : Nat} (ht : 7 * t + 7 ≤ L) (hu : u ≤ 1) {x : Int32} (ex : x = nI (7 * t)) {K : Nat → Mm → Prop}
    (hend : ∀ (u : Nat) (mm : Mm), K u mm → WW p l e room_1 s m #[Value.ref b] below meth c (lw_Z below #[Value.ref b] s) g mm 4 (41 + 3 * (t + 1) + u) (1351224 + 72 * (t + 1) + 23296 * u) 677 [(0, .ref b), (1, .ref (ad g 8)), (2, .ref (ad g 26)), (3, .int x)] []) {mm : Mm} (hw : mT mm 8 = 7 ∧ wp_X6_ride mm 8 (xs (7 * t + 1)) (xs (7 * t + 2)) (fun (r1 : Int32) (m1 : Mm) => mT m1 26 = 8 ∧ wp_X7_ride m1 26 (xs (7 * t + 1)) (xs (7 * t + 2)) (fun (r2 : Int32) (m2 : Mm) => r1 = r2 ∧ K u m2)))
    {H : Heap} {locs : List Loc} {ls : Array Slot} (hW : Wo g mm s H locs) (hl : lv_has ls 4 [(0, .ref b), (1, .ref (ad g 8)), (2, .ref (ad g 26)), (3, .int x)]) {cells slots : Nat} (ec : cells = 41 + 3 * t + u) (es : slots = 1351224 + 72 * t + 23296 * u) : W p l e room_1 s m #[Value.ref b] below meth c H locs cells slots (lw_Z below #[Value.ref b] s) (F0 m 469 ls []) := by
  obtain ⟨hx, hb, hr, hml, hown, hts, hX, hbl, hlocks, hgv⟩ := C0
  have hts := fun w h => hts w (wsL_law_in w h)
  have hbA : ¬ Ag g b := by show ¬ g.2 4 ≤ b; omega
  have hown : s.vm.findClass RL = some m.cls := hown
  have hin : ∀ k : Nat, k < 7 → vp_in (x + nI k) L ∧ (x + nI k).toNatClampNeg = 7 * t + k := fun k hk => lw_ix hL ht ex k hk
  have h1 : vp_in (x + (1 : Int32)) L ∧ (x + (1 : Int32)).toNatClampNeg = 7 * t + 1 := hin 1 (by decide)
  have h2 : vp_in (x + (2 : Int32)) L ∧ (x + (2 : Int32)).toNatClampNeg = 7 * t + 2 := hin 2 (by decide)
  refine lv_aload_n hx hb dL_law_469 rfl (lv_at hl 1 rfl) ?_
  refine lv_aload_n hx hb dL_law_470 rfl (lv_at hl 0 rfl) ?_
  refine lv_iload_n hx hb dL_law_471 rfl (lv_at hl 3 rfl) ?_
  refine lv_iconst (v := (1 : Int32)) hx hb dL_law_472 (by decide) ?_
  refine lv_iadd hx hb dL_law_473 ?_
  refine va_sld hx hb hX hbl hbA hW.2 h1.1 dL_law_474 ?_
  rw [h1.2]
  refine lv_aload_n hx hb dL_law_475 rfl (lv_at hl 0 rfl) ?_
  refine lv_iload_n hx hb dL_law_476 rfl (lv_at hl 3 rfl) ?_
  refine lv_iconst (v := (2 : Int32)) hx hb dL_law_477 (by decide) ?_
  refine lv_iadd hx hb dL_law_478 ?_
  refine va_sld hx hb hX hbl hbA hW.2 h2.1 dL_law_479 ?_
  rw [h2.2]
  refine R_call (va_runV (As := [.int (xs (7 * t + 1)), .int (xs (7 * t + 2))]) (rest := []) ⟨hx, hb, hml, hown, hts⟩ (c_X6_ride l g mm 8 (xs (7 * t + 1)) (xs (7 * t + 2)) _ hw.2) (cwV 2 hts gL_law_X6_ride rfl rfl rfl (by decide +kernel) ⟨by decide, by decide⟩) (PP.preV (q := (RX6, TX6, 15)) hK hW hw.1 (by decide) rfl) rfl rfl hl.1 rfl (lv_room (Nat.le_of_ble_eq_true rfl)) dL_law_480 ⟨by show _ ≤ 600000; omega, by show _ ≤ 7302250; omega⟩) hW (fun r1 m1 H locs hw hW => ?_)
  refine W.eq (g2 := F0 m 483 ls [.int r1]) rfl ?_
  refine lv_aload_n hx hb dL_law_483 rfl (lv_at hl 2 rfl) ?_
  refine lv_aload_n hx hb dL_law_484 rfl (lv_at hl 0 rfl) ?_
  refine lv_iload_n hx hb dL_law_485 rfl (lv_at hl 3 rfl) ?_
  refine lv_iconst (v := (1 : Int32)) hx hb dL_law_486 (by decide) ?_
  refine lv_iadd hx hb dL_law_487 ?_
  refine va_sld hx hb hX hbl hbA hW.2 h1.1 dL_law_488 ?_
  rw [h1.2]
  refine lv_aload_n hx hb dL_law_489 rfl (lv_at hl 0 rfl) ?_
  refine lv_iload_n hx hb dL_law_490 rfl (lv_at hl 3 rfl) ?_
  refine lv_iconst (v := (2 : Int32)) hx hb dL_law_491 (by decide) ?_
  refine lv_iadd hx hb dL_law_492 ?_
  refine va_sld hx hb hX hbl hbA hW.2 h2.1 dL_law_493 ?_
  rw [h2.2]
  refine R_call (va_runV (As := [.int (xs (7 * t + 1)), .int (xs (7 * t + 2))]) (rest := [.int r1]) ⟨hx, hb, hml, hown, hts⟩ (c_X7_ride l g m1 26 (xs (7 * t + 1)) (xs (7 * t + 2)) _ hw.2) (cwV 2 hts gL_law_X7_ride rfl rfl rfl (by decide +kernel) ⟨by decide, by decide⟩) (PP.preV (q := (RX7, TX7, 36)) hK hW hw.1 (by decide) rfl) rfl rfl hl.1 rfl (lv_room (Nat.le_of_ble_eq_true rfl)) dL_law_494 ⟨by show _ ≤ 600000; omega, by show _ ≤ 7302250; omega⟩) hW (fun r2 m2 H locs hw hW => ?_)
  refine W.eq (g2 := F0 m 497 ls [.int r2, .int r1]) rfl ?_
  refine lv_icmp_eq (tgt := 677) hx hb dL_law_497 (by decide) (fun c1 => ?_) (fun c1 => ?_)
  · have hw := hw.2
    refine W.widen (k := 41 + 3 * (t + 1) + u) (n := 1351224 + 72 * (t + 1) + 23296 * u) (by omega) (by omega) ?_
    exact hend u m2 hw _ _ _ hW hl
  · exact absurd hw.1 c1
set_option maxHeartbeats 4000000 in
set_option maxRecDepth 100000 in
theorem law_case10 {p : Program} {l : Launch} {e : Env} {s : State} {m : MethodId} {below : List Frame} {meth : Method} {c : Code} {g : Gv} {b L : Nat} {xs : Nat → Int32} (hL : L ≤ 3584) (C0 : lw_At p s m meth c b L xs) (hK : Kk g s) (hg : g.2 4 = s.heap.size) {t u : Nat} (ht : 7 * t + 7 ≤ L) (hu : u ≤ 1) {x : Int32} (ex : x = nI (7 * t)) {K : Nat → Mm → Prop}
    (hend : ∀ (u : Nat) (mm : Mm), K u mm → WW p l e room_1 s m #[Value.ref b] below meth c (lw_Z below #[Value.ref b] s) g mm 4 (41 + 3 * (t + 1) + u) (1351224 + 72 * (t + 1) + 23296 * u) 677 [(0, .ref b), (1, .ref (ad g 8)), (2, .ref (ad g 26)), (3, .int x)] []) {mm : Mm} (hw : mT mm 8 = 7 ∧ wp_X6_renew mm 8 (xs (7 * t + 1)) (fun (r1 : Int32) (m1 : Mm) => mT m1 26 = 8 ∧ wp_X7_renew m1 26 (xs (7 * t + 1)) (fun (r2 : Int32) (m2 : Mm) => r1 = r2 ∧ K u m2)))
    {H : Heap} {locs : List Loc} {ls : Array Slot} (hW : Wo g mm s H locs) (hl : lv_has ls 4 [(0, .ref b), (1, .ref (ad g 8)), (2, .ref (ad g 26)), (3, .int x)]) {cells slots : Nat} (ec : cells = 41 + 3 * t + u) (es : slots = 1351224 + 72 * t + 23296 * u) : W p l e room_1 s m #[Value.ref b] below meth c H locs cells slots (lw_Z below #[Value.ref b] s) (F0 m 502 ls []) := by
  obtain ⟨hx, hb, hr, hml, hown, hts, hX, hbl, hlocks, hgv⟩ := C0
  have hts := fun w h => hts w (wsL_law_in w h)
  have hbA : ¬ Ag g b := by show ¬ g.2 4 ≤ b; omega
  have hown : s.vm.findClass RL = some m.cls := hown
  have hin : ∀ k : Nat, k < 7 → vp_in (x + nI k) L ∧ (x + nI k).toNatClampNeg = 7 * t + k := fun k hk => lw_ix hL ht ex k hk
  have h1 : vp_in (x + (1 : Int32)) L ∧ (x + (1 : Int32)).toNatClampNeg = 7 * t + 1 := hin 1 (by decide)
  refine lv_aload_n hx hb dL_law_502 rfl (lv_at hl 1 rfl) ?_
  refine lv_aload_n hx hb dL_law_503 rfl (lv_at hl 0 rfl) ?_
  refine lv_iload_n hx hb dL_law_504 rfl (lv_at hl 3 rfl) ?_
  refine lv_iconst (v := (1 : Int32)) hx hb dL_law_505 (by decide) ?_
  refine lv_iadd hx hb dL_law_506 ?_
  refine va_sld hx hb hX hbl hbA hW.2 h1.1 dL_law_507 ?_
  rw [h1.2]
  refine R_call (va_runV (As := [.int (xs (7 * t + 1))]) (rest := []) ⟨hx, hb, hml, hown, hts⟩ (c_X6_renew l g mm 8 (xs (7 * t + 1)) _ hw.2) (cwV 1 hts gL_law_X6_renew rfl rfl rfl (by decide +kernel) ⟨by decide, by decide⟩) (PP.preV (q := (RX6, TX6, 15)) hK hW hw.1 (by decide) rfl) rfl rfl hl.1 rfl (lv_room (Nat.le_of_ble_eq_true rfl)) dL_law_508 ⟨by show _ ≤ 600000; omega, by show _ ≤ 7302250; omega⟩) hW (fun r1 m1 H locs hw hW => ?_)
  refine W.eq (g2 := F0 m 511 ls [.int r1]) rfl ?_
  refine lv_aload_n hx hb dL_law_511 rfl (lv_at hl 2 rfl) ?_
  refine lv_aload_n hx hb dL_law_512 rfl (lv_at hl 0 rfl) ?_
  refine lv_iload_n hx hb dL_law_513 rfl (lv_at hl 3 rfl) ?_
  refine lv_iconst (v := (1 : Int32)) hx hb dL_law_514 (by decide) ?_
  refine lv_iadd hx hb dL_law_515 ?_
  refine va_sld hx hb hX hbl hbA hW.2 h1.1 dL_law_516 ?_
  rw [h1.2]
  refine R_call (va_runV (As := [.int (xs (7 * t + 1))]) (rest := [.int r1]) ⟨hx, hb, hml, hown, hts⟩ (c_X7_renew l g m1 26 (xs (7 * t + 1)) _ hw.2) (cwV 1 hts gL_law_X7_renew rfl rfl rfl (by decide +kernel) ⟨by decide, by decide⟩) (PP.preV (q := (RX7, TX7, 36)) hK hW hw.1 (by decide) rfl) rfl rfl hl.1 rfl (lv_room (Nat.le_of_ble_eq_true rfl)) dL_law_517 ⟨by show _ ≤ 600000; omega, by show _ ≤ 7302250; omega⟩) hW (fun r2 m2 H locs hw hW => ?_)
  refine W.eq (g2 := F0 m 520 ls [.int r2, .int r1]) rfl ?_
  refine lv_icmp_eq (tgt := 677) hx hb dL_law_520 (by decide) (fun c1 => ?_) (fun c1 => ?_)
  · have hw := hw.2
    refine W.widen (k := 41 + 3 * (t + 1) + u) (n := 1351224 + 72 * (t + 1) + 23296 * u) (by omega) (by omega) ?_
    exact hend u m2 hw _ _ _ hW hl
  · exact absurd hw.1 c1
set_option maxHeartbeats 4000000 in
set_option maxRecDepth 100000 in
theorem law_case11 {p : Program} {l : Launch} {e : Env} {s : State} {m : MethodId} {below : List Frame} {meth : Method} {c : Code} {g : Gv} {b L : Nat} {xs : Nat → Int32} (hL : L ≤ 3584) (C0 : lw_At p s m meth c b L xs) (hK : Kk g s) (hg : g.2 4 = s.heap.size) {t u : Nat} (ht : 7 * t + 7 ≤ L) (hu : u ≤ 1) {x : Int32} (ex : x = nI (7 * t)) {K : Nat → Mm → Prop}
    (hend : ∀ (u : Nat) (mm : Mm), K u mm → WW p l e room_1 s m #[Value.ref b] below meth c (lw_Z below #[Value.ref b] s) g mm 4 (41 + 3 * (t + 1) + u) (1351224 + 72 * (t + 1) + 23296 * u) 677 [(0, .ref b), (1, .ref (ad g 8)), (2, .ref (ad g 26)), (3, .int x)] []) {mm : Mm} (hw : (u = 0 ∧ mT mm 8 = 7 ∧ wp_X6_plan mm 8  (fun (r1 : Int32) (m1 : Mm) => mT m1 26 = 8 ∧ wp_X7_plan m1 26  (fun (r2 : Int32) (m2 : Mm) => r1 = r2 ∧ K 1 m2))) ∨ mT mm 8 = 7 ∧ wp_X6_plan_k mm 8  (fun (r1 : Int32) (m1 : Mm) => mT m1 26 = 8 ∧ wp_X7_plan m1 26  (fun (r2 : Int32) (m2 : Mm) => r1 = r2 ∧ K u m2)))
    {H : Heap} {locs : List Loc} {ls : Array Slot} (hW : Wo g mm s H locs) (hl : lv_has ls 4 [(0, .ref b), (1, .ref (ad g 8)), (2, .ref (ad g 26)), (3, .int x)]) {cells slots : Nat} (ec : cells = 41 + 3 * t + u) (es : slots = 1351224 + 72 * t + 23296 * u) : W p l e room_1 s m #[Value.ref b] below meth c H locs cells slots (lw_Z below #[Value.ref b] s) (F0 m 525 ls []) := by
  obtain ⟨hx, hb, hr, hml, hown, hts, hX, hbl, hlocks, hgv⟩ := C0
  have hts := fun w h => hts w (wsL_law_in w h)
  have hbA : ¬ Ag g b := by show ¬ g.2 4 ≤ b; omega
  have hown : s.vm.findClass RL = some m.cls := hown
  have hin : ∀ k : Nat, k < 7 → vp_in (x + nI k) L ∧ (x + nI k).toNatClampNeg = 7 * t + k := fun k hk => lw_ix hL ht ex k hk
  rcases hw with ⟨hu0, hw⟩ | hw
  · subst hu0
    refine lv_aload_n hx hb dL_law_525 rfl (lv_at hl 1 rfl) ?_
    refine R_call (va_runV (As := []) (rest := []) ⟨hx, hb, hml, hown, hts⟩ (c_X6_plan l g mm 8  _ hw.2) (cwV 0 hts gL_law_X6_plan rfl rfl rfl (by decide +kernel) ⟨by decide, by decide⟩) (PP.preV (q := (RX6, TX6, 15)) hK hW hw.1 (by decide) rfl) rfl rfl hl.1 rfl (lv_room (Nat.le_of_ble_eq_true rfl)) dL_law_526 ⟨by show _ ≤ 600000; omega, by show _ ≤ 7302250; omega⟩) hW (fun r1 m1 H locs hw hW => ?_)
    refine W.eq (g2 := F0 m 529 ls [.int r1]) rfl ?_
    refine lv_aload_n hx hb dL_law_529 rfl (lv_at hl 2 rfl) ?_
    refine R_call (va_runV (As := []) (rest := [.int r1]) ⟨hx, hb, hml, hown, hts⟩ (c_X7_plan l g m1 26  _ hw.2) (cwV 0 hts gL_law_X7_plan rfl rfl rfl (by decide +kernel) ⟨by decide, by decide⟩) (PP.preV (q := (RX7, TX7, 36)) hK hW hw.1 (by decide) rfl) rfl rfl hl.1 rfl (lv_room (Nat.le_of_ble_eq_true rfl)) dL_law_530 ⟨by show _ ≤ 600000; omega, by show _ ≤ 7302250; omega⟩) hW (fun r2 m2 H locs hw hW => ?_)
    refine W.eq (g2 := F0 m 533 ls [.int r2, .int r1]) rfl ?_
    refine lv_icmp_eq (tgt := 677) hx hb dL_law_533 (by decide) (fun c1 => ?_) (fun c1 => ?_)
    · have hw := hw.2
      refine W.widen (k := 41 + 3 * (t + 1) + 1) (n := 1351224 + 72 * (t + 1) + 23296 * 1) (by omega) (by omega) ?_
      exact hend 1 m2 hw _ _ _ hW hl
    · exact absurd hw.1 c1
  · refine lv_aload_n hx hb dL_law_525 rfl (lv_at hl 1 rfl) ?_
    refine R_call (va_runV (As := []) (rest := []) ⟨hx, hb, hml, hown, hts⟩ (c_X6_plan_k l g mm 8  _ hw.2) (cwV 0 hts gL_law_X6_plan rfl rfl rfl (by decide +kernel) ⟨by decide, by decide⟩) (PP.preV (q := (RX6, TX6, 15)) hK hW hw.1 (by decide) rfl) rfl rfl hl.1 rfl (lv_room (Nat.le_of_ble_eq_true rfl)) dL_law_526 ⟨by show _ ≤ 600000; omega, by show _ ≤ 7302250; omega⟩) hW (fun r1 m1 H locs hw hW => ?_)
    refine W.eq (g2 := F0 m 529 ls [.int r1]) rfl ?_
    refine lv_aload_n hx hb dL_law_529 rfl (lv_at hl 2 rfl) ?_
    refine R_call (va_runV (As := []) (rest := [.int r1]) ⟨hx, hb, hml, hown, hts⟩ (c_X7_plan l g m1 26  _ hw.2) (cwV 0 hts gL_law_X7_plan rfl rfl rfl (by decide +kernel) ⟨by decide, by decide⟩) (PP.preV (q := (RX7, TX7, 36)) hK hW hw.1 (by decide) rfl) rfl rfl hl.1 rfl (lv_room (Nat.le_of_ble_eq_true rfl)) dL_law_530 ⟨by show _ ≤ 600000; omega, by show _ ≤ 7302250; omega⟩) hW (fun r2 m2 H locs hw hW => ?_)
    refine W.eq (g2 := F0 m 533 ls [.int r2, .int r1]) rfl ?_
    refine lv_icmp_eq (tgt := 677) hx hb dL_law_533 (by decide) (fun c1 => ?_) (fun c1 => ?_)
    · have hw := hw.2
      refine W.widen (k := 41 + 3 * (t + 1) + u) (n := 1351224 + 72 * (t + 1) + 23296 * u) (by omega) (by omega) ?_
      exact hend u m2 hw _ _ _ hW hl
    · exact absurd hw.1 c1
set_option maxHeartbeats 4000000 in
set_option maxRecDepth 100000 in
theorem law_case12 {p : Program} {l : Launch} {e : Env} {s : State} {m : MethodId} {below : List Frame} {meth : Method} {c : Code} {g : Gv} {b L : Nat} {xs : Nat → Int32} (hL : L ≤ 3584) (C0 : lw_At p s m meth c b L xs) (hK : Kk g s) (hg : g.2 4 = s.heap.size) {t u : Nat} (ht : 7 * t + 7 ≤ L) (hu : u ≤ 1) {x : Int32} (ex : x = nI (7 * t)) {K : Nat → Mm → Prop}
    (hend : ∀ (u : Nat) (mm : Mm), K u mm → WW p l e room_1 s m #[Value.ref b] below meth c (lw_Z below #[Value.ref b] s) g mm 4 (41 + 3 * (t + 1) + u) (1351224 + 72 * (t + 1) + 23296 * u) 677 [(0, .ref b), (1, .ref (ad g 8)), (2, .ref (ad g 26)), (3, .int x)] []) {mm : Mm} (hw : (u = 0 ∧ mT mm 8 = 7 ∧ wp_X6_ends mm 8  (fun (r1 : Int32) (m1 : Mm) => mT m1 26 = 8 ∧ wp_X7_ends m1 26  (fun (r2 : Int32) (m2 : Mm) => r1 = r2 ∧ K 1 m2))) ∨ mT mm 8 = 7 ∧ wp_X6_ends_k mm 8  (fun (r1 : Int32) (m1 : Mm) => mT m1 26 = 8 ∧ wp_X7_ends m1 26  (fun (r2 : Int32) (m2 : Mm) => r1 = r2 ∧ K u m2)))
    {H : Heap} {locs : List Loc} {ls : Array Slot} (hW : Wo g mm s H locs) (hl : lv_has ls 4 [(0, .ref b), (1, .ref (ad g 8)), (2, .ref (ad g 26)), (3, .int x)]) {cells slots : Nat} (ec : cells = 41 + 3 * t + u) (es : slots = 1351224 + 72 * t + 23296 * u) : W p l e room_1 s m #[Value.ref b] below meth c H locs cells slots (lw_Z below #[Value.ref b] s) (F0 m 538 ls []) := by
  obtain ⟨hx, hb, hr, hml, hown, hts, hX, hbl, hlocks, hgv⟩ := C0
  have hts := fun w h => hts w (wsL_law_in w h)
  have hbA : ¬ Ag g b := by show ¬ g.2 4 ≤ b; omega
  have hown : s.vm.findClass RL = some m.cls := hown
  have hin : ∀ k : Nat, k < 7 → vp_in (x + nI k) L ∧ (x + nI k).toNatClampNeg = 7 * t + k := fun k hk => lw_ix hL ht ex k hk
  rcases hw with ⟨hu0, hw⟩ | hw
  · subst hu0
    refine lv_aload_n hx hb dL_law_538 rfl (lv_at hl 1 rfl) ?_
    refine R_call (va_runV (As := []) (rest := []) ⟨hx, hb, hml, hown, hts⟩ (c_X6_ends l g mm 8  _ hw.2) (cwV 0 hts gL_law_X6_ends rfl rfl rfl (by decide +kernel) ⟨by decide, by decide⟩) (PP.preV (q := (RX6, TX6, 15)) hK hW hw.1 (by decide) rfl) rfl rfl hl.1 rfl (lv_room (Nat.le_of_ble_eq_true rfl)) dL_law_539 ⟨by show _ ≤ 600000; omega, by show _ ≤ 7302250; omega⟩) hW (fun r1 m1 H locs hw hW => ?_)
    refine W.eq (g2 := F0 m 542 ls [.int r1]) rfl ?_
    refine lv_aload_n hx hb dL_law_542 rfl (lv_at hl 2 rfl) ?_
    refine R_call (va_runV (As := []) (rest := [.int r1]) ⟨hx, hb, hml, hown, hts⟩ (c_X7_ends l g m1 26  _ hw.2) (cwV 0 hts gL_law_X7_ends rfl rfl rfl (by decide +kernel) ⟨by decide, by decide⟩) (PP.preV (q := (RX7, TX7, 36)) hK hW hw.1 (by decide) rfl) rfl rfl hl.1 rfl (lv_room (Nat.le_of_ble_eq_true rfl)) dL_law_543 ⟨by show _ ≤ 600000; omega, by show _ ≤ 7302250; omega⟩) hW (fun r2 m2 H locs hw hW => ?_)
    refine W.eq (g2 := F0 m 546 ls [.int r2, .int r1]) rfl ?_
    refine lv_icmp_eq (tgt := 677) hx hb dL_law_546 (by decide) (fun c1 => ?_) (fun c1 => ?_)
    · have hw := hw.2
      refine W.widen (k := 41 + 3 * (t + 1) + 1) (n := 1351224 + 72 * (t + 1) + 23296 * 1) (by omega) (by omega) ?_
      exact hend 1 m2 hw _ _ _ hW hl
    · exact absurd hw.1 c1
  · refine lv_aload_n hx hb dL_law_538 rfl (lv_at hl 1 rfl) ?_
    refine R_call (va_runV (As := []) (rest := []) ⟨hx, hb, hml, hown, hts⟩ (c_X6_ends_k l g mm 8  _ hw.2) (cwV 0 hts gL_law_X6_ends rfl rfl rfl (by decide +kernel) ⟨by decide, by decide⟩) (PP.preV (q := (RX6, TX6, 15)) hK hW hw.1 (by decide) rfl) rfl rfl hl.1 rfl (lv_room (Nat.le_of_ble_eq_true rfl)) dL_law_539 ⟨by show _ ≤ 600000; omega, by show _ ≤ 7302250; omega⟩) hW (fun r1 m1 H locs hw hW => ?_)
    refine W.eq (g2 := F0 m 542 ls [.int r1]) rfl ?_
    refine lv_aload_n hx hb dL_law_542 rfl (lv_at hl 2 rfl) ?_
    refine R_call (va_runV (As := []) (rest := [.int r1]) ⟨hx, hb, hml, hown, hts⟩ (c_X7_ends l g m1 26  _ hw.2) (cwV 0 hts gL_law_X7_ends rfl rfl rfl (by decide +kernel) ⟨by decide, by decide⟩) (PP.preV (q := (RX7, TX7, 36)) hK hW hw.1 (by decide) rfl) rfl rfl hl.1 rfl (lv_room (Nat.le_of_ble_eq_true rfl)) dL_law_543 ⟨by show _ ≤ 600000; omega, by show _ ≤ 7302250; omega⟩) hW (fun r2 m2 H locs hw hW => ?_)
    refine W.eq (g2 := F0 m 546 ls [.int r2, .int r1]) rfl ?_
    refine lv_icmp_eq (tgt := 677) hx hb dL_law_546 (by decide) (fun c1 => ?_) (fun c1 => ?_)
    · have hw := hw.2
      refine W.widen (k := 41 + 3 * (t + 1) + u) (n := 1351224 + 72 * (t + 1) + 23296 * u) (by omega) (by omega) ?_
      exact hend u m2 hw _ _ _ hW hl
    · exact absurd hw.1 c1
set_option maxHeartbeats 4000000 in
set_option maxRecDepth 100000 in
theorem law_case13 {p : Program} {l : Launch} {e : Env} {s : State} {m : MethodId} {below : List Frame} {meth : Method} {c : Code} {g : Gv} {b L : Nat} {xs : Nat → Int32} (hL : L ≤ 3584) (C0 : lw_At p s m meth c b L xs) (hK : Kk g s) (hg : g.2 4 = s.heap.size) {t u : Nat} (ht : 7 * t + 7 ≤ L) (hu : u ≤ 1) {x : Int32} (ex : x = nI (7 * t)) {K : Nat → Mm → Prop}
    (hend : ∀ (u : Nat) (mm : Mm), K u mm → WW p l e room_1 s m #[Value.ref b] below meth c (lw_Z below #[Value.ref b] s) g mm 4 (41 + 3 * (t + 1) + u) (1351224 + 72 * (t + 1) + 23296 * u) 677 [(0, .ref b), (1, .ref (ad g 8)), (2, .ref (ad g 26)), (3, .int x)] []) {mm : Mm} (hw : mT mm 8 = 7 ∧ wp_X6_stock mm 8 (xs (7 * t + 1)) (fun (r1 : Int64) (m1 : Mm) => mT m1 26 = 8 ∧ wp_X7_stock m1 26 (xs (7 * t + 1)) (fun (r2 : Int64) (m2 : Mm) => r1 = r2 ∧ K u m2)))
    {H : Heap} {locs : List Loc} {ls : Array Slot} (hW : Wo g mm s H locs) (hl : lv_has ls 4 [(0, .ref b), (1, .ref (ad g 8)), (2, .ref (ad g 26)), (3, .int x)]) {cells slots : Nat} (ec : cells = 41 + 3 * t + u) (es : slots = 1351224 + 72 * t + 23296 * u) : W p l e room_1 s m #[Value.ref b] below meth c H locs cells slots (lw_Z below #[Value.ref b] s) (F0 m 551 ls []) := by
  obtain ⟨hx, hb, hr, hml, hown, hts, hX, hbl, hlocks, hgv⟩ := C0
  have hts := fun w h => hts w (wsL_law_in w h)
  have hbA : ¬ Ag g b := by show ¬ g.2 4 ≤ b; omega
  have hown : s.vm.findClass RL = some m.cls := hown
  have hin : ∀ k : Nat, k < 7 → vp_in (x + nI k) L ∧ (x + nI k).toNatClampNeg = 7 * t + k := fun k hk => lw_ix hL ht ex k hk
  have h1 : vp_in (x + (1 : Int32)) L ∧ (x + (1 : Int32)).toNatClampNeg = 7 * t + 1 := hin 1 (by decide)
  refine lv_aload_n hx hb dL_law_551 rfl (lv_at hl 1 rfl) ?_
  refine lv_aload_n hx hb dL_law_552 rfl (lv_at hl 0 rfl) ?_
  refine lv_iload_n hx hb dL_law_553 rfl (lv_at hl 3 rfl) ?_
  refine lv_iconst (v := (1 : Int32)) hx hb dL_law_554 (by decide) ?_
  refine lv_iadd hx hb dL_law_555 ?_
  refine va_sld hx hb hX hbl hbA hW.2 h1.1 dL_law_556 ?_
  rw [h1.2]
  refine R_call (va_runV (As := [.int (xs (7 * t + 1))]) (rest := []) ⟨hx, hb, hml, hown, hts⟩ (c_X6_stock l g mm 8 (xs (7 * t + 1)) _ hw.2) (cwV 1 hts gL_law_X6_stock rfl rfl rfl (by decide +kernel) ⟨by decide, by decide⟩) (PP.preV (q := (RX6, TX6, 15)) hK hW hw.1 (by decide) rfl) rfl rfl hl.1 rfl (lv_room (Nat.le_of_ble_eq_true rfl)) dL_law_557 ⟨by show _ ≤ 600000; omega, by show _ ≤ 7302250; omega⟩) hW (fun r1 m1 H locs hw hW => ?_)
  refine W.eq (g2 := F0 m 560 ls [.long r1]) rfl ?_
  refine lv_aload_n hx hb dL_law_560 rfl (lv_at hl 2 rfl) ?_
  refine lv_aload_n hx hb dL_law_561 rfl (lv_at hl 0 rfl) ?_
  refine lv_iload_n hx hb dL_law_562 rfl (lv_at hl 3 rfl) ?_
  refine lv_iconst (v := (1 : Int32)) hx hb dL_law_563 (by decide) ?_
  refine lv_iadd hx hb dL_law_564 ?_
  refine va_sld hx hb hX hbl hbA hW.2 h1.1 dL_law_565 ?_
  rw [h1.2]
  refine R_call (va_runV (As := [.int (xs (7 * t + 1))]) (rest := [.long r1]) ⟨hx, hb, hml, hown, hts⟩ (c_X7_stock l g m1 26 (xs (7 * t + 1)) _ hw.2) (cwV 1 hts gL_law_X7_stock rfl rfl rfl (by decide +kernel) ⟨by decide, by decide⟩) (PP.preV (q := (RX7, TX7, 36)) hK hW hw.1 (by decide) rfl) rfl rfl hl.1 rfl (lv_room (Nat.le_of_ble_eq_true rfl)) dL_law_566 ⟨by show _ ≤ 600000; omega, by show _ ≤ 7302250; omega⟩) hW (fun r2 m2 H locs hw hW => ?_)
  refine W.eq (g2 := F0 m 569 ls [.long r2, .long r1]) rfl ?_
  refine W.lcmp hx hb dL_law_569 ?_
  refine lv_if_eq (tgt := 677) hx hb dL_law_570 (by decide) (fun c1 => ?_) (fun c1 => ?_)
  · have hw := hw.2
    refine W.widen (k := 41 + 3 * (t + 1) + u) (n := 1351224 + 72 * (t + 1) + 23296 * u) (by omega) (by omega) ?_
    exact hend u m2 hw _ _ _ hW hl
  · exact absurd (by rw [hw.1]; simp [lg_cmp]) c1
set_option maxHeartbeats 4000000 in
set_option maxRecDepth 100000 in
theorem law_case14 {p : Program} {l : Launch} {e : Env} {s : State} {m : MethodId} {below : List Frame} {meth : Method} {c : Code} {g : Gv} {b L : Nat} {xs : Nat → Int32} (hL : L ≤ 3584) (C0 : lw_At p s m meth c b L xs) (hK : Kk g s) (hg : g.2 4 = s.heap.size) {t u : Nat} (ht : 7 * t + 7 ≤ L) (hu : u ≤ 1) {x : Int32} (ex : x = nI (7 * t)) {K : Nat → Mm → Prop}
    (hend : ∀ (u : Nat) (mm : Mm), K u mm → WW p l e room_1 s m #[Value.ref b] below meth c (lw_Z below #[Value.ref b] s) g mm 4 (41 + 3 * (t + 1) + u) (1351224 + 72 * (t + 1) + 23296 * u) 677 [(0, .ref b), (1, .ref (ad g 8)), (2, .ref (ad g 26)), (3, .int x)] []) {mm : Mm} (hw : mT mm 8 = 7 ∧ wp_X6_level mm 8 (xs (7 * t + 1)) (fun (r1 : Int32) (m1 : Mm) => mT m1 26 = 8 ∧ wp_X7_level m1 26 (xs (7 * t + 1)) (fun (r2 : Int32) (m2 : Mm) => r1 = r2 ∧ K u m2)))
    {H : Heap} {locs : List Loc} {ls : Array Slot} (hW : Wo g mm s H locs) (hl : lv_has ls 4 [(0, .ref b), (1, .ref (ad g 8)), (2, .ref (ad g 26)), (3, .int x)]) {cells slots : Nat} (ec : cells = 41 + 3 * t + u) (es : slots = 1351224 + 72 * t + 23296 * u) : W p l e room_1 s m #[Value.ref b] below meth c H locs cells slots (lw_Z below #[Value.ref b] s) (F0 m 575 ls []) := by
  obtain ⟨hx, hb, hr, hml, hown, hts, hX, hbl, hlocks, hgv⟩ := C0
  have hts := fun w h => hts w (wsL_law_in w h)
  have hbA : ¬ Ag g b := by show ¬ g.2 4 ≤ b; omega
  have hown : s.vm.findClass RL = some m.cls := hown
  have hin : ∀ k : Nat, k < 7 → vp_in (x + nI k) L ∧ (x + nI k).toNatClampNeg = 7 * t + k := fun k hk => lw_ix hL ht ex k hk
  have h1 : vp_in (x + (1 : Int32)) L ∧ (x + (1 : Int32)).toNatClampNeg = 7 * t + 1 := hin 1 (by decide)
  refine lv_aload_n hx hb dL_law_575 rfl (lv_at hl 1 rfl) ?_
  refine lv_aload_n hx hb dL_law_576 rfl (lv_at hl 0 rfl) ?_
  refine lv_iload_n hx hb dL_law_577 rfl (lv_at hl 3 rfl) ?_
  refine lv_iconst (v := (1 : Int32)) hx hb dL_law_578 (by decide) ?_
  refine lv_iadd hx hb dL_law_579 ?_
  refine va_sld hx hb hX hbl hbA hW.2 h1.1 dL_law_580 ?_
  rw [h1.2]
  refine R_call (va_runV (As := [.int (xs (7 * t + 1))]) (rest := []) ⟨hx, hb, hml, hown, hts⟩ (c_X6_level l g mm 8 (xs (7 * t + 1)) _ hw.2) (cwV 1 hts gL_law_X6_level rfl rfl rfl (by decide +kernel) ⟨by decide, by decide⟩) (PP.preV (q := (RX6, TX6, 15)) hK hW hw.1 (by decide) rfl) rfl rfl hl.1 rfl (lv_room (Nat.le_of_ble_eq_true rfl)) dL_law_581 ⟨by show _ ≤ 600000; omega, by show _ ≤ 7302250; omega⟩) hW (fun r1 m1 H locs hw hW => ?_)
  refine W.eq (g2 := F0 m 584 ls [.int r1]) rfl ?_
  refine lv_aload_n hx hb dL_law_584 rfl (lv_at hl 2 rfl) ?_
  refine lv_aload_n hx hb dL_law_585 rfl (lv_at hl 0 rfl) ?_
  refine lv_iload_n hx hb dL_law_586 rfl (lv_at hl 3 rfl) ?_
  refine lv_iconst (v := (1 : Int32)) hx hb dL_law_587 (by decide) ?_
  refine lv_iadd hx hb dL_law_588 ?_
  refine va_sld hx hb hX hbl hbA hW.2 h1.1 dL_law_589 ?_
  rw [h1.2]
  refine R_call (va_runV (As := [.int (xs (7 * t + 1))]) (rest := [.int r1]) ⟨hx, hb, hml, hown, hts⟩ (c_X7_level l g m1 26 (xs (7 * t + 1)) _ hw.2) (cwV 1 hts gL_law_X7_level rfl rfl rfl (by decide +kernel) ⟨by decide, by decide⟩) (PP.preV (q := (RX7, TX7, 36)) hK hW hw.1 (by decide) rfl) rfl rfl hl.1 rfl (lv_room (Nat.le_of_ble_eq_true rfl)) dL_law_590 ⟨by show _ ≤ 600000; omega, by show _ ≤ 7302250; omega⟩) hW (fun r2 m2 H locs hw hW => ?_)
  refine W.eq (g2 := F0 m 593 ls [.int r2, .int r1]) rfl ?_
  refine lv_icmp_eq (tgt := 677) hx hb dL_law_593 (by decide) (fun c1 => ?_) (fun c1 => ?_)
  · have hw := hw.2
    refine W.widen (k := 41 + 3 * (t + 1) + u) (n := 1351224 + 72 * (t + 1) + 23296 * u) (by omega) (by omega) ?_
    exact hend u m2 hw _ _ _ hW hl
  · exact absurd hw.1 c1
set_option maxHeartbeats 4000000 in
set_option maxRecDepth 100000 in
theorem law_case15 {p : Program} {l : Launch} {e : Env} {s : State} {m : MethodId} {below : List Frame} {meth : Method} {c : Code} {g : Gv} {b L : Nat} {xs : Nat → Int32} (hL : L ≤ 3584) (C0 : lw_At p s m meth c b L xs) (hK : Kk g s) (hg : g.2 4 = s.heap.size) {t u : Nat} (ht : 7 * t + 7 ≤ L) (hu : u ≤ 1) {x : Int32} (ex : x = nI (7 * t)) {K : Nat → Mm → Prop}
    (hend : ∀ (u : Nat) (mm : Mm), K u mm → WW p l e room_1 s m #[Value.ref b] below meth c (lw_Z below #[Value.ref b] s) g mm 4 (41 + 3 * (t + 1) + u) (1351224 + 72 * (t + 1) + 23296 * u) 677 [(0, .ref b), (1, .ref (ad g 8)), (2, .ref (ad g 26)), (3, .int x)] []) {mm : Mm} (hw : mT mm 8 = 7 ∧ wp_X6_depth mm 8 (xs (7 * t + 1)) (fun (r1 : Int32) (m1 : Mm) => mT m1 26 = 8 ∧ wp_X7_depth m1 26 (xs (7 * t + 1)) (fun (r2 : Int32) (m2 : Mm) => r1 = r2 ∧ K u m2)))
    {H : Heap} {locs : List Loc} {ls : Array Slot} (hW : Wo g mm s H locs) (hl : lv_has ls 4 [(0, .ref b), (1, .ref (ad g 8)), (2, .ref (ad g 26)), (3, .int x)]) {cells slots : Nat} (ec : cells = 41 + 3 * t + u) (es : slots = 1351224 + 72 * t + 23296 * u) : W p l e room_1 s m #[Value.ref b] below meth c H locs cells slots (lw_Z below #[Value.ref b] s) (F0 m 598 ls []) := by
  obtain ⟨hx, hb, hr, hml, hown, hts, hX, hbl, hlocks, hgv⟩ := C0
  have hts := fun w h => hts w (wsL_law_in w h)
  have hbA : ¬ Ag g b := by show ¬ g.2 4 ≤ b; omega
  have hown : s.vm.findClass RL = some m.cls := hown
  have hin : ∀ k : Nat, k < 7 → vp_in (x + nI k) L ∧ (x + nI k).toNatClampNeg = 7 * t + k := fun k hk => lw_ix hL ht ex k hk
  have h1 : vp_in (x + (1 : Int32)) L ∧ (x + (1 : Int32)).toNatClampNeg = 7 * t + 1 := hin 1 (by decide)
  refine lv_aload_n hx hb dL_law_598 rfl (lv_at hl 1 rfl) ?_
  refine lv_aload_n hx hb dL_law_599 rfl (lv_at hl 0 rfl) ?_
  refine lv_iload_n hx hb dL_law_600 rfl (lv_at hl 3 rfl) ?_
  refine lv_iconst (v := (1 : Int32)) hx hb dL_law_601 (by decide) ?_
  refine lv_iadd hx hb dL_law_602 ?_
  refine va_sld hx hb hX hbl hbA hW.2 h1.1 dL_law_603 ?_
  rw [h1.2]
  refine R_call (va_runV (As := [.int (xs (7 * t + 1))]) (rest := []) ⟨hx, hb, hml, hown, hts⟩ (c_X6_depth l g mm 8 (xs (7 * t + 1)) _ hw.2) (cwV 1 hts gL_law_X6_depth rfl rfl rfl (by decide +kernel) ⟨by decide, by decide⟩) (PP.preV (q := (RX6, TX6, 15)) hK hW hw.1 (by decide) rfl) rfl rfl hl.1 rfl (lv_room (Nat.le_of_ble_eq_true rfl)) dL_law_604 ⟨by show _ ≤ 600000; omega, by show _ ≤ 7302250; omega⟩) hW (fun r1 m1 H locs hw hW => ?_)
  refine W.eq (g2 := F0 m 607 ls [.int r1]) rfl ?_
  refine lv_aload_n hx hb dL_law_607 rfl (lv_at hl 2 rfl) ?_
  refine lv_aload_n hx hb dL_law_608 rfl (lv_at hl 0 rfl) ?_
  refine lv_iload_n hx hb dL_law_609 rfl (lv_at hl 3 rfl) ?_
  refine lv_iconst (v := (1 : Int32)) hx hb dL_law_610 (by decide) ?_
  refine lv_iadd hx hb dL_law_611 ?_
  refine va_sld hx hb hX hbl hbA hW.2 h1.1 dL_law_612 ?_
  rw [h1.2]
  refine R_call (va_runV (As := [.int (xs (7 * t + 1))]) (rest := [.int r1]) ⟨hx, hb, hml, hown, hts⟩ (c_X7_depth l g m1 26 (xs (7 * t + 1)) _ hw.2) (cwV 1 hts gL_law_X7_depth rfl rfl rfl (by decide +kernel) ⟨by decide, by decide⟩) (PP.preV (q := (RX7, TX7, 36)) hK hW hw.1 (by decide) rfl) rfl rfl hl.1 rfl (lv_room (Nat.le_of_ble_eq_true rfl)) dL_law_613 ⟨by show _ ≤ 600000; omega, by show _ ≤ 7302250; omega⟩) hW (fun r2 m2 H locs hw hW => ?_)
  refine W.eq (g2 := F0 m 616 ls [.int r2, .int r1]) rfl ?_
  refine lv_icmp_eq (tgt := 677) hx hb dL_law_616 (by decide) (fun c1 => ?_) (fun c1 => ?_)
  · have hw := hw.2
    refine W.widen (k := 41 + 3 * (t + 1) + u) (n := 1351224 + 72 * (t + 1) + 23296 * u) (by omega) (by omega) ?_
    exact hend u m2 hw _ _ _ hW hl
  · exact absurd hw.1 c1
set_option maxHeartbeats 4000000 in
set_option maxRecDepth 100000 in
theorem law_case16 {p : Program} {l : Launch} {e : Env} {s : State} {m : MethodId} {below : List Frame} {meth : Method} {c : Code} {g : Gv} {b L : Nat} {xs : Nat → Int32} (hL : L ≤ 3584) (C0 : lw_At p s m meth c b L xs) (hK : Kk g s) (hg : g.2 4 = s.heap.size) {t u : Nat} (ht : 7 * t + 7 ≤ L) (hu : u ≤ 1) {x : Int32} (ex : x = nI (7 * t)) {K : Nat → Mm → Prop}
    (hend : ∀ (u : Nat) (mm : Mm), K u mm → WW p l e room_1 s m #[Value.ref b] below meth c (lw_Z below #[Value.ref b] s) g mm 4 (41 + 3 * (t + 1) + u) (1351224 + 72 * (t + 1) + 23296 * u) 677 [(0, .ref b), (1, .ref (ad g 8)), (2, .ref (ad g 26)), (3, .int x)] []) {mm : Mm} (hw : mT mm 8 = 7 ∧ wp_X6_look mm 8 (xs (7 * t + 1)) (xs (7 * t + 2)) (fun (r1 : Int32) (m1 : Mm) => mT m1 26 = 8 ∧ wp_X7_look m1 26 (xs (7 * t + 1)) (xs (7 * t + 2)) (fun (r2 : Int32) (m2 : Mm) => r1 = r2 ∧ K u m2)))
    {H : Heap} {locs : List Loc} {ls : Array Slot} (hW : Wo g mm s H locs) (hl : lv_has ls 4 [(0, .ref b), (1, .ref (ad g 8)), (2, .ref (ad g 26)), (3, .int x)]) {cells slots : Nat} (ec : cells = 41 + 3 * t + u) (es : slots = 1351224 + 72 * t + 23296 * u) : W p l e room_1 s m #[Value.ref b] below meth c H locs cells slots (lw_Z below #[Value.ref b] s) (F0 m 621 ls []) := by
  obtain ⟨hx, hb, hr, hml, hown, hts, hX, hbl, hlocks, hgv⟩ := C0
  have hts := fun w h => hts w (wsL_law_in w h)
  have hbA : ¬ Ag g b := by show ¬ g.2 4 ≤ b; omega
  have hown : s.vm.findClass RL = some m.cls := hown
  have hin : ∀ k : Nat, k < 7 → vp_in (x + nI k) L ∧ (x + nI k).toNatClampNeg = 7 * t + k := fun k hk => lw_ix hL ht ex k hk
  have h1 : vp_in (x + (1 : Int32)) L ∧ (x + (1 : Int32)).toNatClampNeg = 7 * t + 1 := hin 1 (by decide)
  have h2 : vp_in (x + (2 : Int32)) L ∧ (x + (2 : Int32)).toNatClampNeg = 7 * t + 2 := hin 2 (by decide)
  refine lv_aload_n hx hb dL_law_621 rfl (lv_at hl 1 rfl) ?_
  refine lv_aload_n hx hb dL_law_622 rfl (lv_at hl 0 rfl) ?_
  refine lv_iload_n hx hb dL_law_623 rfl (lv_at hl 3 rfl) ?_
  refine lv_iconst (v := (1 : Int32)) hx hb dL_law_624 (by decide) ?_
  refine lv_iadd hx hb dL_law_625 ?_
  refine va_sld hx hb hX hbl hbA hW.2 h1.1 dL_law_626 ?_
  rw [h1.2]
  refine lv_aload_n hx hb dL_law_627 rfl (lv_at hl 0 rfl) ?_
  refine lv_iload_n hx hb dL_law_628 rfl (lv_at hl 3 rfl) ?_
  refine lv_iconst (v := (2 : Int32)) hx hb dL_law_629 (by decide) ?_
  refine lv_iadd hx hb dL_law_630 ?_
  refine va_sld hx hb hX hbl hbA hW.2 h2.1 dL_law_631 ?_
  rw [h2.2]
  refine R_call (va_runV (As := [.int (xs (7 * t + 1)), .int (xs (7 * t + 2))]) (rest := []) ⟨hx, hb, hml, hown, hts⟩ (c_X6_look l g mm 8 (xs (7 * t + 1)) (xs (7 * t + 2)) _ hw.2) (cwV 2 hts gL_law_X6_look rfl rfl rfl (by decide +kernel) ⟨by decide, by decide⟩) (PP.preV (q := (RX6, TX6, 15)) hK hW hw.1 (by decide) rfl) rfl rfl hl.1 rfl (lv_room (Nat.le_of_ble_eq_true rfl)) dL_law_632 ⟨by show _ ≤ 600000; omega, by show _ ≤ 7302250; omega⟩) hW (fun r1 m1 H locs hw hW => ?_)
  refine W.eq (g2 := F0 m 635 ls [.int r1]) rfl ?_
  refine lv_aload_n hx hb dL_law_635 rfl (lv_at hl 2 rfl) ?_
  refine lv_aload_n hx hb dL_law_636 rfl (lv_at hl 0 rfl) ?_
  refine lv_iload_n hx hb dL_law_637 rfl (lv_at hl 3 rfl) ?_
  refine lv_iconst (v := (1 : Int32)) hx hb dL_law_638 (by decide) ?_
  refine lv_iadd hx hb dL_law_639 ?_
  refine va_sld hx hb hX hbl hbA hW.2 h1.1 dL_law_640 ?_
  rw [h1.2]
  refine lv_aload_n hx hb dL_law_641 rfl (lv_at hl 0 rfl) ?_
  refine lv_iload_n hx hb dL_law_642 rfl (lv_at hl 3 rfl) ?_
  refine lv_iconst (v := (2 : Int32)) hx hb dL_law_643 (by decide) ?_
  refine lv_iadd hx hb dL_law_644 ?_
  refine va_sld hx hb hX hbl hbA hW.2 h2.1 dL_law_645 ?_
  rw [h2.2]
  refine R_call (va_runV (As := [.int (xs (7 * t + 1)), .int (xs (7 * t + 2))]) (rest := [.int r1]) ⟨hx, hb, hml, hown, hts⟩ (c_X7_look l g m1 26 (xs (7 * t + 1)) (xs (7 * t + 2)) _ hw.2) (cwV 2 hts gL_law_X7_look rfl rfl rfl (by decide +kernel) ⟨by decide, by decide⟩) (PP.preV (q := (RX7, TX7, 36)) hK hW hw.1 (by decide) rfl) rfl rfl hl.1 rfl (lv_room (Nat.le_of_ble_eq_true rfl)) dL_law_646 ⟨by show _ ≤ 600000; omega, by show _ ≤ 7302250; omega⟩) hW (fun r2 m2 H locs hw hW => ?_)
  refine W.eq (g2 := F0 m 649 ls [.int r2, .int r1]) rfl ?_
  refine lv_icmp_eq (tgt := 677) hx hb dL_law_649 (by decide) (fun c1 => ?_) (fun c1 => ?_)
  · have hw := hw.2
    refine W.widen (k := 41 + 3 * (t + 1) + u) (n := 1351224 + 72 * (t + 1) + 23296 * u) (by omega) (by omega) ?_
    exact hend u m2 hw _ _ _ hW hl
  · exact absurd hw.1 c1
set_option maxHeartbeats 4000000 in
set_option maxRecDepth 100000 in
theorem law_case17 {p : Program} {l : Launch} {e : Env} {s : State} {m : MethodId} {below : List Frame} {meth : Method} {c : Code} {g : Gv} {b L : Nat} {xs : Nat → Int32} (hL : L ≤ 3584) (C0 : lw_At p s m meth c b L xs) (hK : Kk g s) (hg : g.2 4 = s.heap.size) {t u : Nat} (ht : 7 * t + 7 ≤ L) (hu : u ≤ 1) {x : Int32} (ex : x = nI (7 * t)) {K : Nat → Mm → Prop}
    (hend : ∀ (u : Nat) (mm : Mm), K u mm → WW p l e room_1 s m #[Value.ref b] below meth c (lw_Z below #[Value.ref b] s) g mm 4 (41 + 3 * (t + 1) + u) (1351224 + 72 * (t + 1) + 23296 * u) 677 [(0, .ref b), (1, .ref (ad g 8)), (2, .ref (ad g 26)), (3, .int x)] []) {mm : Mm} (hw : mT mm 8 = 7 ∧ wp_X6_count mm 8 (xs (7 * t + 1)) (fun (r1 : Int32) (m1 : Mm) => mT m1 26 = 8 ∧ wp_X7_count m1 26 (xs (7 * t + 1)) (fun (r2 : Int32) (m2 : Mm) => r1 = r2 ∧ K u m2)))
    {H : Heap} {locs : List Loc} {ls : Array Slot} (hW : Wo g mm s H locs) (hl : lv_has ls 4 [(0, .ref b), (1, .ref (ad g 8)), (2, .ref (ad g 26)), (3, .int x)]) {cells slots : Nat} (ec : cells = 41 + 3 * t + u) (es : slots = 1351224 + 72 * t + 23296 * u) : W p l e room_1 s m #[Value.ref b] below meth c H locs cells slots (lw_Z below #[Value.ref b] s) (F0 m 654 ls []) := by
  obtain ⟨hx, hb, hr, hml, hown, hts, hX, hbl, hlocks, hgv⟩ := C0
  have hts := fun w h => hts w (wsL_law_in w h)
  have hbA : ¬ Ag g b := by show ¬ g.2 4 ≤ b; omega
  have hown : s.vm.findClass RL = some m.cls := hown
  have hin : ∀ k : Nat, k < 7 → vp_in (x + nI k) L ∧ (x + nI k).toNatClampNeg = 7 * t + k := fun k hk => lw_ix hL ht ex k hk
  have h1 : vp_in (x + (1 : Int32)) L ∧ (x + (1 : Int32)).toNatClampNeg = 7 * t + 1 := hin 1 (by decide)
  refine lv_aload_n hx hb dL_law_654 rfl (lv_at hl 1 rfl) ?_
  refine lv_aload_n hx hb dL_law_655 rfl (lv_at hl 0 rfl) ?_
  refine lv_iload_n hx hb dL_law_656 rfl (lv_at hl 3 rfl) ?_
  refine lv_iconst (v := (1 : Int32)) hx hb dL_law_657 (by decide) ?_
  refine lv_iadd hx hb dL_law_658 ?_
  refine va_sld hx hb hX hbl hbA hW.2 h1.1 dL_law_659 ?_
  rw [h1.2]
  refine R_call (va_runV (As := [.int (xs (7 * t + 1))]) (rest := []) ⟨hx, hb, hml, hown, hts⟩ (c_X6_count l g mm 8 (xs (7 * t + 1)) _ hw.2) (cwV 1 hts gL_law_X6_count rfl rfl rfl (by decide +kernel) ⟨by decide, by decide⟩) (PP.preV (q := (RX6, TX6, 15)) hK hW hw.1 (by decide) rfl) rfl rfl hl.1 rfl (lv_room (Nat.le_of_ble_eq_true rfl)) dL_law_660 ⟨by show _ ≤ 600000; omega, by show _ ≤ 7302250; omega⟩) hW (fun r1 m1 H locs hw hW => ?_)
  refine W.eq (g2 := F0 m 663 ls [.int r1]) rfl ?_
  refine lv_aload_n hx hb dL_law_663 rfl (lv_at hl 2 rfl) ?_
  refine lv_aload_n hx hb dL_law_664 rfl (lv_at hl 0 rfl) ?_
  refine lv_iload_n hx hb dL_law_665 rfl (lv_at hl 3 rfl) ?_
  refine lv_iconst (v := (1 : Int32)) hx hb dL_law_666 (by decide) ?_
  refine lv_iadd hx hb dL_law_667 ?_
  refine va_sld hx hb hX hbl hbA hW.2 h1.1 dL_law_668 ?_
  rw [h1.2]
  refine R_call (va_runV (As := [.int (xs (7 * t + 1))]) (rest := [.int r1]) ⟨hx, hb, hml, hown, hts⟩ (c_X7_count l g m1 26 (xs (7 * t + 1)) _ hw.2) (cwV 1 hts gL_law_X7_count rfl rfl rfl (by decide +kernel) ⟨by decide, by decide⟩) (PP.preV (q := (RX7, TX7, 36)) hK hW hw.1 (by decide) rfl) rfl rfl hl.1 rfl (lv_room (Nat.le_of_ble_eq_true rfl)) dL_law_669 ⟨by show _ ≤ 600000; omega, by show _ ≤ 7302250; omega⟩) hW (fun r2 m2 H locs hw hW => ?_)
  refine W.eq (g2 := F0 m 672 ls [.int r2, .int r1]) rfl ?_
  refine lv_icmp_eq (tgt := 677) hx hb dL_law_672 (by decide) (fun c1 => ?_) (fun c1 => ?_)
  · have hw := hw.2
    refine W.widen (k := 41 + 3 * (t + 1) + u) (n := 1351224 + 72 * (t + 1) + 23296 * u) (by omega) (by omega) ?_
    exact hend u m2 hw _ _ _ hW hl
  · exact absurd hw.1 c1
end LAWW
