theorem inlX6 : ∀ w ∈ wsX60, w ∈ wsL_law := fun _ h => List.mem_append_left _ (List.mem_append_left _ (List.mem_append_left _ (List.mem_append_left _ (List.mem_append_left _ (List.mem_append_left _ (List.mem_append_left _ (List.mem_append_left _ (List.mem_append_left _ (List.mem_append_right _ h)))))))))
theorem inlX7 : ∀ w ∈ wsX70, w ∈ wsL_law := fun _ h => List.mem_append_left _ (List.mem_append_left _ (List.mem_append_left _ (List.mem_append_left _ (List.mem_append_left _ (List.mem_append_left _ (List.mem_append_left _ (List.mem_append_left _ (List.mem_append_right _ h))))))))
/-! THE LAW'S START: what the Statement gives, as Kk; then the two constructors; then the loop. -/
/-- the memory ahead of the first cell -/
def m00 : Mm := (fun k j => if 3 ≤ k ∧ k ≤ 6 then (stc k).getD j 0 else 0, fun _ _ => 0, fun _ _ => 0, fun k => if k < 8 then kind0 k else 99, fun k => if 3 ≤ k ∧ k ≤ 6 then 6 else 0, 8)
theorem m00_mem {g : Gv} {H : Heap} (h : g.2 4 = H.size) : Mem g m00 H := by
  refine ⟨Nat.le_refl 8, by show H.size = g.2 4 + (8 - 8); omega, fun k hk => ?_, fun k hk => ?_, ?_, fun k h3 h6 => ?_, fun k h8 hk => ?_⟩
  · show (if k < 8 then kind0 k else 99) = kind0 k
    rw [if_pos hk]
  · have hk : 8 ≤ k := hk
    show (if k < 8 then kind0 k else 99) = 99
    rw [if_neg (by omega)]
  · rfl
  · refine ⟨?_, ?_⟩
    · show (if 3 ≤ k ∧ k ≤ 6 then 6 else 0) = 6
      rw [if_pos ⟨h3, h6⟩]
    · funext j
      show (if 3 ≤ k ∧ k ≤ 6 then (stc k).getD j 0 else 0) = _
      rw [if_pos ⟨h3, h6⟩]
  · have hk : k < 8 := hk
    omega
theorem st_size {args : Array Value} {s : State} {t : Term} {a : Addr} {cell : Cell} {n : Nat} (hn : n < 2 ^ 31) (h : (Cond.eq (.length t) (.int (Int32.ofNat n))).before args s = true) (ht : t.eval args s none [] s = some (.ref a)) (hc : s.heap[a]? = some cell) : cell.slots.size = n := by
  have hv := va_eqt h
  obtain ⟨a', cell', h1, h2, h3⟩ := Term.length_spec hv
  cases ht.symm.trans h1
  obtain ⟨g1, -, -, -⟩ := State.arrayAt?_spec h2
  cases hc.symm.trans g1
  have hsz : cell.slots.size < 2 ^ 31 := by
    simp only [Term.eval, ht, h2, Option.bind_eq_bind, Option.bind_some] at hv
    by_cases hlt : cell.slots.size < 2147483648
    · exact hlt
    · simp [hlt] at hv
  have e1 : Int32.ofNat n = Int32.ofNat cell.slots.size := by
    have h4 : (Value.int (Int32.ofNat n)) = .int cell.slots.size.toInt32 := h3
    exact Value.int.inj h4
  exact ((nI_eq hn hsz).mp e1).symm
/-- a static array of six ints -/
theorem st_arr {args : Array Value} {s : State} {nm : String} {k : Nat} {A : Nat → Prop} (hl : (Cond.laysStatic "BoatLift$Law" nm "[I").before args s = true) (hini : (Cond.initialized "BoatLift$Law").before args s = true) (harr : (Cond.arrayOf (.static "BoatLift$Law" nm "[I") .int).before args s = true) (hlen : (Cond.eq (.length (.static "BoatLift$Law" nm "[I")) (.int 6)).before args s = true)
    (hel : ∀ j : Nat, j < 6 → (Cond.eq (.elem (.static "BoatLift$Law" nm "[I") (.int (Int32.ofNat j))) (.int ((stc k).getD j 0))).before args s = true) (hA : ∀ a : Nat, a < s.heap.size → ¬ A a) : ∃ t : Nat, (Term.static "BoatLift$Law" nm "[I").eval args s none [] s = some (.ref t) ∧ va_Z "BoatLift$Law" nm "[I" (.ref t) A s s.heap ∧ va_T .int t 6 (fun j => .int ((stc k).getD j 0)) A s s.heap := by
  obtain ⟨t, h1, h2⟩ := va_Tof (N := 6) (f := fun j => .int ((stc k).getD j 0)) (by decide) harr (va_eqt hlen) (fun j hj => va_eqt (hel j hj)) hA
  exact ⟨t, h1, va_Zof hl hini h1 hA, h2⟩
theorem st_el {P : Nat → Prop} (h0 : P 0) (h1 : P 1) (h2 : P 2) (h3 : P 3) (h4 : P 4) (h5 : P 5) : ∀ j, j < 6 → P j := by
  intro j hj
  rcases (show j = 0 ∨ j = 1 ∨ j = 2 ∨ j = 3 ∨ j = 4 ∨ j = 5 by omega) with rfl | rfl | rfl | rfl | rfl | rfl
  · exact h0
  · exact h1
  · exact h2
  · exact h3
  · exact h4
  · exact h5
set_option maxHeartbeats 4000000 in
set_option maxRecDepth 100000 in
/-- the launch's world, under the one premise that the Statement does not print: FIRST is exactly of class [I -/
theorem law_world_open {p : Program} {s : State} {m : MethodId} {meth : Method} {c : Code} {b L : Nat} {xs : Nat → Int32} (C0 : lw_At p s m meth c b L xs) (hopen : (Cond.exactly (.static "BoatLift$Law" "FIRST" "[I") "[I").before #[Value.ref b] s = true) : ∃ g : Gv, g.2 4 = s.heap.size ∧ Kk g s := by
  obtain ⟨hx, hb, hr, hml, hown, hts, hX, hbl, hlocks, hgv⟩ := C0
  have hs := flat_of_before _ hgv
  have hA : ∀ a : Nat, a < s.heap.size → ¬ s.heap.size ≤ a := fun a h => by omega
  obtain ⟨c0, iS0, hKn0⟩ := u_known (C := RJx4a65c) (T := TJx4a65c) (N := 3) (n := 3) hts wsJx4a65c0_in (hts (.instantiable RJx4a65c 3) (by decide +kernel))
  obtain ⟨c1, iS1, hKn1⟩ := u_known (C := RX0) (T := TX0) (N := 8) (n := 8) hts wsX00_in (hts (.instantiable RX0 8) (by decide +kernel))
  obtain ⟨c2, iS2, hKn2⟩ := u_known (C := RX1) (T := TX1) (N := 5) (n := 5) hts wsX10_in (hts (.instantiable RX1 5) (by decide +kernel))
  obtain ⟨c3, iS3, hKn3⟩ := u_known (C := RX2) (T := TX2) (N := 9) (n := 9) hts wsX20_in (hts (.instantiable RX2 9) (by decide +kernel))
  obtain ⟨c4, iS4, hKn4⟩ := u_known (C := RX3) (T := TX3) (N := 2) (n := 2) hts wsX30_in (hts (.instantiable RX3 2) (by decide +kernel))
  obtain ⟨c5, iS5, hKn5⟩ := u_known (C := RX4) (T := TX4) (N := 4) (n := 4) hts wsX40_in (hts (.instantiable RX4 4) (by decide +kernel))
  obtain ⟨c6, iS6, hKn6⟩ := u_known (C := RX5) (T := TX5) (N := 2) (n := 2) hts wsX50_in (hts (.instantiable RX5 2) (by decide +kernel))
  obtain ⟨c7, iS7, hKn7⟩ := u_known (C := RX6) (T := TX6) (N := 15) (n := 15) hts wsX60_in (hts (.instantiable RX6 15) (by decide +kernel))
  obtain ⟨c8, iS8, hKn8⟩ := u_known (C := RX7) (T := TX7) (N := 36) (n := 36) hts wsX70_in (hts (.instantiable RX7 36) (by decide +kernel))
  obtain ⟨cI, kI, pI, fI, gI, hI⟩ := Cond.arrayClass_spec (hts (.arrayClass .int) (by decide +kernel))
  obtain ⟨cJ, kJ, pJ, fJ, gJ, hJ⟩ := Cond.arrayClass_spec (hts (.arrayClass .long) (by decide +kernel))
  obtain ⟨cB, kB, pB, fB, gB, hB⟩ := Cond.arrayClass_spec (hts (.arrayClass .byte) (by decide +kernel))
  have hao := hts (.arrayOver (.object "java/lang/Object")) (by decide +kernel)
  obtain ⟨pO, cO, kO, eO, -, gO, hO, fO⟩ := Cond.arrayOver_spec hao
  have hini := hts (.initialized "BoatLift$Law") (by decide +kernel)
  obtain ⟨t3, q3, z3, r3⟩ := st_arr (nm := "FIRST") (k := 3) (A := fun q => s.heap.size ≤ q) (hts _ (by decide +kernel)) hini (hs _ (by decide +kernel)) (hs _ (by decide +kernel)) (st_el (hs _ (by decide +kernel)) (hs _ (by decide +kernel)) (hs _ (by decide +kernel)) (hs _ (by decide +kernel)) (hs _ (by decide +kernel)) (hs _ (by decide +kernel))) hA
  obtain ⟨t4, q4, z4, r4⟩ := st_arr (nm := "LETTER") (k := 4) (A := fun q => s.heap.size ≤ q) (hts _ (by decide +kernel)) hini (hs _ (by decide +kernel)) (hs _ (by decide +kernel)) (st_el (hs _ (by decide +kernel)) (hs _ (by decide +kernel)) (hs _ (by decide +kernel)) (hs _ (by decide +kernel)) (hs _ (by decide +kernel)) (hs _ (by decide +kernel))) hA
  obtain ⟨t5, q5, z5, r5⟩ := st_arr (nm := "LEAST") (k := 5) (A := fun q => s.heap.size ≤ q) (hts _ (by decide +kernel)) hini (hs _ (by decide +kernel)) (hs _ (by decide +kernel)) (st_el (hs _ (by decide +kernel)) (hs _ (by decide +kernel)) (hs _ (by decide +kernel)) (hs _ (by decide +kernel)) (hs _ (by decide +kernel)) (hs _ (by decide +kernel))) hA
  obtain ⟨t6, q6, z6, r6⟩ := st_arr (nm := "MOST") (k := 6) (A := fun q => s.heap.size ≤ q) (hts _ (by decide +kernel)) hini (hs _ (by decide +kernel)) (hs _ (by decide +kernel)) (st_el (hs _ (by decide +kernel)) (hs _ (by decide +kernel)) (hs _ (by decide +kernel)) (hs _ (by decide +kernel)) (hs _ (by decide +kernel)) (hs _ (by decide +kernel))) hA
  have hE0 : (Cond.eq (.length (.static "java/util/ArrayList" "DEFAULTCAPACITY_EMPTY_ELEMENTDATA" "[Ljava/lang/Object;")) (.int 0)).before #[Value.ref b] s = true := hs _ (by decide +kernel)
  obtain ⟨t1, q1, r1⟩ := va_Tof (N := 0) (f := fun _ => .null) (A := fun q => s.heap.size ≤ q) (by decide) (hs (.arrayOf (.static "java/util/ArrayList" "DEFAULTCAPACITY_EMPTY_ELEMENTDATA" "[Ljava/lang/Object;") (.object "java/lang/Object")) (by decide +kernel)) (va_eqt hE0) (fun j hj => absurd hj (Nat.not_lt_zero j)) hA
  have z1 : va_Z "java/util/ArrayList" "DEFAULTCAPACITY_EMPTY_ELEMENTDATA" "[Ljava/lang/Object;" (.ref t1) (fun q => s.heap.size ≤ q) s s.heap := va_Zof (hts _ (by decide +kernel)) (hts _ (by decide +kernel)) q1 hA
  obtain ⟨t2, r2⟩ := va_Mi.of (C := "[Ljava/lang/Object;") (hs _ (by decide +kernel))
  obtain ⟨a3, cE, cell3, kE, w1, w2, w3, w4, w5, w6, -⟩ := Cond.exactly_spec hopen
  cases q3.symm.trans w1
  refine ⟨((fun k => match k with | 0 => c0 | 1 => c1 | 2 => c2 | 3 => c3 | 4 => c4 | 5 => c5 | 6 => c6 | 7 => c7 | _ => c8, fun k => match k with | 0 => iS0 | 1 => iS1 | 2 => iS2 | 3 => iS3 | 4 => iS4 | 5 => iS5 | 6 => iS6 | 7 => iS7 | _ => iS8), fun i => match i with | 0 => cI | 1 => cJ | 2 => cB | 3 => cO | 4 => s.heap.size | 17 => t1 | 18 => t2 | 19 => t3 | 20 => t4 | 21 => t5 | 22 => t6 | _ => 0), rfl, ?_⟩
  refine ⟨⟨fun k q hq => ?_, fun k q hq => ?_⟩, ⟨Nat.le_refl _, cell3, w3, st_size (n := 6) (by decide) (hs (.eq (.length (.static "BoatLift$Law" "FIRST" "[I")) (.int 6)) (by decide +kernel)) q3 w3, by rw [w6]; exact w2⟩, ⟨⟨z3, r3⟩, ⟨z4, r4⟩, ⟨z5, r5⟩, ⟨z6, r6⟩⟩, ⟨z1, r1⟩, r2, ⟨?_, ?_, ?_, ?_⟩, ?_, ?_, ?_, ?_, ?_, ?_, ?_⟩
  · match k, hq with
    | 0, hq => cases hq; exact hKn0
    | 1, hq => cases hq; exact hKn1
    | 2, hq => cases hq; exact hKn2
    | 3, hq => cases hq; exact hKn3
    | 4, hq => cases hq; exact hKn4
    | 5, hq => cases hq; exact hKn5
    | 6, hq => cases hq; exact hKn6
    | 7, hq => cases hq; exact hKn7
    | 8, hq => cases hq; exact hKn8
    | k + 9, hq => simp [vwCl] at hq
  · match k, hq with
    | 0, hq => cases hq; exact ⟨fun n z => ⟨(fun k h => by cases h), kI, gI, pI, hI⟩, fI⟩
    | 1, hq => cases hq; exact ⟨fun n z => ⟨(fun k h => by cases h), kJ, gJ, pJ, hJ⟩, fJ⟩
    | 2, hq => cases hq; exact ⟨fun n z => ⟨(fun k h => by cases h), kB, gB, pB, hB⟩, fB⟩
    | 3, hq => cases hq; exact ⟨fun n z => ⟨(fun k h => by cases h), kO, gO, pO, hO⟩, kO, pO, gO, hO, eO, fO⟩
    | k + 4, hq => simp [tys] at hq
  · exact va_Fw.of (A := #[Value.ref b]) (hts _ (by decide +kernel)) (hts _ (by decide +kernel)) (hts _ (by decide +kernel)) (hts _ (by decide +kernel)) (hts _ (by decide +kernel))
  · exact va_Fw.of (A := #[Value.ref b]) (hts _ (by decide +kernel)) (hts _ (by decide +kernel)) (hts _ (by decide +kernel)) (hts _ (by decide +kernel)) (hts _ (by decide +kernel))
  · exact va_Fw.of (A := #[Value.ref b]) (hts _ (by decide +kernel)) (hts _ (by decide +kernel)) (hts _ (by decide +kernel)) (hts _ (by decide +kernel)) (hts _ (by decide +kernel))
  · exact va_Fw.of (A := #[Value.ref b]) (hts _ (by decide +kernel)) (hts _ (by decide +kernel)) (hts _ (by decide +kernel)) (hts _ (by decide +kernel)) (hts _ (by decide +kernel))
  · exact va_Nw.of (A := #[Value.ref b]) rfl (hts _ (by decide +kernel))
  · exact va_Nw.of (A := #[Value.ref b]) rfl (hts _ (by decide +kernel))
  · exact va_Nw.of (A := #[Value.ref b]) rfl (hts _ (by decide +kernel))
  · exact va_Nw.of (A := #[Value.ref b]) rfl (hts _ (by decide +kernel))
  · exact va_Nw.of (A := #[Value.ref b]) rfl (hts _ (by decide +kernel))
  · exact va_AO.of hao
  · exact va_Dc.of (A := #[Value.ref b]) (hts _ (by decide +kernel))
/-- what the two constructors must do -/
def lawinit (I : Nat → Nat → Mm → Prop) : Prop := wp_X6_init (nw m00 7 0) 8 (fun _ m2 => mS m2 = 26 ∧ wp_X7_init (nw m2 8 0) 26 (fun _ m4 => I 0 0 m4))
set_option maxHeartbeats 4000000 in
set_option maxRecDepth 100000 in
theorem whole_open {p : Program} {e : Env} {s : State} {m : MethodId} {below : List Frame} {meth : Method} {c : Code} (l : Launch) {b L : Nat} {xs : Nat → Int32} (hL : L ≤ 3584) (C0 : lw_At p s m meth c b L xs) (hopen : (Cond.exactly (.static "BoatLift$Law" "FIRST" "[I") "[I").before #[Value.ref b] s = true) (I : Nat → Nat → Mm → Prop) (h0 : lawinit I) (hI : ∀ (t u : Nat) (mm : Mm), 7 * t + 7 ≤ L → u ≤ 1 → I t u mm → lawcase xs t u mm (fun u2 m2 => u2 ≤ 1 ∧ I (t + 1) u2 m2)) :
    W p l e room_1 s m #[Value.ref b] below meth c s.heap [] 0 0 (lw_Z below #[Value.ref b] s) (entryFrame m ([Value.ref b] : List Value).toArray 4) := by
  obtain ⟨g, hg, hK⟩ := law_world_open C0 hopen
  have C1 := C0
  obtain ⟨hx, hb, hr, hml, hown, hts, hX, hbl, hlocks, hgv⟩ := C0
  have hts := fun w h => hts w (wsL_law_in w h)
  have hown : s.vm.findClass RL = some m.cls := hown
  have hl := lv_entry ([.ref b]) (n := 4) (Nat.le_of_ble_eq_true rfl)
  rw [lg_entry_eq]
  generalize (lg_sl ([.ref b]) ++ List.replicate (4 - (lg_sl ([.ref b])).length) Slot.unset).toArray = ls at hl ⊢
  have hl : lv_has ls 4 [(0, .ref b)] := hl
  have hW : Wo g m00 s s.heap [] := ⟨m00_mem hg, va_S.rf⟩
  have i7 : ∀ w ∈ u_ws RX6 TX6 15, w ∈ wsL_law := inlX6
  have i8 : ∀ w ∈ u_ws RX7 TX7 36, w ∈ wsL_law := inlX7
  refine R_new (g := g) (mm := m00) (ci := 7) (C := RX6) (T := TX6) (N := 15) hx hb hts i7 tyX6 tyX6_ok hown (hts (.classLink RL 7 RX6) (by decide +kernel)) (hts (.instantiable RX6 15) (by decide +kernel)) (hts (.initialized RX6) (by decide +kernel)) hK hW (by decide) rfl (fun j hj => by rcases (show j = 0 ∨ j = 1 ∨ j = 2 ∨ j = 3 ∨ j = 4 ∨ j = 5 ∨ j = 6 ∨ j = 7 ∨ j = 8 ∨ j = 9 ∨ j = 10 ∨ j = 11 ∨ j = 12 ∨ j = 13 ∨ j = 14 by omega) with rfl | rfl | rfl | rfl | rfl | rfl | rfl | rfl | rfl | rfl | rfl | rfl | rfl | rfl | rfl <;> rfl) (by decide) (by decide) dL_law_0 (fun H hW => ?_)
  refine W.eq (g2 := F0 m 3 ls [.ref (ad g 8)]) rfl ?_
  refine lv_dup hx hb dL_law_3 rfl ?_
  refine R_call (va_runI (As := []) (rest := [.ref (ad g 8)]) ⟨hx, hb, hml, hown, hts⟩ (c_X6_init l g (nw m00 7 0) 8 _ h0) (cwI 0 hts gL_law_X6_init rfl rfl rfl (hts (.initialized RX6) (by decide +kernel)) (hts (.methodLink RL 9 yX6_init) (by decide +kernel)) (hts (.instanceMethod yX6_init) (by decide +kernel)) rfl (by decide +kernel) ⟨by decide, by decide⟩) (PP.pre hK hW) rfl rfl hl.1 rfl (lv_room (Nat.le_of_ble_eq_true rfl)) dL_law_4 ⟨by decide, by decide⟩) hW (fun _ m2 H locs hw hW => ?_)
  refine W.eq (g2 := F0 m 7 ls [.ref (ad g 8)]) rfl ?_
  obtain ⟨e26, hw⟩ := hw
  refine lv_astore_n (lv' := [(1, .ref (ad g 8)), (0, .ref b)]) hx hb dL_law_7 rfl hl (by decide) rfl (fun ls hl => ?_)
  refine R_new (g := g) (mm := m2) (ci := 8) (C := RX7) (T := TX7) (N := 36) hx hb hts i8 tyX7 tyX7_ok hown (hts (.classLink RL 10 RX7) (by decide +kernel)) (hts (.instantiable RX7 36) (by decide +kernel)) (hts (.initialized RX7) (by decide +kernel)) hK hW (by decide) rfl (fun j hj => by rcases (show j = 0 ∨ j = 1 ∨ j = 2 ∨ j = 3 ∨ j = 4 ∨ j = 5 ∨ j = 6 ∨ j = 7 ∨ j = 8 ∨ j = 9 ∨ j = 10 ∨ j = 11 ∨ j = 12 ∨ j = 13 ∨ j = 14 ∨ j = 15 ∨ j = 16 ∨ j = 17 ∨ j = 18 ∨ j = 19 ∨ j = 20 ∨ j = 21 ∨ j = 22 ∨ j = 23 ∨ j = 24 ∨ j = 25 ∨ j = 26 ∨ j = 27 ∨ j = 28 ∨ j = 29 ∨ j = 30 ∨ j = 31 ∨ j = 32 ∨ j = 33 ∨ j = 34 ∨ j = 35 by omega) with rfl | rfl | rfl | rfl | rfl | rfl | rfl | rfl | rfl | rfl | rfl | rfl | rfl | rfl | rfl | rfl | rfl | rfl | rfl | rfl | rfl | rfl | rfl | rfl | rfl | rfl | rfl | rfl | rfl | rfl | rfl | rfl | rfl | rfl | rfl | rfl <;> rfl) (by decide) (by decide) dL_law_8 (fun H hW => ?_)
  rw [e26]
  refine W.eq (g2 := F0 m 11 ls [.ref (ad g 26)]) rfl ?_
  refine lv_dup hx hb dL_law_11 rfl ?_
  refine R_call (va_runI (As := []) (rest := [.ref (ad g 26)]) ⟨hx, hb, hml, hown, hts⟩ (c_X7_init l g (nw m2 8 0) 26 _ hw) (cwI 0 hts gL_law_X7_init rfl rfl rfl (hts (.initialized RX7) (by decide +kernel)) (hts (.methodLink RL 12 yX7_init) (by decide +kernel)) (hts (.instanceMethod yX7_init) (by decide +kernel)) rfl (by decide +kernel) ⟨by decide, by decide⟩) (PP.pre hK hW) rfl rfl hl.1 rfl (lv_room (Nat.le_of_ble_eq_true rfl)) dL_law_12 ⟨by decide, by decide⟩) hW (fun _ m4 H locs hw hW => ?_)
  refine W.eq (g2 := F0 m 15 ls [.ref (ad g 26)]) rfl ?_
  refine lv_astore_n (lv' := [(2, .ref (ad g 26)), (1, .ref (ad g 8)), (0, .ref b)]) hx hb dL_law_15 rfl hl (by decide) rfl (fun ls hl => ?_)
  refine lv_iconst (v := (0 : Int32)) hx hb dL_law_16 (by decide) ?_
  refine lv_istore_n (lv' := [(3, .int (0 : Int32)), (2, .ref (ad g 26)), (1, .ref (ad g 8)), (0, .ref b)]) hx hb dL_law_17 rfl hl (by decide) rfl (fun ls hl => ?_)
  exact law_loop hL C1 hK hg I hI (L + 1) 0 0 m4 (0 : Int32) hw (by omega) (by omega) rfl (by omega) _ _ _ hW (lv_sub hl [3, 2, 1, 0] rfl)
