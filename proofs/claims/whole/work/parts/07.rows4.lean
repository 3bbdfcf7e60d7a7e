section ROWS4
variable {p : Program} {l : Launch} {e : Env} {R : Room} {s : State} {m : MethodId} {args : Array Value} {below : List Frame} {meth : Method} {c : Code} {H : Heap} {locs : List Loc} {cells slots : Nat} {Q : State → Prop}
variable {cc : ByteArray} {pc : Nat} {ls : Array Slot} {rest : List Value} {g : Gv} {mm : Mm}
/-- one cell has come, with any contents -/
theorem Mem.newG {g : Gv} {m m2 : Mm} {H H1 : Heap} (h : Mem g m H) (eS : mS m2 = mS m + 1) (hj : ∀ j, j ≠ mS m → mT m2 j = mT m j ∧ mN m2 j = mN m j ∧ mI m2 j = mI m j ∧ mL m2 j = mL m j ∧ mP m2 j = mP m j) (hT : mT m2 (mS m) ≤ 12) (z : H1.size = H.size + 1) (oq : ∀ q, q < H.size → H1[q]? = H[q]?) (hc : va_at g.1 vwCl (H.size, celm g m2 (mS m)) H1) : Mem g m2 H1 := by
  obtain ⟨a1, a2, a3, a4, a5, a6, a7⟩ := h
  refine ⟨by rw [eS]; omega, by rw [z, a2, eS]; omega, fun j h => by rw [(hj j (by omega)).1]; exact a3 j h, fun j h => by rw [eS] at h; rw [(hj j (by omega)).1]; exact a4 j (by omega), by rw [(hj 1 (by omega)).2.1]; exact a5, fun j h3 h6 => ?_, fun j h8 h => ?_⟩
  · rw [(hj j (by omega)).2.1, (hj j (by omega)).2.2.1]
    exact a6 j h3 h6
  · rw [eS] at h
    by_cases e : j = mS m
    · subst e
      refine ⟨hT, ?_⟩
      rw [ad_ge g a1, ← a2]
      exact hc
    · have hj' : j < mS m := by omega
      obtain ⟨b1, b2, b3, b4, b5⟩ := hj j e
      refine ⟨by rw [b1]; exact (a7 j h8 hj').1, ?_⟩
      unfold celm
      rw [b1, b2, b3, b4, b5]
      have := (a7 j h8 hj').2
      exact this.kept (oq _ this.lt)
theorem R_castI {own : String} {index k : Nat} (hx : p.tables.exec = Jvm.exec) (hb : c.code = cc) (hown : s.vm.findClass own = some m.cls) (hlink : (Cond.classLink own index "[I").before args s = true) (hK : Kk g s) (hW : Wo g mm s H locs) (hT : mT mm k = 9) (hdg : decode cc pc = .ok (.checkcast index, 3))
    (kk : W p l e R s m args below meth c H locs cells slots Q (F0 m (pc + 3) ls (.ref (ad g k) :: rest))) : W p l e R s m args below meth c H locs cells slots Q (F0 m pc ls (.ref (ad g k) :: rest)) := by
  obtain ⟨a1, a2⟩ := hW.1.key hT (by omega)
  have he := wl_get g mm a1 a2
  rw [celm, hT, cel_9] at he
  exact va_castA hx hb hown hlink (wl_P hW.1) (k - 8) he (hK.1.2 0 _ rfl).2 hdg kk
/-- FIRST.clone() -/
theorem R_cloneF {own : String} {index : Nat} (hx : p.tables.exec = Jvm.exec) (hb : c.code = cc) (hml : c.maxLocals = ls.size) (hown : s.vm.findClass own = some m.cls)
    (hlink : (Cond.methodLink own index ⟨"[I", "clone", "()Ljava/lang/Object;"⟩).before args s = true) (hsame : (Cond.sameMethod "[I" "java/lang/Object" "clone" "()Ljava/lang/Object;").before args s = true)
    (hnat : (Cond.native ⟨"java/lang/Object", "clone", "()Ljava/lang/Object;"⟩).before args s = true) (hinst : (Cond.instanceMethod ⟨"java/lang/Object", "clone", "()Ljava/lang/Object;"⟩).before args s = true)
    (hsel : (Cond.selects "[I" ⟨"[I", "clone", "()Ljava/lang/Object;"⟩ ⟨"java/lang/Object", "clone", "()Ljava/lang/Object;"⟩).before args s = true) (hK : Kk g s) (hW : Wo g mm s H locs)
    (hframes : 1 ≤ R.frames) (hlocals : (rest.map fun v => v.category).sum + 14 ≤ R.locals) (hcells : cells + 1 ≤ R.cells) (hslots : slots + 6 ≤ R.slots) (hdg : decode cc pc = .ok (.invokevirtual index, 3))
    (kk : ∀ (H1 : Heap), Wo g (rI (nw mm 9 6) (mS mm) (mI mm 3)) s H1 locs → W p l e R s m args below meth c H1 locs (cells + 1) (slots + 6) Q (F0 m (pc + 3) ls (.ref (ad g (mS mm)) :: rest))) : W p l e R s m args below meth c H locs cells slots Q (F0 m pc ls (.ref (ad g 3) :: rest)) := by
  have ea : ad g (mS mm) = H.size := by rw [ad_ge g hW.1.1, hW.1.2.1]
  obtain ⟨n6, eI⟩ := hW.1.2.2.2.2.2.1 3 (by omega) (by omega)
  obtain ⟨cell, c1, c2, c3⟩ := hK.2.1.2
  obtain ⟨cell', q1, ⟨q2a, kS, q2b, sC, q2c⟩, q3, q4, q5, q6, q7⟩ := hK.2.2.1.1.2
  cases c1.symm.trans q1
  have hsl : ad g 3 < s.heap.size := (Array.getElem?_eq_some_iff.mp c1).1
  have hcl : g.2 0 = cell.cls := Option.some.inj ((hK.1.2 0 _ rfl).2.symm.trans c3)
  obtain ⟨c0, t0', f1, f2, f3⟩ := Cond.castable_spec (va_Nw.use (A := args) rfl hK.2.2.2.2.2.2.2.2.2.2.1)
  cases c3.symm.trans f1
  have hcellE : ({ cls := cell.cls, slots := cell.slots } : Cell) = arrV (g.2 0) 6 (fun j => .int (mI mm 3 j)) := by
    rw [hcl]
    unfold arrV
    congr 1
    apply Array.ext
    · rw [c2]; simp
    · intro i h1 h2
      have := q6 i (by omega)
      rw [Array.getElem?_eq_getElem h1] at this
      rw [Option.some.inj this, eI]
      simp
  intro T hT X
  have hcellT : T.heap[ad g 3]? = some cell := by rw [hT, hW.2.2.1 _ hsl q7]; exact c1
  obtain ⟨kS', hkS', heS⟩ := X.warmed.alike.2.2 _ _ q2b
  obtain ⟨vm', X', st⟩ := X.cloneArray hx hown hlink hsame hnat hinst hsel (a := ad g 3) (cell := cell) hcellT q2a q3 c3 f2 f3
    (fun i v hv => by
      have hi : i < 6 := by have := (Array.getElem?_eq_some_iff.mp hv).1; omega
      rw [q6 i hi] at hv
      cases hv
      have hk' : kS'.kind = .array sC .int := by rw [heS]; exact q2c
      simp [State.fitsSlot, State.slotType?, hkS', hk', fits])
    (g := F0 m pc ls (.ref (ad g 3) :: rest)) rfl (by rw [hml]) rfl (by rw [hb]; exact hdg) hframes (by show 2 * 0 + _ + 14 ≤ _; omega) hcells (by rw [c2]; exact hslots) (hloader := Vm.clonesLoader_of_array q2b q2c)
  rw [hcellE, c2] at X'
  generalize hH1 : H.push (arrV (g.2 0) 6 (fun j => .int (mI mm 3 j))) = H1
  have z1 : H1.size = H.size + 1 := by rw [← hH1, Array.size_push]
  have e1 : H1[H.size]? = some (arrV (g.2 0) 6 (fun j => .int (mI mm 3 j))) := by rw [← hH1, Array.getElem?_push_size]
  have o1 : ∀ q : Nat, q < H.size → H1[q]? = H[q]? := fun q hq => by rw [← hH1, Array.getElem?_push, if_neg (Nat.ne_of_lt hq)]
  have hm2 : Mem g (rI (nw mm 9 6) (mS mm) (mI mm 3)) H1 := by
    refine hW.1.newG rfl (fun j hj => ⟨va_up_ne _ _ hj, va_up_ne _ _ hj, ?_, va_up_ne _ _ hj, va_up_ne _ _ hj⟩) ?_ z1 o1 ?_
    · exact (va_up_ne _ _ hj).trans (va_up_ne _ _ hj)
    · have : mT (rI (nw mm 9 6) (mS mm) (mI mm 3)) (mS mm) = 9 := va_up_self _ _ _
      omega
    · have t1 : mT (rI (nw mm 9 6) (mS mm) (mI mm 3)) (mS mm) = 9 := va_up_self _ _ _
      have t2 : mN (rI (nw mm 9 6) (mS mm) (mI mm 3)) (mS mm) = 6 := va_up_self _ _ _
      rw [celm, t1, t2, cel_9, rI_I]
      exact e1
  obtain ⟨t, b1, b2⟩ := kk H1 ⟨hm2, ⟨Nat.le_trans hW.2.1 (by omega), fun x h1 h2 => (o1 x (Nat.lt_of_lt_of_le h1 hW.2.1)).trans (hW.2.2.1 x h1 h2), hW.2.2.2⟩⟩ _ (by rw [← hH1, ← hT]; rfl) X'
  refine ⟨t, st t ?_, b2⟩
  rw [hcellE, hT, ← ea]
  exact b1
end ROWS4
