section ROWS2
variable {p : Program} {l : Launch} {e : Env} {R : Room} {s : State} {m : MethodId} {args : Array Value} {below : List Frame} {meth : Method} {c : Code} {H : Heap} {locs : List Loc} {cells slots : Nat} {Q : State → Prop}
variable {cc : ByteArray} {pc : Nat} {ls : Array Slot} {rest : List Value} {g : Gv} {mm : Mm}
theorem R_putI {own ref C : String} {T : u_T} {N ci index : Nat} {Ts : List Cond} (hx : p.tables.exec = Jvm.exec) (hb : c.code = cc) (hts : ∀ w ∈ Ts, w.before args s = true) (hin : ∀ w ∈ u_ws C T N, w ∈ Ts) (ty0 : Nat → FieldType) (hty : ∀ k, k < N → parseFieldDescriptor (T k).2.2.1 = some (ty0 k)) (hnm : ∀ a, a < N → ∀ b, b < N → a ≠ b → (T a).2.1 ≠ (T b).2.1) (hown : s.vm.findClass own = some m.cls) (hK : Kk g s) (hW : Wo g mm s H locs) {k : Nat} {v : Int32} (j : Nat) (hT : mT mm k = ci) (h8 : ci ≤ 8) (hc : vwCl[ci]? = some (C, T, N)) (hj : j < N) (hlink : (Cond.fieldLink own index ref (T j).2.1 (T j).2.2.1).before args s = true)
    (hsame : ∀ x, s.fieldFound? (T j).1 (T j).2.1 (T j).2.2.1 = some x → s.fieldFound? ref (T j).2.1 (T j).2.2.1 = some x) (hfin : (T j).2.2.2 = false ∨ ((T j).2.2.2 = true ∧ meth.name = "<init>" ∧ (T j).1 = own)) (h0 : ty0 j = .int) (hl : ∀ i l p, (flr g ci i l p).length = N) (hs : ∀ i l p, (flr g ci i l p).set j (.int v) = flr g ci (upd i j v) l p)
    (hdg : decode cc pc = .ok (.putfield index, 3)) (kk : ∀ (H1 : Heap) (locs1 : List Loc), Wo g (sI mm k j v) s H1 locs1 → W p l e R s m args below meth c H1 locs1 cells slots Q (F0 m (pc + 3) ls rest)) : W p l e R s m args below meth c H locs cells slots Q (F0 m pc ls (.int v :: .ref (ad g k) :: rest)) :=
  R_put hx hb hts hin ty0 hty hnm hown hK hW hT h8 hc hj hlink hsame hfin (by rw [h0]; rfl) (by rw [h0]; rfl) (by rw [hl]; exact hj) (off_rI _ _ _) (by rw [hs]; rw [rI_I]; rfl) hdg kk
theorem R_putL {own ref C : String} {T : u_T} {N ci index : Nat} {Ts : List Cond} (hx : p.tables.exec = Jvm.exec) (hb : c.code = cc) (hts : ∀ w ∈ Ts, w.before args s = true) (hin : ∀ w ∈ u_ws C T N, w ∈ Ts) (ty0 : Nat → FieldType) (hty : ∀ k, k < N → parseFieldDescriptor (T k).2.2.1 = some (ty0 k)) (hnm : ∀ a, a < N → ∀ b, b < N → a ≠ b → (T a).2.1 ≠ (T b).2.1) (hown : s.vm.findClass own = some m.cls) (hK : Kk g s) (hW : Wo g mm s H locs) {k : Nat} {v : Int64} (j : Nat) (hT : mT mm k = ci) (h8 : ci ≤ 8) (hc : vwCl[ci]? = some (C, T, N)) (hj : j < N) (hlink : (Cond.fieldLink own index ref (T j).2.1 (T j).2.2.1).before args s = true)
    (hsame : ∀ x, s.fieldFound? (T j).1 (T j).2.1 (T j).2.2.1 = some x → s.fieldFound? ref (T j).2.1 (T j).2.2.1 = some x) (hfin : (T j).2.2.2 = false ∨ ((T j).2.2.2 = true ∧ meth.name = "<init>" ∧ (T j).1 = own)) (h0 : ty0 j = .long) (hl : ∀ i l p, (flr g ci i l p).length = N) (hs : ∀ i l p, (flr g ci i l p).set j (.long v) = flr g ci i (vp_updL l j v) p)
    (hdg : decode cc pc = .ok (.putfield index, 3)) (kk : ∀ (H1 : Heap) (locs1 : List Loc), Wo g (sL mm k j v) s H1 locs1 → W p l e R s m args below meth c H1 locs1 cells slots Q (F0 m (pc + 3) ls rest)) : W p l e R s m args below meth c H locs cells slots Q (F0 m pc ls (.long v :: .ref (ad g k) :: rest)) :=
  R_put hx hb hts hin ty0 hty hnm hown hK hW hT h8 hc hj hlink hsame hfin (by rw [h0]; rfl) (by rw [h0]; rfl) (by rw [hl]; exact hj) (off_rL _ _ _) (by rw [hs]; rw [rL_L]; rfl) hdg kk
theorem R_putP {own ref C : String} {T : u_T} {N ci index : Nat} {Ts : List Cond} (hx : p.tables.exec = Jvm.exec) (hb : c.code = cc) (hts : ∀ w ∈ Ts, w.before args s = true) (hin : ∀ w ∈ u_ws C T N, w ∈ Ts) (ty0 : Nat → FieldType) (hty : ∀ k, k < N → parseFieldDescriptor (T k).2.2.1 = some (ty0 k)) (hnm : ∀ a, a < N → ∀ b, b < N → a ≠ b → (T a).2.1 ≠ (T b).2.1) (hown : s.vm.findClass own = some m.cls) (hK : Kk g s) (hW : Wo g mm s H locs) {k v : Nat} (j : Nat) (hT : mT mm k = ci) (h8 : ci ≤ 8) (hc : vwCl[ci]? = some (C, T, N)) (hj : j < N) (hlink : (Cond.fieldLink own index ref (T j).2.1 (T j).2.2.1).before args s = true)
    (hsame : ∀ x, s.fieldFound? (T j).1 (T j).2.1 (T j).2.2.1 = some x → s.fieldFound? ref (T j).2.1 (T j).2.2.1 = some x) (hfin : (T j).2.2.2 = false ∨ ((T j).2.2.2 = true ∧ meth.name = "<init>" ∧ (T j).1 = own)) (h0 : (∃ n, ty0 j = .object n) ∨ ∃ t, ty0 j = .array t) (hne : v ≠ 0) (hl : ∀ i l p, (flr g ci i l p).length = N) (hs : ∀ i l p, (flr g ci i l p).set j (rv g v) = flr g ci i l (va_up p j v))
    (hdg : decode cc pc = .ok (.putfield index, 3)) (kk : ∀ (H1 : Heap) (locs1 : List Loc), Wo g (sP mm k j v) s H1 locs1 → W p l e R s m args below meth c H1 locs1 cells slots Q (F0 m (pc + 3) ls rest)) : W p l e R s m args below meth c H locs cells slots Q (F0 m pc ls (.ref (ad g v) :: .ref (ad g k) :: rest)) := by
  have e0 := rv_pos g hne
  refine R_put hx hb hts hin ty0 hty hnm hown hK hW hT h8 hc hj hlink hsame hfin ?_ ?_ (by rw [hl]; exact hj) (off_rP _ _ _) (by rw [← e0, hs]; rw [rP_P]; rfl) hdg kk
  · rcases h0 with ⟨n, h⟩ | ⟨t, h⟩ <;> rw [h] <;> rfl
  · rcases h0 with ⟨n, h⟩ | ⟨t, h⟩ <;> rw [h] <;> rfl
theorem R_iald (hx : p.tables.exec = Jvm.exec) (hb : c.code = cc) (hK : Kk g s) (hW : Wo g mm s H locs) {k : Nat} {i : Int32} (hT : mT mm k = 9) (hin : vp_in i (mN mm k)) (hdg : decode cc pc = .ok (.iaload, 1))
    (kk : W p l e R s m args below meth c H locs cells slots Q (F0 m (pc + 1) ls (.int (mI mm k i.toNatClampNeg) :: rest))) : W p l e R s m args below meth c H locs cells slots Q (F0 m pc ls (.int i :: .ref (ad g k) :: rest)) := by
  obtain ⟨a1, a2⟩ := hW.1.key hT (by omega)
  have he := wl_get g mm a1 a2
  rw [celm, hT, cel_9] at he
  exact va_iald hx hb hK.1 (wl_P hW.1) (k - 8) 0 he rfl hin hdg kk
theorem R_lald (hx : p.tables.exec = Jvm.exec) (hb : c.code = cc) (hK : Kk g s) (hW : Wo g mm s H locs) {k : Nat} {i : Int32} (hT : mT mm k = 10) (hin : vp_in i (mN mm k)) (hdg : decode cc pc = .ok (.laload, 1))
    (kk : W p l e R s m args below meth c H locs cells slots Q (F0 m (pc + 1) ls (.long (mL mm k i.toNatClampNeg) :: rest))) : W p l e R s m args below meth c H locs cells slots Q (F0 m pc ls (.int i :: .ref (ad g k) :: rest)) := by
  obtain ⟨a1, a2⟩ := hW.1.key hT (by omega)
  have he := wl_get g mm a1 a2
  rw [celm, hT, cel_10] at he
  exact va_lald hx hb hK.1 (wl_P hW.1) (k - 8) 1 he rfl hin hdg kk
theorem R_bald (hx : p.tables.exec = Jvm.exec) (hb : c.code = cc) (hK : Kk g s) (hW : Wo g mm s H locs) {k : Nat} {i : Int32} (hT : mT mm k = 11) (hin : vp_in i (mN mm k)) (hdg : decode cc pc = .ok (.baload, 1))
    (kk : W p l e R s m args below meth c H locs cells slots Q (F0 m (pc + 1) ls (.int (mI mm k i.toNatClampNeg) :: rest))) : W p l e R s m args below meth c H locs cells slots Q (F0 m pc ls (.int i :: .ref (ad g k) :: rest)) := by
  obtain ⟨a1, a2⟩ := hW.1.key hT (by omega)
  have he := wl_get g mm a1 a2
  rw [celm, hT, cel_11] at he
  exact va_bald hx hb hK.1 (wl_P hW.1) (k - 8) 2 he rfl hin hdg kk
/-- the static arrays -/
theorem R_sald (hx : p.tables.exec = Jvm.exec) (hb : c.code = cc) {k : Nat} {nm : String} (hZ : Kst g s k nm) (h3 : 3 ≤ k) (h6 : k ≤ 6) (hW : Wo g mm s H locs) {i : Int32} (hin : vp_in i (mN mm k)) (hdg : decode cc pc = .ok (.iaload, 1))
    (kk : W p l e R s m args below meth c H locs cells slots Q (F0 m (pc + 1) ls (.int (mI mm k i.toNatClampNeg) :: rest))) : W p l e R s m args below meth c H locs cells slots Q (F0 m pc ls (.int i :: .ref (ad g k) :: rest)) := by
  obtain ⟨n6, eI⟩ := hW.1.2.2.2.2.2.1 k h3 h6
  rw [n6] at hin
  refine va_ti hx hb hZ.2 hW.2 hin (v := .int (mI mm k i.toNatClampNeg)) ?_ hdg kk
  rw [eI]
theorem R_gets (hx : p.tables.exec = Jvm.exec) (hb : c.code = cc) {k : Nat} {nm own : String} {index : Nat} (hZ : Kst g s k nm) (hW : Wo g mm s H locs) (hown : s.vm.findClass own = some m.cls) (hlink : (Cond.fieldLink own index "BoatLift$Law" nm "[I").before args s = true) (hdg : decode cc pc = .ok (.getstatic index, 3))
    (kk : W p l e R s m args below meth c H locs cells slots Q (F0 m (pc + 3) ls (.ref (ad g k) :: rest))) : W p l e R s m args below meth c H locs cells slots Q (F0 m pc ls rest) := va_gets hx hb hZ.1 hW.2 hown hlink (fun _ h => h) hdg kk
theorem R_alen (hx : p.tables.exec = Jvm.exec) (hb : c.code = cc) (hK : Kk g s) (hW : Wo g mm s H locs) {k t : Nat} (hT : mT mm k = t) (h9 : 9 ≤ t) (h11 : t ≤ 11) (hdg : decode cc pc = .ok (.arraylength, 1))
    (kk : W p l e R s m args below meth c H locs cells slots Q (F0 m (pc + 1) ls (.int (nI (mN mm k)) :: rest))) : W p l e R s m args below meth c H locs cells slots Q (F0 m pc ls (.ref (ad g k) :: rest)) := by
  obtain ⟨a1, a2⟩ := hW.1.key hT (by omega)
  have he := wl_get g mm a1 a2
  rw [celm, hT] at he
  rcases (show t = 9 ∨ t = 10 ∨ t = 11 by omega) with rfl | rfl | rfl
  · rw [cel_9] at he
    exact va_alen hx hb hK.1 (wl_P hW.1) (k - 8) 0 he rfl rfl hdg kk
  · rw [cel_10] at he
    exact va_alen hx hb hK.1 (wl_P hW.1) (k - 8) 1 he rfl rfl hdg kk
  · rw [cel_11] at he
    exact va_alen hx hb hK.1 (wl_P hW.1) (k - 8) 2 he rfl rfl hdg kk
/-- behind a store into an array -/
theorem R_row {k : Nat} {m2 : Mm} {i : Nat} (hW : Wo g mm s H locs) (h8 : 8 ≤ k) (hk : k < mS mm) (ho : Off mm m2 k) {H1 : Heap} (z : H1.size = H.size) (oq : ∀ q, q ≠ ad g k → H1[q]? = H[q]?) (hc : va_at g.1 vwCl (ad g k, celm g m2 k) H1) : Wo g m2 s H1 (locs ++ [⟨ad g k, i⟩]) :=
  ⟨hW.1.put h8 hk ho z oq hc, hW.2.put z oq (by show g.2 4 ≤ ad g k; rw [ad_ge g h8]; exact Nat.le_add_right _ _)⟩
theorem R_iast (hx : p.tables.exec = Jvm.exec) (hb : c.code = cc) (hK : Kk g s) (hW : Wo g mm s H locs) {k : Nat} {i x : Int32} (hT : mT mm k = 9) (hin : vp_in i (mN mm k)) (hdg : decode cc pc = .ok (.iastore, 1))
    (kk : ∀ (H1 : Heap) (locs1 : List Loc), Wo g (sI mm k i.toNatClampNeg x) s H1 locs1 → W p l e R s m args below meth c H1 locs1 cells slots Q (F0 m (pc + 1) ls rest)) : W p l e R s m args below meth c H locs cells slots Q (F0 m pc ls (.int x :: .int i :: .ref (ad g k) :: rest)) := by
  obtain ⟨a1, a2⟩ := hW.1.key hT (by omega)
  have hat := (hW.1.2.2.2.2.2.2 k a1 a2).2
  rw [celm, hT, cel_9] at hat
  have hat : H[ad g k]? = some (vp_cell (g.2 0) (mN mm k, .inl (mI mm k))) := hat
  refine W.iast hx hb hat ((hK.1.2 0 _ rfl).1 (mN mm k) (fun j => .int (mI mm k j))) (fun q => by cases q) (by show ¬ (i < 0 ∨ (arrV _ _ _).slots.size ≤ _); rw [arrV_size]; exact hin) rfl rfl hdg fun H1 e z oq => ?_
  refine kk H1 _ (R_row hW a1 a2 (off_rI _ _ _) z oq ?_)
  rw [celm, (off_rI mm k (upd (mI mm k) i.toNatClampNeg x)).2.1, (off_rI mm k (upd (mI mm k) i.toNatClampNeg x)).2.2.1, hT, cel_9, rI_I]
  show H1[ad g k]? = some (vp_cell _ _)
  rw [e, vp_cell_i, vp_cell_i, arrV_store]
  congr 2
  funext q
  by_cases hq : q = i.toNatClampNeg
  · subst hq
    simp [updV, upd]
  · simp [updV, upd, hq]
theorem R_last (hx : p.tables.exec = Jvm.exec) (hb : c.code = cc) (hK : Kk g s) (hW : Wo g mm s H locs) {k : Nat} {i : Int32} {x : Int64} (hT : mT mm k = 10) (hin : vp_in i (mN mm k)) (hdg : decode cc pc = .ok (.lastore, 1))
    (kk : ∀ (H1 : Heap) (locs1 : List Loc), Wo g (sL mm k i.toNatClampNeg x) s H1 locs1 → W p l e R s m args below meth c H1 locs1 cells slots Q (F0 m (pc + 1) ls rest)) : W p l e R s m args below meth c H locs cells slots Q (F0 m pc ls (.long x :: .int i :: .ref (ad g k) :: rest)) := by
  obtain ⟨a1, a2⟩ := hW.1.key hT (by omega)
  have hat := (hW.1.2.2.2.2.2.2 k a1 a2).2
  rw [celm, hT, cel_10] at hat
  have hat : H[ad g k]? = some (vp_cell (g.2 1) (mN mm k, .inr (.inl (mL mm k)))) := hat
  refine W.last hx hb hat ((hK.1.2 1 _ rfl).1 (mN mm k) (fun j => .long (mL mm k j))) (fun q => by cases q) (by show ¬ (i < 0 ∨ (arrV _ _ _).slots.size ≤ _); rw [arrV_size]; exact hin) rfl rfl hdg fun H1 e z oq => ?_
  refine kk H1 _ (R_row hW a1 a2 (off_rL _ _ _) z oq ?_)
  rw [celm, (off_rL mm k (vp_updL (mL mm k) i.toNatClampNeg x)).2.1, (off_rL mm k (vp_updL (mL mm k) i.toNatClampNeg x)).2.2.1, hT, cel_10, rL_L]
  show H1[ad g k]? = some (vp_cell _ _)
  rw [e, vp_cell_l, vp_cell_l, arrV_store]
  congr 2
  funext q
  by_cases hq : q = i.toNatClampNeg
  · subst hq
    simp [updV, vp_updL]
  · simp [updV, vp_updL, hq]
/-- an int that a byte holds is stored as it is -/
theorem R_bast (hx : p.tables.exec = Jvm.exec) (hb : c.code = cc) (hK : Kk g s) (hW : Wo g mm s H locs) {k : Nat} {i x : Int32} (hT : mT mm k = 11) (hin : vp_in i (mN mm k)) (hn : x.toInt8.toInt32 = x) (hdg : decode cc pc = .ok (.bastore, 1))
    (kk : ∀ (H1 : Heap) (locs1 : List Loc), Wo g (sI mm k i.toNatClampNeg x) s H1 locs1 → W p l e R s m args below meth c H1 locs1 cells slots Q (F0 m (pc + 1) ls rest)) : W p l e R s m args below meth c H locs cells slots Q (F0 m pc ls (.int x :: .int i :: .ref (ad g k) :: rest)) := by
  obtain ⟨a1, a2⟩ := hW.1.key hT (by omega)
  have hat := (hW.1.2.2.2.2.2.2 k a1 a2).2
  rw [celm, hT, cel_11] at hat
  have hat : H[ad g k]? = some (vp_cell (g.2 2) (mN mm k, .inl (mI mm k))) := hat
  refine W.bast hx hb hat ((hK.1.2 2 _ rfl).1 (mN mm k) (fun j => .int (mI mm k j))) (fun q => by cases q) (by show ¬ (i < 0 ∨ (arrV _ _ _).slots.size ≤ _); rw [arrV_size]; exact hin) rfl rfl hdg fun H1 e z oq => ?_
  refine kk H1 _ (R_row hW a1 a2 (off_rI _ _ _) z oq ?_)
  rw [celm, (off_rI mm k (upd (mI mm k) i.toNatClampNeg x)).2.1, (off_rI mm k (upd (mI mm k) i.toNatClampNeg x)).2.2.1, hT, cel_11, rI_I]
  show H1[ad g k]? = some (vp_cell _ _)
  rw [e, vp_cell_i, vp_cell_i, arrV_store]
  congr 2
  funext q
  by_cases hq : q = i.toNatClampNeg
  · subst hq
    simp [updV, upd]
    have h1 := pk_nb x
    rw [hn] at h1
    exact h1
  · simp [updV, upd, hq]
/-- a new object -/
theorem R_new {own C : String} {T : u_T} {N ci index : Nat} {Ts : List Cond} (hx : p.tables.exec = Jvm.exec) (hb : c.code = cc) (hts : ∀ w ∈ Ts, w.before args s = true) (hin : ∀ w ∈ u_ws C T N, w ∈ Ts) (ty : Nat → FieldType) (hty : ∀ k, k < N → parseFieldDescriptor (T k).2.2.1 = some (ty k)) (hown : s.vm.findClass own = some m.cls) (hcl : (Cond.classLink own index C).before args s = true) (hinst : (Cond.instantiable C N).before args s = true) (hini : (Cond.initialized C).before args s = true)
    (hK : Kk g s) (hW : Wo g mm s H locs) (h8 : ci ≤ 8) (hc : vwCl[ci]? = some (C, T, N)) (hfs : ∀ j, j < N → defaultValue (ty j) = vp_V (flr g ci (fun _ => 0) (fun _ => 0) (fun _ => 0)) j) (hcells : cells + 1 ≤ R.cells) (hslots : slots + N ≤ R.slots) (hdg : decode cc pc = .ok (.new index, 3))
    (kk : ∀ (H1 : Heap), Wo g (nw mm ci 0) s H1 locs → W p l e R s m args below meth c H1 locs (cells + 1) (slots + N) Q (F0 m (pc + 3) ls (.ref (ad g (mS mm)) :: rest))) : W p l e R s m args below meth c H locs cells slots Q (F0 m pc ls rest) := by
  have hKn := hK.1.1 ci _ hc
  have ea : ad g (mS mm) = H.size := by rw [ad_ge g hW.1.1, hW.1.2.1]
  refine W.newcK hx hb hown hcl hinst hini rfl hdg hcells hslots hKn.2.1 rfl fun H1 kC hkC e1 z1 o1 => ?_
  have h := kk H1 ⟨hW.1.new (by omega) z1 o1 (by rw [cel_o h8]; exact ⟨_, hc, (u_born ty hts hin hKn hkC e1 hty).to hfs⟩), ⟨Nat.le_trans hW.2.1 (by omega), fun x h1 h2 => (o1 x (Nat.lt_of_lt_of_le h1 hW.2.1)).trans (hW.2.2.1 x h1 h2), hW.2.2.2⟩⟩
  rw [ea] at h
  exact h
/-- a new array of numbers: kind t -/
theorem R_newa {atype : ArrayType} {ty : FieldType} {t t0 : Nat} (hx : p.tables.exec = Jvm.exec) (hb : c.code = cc) (harr : (Cond.arrayClass (newarray.typeOf atype)).before args s = true) (hty : newarray.typeOf atype = ty) (hK : Kk g s) (hW : Wo g mm s H locs) {n : Int32} (N' : Nat) (ht : t ≤ 12) (ht0 : (tys g)[t0]? = some (g.2 t0, ty)) (hra : ∀ cA U, va_RA U cA ty → U.vm.findClass ("[" ++ ty.toString) = some cA)
    (ha : ∃ a0 : vp_A, cel g t N' (fun _ => 0) (fun _ => 0) (fun _ => 0) = .inl (g.2 t0, a0) ∧ vp_cell (g.2 t0) a0 = arrV (g.2 t0) N' (fun _ => defaultValue ty)) (hn : ¬ n < 0) (hN : n.toNatClampNeg = N') (hbytes : N' * componentBytes ty ≤ 536870912) (hcells : cells + 1 ≤ R.cells) (hslots : slots + N' ≤ R.slots) (hdg : decode cc pc = .ok (.newarray atype, 2))
    (kk : ∀ (H1 : Heap), Wo g (nw mm t N') s H1 locs → W p l e R s m args below meth c H1 locs (cells + 1) (slots + N') Q (F0 m (pc + 2) ls (.ref (ad g (mS mm)) :: rest))) : W p l e R s m args below meth c H locs cells slots Q (F0 m pc ls (.int n :: rest)) := by
  subst hty
  have ea : ad g (mS mm) = H.size := by rw [ad_ge g hW.1.1, hW.1.2.1]
  refine va_newaK hx hb harr rfl hdg rfl hn hN hbytes hcells hslots rfl fun H1 cA e1 z1 o1 hAr hNm => ?_
  have ec : g.2 t0 = cA := Option.some.inj ((hra _ _ (hK.1.2 t0 _ ht0).2).symm.trans hNm)
  obtain ⟨a0, c1, c2⟩ := ha
  have h := kk H1 ⟨hW.1.new ht z1 o1 (by rw [c1]; show H1[H.size]? = some (vp_cell _ _); rw [c2, ec]; exact e1), ⟨Nat.le_trans hW.2.1 (by omega), fun x h1 h2 => (o1 x (Nat.lt_of_lt_of_le h1 hW.2.1)).trans (hW.2.2.1 x h1 h2), hW.2.2.2⟩⟩
  rw [ea] at h
  exact h
theorem R_newI (hx : p.tables.exec = Jvm.exec) (hb : c.code = cc) (harr : (Cond.arrayClass .int).before args s = true) (hK : Kk g s) (hW : Wo g mm s H locs) {n : Int32} (N' : Nat) (hn : ¬ n < 0) (hN : n.toNatClampNeg = N') (hbytes : N' * 4 ≤ 536870912) (hcells : cells + 1 ≤ R.cells) (hslots : slots + N' ≤ R.slots) (hdg : decode cc pc = .ok (.newarray .int, 2))
    (kk : ∀ (H1 : Heap), Wo g (nw mm 9 N') s H1 locs → W p l e R s m args below meth c H1 locs (cells + 1) (slots + N') Q (F0 m (pc + 2) ls (.ref (ad g (mS mm)) :: rest))) : W p l e R s m args below meth c H locs cells slots Q (F0 m pc ls (.int n :: rest)) :=
  R_newa (atype := .int) (ty := .int) (t := 9) (t0 := 0) hx hb harr rfl hK hW N' (by omega) rfl (fun _ _ h => h) ⟨_, rfl, rfl⟩ hn hN hbytes hcells hslots hdg kk
theorem R_newJ (hx : p.tables.exec = Jvm.exec) (hb : c.code = cc) (harr : (Cond.arrayClass .long).before args s = true) (hK : Kk g s) (hW : Wo g mm s H locs) {n : Int32} (N' : Nat) (hn : ¬ n < 0) (hN : n.toNatClampNeg = N') (hbytes : N' * 8 ≤ 536870912) (hcells : cells + 1 ≤ R.cells) (hslots : slots + N' ≤ R.slots) (hdg : decode cc pc = .ok (.newarray .long, 2))
    (kk : ∀ (H1 : Heap), Wo g (nw mm 10 N') s H1 locs → W p l e R s m args below meth c H1 locs (cells + 1) (slots + N') Q (F0 m (pc + 2) ls (.ref (ad g (mS mm)) :: rest))) : W p l e R s m args below meth c H locs cells slots Q (F0 m pc ls (.int n :: rest)) :=
  R_newa (atype := .long) (ty := .long) (t := 10) (t0 := 1) hx hb harr rfl hK hW N' (by omega) rfl (fun _ _ h => h) ⟨_, rfl, rfl⟩ hn hN hbytes hcells hslots hdg kk
theorem R_newB (hx : p.tables.exec = Jvm.exec) (hb : c.code = cc) (harr : (Cond.arrayClass .byte).before args s = true) (hK : Kk g s) (hW : Wo g mm s H locs) {n : Int32} (N' : Nat) (hn : ¬ n < 0) (hN : n.toNatClampNeg = N') (hbytes : N' * 1 ≤ 536870912) (hcells : cells + 1 ≤ R.cells) (hslots : slots + N' ≤ R.slots) (hdg : decode cc pc = .ok (.newarray .byte, 2))
    (kk : ∀ (H1 : Heap), Wo g (nw mm 11 N') s H1 locs → W p l e R s m args below meth c H1 locs (cells + 1) (slots + N') Q (F0 m (pc + 2) ls (.ref (ad g (mS mm)) :: rest))) : W p l e R s m args below meth c H locs cells slots Q (F0 m pc ls (.int n :: rest)) :=
  R_newa (atype := .byte) (ty := .byte) (t := 11) (t0 := 2) hx hb harr rfl hK hW N' (by omega) rfl (fun _ _ h => h) ⟨_, rfl, rfl⟩ hn hN hbytes hcells hslots hdg kk
/-- behind a call of a method with a contract -/
theorem R_call {ρ : Type} {vf : ρ → Option Value} {Φ : ρ → Mm → Prop} {st0 : List Value} {a : Array Value} {mc ms : Nat} (hr : va_Run p l e R s m args below meth c H locs cells slots mc ms (F0 m pc ls st0) rest (QQ g vf Φ a) (Ag g)) (hW : Wo g mm s H locs)
    (kk : ∀ (r : ρ) (u : Mm) (H1 : Heap) (locs1 : List Loc), Φ r u → Wo g u s H1 locs1 → W p l e R s m args below meth c H1 locs1 (cells + mc) (slots + ms) Q (F0 m (pc + 3) ls ((vf r).toList ++ rest))) : W p l e R s m args below meth c H locs cells slots Q (F0 m pc ls st0) := by
  intro T hT X
  obtain ⟨v, st₀, t, T', L, h0, X', hL, e1, e2, ⟨⟨r, u, hv, hp, hb⟩, hz, hk⟩, st⟩ := hr T hT X
  cases hv
  rw [h0] at hz hk
  obtain ⟨t2, a1, b1⟩ := kk r u T'.heap (locs ++ L) hp ⟨by rw [e1]; exact hb, ⟨Nat.le_trans hW.2.1 (by rw [e1]; exact hz), fun q h1 h2 => by rw [e1, hk q (Nat.lt_of_lt_of_le h1 hW.2.1) h2]; exact hW.2.2.1 q h1 h2, fun q hq => by
      rcases List.mem_append.mp hq with h | h
      · exact hW.2.2.2 q h
      · exact hL q h⟩⟩ T' rfl X'
  exact ⟨t2, st t2 a1, b1⟩
theorem R_call5 {ρ : Type} {vf : ρ → Option Value} {Φ : ρ → Mm → Prop} {st0 : List Value} {a : Array Value} {mc ms : Nat} (hr : va_Run5 p l e R s m args below meth c H locs cells slots mc ms (F0 m pc ls st0) rest (QQ g vf Φ a) (Ag g)) (hW : Wo g mm s H locs)
    (kk : ∀ (r : ρ) (u : Mm) (H1 : Heap) (locs1 : List Loc), Φ r u → Wo g u s H1 locs1 → W p l e R s m args below meth c H1 locs1 (cells + mc) (slots + ms) Q (F0 m (pc + 5) ls ((vf r).toList ++ rest))) : W p l e R s m args below meth c H locs cells slots Q (F0 m pc ls st0) := by
  intro T hT X
  obtain ⟨v, st₀, t, T', L, h0, X', hL, e1, e2, ⟨⟨r, u, hv, hp, hb⟩, hz, hk⟩, st⟩ := hr T hT X
  cases hv
  rw [h0] at hz hk
  obtain ⟨t2, a1, b1⟩ := kk r u T'.heap (locs ++ L) hp ⟨by rw [e1]; exact hb, ⟨Nat.le_trans hW.2.1 (by rw [e1]; exact hz), fun q h1 h2 => by rw [e1, hk q (Nat.lt_of_lt_of_le h1 hW.2.1) h2]; exact hW.2.2.1 q h1 h2, fun q hq => by
      rcases List.mem_append.mp hq with h | h
      · exact hW.2.2.2 q h
      · exact hL q h⟩⟩ T' rfl X'
  exact ⟨t2, st t2 a1, b1⟩
/-- the receiver of a call -/
theorem R_recv {k ci : Nat} {q : vw_C} (hK : Kk g s) (hW : Wo g mm s H locs) (hT : mT mm k = ci) (h8 : ci ≤ 8) (hc : vwCl[ci]? = some q) : ∃ cell : Cell, H[ad g k]? = some cell ∧ cell.vm.isStatics = false ∧ s.vm.findClass q.1 = some cell.cls := by
  obtain ⟨a1, a2⟩ := hW.1.key hT (by omega)
  have he := wl_get g mm a1 a2
  rw [celm, hT, cel_o h8] at he
  exact va_recv hK.1 (wl_P hW.1) hc he
theorem PP.preV {k ci : Nat} {q : vw_C} {As : List Value} (hK : Kk g s) (hW : Wo g mm s H locs) (hT : mT mm k = ci) (h8 : ci ≤ 8) (hc : vwCl[ci]? = some q) : PreV s H q.1 (ad g k) (PP g (.ref (ad g k) :: As) mm) As :=
  ⟨PP.blind g _ mm, R_recv hK hW hT h8 hc, (PP.pre hK hW).2⟩
theorem R_iret {v : Int32} {Φ : Int32 → Mm → Prop} (hx : p.tables.exec = Jvm.exec) (hb : c.code = cc) (hr : meth.sig.returnType = some .int) (hlk : meth.locks = false) (hW : Wo g mm s H locs) (hΦ : Φ v mm) (hdg : decode cc pc = .ok (.ireturn, 1)) : W p l e R s m args below meth c H locs cells slots (MQ below (QQ g vI Φ) args s cells slots (Ag g)) (F0 m pc ls [.int v]) :=
  W.iret hx hb hr (fun t ht _ => ⟨⟨v, mm, rfl, hΦ, by rw [ht]; exact hW.1⟩, hW.2.F ht⟩) hW.2.2.2 hdg hlk
theorem R_zret {v : Int32} {Φ : Int32 → Mm → Prop} (hx : p.tables.exec = Jvm.exec) (hb : c.code = cc) (hr : meth.sig.returnType = some .boolean) (hlk : meth.locks = false) (hW : Wo g mm s H locs) (hv : v = 0 ∨ v = 1) (hΦ : Φ v mm) (hdg : decode cc pc = .ok (.ireturn, 1)) : W p l e R s m args below meth c H locs cells slots (MQ below (QQ g vI Φ) args s cells slots (Ag g)) (F0 m pc ls [.int v]) :=
  W.zret hx hb hr (by rcases hv with rfl | rfl <;> rfl) (fun t ht _ => ⟨⟨v, mm, rfl, hΦ, by rw [ht]; exact hW.1⟩, hW.2.F ht⟩) hW.2.2.2 hdg hlk
theorem R_lret {v : Int64} {Φ : Int64 → Mm → Prop} (hx : p.tables.exec = Jvm.exec) (hb : c.code = cc) (hr : meth.sig.returnType = some .long) (hlk : meth.locks = false) (hW : Wo g mm s H locs) (hΦ : Φ v mm) (hdg : decode cc pc = .ok (.lreturn, 1)) : W p l e R s m args below meth c H locs cells slots (MQ below (QQ g vL Φ) args s cells slots (Ag g)) (F0 m pc ls [.long v]) :=
  W.lret hx hb hr (fun t ht _ => ⟨⟨v, mm, rfl, hΦ, by rw [ht]; exact hW.1⟩, hW.2.F ht⟩) hW.2.2.2 hdg hlk
theorem R_vret {Φ : Unit → Mm → Prop} (hx : p.tables.exec = Jvm.exec) (hb : c.code = cc) (hr : meth.sig.returnType = none) (hlk : meth.locks = false) (hW : Wo g mm s H locs) (hΦ : Φ () mm) (hdg : decode cc pc = .ok (.return_, 1)) : W p l e R s m args below meth c H locs cells slots (MQ below (QQ g vV Φ) args s cells slots (Ag g)) (F0 m pc ls []) :=
  W.vret hx hb hr (fun t ht _ => ⟨⟨(), mm, rfl, hΦ, by rw [ht]; exact hW.1⟩, hW.2.F ht⟩) hW.2.2.2 hdg hlk
theorem R_aret {v : Nat} {rt : FieldType} {Φ : Nat → Mm → Prop} (hx : p.tables.exec = Jvm.exec) (hb : c.code = cc) (hr : meth.sig.returnType = some rt) (hrt : (∃ n, rt = .object n) ∨ ∃ t, rt = .array t) (hlk : meth.locks = false) (hW : Wo g mm s H locs) (hΦ : Φ v mm) (hdg : decode cc pc = .ok (.areturn, 1)) : W p l e R s m args below meth c H locs cells slots (MQ below (QQ g (vR g) Φ) args s cells slots (Ag g)) (F0 m pc ls [.ref (ad g v)]) :=
  W.aret hx hb hr hrt (Or.inr ⟨_, rfl⟩) (fun t ht _ => ⟨⟨v, mm, rfl, hΦ, by rw [ht]; exact hW.1⟩, hW.2.F ht⟩) hW.2.2.2 hdg hlk
end ROWS2
/-- a walk from a place of the method on, whatever the heap and the frame's array -/
def WW (p : Program) (l : Launch) (e : Env) (R : Room) (s : State) (m : MethodId) (args : Array Value) (below : List Frame) (meth : Method) (c : Code) (Q : State → Prop) (g : Gv) (mm : Mm) (nL cells slots pc : Nat) (lv : List (Nat × Value)) (st : List Value) : Prop :=
  ∀ (H : Heap) (locs : List Loc) (ls : Array Slot), Wo g mm s H locs → lv_has ls nL lv → W p l e R s m args below meth c H locs cells slots Q (F0 m pc ls st)
/-- a loop: its body once, and so on, at most n times -/
def LOp {α : Type} (B : (α → Prop) → α → Prop) : Nat → α → Prop
  | 0, _ => False
  | n + 1, x => B (LOp B n) x
theorem LOp_of {α : Type} {B : (α → Prop) → α → Prop} (I : α → Prop) (μ : α → Nat) (hs : ∀ x, I x → ∀ K : α → Prop, (∀ y, I y → μ y < μ x → K y) → B K x) {x : α} (hx : I x) : ∃ n, LOp B n x := by
  have key : ∀ n x, I x → μ x < n → LOp B n x := by
    intro n
    induction n with
    | zero => intro x _ h; exact absurd h (Nat.not_lt_zero _)
    | succ n ih => intro x hx h; exact hs x hx _ (fun y hy hlt => ih y hy (by omega))
  exact ⟨_, key (μ x + 1) x hx (Nat.lt_succ_self _)⟩
