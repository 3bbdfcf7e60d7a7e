/-! what the launch gives at a state, and keeps -/
def Kst (g : Gv) (U : State) (k : Nat) (nm : String) : Prop := va_Z "BoatLift$Law" nm "[I" (.ref (ad g k)) (Ag g) U U.heap ∧ va_T .int (ad g k) 6 (fun j => .int ((stc k).getD j 0)) (Ag g) U U.heap
def xSz : MethodName := ⟨"java/util/List", "size", "()I"⟩
def xGt : MethodName := ⟨"java/util/List", "get", "(I)Ljava/lang/Object;"⟩
def xAd : MethodName := ⟨"java/util/List", "add", "(Ljava/lang/Object;)Z"⟩
def xAi : MethodName := ⟨"java/util/List", "add", "(ILjava/lang/Object;)V"⟩
def Kin (U : State) : Prop := va_Fw RJx4a65c xSz yJx4a65c_size_8abf5 U ∧ va_Fw RJx4a65c xGt yJx4a65c_get_915e3 U ∧ va_Fw RJx4a65c xAd yJx4a65c_add_9ea2d U ∧ va_Fw RJx4a65c xAi yJx4a65c_add_7a177 U
def Knw (U : State) : Prop := va_Nw (.methodLinkNest RX6 9 yX3_init RX6) U ∧ va_Nw (.methodLinkNest RX6 45 yX5_init RX6) U ∧ va_Nw (.methodLinkNest RX2 86 yX6_otherSide RX6) U ∧ va_Nw (.castable RX0 "java/lang/Object") U ∧ va_Nw (.castable "[I" "java/lang/Cloneable") U ∧ va_AO "java/lang/Object" U ∧ va_Dc U
/-- FIRST is exactly an int[] of six places. (The exact class is what the printed premises do not say: REPORT.md, STATEMENT 1.) -/
def Kcl (g : Gv) (U : State) : Prop := ∃ cell : Cell, U.heap[ad g 3]? = some cell ∧ cell.slots.size = 6 ∧ U.vm.findClass "[I" = some cell.cls
def Kk (g : Gv) (U : State) : Prop := va_K g.1 vwCl (tys g) U ∧ (g.2 4 ≤ U.heap.size ∧ Kcl g U) ∧ (Kst g U 3 "FIRST" ∧ Kst g U 4 "LETTER" ∧ Kst g U 5 "LEAST" ∧ Kst g U 6 "MOST") ∧ (va_Z "java/util/ArrayList" "DEFAULTCAPACITY_EMPTY_ELEMENTDATA" "[Ljava/lang/Object;" (.ref (ad g 1)) (Ag g) U U.heap ∧ va_T (.object "java/lang/Object") (ad g 1) 0 (fun _ => .null) (Ag g) U U.heap) ∧ va_Mi "[Ljava/lang/Object;" (ad g 2) U ∧ Kin U ∧ Knw U
theorem Kst.moved {g : Gv} {s U : State} {H : Heap} {locs : List Loc} {k : Nat} {nm : String} (hU : U.heap = H) (hW : s.WarmedH U.vm) (hS : va_S (Ag g) s.heap H locs) (h : Kst g s k nm) : Kst g U k nm := by
  have hq : ∀ a : Nat, a < s.heap.size → ¬ Ag g a → U.heap[a]? = s.heap[a]? := fun a h1 h2 => by rw [hU]; exact hS.2.1 a h1 h2
  exact ⟨(h.1.moved hW.alike).kept hq, (h.2.moved hW.alike).kept hq⟩
theorem Kk.moved {g : Gv} {s U : State} {H : Heap} {locs : List Loc} (hU : U.heap = H) (hW : s.WarmedH U.vm) (hS : va_S (Ag g) s.heap H locs) (h : Kk g s) : Kk g U := by
  have hq : ∀ a : Nat, a < s.heap.size → ¬ Ag g a → U.heap[a]? = s.heap[a]? := fun a h1 h2 => by rw [hU]; exact hS.2.1 a h1 h2
  obtain ⟨h1, ⟨h2, cl, c1, c2, c3⟩, ⟨h3, h4, h5, h6⟩, ⟨h7, h8⟩, h9, ⟨i1, i2, i3, i4⟩, ⟨n1, n2, n3, n4, n5, n6, n7⟩⟩ := h
  have hl : "java/util/List" ≠ "java/lang/invoke/MethodHandle" ∧ "java/util/List" ≠ "java/lang/invoke/VarHandle" := by decide
  exact ⟨h1.moved hW.alike, ⟨Nat.le_trans h2 (by rw [hU]; exact hS.1), cl, by rw [hq _ (Array.getElem?_eq_some_iff.mp c1).1 h3.2.out]; exact c1, c2, by rw [hW.alike.findClass]; exact c3⟩, ⟨h3.moved hU hW hS, h4.moved hU hW hS, h5.moved hU hW hS, h6.moved hU hW hS⟩, ⟨(h7.moved hW.alike).kept hq, (h8.moved hW.alike).kept hq⟩, h9.moved hW.alike, ⟨i1.moved hl hW.alike, i2.moved hl hW.alike, i3.moved hl hW.alike, i4.moved hl hW.alike⟩, ⟨va_Nw.warmM hW n1, va_Nw.warmM hW n2, va_Nw.warmM hW n3, va_Nw.warmC hW n4, va_Nw.warmC hW n5, n6.moved hW.alike, n7.moved hW.alike⟩⟩
/-- a contract's start and end -/
def PP (g : Gv) (As : List Value) (mm : Mm) : Array Value → State → Prop := va_Pc As (fun U => Mem g mm U.heap ∧ Kk g U)
def QQ (g : Gv) {ρ : Type} (vf : ρ → Option Value) (Φ : ρ → Mm → Prop) : Array Value → State → Outcome → State → Prop := fun _ st oc t => (∃ (r : ρ) (u : Mm), oc = .returned (vf r) ∧ Φ r u ∧ Mem g u t.heap) ∧ va_F (Ag g) st t
abbrev vI : Int32 → Option Value := fun r => some (.int r)
abbrev vL : Int64 → Option Value := fun r => some (.long r)
abbrev vR (g : Gv) : Nat → Option Value := fun r => some (.ref (ad g r))
abbrev vV : Unit → Option Value := fun _ => none
theorem Kk.same {g : Gv} {s U : State} (hU : U.heap = s.heap) (hv : U.vm = s.vm) (h : Kk g s) : Kk g U := h.moved hU (by rw [hv]; exact State.WarmedH.refl s) va_S.rf
theorem PP.blind (g : Gv) (As : List Value) (mm : Mm) : FrameBlind (PP g As mm) := fun a U f mk q => ⟨q.1, q.2.1, Kk.same (s := U) (U := U.calling f mk a) rfl rfl q.2.2⟩
theorem PP.pre {g : Gv} {As : List Value} {mm : Mm} {s : State} {H : Heap} {locs : List Loc} (hK : Kk g s) (hW : Wo g mm s H locs) : PreS s H (PP g As mm) As := ⟨PP.blind g As mm, fun U hU hWm => ⟨rfl, by rw [hU]; exact hW.1, hK.moved hU hWm hW.2⟩⟩
section ROWS
variable {p : Program} {l : Launch} {e : Env} {R : Room} {s : State} {m : MethodId} {args : Array Value} {below : List Frame} {meth : Method} {c : Code} {H : Heap} {locs : List Loc} {cells slots : Nat} {Q : State → Prop}
variable {cc : ByteArray} {pc : Nat} {ls : Array Slot} {rest : List Value} {g : Gv} {mm : Mm}
/-- the entry of a method -/
theorem CT_of {y : MethodName} {ws ws' : List Cond} {rm : Room} {mc ms maxL : Nat} {ret : Option FieldType} {ρ : Type} {vf : ρ → Option Value} {Φ : ρ → Mm → Prop} {As : List Value} (hy : plainFor y = true) (hw : ws = Cond.code y cc maxL ret :: ws') (hlen : (lg_sl As).length ≤ maxL)
    (body : ∀ (p : Program) (e : Env) (s : State) (m : MethodId) (below : List Frame) (meth : Method) (c : Code), p.tables.exec = Jvm.exec → c.code = cc → meth.sig.returnType = ret → c.maxLocals = maxL → s.vm.findClass y.cls = some m.cls → (∀ w ∈ ws, w.before As.toArray s = true) → meth.locks = false → meth.name = y.name → Kk g s → Wo g mm s s.heap [] → ∀ ls : Array Slot, lv_has ls maxL (lv_args 0 As) →
      W p l e rm s m As.toArray below meth c s.heap [] 0 0 (MQ below (QQ g vf Φ) As.toArray s mc ms (Ag g)) (F0 m 0 ls [])) : Met l y ws rm (PP g As mm) (QQ g vf Φ) mc ms (Ag g) := by
  refine va_MetF (cc := cc) (maxL := maxL) (ret := ret) hy hw ?_
  intro p e s m args below meth c s₁ B hml hv
  obtain ⟨rfl, hM, hK⟩ := hv
  rw [lg_entry_eq]
  exact body p e s m below meth c B.exec B.bytes B.returns hml (findClass_of_methodNamed B.named) (atoms_spec (ws := ws) B.pre) B.notSynchronized (name_of_methodNamed B.named B.method).1 hK ⟨hM, va_S.rf⟩ _ (lv_entry As hlen)
theorem R_get {own ref C : String} {T : u_T} {N ci index : Nat} {Ts : List Cond} (hx : p.tables.exec = Jvm.exec) (hb : c.code = cc) (hts : ∀ w ∈ Ts, w.before args s = true) (hin : ∀ w ∈ u_ws C T N, w ∈ Ts) (hown : s.vm.findClass own = some m.cls) (hK : Kk g s) (hW : Wo g mm s H locs) {k j : Nat} {v : Value} (hT : mT mm k = ci) (h8 : ci ≤ 8) (hc : vwCl[ci]? = some (C, T, N)) (hj : j < N) (hlink : (Cond.fieldLink own index ref (T j).2.1 (T j).2.2.1).before args s = true) (hsame : ∀ x, s.fieldFound? (T j).1 (T j).2.1 (T j).2.2.1 = some x → s.fieldFound? ref (T j).2.1 (T j).2.2.1 = some x)
    (hv : (flr g ci (mI mm k) (mL mm k) (mP mm k))[j]? = some v) (hdg : decode cc pc = .ok (.getfield index, 3)) (kk : W p l e R s m args below meth c H locs cells slots Q (F0 m (pc + 3) ls (v :: rest))) : W p l e R s m args below meth c H locs cells slots Q (F0 m pc ls (.ref (ad g k) :: rest)) := by
  obtain ⟨a1, a2⟩ := hW.1.key hT (by omega)
  have he := wl_get g mm a1 a2
  rw [celm, hT, cel_o h8] at he
  exact va_get hx hb hts hin hown hK.1 (wl_P hW.1) (k - 8) he hc j hj hlink hsame hv hdg kk
theorem R_getI {own ref C : String} {T : u_T} {N ci index : Nat} {Ts : List Cond} (hx : p.tables.exec = Jvm.exec) (hb : c.code = cc) (hts : ∀ w ∈ Ts, w.before args s = true) (hin : ∀ w ∈ u_ws C T N, w ∈ Ts) (hown : s.vm.findClass own = some m.cls) (hK : Kk g s) (hW : Wo g mm s H locs) {k : Nat} (j : Nat) (hT : mT mm k = ci) (h8 : ci ≤ 8) (hc : vwCl[ci]? = some (C, T, N)) (hj : j < N) (hlink : (Cond.fieldLink own index ref (T j).2.1 (T j).2.2.1).before args s = true)
    (hsame : ∀ x, s.fieldFound? (T j).1 (T j).2.1 (T j).2.2.1 = some x → s.fieldFound? ref (T j).2.1 (T j).2.2.1 = some x) (hv : ∀ i l p, (flr g ci i l p)[j]? = some (.int (i j))) (hdg : decode cc pc = .ok (.getfield index, 3)) (kk : W p l e R s m args below meth c H locs cells slots Q (F0 m (pc + 3) ls (.int (mI mm k j) :: rest))) : W p l e R s m args below meth c H locs cells slots Q (F0 m pc ls (.ref (ad g k) :: rest)) := R_get hx hb hts hin hown hK hW hT h8 hc hj hlink hsame (hv _ _ _) hdg kk
theorem R_getL {own ref C : String} {T : u_T} {N ci index : Nat} {Ts : List Cond} (hx : p.tables.exec = Jvm.exec) (hb : c.code = cc) (hts : ∀ w ∈ Ts, w.before args s = true) (hin : ∀ w ∈ u_ws C T N, w ∈ Ts) (hown : s.vm.findClass own = some m.cls) (hK : Kk g s) (hW : Wo g mm s H locs) {k : Nat} (j : Nat) (hT : mT mm k = ci) (h8 : ci ≤ 8) (hc : vwCl[ci]? = some (C, T, N)) (hj : j < N) (hlink : (Cond.fieldLink own index ref (T j).2.1 (T j).2.2.1).before args s = true)
    (hsame : ∀ x, s.fieldFound? (T j).1 (T j).2.1 (T j).2.2.1 = some x → s.fieldFound? ref (T j).2.1 (T j).2.2.1 = some x) (hv : ∀ i l p, (flr g ci i l p)[j]? = some (.long (l j))) (hdg : decode cc pc = .ok (.getfield index, 3)) (kk : W p l e R s m args below meth c H locs cells slots Q (F0 m (pc + 3) ls (.long (mL mm k j) :: rest))) : W p l e R s m args below meth c H locs cells slots Q (F0 m pc ls (.ref (ad g k) :: rest)) := R_get hx hb hts hin hown hK hW hT h8 hc hj hlink hsame (hv _ _ _) hdg kk
theorem R_getP {own ref C : String} {T : u_T} {N ci index : Nat} {Ts : List Cond} (hx : p.tables.exec = Jvm.exec) (hb : c.code = cc) (hts : ∀ w ∈ Ts, w.before args s = true) (hin : ∀ w ∈ u_ws C T N, w ∈ Ts) (hown : s.vm.findClass own = some m.cls) (hK : Kk g s) (hW : Wo g mm s H locs) {k : Nat} (j : Nat) (hT : mT mm k = ci) (h8 : ci ≤ 8) (hc : vwCl[ci]? = some (C, T, N)) (hj : j < N) (hlink : (Cond.fieldLink own index ref (T j).2.1 (T j).2.2.1).before args s = true)
    (hsame : ∀ x, s.fieldFound? (T j).1 (T j).2.1 (T j).2.2.1 = some x → s.fieldFound? ref (T j).2.1 (T j).2.2.1 = some x) (hv : ∀ i l p, (flr g ci i l p)[j]? = some (rv g (p j))) (hne : mP mm k j ≠ 0) (hdg : decode cc pc = .ok (.getfield index, 3)) (kk : W p l e R s m args below meth c H locs cells slots Q (F0 m (pc + 3) ls (.ref (ad g (mP mm k j)) :: rest))) : W p l e R s m args below meth c H locs cells slots Q (F0 m pc ls (.ref (ad g k) :: rest)) := R_get hx hb hts hin hown hK hW hT h8 hc hj hlink hsame ((hv _ _ _).trans (by rw [rv_pos g hne])) hdg kk
theorem R_getN {own ref C : String} {T : u_T} {N ci index : Nat} {Ts : List Cond} (hx : p.tables.exec = Jvm.exec) (hb : c.code = cc) (hts : ∀ w ∈ Ts, w.before args s = true) (hin : ∀ w ∈ u_ws C T N, w ∈ Ts) (hown : s.vm.findClass own = some m.cls) (hK : Kk g s) (hW : Wo g mm s H locs) {k : Nat} (j : Nat) (hT : mT mm k = ci) (h8 : ci ≤ 8) (hc : vwCl[ci]? = some (C, T, N)) (hj : j < N) (hlink : (Cond.fieldLink own index ref (T j).2.1 (T j).2.2.1).before args s = true)
    (hsame : ∀ x, s.fieldFound? (T j).1 (T j).2.1 (T j).2.2.1 = some x → s.fieldFound? ref (T j).2.1 (T j).2.2.1 = some x) (hv : ∀ i l p, (flr g ci i l p)[j]? = some (rv g (p j))) (hdg : decode cc pc = .ok (.getfield index, 3)) (kk : W p l e R s m args below meth c H locs cells slots Q (F0 m (pc + 3) ls (rv g (mP mm k j) :: rest))) : W p l e R s m args below meth c H locs cells slots Q (F0 m pc ls (.ref (ad g k) :: rest)) := R_get hx hb hts hin hown hK hW hT h8 hc hj hlink hsame (hv _ _ _) hdg kk
theorem R_ifnull {x : Nat} {off : Int} {tgt : Nat} (hx : p.tables.exec = Jvm.exec) (hb : c.code = cc) (hdg : decode cc pc = .ok (.ifnull off, 3)) (ht : (pc : Int) + off = (tgt : Int)) (kt : x = 0 → W p l e R s m args below meth c H locs cells slots Q (F0 m tgt ls rest)) (kf : ¬ x = 0 → W p l e R s m args below meth c H locs cells slots Q (F0 m (pc + 3) ls rest)) : W p l e R s m args below meth c H locs cells slots Q (F0 m pc ls (rv g x :: rest)) := by
  by_cases h : x = 0
  · subst h
    exact lv_ifnullN hx hb hdg ht (kt rfl)
  · rw [rv_pos g h]
    exact lv_ifnull hx hb hdg (kf h)
theorem R_ifnonnull {x : Nat} {off : Int} {tgt : Nat} (hx : p.tables.exec = Jvm.exec) (hb : c.code = cc) (hdg : decode cc pc = .ok (.ifnonnull off, 3)) (ht : (pc : Int) + off = (tgt : Int)) (kt : ¬ x = 0 → W p l e R s m args below meth c H locs cells slots Q (F0 m tgt ls rest)) (kf : x = 0 → W p l e R s m args below meth c H locs cells slots Q (F0 m (pc + 3) ls rest)) : W p l e R s m args below meth c H locs cells slots Q (F0 m pc ls (rv g x :: rest)) := by
  by_cases h : x = 0
  · subst h
    exact lv_ifnonnullN hx hb hdg (kf rfl)
  · rw [rv_pos g h]
    exact lv_ifnonnull hx hb hdg ht (kt h)
/-- a store into a field: the row k becomes that of m2 -/
theorem R_put {own ref C : String} {T : u_T} {N ci index : Nat} {Ts : List Cond} (hx : p.tables.exec = Jvm.exec) (hb : c.code = cc) (hts : ∀ w ∈ Ts, w.before args s = true) (hin : ∀ w ∈ u_ws C T N, w ∈ Ts) (ty0 : Nat → FieldType) (hty : ∀ k, k < N → parseFieldDescriptor (T k).2.2.1 = some (ty0 k)) (hnm : ∀ a, a < N → ∀ b, b < N → a ≠ b → (T a).2.1 ≠ (T b).2.1) (hown : s.vm.findClass own = some m.cls) (hK : Kk g s) (hW : Wo g mm s H locs) {k j : Nat} {v : Value} {m2 : Mm} (hT : mT mm k = ci) (h8 : ci ≤ 8) (hc : vwCl[ci]? = some (C, T, N)) (hj : j < N) (hlink : (Cond.fieldLink own index ref (T j).2.1 (T j).2.2.1).before args s = true)
    (hsame : ∀ x, s.fieldFound? (T j).1 (T j).2.1 (T j).2.2.1 = some x → s.fieldFound? ref (T j).2.1 (T j).2.2.1 = some x) (hfin : (T j).2.2.2 = false ∨ ((T j).2.2.2 = true ∧ meth.name = "<init>" ∧ (T j).1 = own)) (hn : narrow (ty0 j) v = v) (hfit : fits (ty0 j) v = true) (hl : j < (flr g ci (mI mm k) (mL mm k) (mP mm k)).length) (hoff : Off mm m2 k) (hs : (flr g ci (mI mm k) (mL mm k) (mP mm k)).set j v = flr g ci (mI m2 k) (mL m2 k) (mP m2 k))
    (hdg : decode cc pc = .ok (.putfield index, 3)) (kk : ∀ (H1 : Heap) (locs1 : List Loc), Wo g m2 s H1 locs1 → W p l e R s m args below meth c H1 locs1 cells slots Q (F0 m (pc + 3) ls rest)) : W p l e R s m args below meth c H locs cells slots Q (F0 m pc ls (v :: .ref (ad g k) :: rest)) := by
  obtain ⟨b1, b2⟩ := hW.1.key hT (by omega)
  have hd := hty j hj
  have hap := va_apart (own := own) hts hin ty0 hty hnm hK.1 hc
  have hat := (hW.1.2.2.2.2.2.2 k b1 b2).2
  rw [celm, hT, cel_o h8] at hat
  obtain ⟨r, h1, cell, q1, q2, q3, q4⟩ := hat
  have hr : r = (C, T, N) := Option.some.inj (h1.symm.trans hc)
  subst hr
  obtain ⟨hS, hfc, kC, hkC, hkind⟩ := hK.1.1 ci _ hc
  obtain ⟨cf, kf, fi, f, hi, hsl⟩ := hS j hj
  have hlay := hts _ (hin _ (u_in_lay hj))
  have hst := (u_facts hfc hkC (u_lays hts hin hj) hi).1
  have fin : ∀ H' : Heap, H'[ad g k]? = some (cell.setSlot f.slot v) → H'.size = H.size → (∀ q, q ≠ ad g k → H'[q]? = H[q]?) → W p l e R s m args below meth c H' (locs ++ [⟨ad g k, f.slot⟩]) cells slots Q (F0 m (pc + 3) ls rest) := by
    intro H' e1 e2 e3
    rw [hsl] at e1 ⊢
    refine kk H' _ ⟨hW.1.put b1 b2 hoff e2 e3 ?_, hW.2.put e2 e3 ?_⟩
    · rw [celm, hoff.2.1, hT, cel_o h8]
      exact ⟨_, hc, t_OB.to (V := updV (vp_V (flr g ci (mI mm k) (mL mm k) (mP mm k))) j v) ⟨_, e1, q2, q3, t_set q4 hap hj v⟩ (fun i _ => by rw [vp_updV_set hl v i, hs])⟩
    · show g.2 4 ≤ ad g k
      rw [ad_ge g b1]; exact Nat.le_add_right _ _
  rcases hfin with hf | ⟨hf, hin2, hdecl⟩
  · unfold u_lay at hlay
    rw [if_neg (by rw [hf]; decide)] at hlay
    have h6 := u_store hfc hkC hkind hlay hi hd hn hfit
    exact W.putK hx hb (f := f) ⟨hown, hlink, ⟨_, _, _, hsame _ hi⟩, hst⟩ (by rw [q2]; exact h6) q1 q3 (by rw [hsl]; exact k2_hasslot (q4 j hj)) rfl rfl hdg fin
  · unfold u_lay at hlay
    rw [if_pos hf] at hlay
    have hcf : m.cls = cf := by
      obtain ⟨_, _, c', _, _, _, -, -, hf', -, -, -, hown2, -⟩ := Cond.laysFinal_spec hlay
      have e1 : c' = cf := by have := hi.symm.trans hf'; simp at this; exact this.1.symm
      rw [hdecl] at hown2
      rw [← e1]; exact Option.some.inj (hown.symm.trans hown2)
    have h6 := u_fits hfc hkC hkind (Or.inr hlay) hi hd hn hfit
    exact W.putFinK hx hb hown hlink (hsame _ hi) hst hcf hin2 (by rw [q2]; exact h6) q1 q3 (by rw [hsl]; exact k2_hasslot (q4 j hj)) rfl rfl hdg fin
end ROWS
