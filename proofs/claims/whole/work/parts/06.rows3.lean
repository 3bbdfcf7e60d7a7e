section ROWS3
variable {p : Program} {l : Launch} {e : Env} {R : Room} {s : State} {m : MethodId} {args : Array Value} {below : List Frame} {meth : Method} {c : Code} {H : Heap} {locs : List Loc} {cells slots : Nat} {Q : State → Prop}
variable {cc : ByteArray} {pc : Nat} {ls : Array Slot} {rest : List Value} {g : Gv} {mm : Mm}
/-- Object arrays -/
theorem R_aald (hx : p.tables.exec = Jvm.exec) (hb : c.code = cc) (hK : Kk g s) (hW : Wo g mm s H locs) {k : Nat} {i : Int32} (hT : mT mm k = 12) (hin : vp_in i (mN mm k)) (hne : mP mm k i.toNatClampNeg ≠ 0) (hdg : decode cc pc = .ok (.aaload, 1))
    (kk : W p l e R s m args below meth c H locs cells slots Q (F0 m (pc + 1) ls (.ref (ad g (mP mm k i.toNatClampNeg)) :: rest))) : W p l e R s m args below meth c H locs cells slots Q (F0 m pc ls (.int i :: .ref (ad g k) :: rest)) := by
  have h1 : k ≠ 1 := by
    intro h
    rw [h, hW.1.2.2.2.2.1] at hin
    exact hin (Or.inr (Nat.zero_le _))
  obtain ⟨a1, a2⟩ := hW.1.keyO hT h1
  have he := wl_get g mm a1 a2
  rw [celm, hT, cel_12] at he
  refine va_aldq hx hb hK.1 (wl_P hW.1) (k - 8) 3 he rfl hin hdg ?_
  rw [ro_pos g hne]
  exact kk
theorem R_alenO (hx : p.tables.exec = Jvm.exec) (hb : c.code = cc) (hK : Kk g s) (hW : Wo g mm s H locs) {k : Nat} (hT : mT mm k = 12) (hdg : decode cc pc = .ok (.arraylength, 1))
    (kk : W p l e R s m args below meth c H locs cells slots Q (F0 m (pc + 1) ls (.int (nI (mN mm k)) :: rest))) : W p l e R s m args below meth c H locs cells slots Q (F0 m pc ls (.ref (ad g k) :: rest)) := by
  by_cases h1 : k = 1
  · subst h1
    refine va_tlen hx hb hK.2.2.2.1.2 hW.2 (v := nI (mN mm 1)) ?_ hdg kk
    rw [hW.1.2.2.2.2.1]; rfl
  · obtain ⟨a1, a2⟩ := hW.1.keyO hT h1
    have he := wl_get g mm a1 a2
    rw [celm, hT, cel_12] at he
    exact va_alen hx hb hK.1 (wl_P hW.1) (k - 8) 3 he rfl rfl hdg kk
theorem R_any {v : Nat} (hK : Kk g s) (hW : Wo g mm s H locs) (hv : mT mm v = 1) : va_Any "java/lang/Object" s H (ad g v) := by
  obtain ⟨a1, a2⟩ := hW.1.key hv (by omega)
  have he := wl_get g mm a1 a2
  rw [celm, hv, cel_o (by omega)] at he
  refine va_rAny hK.1 (wl_P hW.1) he (r := (RX0, TX0, 8)) rfl (fun comp c0 h1 h2 => ?_)
  obtain ⟨c1, c2, f1, f2, f3⟩ := Cond.castable_spec (va_Nw.use (A := #[]) rfl hK.2.2.2.2.2.2.2.2.2.1)
  cases h1.symm.trans f2
  cases h2.symm.trans f1
  exact f3
theorem R_aast (hx : p.tables.exec = Jvm.exec) (hb : c.code = cc) (hK : Kk g s) (hW : Wo g mm s H locs) {k v : Nat} {i : Int32} (hT : mT mm k = 12) (hin : vp_in i (mN mm k)) (hv : mT mm v = 1) (hdg : decode cc pc = .ok (.aastore, 1))
    (kk : ∀ (H1 : Heap) (locs1 : List Loc), Wo g (sP mm k i.toNatClampNeg v) s H1 locs1 → W p l e R s m args below meth c H1 locs1 cells slots Q (F0 m (pc + 1) ls rest)) : W p l e R s m args below meth c H locs cells slots Q (F0 m pc ls (.ref (ad g v) :: .int i :: .ref (ad g k) :: rest)) := by
  have h1 : k ≠ 1 := by
    intro h
    rw [h, hW.1.2.2.2.2.1] at hin
    exact hin (Or.inr (Nat.zero_le _))
  obtain ⟨a1, a2⟩ := hW.1.keyO hT h1
  have hv0 : v ≠ 0 := by have := (hW.1.key hv (by omega)).1; omega
  have hat := (hW.1.2.2.2.2.2.2 k a1 a2).2
  rw [celm, hT, cel_12] at hat
  have hat : H[ad g k]? = some (vp_cell (g.2 3) (mN mm k, .inr (.inr (.inr (.inr (fun j => ro g (mP mm k j))))))) := hat
  have hlt : i.toNatClampNeg < mN mm k := Nat.not_le.mp fun q => hin (Or.inr q)
  have h0 : ¬ i < 0 := fun q => hin (Or.inl q)
  obtain ⟨cellV, g1, g3, ⟨kC, hkC⟩, hasg⟩ := R_any hK hW hv
  obtain ⟨kA, comp, k1, k2, k3, -⟩ := (hK.1.2 3 _ rfl).2
  obtain ⟨kE, hkE, -⟩ := Vm.findClass_spec k3
  refine W.aast hx hb hat (fun q h => by cases h) (fun h => by cases h) k1 k2 rfl hkE ⟨h0, by show _ < (arrV _ _ _).slots.size; rw [arrV_size]; exact hlt⟩ g1 (fun q h => by rw [h] at g3; cases g3) hkC (hasg _ k3) rfl rfl hdg fun H1 e z oq => ?_
  refine kk H1 _ (R_row hW a1 a2 (off_rP _ _ _) z oq ?_)
  rw [celm, (off_rP mm k (va_up (mP mm k) i.toNatClampNeg v)).2.1, (off_rP mm k (va_up (mP mm k) i.toNatClampNeg v)).2.2.1, hT, cel_12, rP_P]
  show H1[ad g k]? = some (vp_cell _ _)
  rw [e, vp_cell_q, vp_cell_q, arrV_store]
  congr 2
  funext q
  by_cases hq : q = i.toNatClampNeg
  · subst hq
    simp [updV, va_up, ro_pos g hv0, va_rf]
  · simp [updV, va_up, hq]
theorem R_newO {own : String} {index : Nat} (hx : p.tables.exec = Jvm.exec) (hb : c.code = cc) (hown : s.vm.findClass own = some m.cls) (hclink : (Cond.classLink own index "java/lang/Object").before args s = true) (hK : Kk g s) (hW : Wo g mm s H locs) {n : Int32} (B : Nat) (hn : ¬ n < 0) (hN : n.toNatClampNeg ≤ B) (hbytes : B * 4 ≤ 536870912) (hcells : cells + 1 ≤ R.cells) (hslots : slots + B ≤ R.slots) (hdg : decode cc pc = .ok (.anewarray index, 3))
    (kk : ∀ (H1 : Heap), Wo g (nw mm 12 n.toNatClampNeg) s H1 locs → W p l e R s m args below meth c H1 locs (cells + 1) (slots + B) Q (F0 m (pc + 3) ls (.ref (ad g (mS mm)) :: rest))) : W p l e R s m args below meth c H locs cells slots Q (F0 m pc ls (.int n :: rest)) := by
  have ea : ad g (mS mm) = H.size := by rw [ad_ge g hW.1.1, hW.1.2.1]
  refine W.anew hx hb hown hclink (va_AO.use hK.2.2.2.2.2.2.2.2.2.2.2.1) rfl hdg rfl hn (by omega) hcells (by omega) fun cA kA comp f1 f2 f3 f4 => ?_
  refine W.widen (k := cells + 1) (n := slots + B) (Nat.le_refl _) (by omega) ?_
  generalize hH1 : H.push ({ cls := cA, slots := Array.replicate n.toNatClampNeg .null, vm := .none } : Cell) = H1
  have z1 : H1.size = H.size + 1 := by rw [← hH1, Array.size_push]
  have e1 : H1[H.size]? = some (arrV cA n.toNatClampNeg (fun _ => .null)) := by rw [← hH1, Array.getElem?_push_size, ← arrV_new]
  have o1 : ∀ q : Nat, q < H.size → H1[q]? = H[q]? := fun q hq => by rw [← hH1, Array.getElem?_push, if_neg (Nat.ne_of_lt hq)]
  obtain ⟨kA', comp', k1, k2, k3, k4⟩ := (hK.1.2 3 _ rfl).2
  have ec : g.2 3 = cA := Option.some.inj (k4.symm.trans f1)
  have h := kk H1 ⟨hW.1.new (t := 12) (n := n.toNatClampNeg) (by omega) z1 o1 (by rw [cel_12]; show H1[H.size]? = some (vp_cell _ _); rw [vp_cell_q, ec]; exact e1), ⟨Nat.le_trans hW.2.1 (by omega), fun x h1 h2 => (o1 x (Nat.lt_of_lt_of_le h1 hW.2.1)).trans (hW.2.2.1 x h1 h2), hW.2.2.2⟩⟩
  rw [ea] at h
  exact h
/-- the copying of a stretch, as the heap sees it -/
theorem R_cpd {α : Type} (mk : α → Value) {k a0 : Nat} {cs : Cell} {m2 : Mm} {c1 : ClassId} {n0 n1 : Nat} {f h : Nat → α} {sp dp n : Int32} {ks : Class} {sC dC : ClassId} {kd : Class} {sT dT : FieldType} {own : String} {index : Nat} (hx : p.tables.exec = Jvm.exec) (hb : c.code = cc) (hml : c.maxLocals = ls.size) (hown : s.vm.findClass own = some m.cls) (hlink : (Cond.methodLink own index arraycopyName).before args s = true) (hnat : (Cond.native arraycopyName).before args s = true) (hstat : (Cond.static arraycopyName).before args s = true) (hini : (Cond.initialized "java/lang/System").before args s = true)
    (hW : Wo g mm s H locs) (h8 : 8 ≤ k) (hk : k < mS mm) (hoff : Off mm m2 k) (hs : H[a0]? = some cs) (hsobj : ∀ q, cs.vm ≠ .statics q) (hsk : cs.vm ≠ .unknown) (hks : s.vm.classes[cs.cls]? = some ks) (hsa : ks.kind = .array sC sT) (hcs : ∀ j, j < n0 → cs.slots[j]? = some (mk (f j))) (hsz : n0 ≤ cs.slots.size) (hd : H[ad g k]? = some (arrV c1 n1 (fun j => mk (h j)))) (hkd : s.vm.classes[c1]? = some kd) (hda : kd.kind = .array dC dT) (hty : ((refKind sT != refKind dT) || (!refKind sT && sT != dT)) = false)
    (h1 : ¬ sp < 0) (h2 : ¬ dp < 0) (h3 : ¬ n < 0) (h4 : sp.toNatClampNeg + n.toNatClampNeg ≤ n0) (h5 : dp.toNatClampNeg + n.toNatClampNeg ≤ n1) (hvals : ∀ (T : State) vm', T.heap = H → s.vm.Alike vm' → ∀ i, i < n.toNatClampNeg → fits dT (mk (f (sp.toNatClampNeg + i))) = true ∧ (T.setVm vm').takes dC (mk (f (sp.toNatClampNeg + i))))
    (hframes : 1 ≤ R.frames) (hlocals : (rest.map fun v => v.category).sum + (nativeFrameWords "java/lang/System" "arraycopy" 5 + 11) ≤ R.locals) (hdg : decode cc pc = .ok (.invokestatic index, 3)) (hc : ∀ H1 : Heap, H1[ad g k]? = some (arrV c1 n1 (fun j => mk (va_cpy f h sp.toNatClampNeg dp.toNatClampNeg n.toNatClampNeg j))) → va_at g.1 vwCl (ad g k, celm g m2 k) H1)
    (kk : ∀ (H1 : Heap) (locs1 : List Loc), Wo g m2 s H1 locs1 → W p l e R s m args below meth c H1 locs1 cells slots Q (F0 m (pc + 3) ls rest)) : W p l e R s m args below meth c H locs cells slots Q (F0 m pc ls (.int n :: .int dp :: .ref (ad g k) :: .int sp :: .ref a0 :: rest)) := by
  have nn : ∀ z : Int32, ¬ z < 0 → z.toInt = (z.toNatClampNeg : Int) := by
    intro z hz
    have hz0 : (0 : Int) ≤ z.toInt := by
      have := Int32.not_lt.mp hz
      simpa using Int32.le_iff_toInt_le.mp this
    show z.toInt = ((z.toInt.toNat : Nat) : Int)
    omega
  have rd : ∀ i, i < n.toNatClampNeg → cs.slots.getD (sp.toNatClampNeg + i) .null = mk (f (sp.toNatClampNeg + i)) := by
    intro i hi
    rw [Array.getD_eq_getD_getElem?, hcs _ (by omega)]
    rfl
  intro T hT X
  obtain ⟨vm', X', step⟩ := X.arraycopy hx hown hlink hnat hstat hini (src := a0) (dst := ad g k) (cs := cs) (cd := arrV c1 n1 (fun j => mk (h j))) (srcPos := sp) (destPos := dp) (n := n) (by rw [hT]; exact hs) (by rw [hT]; exact hd)
    hsobj (fun _ h => by cases h) hsk (fun h => by cases h) hks hkd hsa hda hty h1 h2 h3
    (by rw [nn sp h1, nn n h3]; omega) (by rw [nn dp h2, nn n h3, arrV_size]; omega) (fun vm₁ ha i hi => by rw [rd i hi]; exact hvals T vm₁ hT ha i hi)
    (g := F0 m pc ls (.int n :: .int dp :: .ref (ad g k) :: .int sp :: .ref a0 :: rest)) rfl (by rw [hml]) (rest := rest) rfl (by rw [hb]; exact hdg) hframes (by show 2 * 0 + _ + _ ≤ _; omega)
  have e1 : copied cs (arrV c1 n1 (fun j => mk (h j))) sp dp n = arrV c1 n1 (fun j => mk (va_cpy f h sp.toNatClampNeg dp.toNatClampNeg n.toNatClampNeg j)) := va_copiedX mk cs c1 f h hcs h4
  rw [e1] at X' step
  have hl : ad g k < H.size := (Array.getElem?_eq_some_iff.mp hd).1
  have hA : Ag g (ad g k) := by show g.2 4 ≤ ad g k; rw [ad_ge g h8]; exact Nat.le_add_right _ _
  generalize hH1 : H.setIfInBounds (ad g k) (arrV c1 n1 (fun j => mk (va_cpy f h sp.toNatClampNeg dp.toNatClampNeg n.toNatClampNeg j))) = H1
  have oq : ∀ q : Nat, q ≠ ad g k → H1[q]? = H[q]? := fun q hq => by rw [← hH1]; simp [Array.getElem?_setIfInBounds, Ne.symm hq]
  have z1 : H1.size = H.size := by rw [← hH1]; simp
  have hme : H1[ad g k]? = some (arrV c1 n1 (fun j => mk (va_cpy f h sp.toNatClampNeg dp.toNatClampNeg n.toNatClampNeg j))) := by rw [← hH1]; simp [Array.getElem?_setIfInBounds, hl]
  obtain ⟨t, b1, b2⟩ := kk H1 _ ⟨hW.1.put h8 hk hoff z1 oq (hc H1 hme), ⟨by rw [z1]; exact hW.2.1, fun q g1 g2 => by
      rw [oq q (fun e => g2 (by rw [e]; exact hA))]
      exact hW.2.2.1 q g1 g2, fun q hq => by
      rcases List.mem_append.mp hq with h | h
      · exact hW.2.2.2 q h
      · obtain ⟨z, -, hz⟩ := List.mem_map.mp h
        rw [← hz]
        exact hA⟩⟩ _ (by rw [← hH1, ← hT]; rfl) X'
  exact ⟨t, step t b1, b2⟩
/-- a stretch that may be copied -/
def cpok (sp dp n : Int32) (n0 n1 : Nat) : Prop := ¬ sp < 0 ∧ ¬ dp < 0 ∧ ¬ n < 0 ∧ sp.toNatClampNeg + n.toNatClampNeg ≤ n0 ∧ dp.toNatClampNeg + n.toNatClampNeg ≤ n1
theorem R_copyI {own : String} {index k k0 : Nat} {sp dp n : Int32} (hx : p.tables.exec = Jvm.exec) (hb : c.code = cc) (hml : c.maxLocals = ls.size) (hown : s.vm.findClass own = some m.cls) (hlink : (Cond.methodLink own index arraycopyName).before args s = true) (hnat : (Cond.native arraycopyName).before args s = true) (hstat : (Cond.static arraycopyName).before args s = true) (hini : (Cond.initialized "java/lang/System").before args s = true) (hK : Kk g s)
    (hW : Wo g mm s H locs) (hT0 : mT mm k0 = 9) (hT : mT mm k = 9) (hok : cpok sp dp n (mN mm k0) (mN mm k)) (hframes : 1 ≤ R.frames) (hlocals : (rest.map fun v => v.category).sum + (nativeFrameWords "java/lang/System" "arraycopy" 5 + 11) ≤ R.locals) (hdg : decode cc pc = .ok (.invokestatic index, 3))
    (kk : ∀ (H1 : Heap) (locs1 : List Loc), Wo g (rI mm k (va_cpy (mI mm k0) (mI mm k) sp.toNatClampNeg dp.toNatClampNeg n.toNatClampNeg)) s H1 locs1 → W p l e R s m args below meth c H1 locs1 cells slots Q (F0 m (pc + 3) ls rest)) : W p l e R s m args below meth c H locs cells slots Q (F0 m pc ls (.int n :: .int dp :: .ref (ad g k) :: .int sp :: .ref (ad g k0) :: rest)) := by
  obtain ⟨a1, a2⟩ := hW.1.key hT (by omega)
  obtain ⟨b1, b2⟩ := hW.1.key hT0 (by omega)
  have hat := (hW.1.2.2.2.2.2.2 k a1 a2).2
  rw [celm, hT, cel_9] at hat
  have hat0 := (hW.1.2.2.2.2.2.2 k0 b1 b2).2
  rw [celm, hT0, cel_9] at hat0
  obtain ⟨-, kA, hkA, comp, hkind⟩ := (hK.1.2 0 _ rfl).1 0 (fun _ => .null)
  obtain ⟨h1, h2, h3, h4, h5⟩ := hok
  refine R_cpd (sT := .int) (dT := .int) (fun z => Value.int z) (f := mI mm k0) (h := mI mm k) (n0 := mN mm k0) (n1 := mN mm k) (c1 := g.2 0) hx hb hml hown hlink hnat hstat hini hW a1 a2 (off_rI _ _ _) (cs := arrV (g.2 0) (mN mm k0) (fun j => .int (mI mm k0 j))) hat0 (fun _ h => by cases h) (fun h => by cases h) hkA hkind (fun j hj => arrV_read _ _ hj) (by rw [arrV_size]; exact Nat.le_refl _) hat hkA hkind (by decide) h1 h2 h3 h4 h5 (fun _ _ _ _ _ _ => ⟨rfl, trivial⟩) hframes hlocals hdg (fun H1 he => ?_) kk
  rw [celm, (off_rI mm k (va_cpy (mI mm k0) (mI mm k) sp.toNatClampNeg dp.toNatClampNeg n.toNatClampNeg)).2.1, (off_rI mm k (va_cpy (mI mm k0) (mI mm k) sp.toNatClampNeg dp.toNatClampNeg n.toNatClampNeg)).2.2.1, hT, cel_9, rI_I]
  exact he
theorem R_copyS {own : String} {index k k0 : Nat} {nm : String} {sp dp n : Int32} (hx : p.tables.exec = Jvm.exec) (hb : c.code = cc) (hml : c.maxLocals = ls.size) (hown : s.vm.findClass own = some m.cls) (hlink : (Cond.methodLink own index arraycopyName).before args s = true) (hnat : (Cond.native arraycopyName).before args s = true) (hstat : (Cond.static arraycopyName).before args s = true) (hini : (Cond.initialized "java/lang/System").before args s = true) (hK : Kk g s)
    (hW : Wo g mm s H locs) (hZ : Kst g s k0 nm) (h30 : 3 ≤ k0) (h60 : k0 ≤ 6) (hT : mT mm k = 9) (hok : cpok sp dp n (mN mm k0) (mN mm k)) (hframes : 1 ≤ R.frames) (hlocals : (rest.map fun v => v.category).sum + (nativeFrameWords "java/lang/System" "arraycopy" 5 + 11) ≤ R.locals) (hdg : decode cc pc = .ok (.invokestatic index, 3))
    (kk : ∀ (H1 : Heap) (locs1 : List Loc), Wo g (rI mm k (va_cpy (mI mm k0) (mI mm k) sp.toNatClampNeg dp.toNatClampNeg n.toNatClampNeg)) s H1 locs1 → W p l e R s m args below meth c H1 locs1 cells slots Q (F0 m (pc + 3) ls rest)) : W p l e R s m args below meth c H locs cells slots Q (F0 m pc ls (.int n :: .int dp :: .ref (ad g k) :: .int sp :: .ref (ad g k0) :: rest)) := by
  obtain ⟨a1, a2⟩ := hW.1.key hT (by omega)
  have hat := (hW.1.2.2.2.2.2.2 k a1 a2).2
  rw [celm, hT, cel_9] at hat
  obtain ⟨n6, eI⟩ := hW.1.2.2.2.2.2.1 k0 h30 h60
  obtain ⟨cs, q1, ⟨q2a, kS, q2b, sC, q2c⟩, q3, q4, q5, q6, q7⟩ := hZ.2
  have hsl : ad g k0 < s.heap.size := (Array.getElem?_eq_some_iff.mp q1).1
  obtain ⟨-, kA, hkA, comp, hkind⟩ := (hK.1.2 0 _ rfl).1 0 (fun _ => .null)
  obtain ⟨h1, h2, h3, h4, h5⟩ := hok
  refine R_cpd (sT := .int) (dT := .int) (fun z => Value.int z) (f := mI mm k0) (h := mI mm k) (n0 := mN mm k0) (n1 := mN mm k) (c1 := g.2 0) hx hb hml hown hlink hnat hstat hini hW a1 a2 (off_rI _ _ _) (cs := cs) (by rw [hW.2.2.1 _ hsl q7]; exact q1) q2a q3 q2b q2c (fun j hj => by rw [n6] at hj; rw [q6 j hj, eI]) (by rw [n6]; exact q4) hat hkA hkind (by decide) h1 h2 h3 h4 h5 (fun _ _ _ _ _ _ => ⟨rfl, trivial⟩) hframes hlocals hdg (fun H1 he => ?_) kk
  rw [celm, (off_rI mm k (va_cpy (mI mm k0) (mI mm k) sp.toNatClampNeg dp.toNatClampNeg n.toNatClampNeg)).2.1, (off_rI mm k (va_cpy (mI mm k0) (mI mm k) sp.toNatClampNeg dp.toNatClampNeg n.toNatClampNeg)).2.2.1, hT, cel_9, rI_I]
  exact he
theorem R_copyO {own : String} {index k k0 : Nat} {sp dp n : Int32} (hx : p.tables.exec = Jvm.exec) (hb : c.code = cc) (hml : c.maxLocals = ls.size) (hown : s.vm.findClass own = some m.cls) (hlink : (Cond.methodLink own index arraycopyName).before args s = true) (hnat : (Cond.native arraycopyName).before args s = true) (hstat : (Cond.static arraycopyName).before args s = true) (hini : (Cond.initialized "java/lang/System").before args s = true) (hK : Kk g s)
    (hW : Wo g mm s H locs) (hT0 : mT mm k0 = 12) (hn0 : k0 ≠ 1) (hT : mT mm k = 12) (hn1 : k ≠ 1) (hok : cpok sp dp n (mN mm k0) (mN mm k)) (hel : ∀ i, i < n.toNatClampNeg → mP mm k0 (sp.toNatClampNeg + i) = 0 ∨ mT mm (mP mm k0 (sp.toNatClampNeg + i)) = 1) (hframes : 1 ≤ R.frames) (hlocals : (rest.map fun v => v.category).sum + (nativeFrameWords "java/lang/System" "arraycopy" 5 + 11) ≤ R.locals) (hdg : decode cc pc = .ok (.invokestatic index, 3))
    (kk : ∀ (H1 : Heap) (locs1 : List Loc), Wo g (rP mm k (va_cpy (mP mm k0) (mP mm k) sp.toNatClampNeg dp.toNatClampNeg n.toNatClampNeg)) s H1 locs1 → W p l e R s m args below meth c H1 locs1 cells slots Q (F0 m (pc + 3) ls rest)) : W p l e R s m args below meth c H locs cells slots Q (F0 m pc ls (.int n :: .int dp :: .ref (ad g k) :: .int sp :: .ref (ad g k0) :: rest)) := by
  obtain ⟨a1, a2⟩ := hW.1.keyO hT hn1
  obtain ⟨b1, b2⟩ := hW.1.keyO hT0 hn0
  have hat := (hW.1.2.2.2.2.2.2 k a1 a2).2
  rw [celm, hT, cel_12] at hat
  have hat0 := (hW.1.2.2.2.2.2.2 k0 b1 b2).2
  rw [celm, hT0, cel_12] at hat0
  obtain ⟨kA, comp, r1, r2, r3, -⟩ := (hK.1.2 3 _ rfl).2
  obtain ⟨kE, hkE, -⟩ := Vm.findClass_spec r3
  obtain ⟨h1, h2, h3, h4, h5⟩ := hok
  refine R_cpd (fun z : Nat => rv g z) (f := mP mm k0) (h := mP mm k) (n0 := mN mm k0) (n1 := mN mm k) (c1 := g.2 3) hx hb hml hown hlink hnat hstat hini hW a1 a2 (off_rP _ _ _) (cs := arrV (g.2 3) (mN mm k0) (fun j => rv g (mP mm k0 j))) hat0 (fun _ h => by cases h) (fun h => by cases h) r1 r2 (fun j hj => arrV_read _ _ hj) (by rw [arrV_size]; exact Nat.le_refl _) hat r1 r2 rfl h1 h2 h3 h4 h5 (fun T vm₁ hT hal i hi => ?_) hframes hlocals hdg (fun H1 he => ?_) kk
  · rcases hel i hi with h | h
    · rw [h]
      exact ⟨rfl, trivial⟩
    · have hz : mP mm k0 (sp.toNatClampNeg + i) ≠ 0 := by have := (hW.1.key h (by omega)).1; omega
      obtain ⟨cellV, g1, g2, ⟨kC, hkC⟩, hasg⟩ := R_any hK hW h
      obtain ⟨kC', hkC', -⟩ := hal.2.2 _ _ hkC
      obtain ⟨kE', hkE', -⟩ := hal.2.2 _ _ hkE
      rw [rv_pos g hz]
      refine ⟨rfl, cellV, (show T.heap[_]? = some cellV by rw [hT]; exact g1), (fun q h => by rw [h] at g2; cases g2), ⟨kC', hkC'⟩, ⟨kE', hkE'⟩, ?_⟩
      show vm₁.assignable _ _ = true
      rw [hal.assignable]
      exact hasg _ r3
  · rw [celm, (off_rP mm k (va_cpy (mP mm k0) (mP mm k) sp.toNatClampNeg dp.toNatClampNeg n.toNatClampNeg)).2.1, (off_rP mm k (va_cpy (mP mm k0) (mP mm k) sp.toNatClampNeg dp.toNatClampNeg n.toNatClampNeg)).2.2.1, hT, cel_12, rP_P]
    exact he
/-- is it the empty list's array? -/
theorem R_acmpeq1 {x : Nat} {off : Int} {tgt : Nat} (hx : p.tables.exec = Jvm.exec) (hb : c.code = cc) (hK : Kk g s) (h8 : x = 1 ∨ 8 ≤ x) (hdg : decode cc pc = .ok (.if_acmp .eq off, 3)) (ht : (pc : Int) + off = (tgt : Int)) (kt : x = 1 → W p l e R s m args below meth c H locs cells slots Q (F0 m tgt ls rest)) (kf : ¬ x = 1 → W p l e R s m args below meth c H locs cells slots Q (F0 m (pc + 3) ls rest)) : W p l e R s m args below meth c H locs cells slots Q (F0 m pc ls (.ref (ad g 1) :: .ref (ad g x) :: rest)) := by
  have hA : ¬ g.2 4 ≤ ad g 1 := hK.2.2.2.1.2.out
  refine lv_acmp_eq (rx := some (ad g x)) (ry := some (ad g 1)) hx hb hdg ht (fun h => kt ?_) (fun h => kf ?_)
  · rcases h8 with e | e
    · exact e
    · have := Option.some.inj h
      rw [ad_ge g e] at this
      omega
  · intro e
    exact h (by rw [e])
theorem R_acmpne2 {off : Int} (hx : p.tables.exec = Jvm.exec) (hb : c.code = cc) {tgt : Nat} (hdg : decode cc pc = .ok (.if_acmp .ne off, 3)) (ht : (pc : Int) + off = (tgt : Int)) (kf : W p l e R s m args below meth c H locs cells slots Q (F0 m (pc + 3) ls rest)) : W p l e R s m args below meth c H locs cells slots Q (F0 m pc ls (.ref (ad g 2) :: .ref (ad g 2) :: rest)) :=
  lv_acmp_ne (rx := some (ad g 2)) (ry := some (ad g 2)) hx hb hdg ht (fun h => absurd rfl h) (fun _ => kf)
theorem R_recvO {k : Nat} (hK : Kk g s) (hW : Wo g mm s H locs) (hT : mT mm k = 12) (h1 : k ≠ 1) : ∃ cell : Cell, H[ad g k]? = some cell ∧ cell.vm.isStatics = false ∧ s.vm.findClass "[Ljava/lang/Object;" = some cell.cls := by
  obtain ⟨a1, a2⟩ := hW.1.keyO hT h1
  have hat := (hW.1.2.2.2.2.2.2 k a1 a2).2
  rw [celm, hT, cel_12] at hat
  obtain ⟨kA, comp, r1, r2, r3, r4⟩ := (hK.1.2 3 _ rfl).2
  exact ⟨_, hat, rfl, r4⟩
end ROWS3
