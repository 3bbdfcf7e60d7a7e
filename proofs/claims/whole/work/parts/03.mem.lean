/-! THE MEMORY: all cells that the law makes, by keys. Keys 8, 9, .. are the cells in the order in which they are made; 0 is null; 1 .. 7 are cells that were there (statics, a mirror). -/
abbrev Mm : Type := (Nat → Nat → Int32) × (Nat → Nat → Int64) × (Nat → Nat → Nat) × (Nat → Nat) × (Nat → Nat) × Nat
def mI (m : Mm) : Nat → Nat → Int32 := m.1
def mL (m : Mm) : Nat → Nat → Int64 := m.2.1
def mP (m : Mm) : Nat → Nat → Nat := m.2.2.1
def mT (m : Mm) : Nat → Nat := m.2.2.2.1
def mN (m : Mm) : Nat → Nat := m.2.2.2.2.1
def mS (m : Mm) : Nat := m.2.2.2.2.2
def rI (m : Mm) (k : Nat) (f : Nat → Int32) : Mm := (va_up m.1 k f, m.2)
def rL (m : Mm) (k : Nat) (f : Nat → Int64) : Mm := (m.1, va_up m.2.1 k f, m.2.2)
def rP (m : Mm) (k : Nat) (f : Nat → Nat) : Mm := (m.1, m.2.1, va_up m.2.2.1 k f, m.2.2.2)
def sI (m : Mm) (k j : Nat) (v : Int32) : Mm := rI m k (upd (mI m k) j v)
def sL (m : Mm) (k j : Nat) (v : Int64) : Mm := rL m k (vp_updL (mL m k) j v)
def sP (m : Mm) (k j : Nat) (v : Nat) : Mm := rP m k (va_up (mP m k) j v)
def nw (m : Mm) (t len : Nat) : Mm := (va_up (mI m) (mS m) (fun _ => 0), va_up (mL m) (mS m) (fun _ => 0), va_up (mP m) (mS m) (fun _ => 0), va_up (mT m) (mS m) t, va_up (mN m) (mS m) len, mS m + 1)
/-- m2 is m but for the row k -/
def Off (m m2 : Mm) (k : Nat) : Prop := mS m2 = mS m ∧ mT m2 = mT m ∧ mN m2 = mN m ∧ ∀ j, j ≠ k → mI m2 j = mI m j ∧ mL m2 j = mL m j ∧ mP m2 j = mP m j
theorem off_rI (m : Mm) (k : Nat) (f : Nat → Int32) : Off m (rI m k f) k := ⟨rfl, rfl, rfl, fun _ h => ⟨va_up_ne _ _ h, rfl, rfl⟩⟩
theorem off_rL (m : Mm) (k : Nat) (f : Nat → Int64) : Off m (rL m k f) k := ⟨rfl, rfl, rfl, fun _ h => ⟨rfl, va_up_ne _ _ h, rfl⟩⟩
theorem off_rP (m : Mm) (k : Nat) (f : Nat → Nat) : Off m (rP m k f) k := ⟨rfl, rfl, rfl, fun _ h => ⟨rfl, rfl, va_up_ne _ _ h⟩⟩
theorem rI_I (m : Mm) (k : Nat) (f : Nat → Int32) : mI (rI m k f) k = f := va_up_self _ _ _
theorem rL_L (m : Mm) (k : Nat) (f : Nat → Int64) : mL (rL m k f) k = f := va_up_self _ _ _
theorem rP_P (m : Mm) (k : Nat) (f : Nat → Nat) : mP (rP m k f) k = f := va_up_self _ _ _
/-! the world of a launch: the classes' numbers and slots; by number the array classes (0 int, 1 long, 2 byte, 3 Object), 4 the heap's size at the law's start, 16 + x the address of a key x below 8 -/
abbrev Gv : Type := va_G × (Nat → Nat)
def ad (g : Gv) (x : Nat) : Nat := if x < 8 then g.2 (16 + x) else g.2 4 + (x - 8)
def ro (g : Gv) (x : Nat) : Option Nat := if x = 0 then none else some (ad g x)
abbrev rv (g : Gv) (x : Nat) : Value := va_rf (ro g x)
theorem ad_ge (g : Gv) {x : Nat} (h : 8 ≤ x) : ad g x = g.2 4 + (x - 8) := by unfold ad; rw [if_neg (by omega)]
theorem ro_pos (g : Gv) {x : Nat} (h : x ≠ 0) : ro g x = some (ad g x) := by unfold ro; rw [if_neg h]
theorem rv_pos (g : Gv) {x : Nat} (h : x ≠ 0) : rv g x = .ref (ad g x) := by unfold rv; rw [ro_pos g h]; rfl
theorem rv_cat (g : Gv) (x : Nat) : (rv g x).category = 1 := by unfold rv ro; split <;> rfl
abbrev tys (g : Gv) : List (ClassId × FieldType) := [(g.2 0, .int), (g.2 1, .long), (g.2 2, .byte), (g.2 3, .object "java/lang/Object")]
/-- an object's fields, by its class's number in vwCl -/
def flr (g : Gv) (ci : Nat) (i : Nat → Int32) (l : Nat → Int64) (p : Nat → Nat) : List Value := match ci with
  | 0 => [.int (i 0), rv g (p 1), .int (i 2)]
  | 1 => [.int (i 0), .int (i 1), .int (i 2), .int (i 3), .int (i 4), .int (i 5), .int (i 6), .int (i 7)]
  | 2 => [rv g (p 0), rv g (p 1), rv g (p 2), .int (i 3), .int (i 4)]
  | 3 => [rv g (p 0), rv g (p 1), rv g (p 2), rv g (p 3), rv g (p 4), .int (i 5), .int (i 6), rv g (p 7), .long (l 8)]
  | 4 => [rv g (p 0), .int (i 1)]
  | 5 => [rv g (p 0), rv g (p 1), rv g (p 2), .int (i 3)]
  | 6 => [.int (i 0), .long (l 1)]
  | 7 => [rv g (p 0), rv g (p 1), rv g (p 2), rv g (p 3), rv g (p 4), rv g (p 5), rv g (p 6), rv g (p 7), .int (i 8), .int (i 9), .int (i 10), .int (i 11), .int (i 12), .int (i 13), .int (i 14)]
  | _ => [rv g (p 0), .int (i 1), .int (i 2), .int (i 3), .int (i 4), .int (i 5), .int (i 6), .int (i 7), .int (i 8), rv g (p 9), rv g (p 10), rv g (p 11), rv g (p 12), rv g (p 13), rv g (p 14), rv g (p 15), rv g (p 16), rv g (p 17), rv g (p 18), rv g (p 19), rv g (p 20), rv g (p 21), .int (i 22), rv g (p 23), .int (i 24), .int (i 25), .int (i 26), .int (i 27), .int (i 28), rv g (p 29), rv g (p 30), rv g (p 31), rv g (p 32), rv g (p 33), rv g (p 34), rv g (p 35)]
/-- a cell of kind t: 0 .. 8 an object of that class, 9 int[], 10 long[], 11 byte[], 12 Object[] -/
def cel (g : Gv) (t n : Nat) (i : Nat → Int32) (l : Nat → Int64) (p : Nat → Nat) : va_E :=
  if t ≤ 8 then .inr (t, flr g t i l p) else if t = 9 then .inl (g.2 0, n, .inl i) else if t = 10 then .inl (g.2 1, n, .inr (.inl l)) else if t = 11 then .inl (g.2 2, n, .inl i) else .inl (g.2 3, n, .inr (.inr (.inr (.inr (fun j => ro g (p j))))))
theorem cel_o {g : Gv} {t n : Nat} {i l p} (h : t ≤ 8) : cel g t n i l p = .inr (t, flr g t i l p) := by unfold cel; rw [if_pos h]
theorem cel_9 {g : Gv} {n : Nat} {i l p} : cel g 9 n i l p = .inl (g.2 0, n, .inl i) := rfl
theorem cel_10 {g : Gv} {n : Nat} {i l p} : cel g 10 n i l p = .inl (g.2 1, n, .inr (.inl l)) := rfl
theorem cel_11 {g : Gv} {n : Nat} {i l p} : cel g 11 n i l p = .inl (g.2 2, n, .inl i) := rfl
theorem cel_12 {g : Gv} {n : Nat} {i l p} : cel g 12 n i l p = .inl (g.2 3, n, .inr (.inr (.inr (.inr (fun j => ro g (p j)))))) := rfl
abbrev celm (g : Gv) (m : Mm) (k : Nat) : va_E := cel g (mT m k) (mN m k) (mI m k) (mL m k) (mP m k)
/-- the static arrays of Law: 3 FIRST, 4 LETTER, 5 LEAST, 6 MOST -/
def stc (k : Nat) : List Int32 := match k with
  | 3 => [10, 3, 5, 2, 50, 30]
  | 4 => [116, 103, 105, 107, 115, 114]
  | 5 => [1, 0, 0, 0, 1, 1]
  | _ => [999, 99, 99, 20, 999, 999]
/-- the kinds of the keys below 8: 1 the empty list's array, 3 .. 6 the static arrays (kind 13) -/
def kind0 (k : Nat) : Nat := if k = 1 then 12 else if 3 ≤ k ∧ k ≤ 6 then 13 else 99
def Mem (g : Gv) (m : Mm) (H : Heap) : Prop := 8 ≤ mS m ∧ H.size = g.2 4 + (mS m - 8) ∧ (∀ k, k < 8 → mT m k = kind0 k) ∧ (∀ k, mS m ≤ k → mT m k = 99) ∧ mN m 1 = 0 ∧ (∀ k, 3 ≤ k → k ≤ 6 → mN m k = 6 ∧ mI m k = fun j => (stc k).getD j 0) ∧ ∀ k, 8 ≤ k → k < mS m → mT m k ≤ 12 ∧ va_at g.1 vwCl (ad g k, celm g m k) H
abbrev Ag (g : Gv) : Nat → Prop := fun q => g.2 4 ≤ q
/-- the memory as a world of the kit -/
def wl (g : Gv) (m : Mm) : va_W := (List.range (mS m - 8)).map (fun j => (g.2 4 + j, celm g m (j + 8)))
theorem wl_len (g : Gv) (m : Mm) : (wl g m).length = mS m - 8 := by simp [wl]
theorem wl_get (g : Gv) (m : Mm) {k : Nat} (h8 : 8 ≤ k) (hk : k < mS m) : (wl g m)[k - 8]? = some (ad g k, celm g m k) := by
  unfold wl
  rw [List.getElem?_map, List.getElem?_range (by omega), ad_ge g h8]
  simp only [Option.map_some]
  rw [show k - 8 + 8 = k by omega]
theorem wl_in {g : Gv} {m : Mm} {j : Nat} {q : Nat × va_E} (h : (wl g m)[j]? = some q) : j < mS m - 8 ∧ q = (g.2 4 + j, celm g m (j + 8)) := by
  have hl : j < mS m - 8 := by
    have := (List.getElem?_eq_some_iff.mp h).1
    rwa [wl_len] at this
  refine ⟨hl, ?_⟩
  unfold wl at h
  rw [List.getElem?_map, List.getElem?_range hl] at h
  exact (Option.some.inj h).symm
theorem wl_P {g : Gv} {m : Mm} {H : Heap} (h : Mem g m H) : va_P g.1 vwCl (wl g m) H := by
  intro j q hq
  obtain ⟨h1, rfl⟩ := wl_in hq
  have h2 := (h.2.2.2.2.2.2 (j + 8) (by omega) (by omega)).2
  rw [ad_ge g (by omega), Nat.add_sub_cancel] at h2
  exact h2
theorem wl_D (g : Gv) (m : Mm) : va_D (Ag g) (wl g m) := by
  refine ⟨fun i j p q hp hq e => ?_, fun k q hq => ?_⟩
  · obtain ⟨h1, rfl⟩ := wl_in hp
    obtain ⟨h2, rfl⟩ := wl_in hq
    have : g.2 4 + i = g.2 4 + j := e
    omega
  · obtain ⟨h1, rfl⟩ := wl_in hq
    exact Nat.le_add_right _ _
theorem Mem.key {g : Gv} {m : Mm} {H : Heap} (h : Mem g m H) {k t : Nat} (hT : mT m k = t) (ht : t ≤ 11) : 8 ≤ k ∧ k < mS m := by
  obtain ⟨-, -, h3, h4, -⟩ := h
  have a : 8 ≤ k := by
    rcases Nat.lt_or_ge k 8 with q | q
    · have := h3 k q
      unfold kind0 at this
      split at this
      · omega
      · split at this <;> omega
    · exact q
  refine ⟨a, ?_⟩
  rcases Nat.lt_or_ge k (mS m) with q | q
  · exact q
  · have := h4 k q
    omega
theorem Mem.keyO {g : Gv} {m : Mm} {H : Heap} (h : Mem g m H) {k : Nat} (hT : mT m k = 12) (h1 : k ≠ 1) : 8 ≤ k ∧ k < mS m := by
  obtain ⟨-, -, h3, h4, -⟩ := h
  have a : 8 ≤ k := by
    rcases Nat.lt_or_ge k 8 with q | q
    · have := h3 k q
      unfold kind0 at this
      rw [if_neg h1] at this
      split at this <;> omega
    · exact q
  refine ⟨a, ?_⟩
  rcases Nat.lt_or_ge k (mS m) with q | q
  · exact q
  · have := h4 k q
    omega
/-- one row has changed -/
theorem Mem.put {g : Gv} {m m2 : Mm} {H H1 : Heap} {k : Nat} (h : Mem g m H) (h8 : 8 ≤ k) (hk : k < mS m) (ho : Off m m2 k) (z : H1.size = H.size) (oq : ∀ q, q ≠ ad g k → H1[q]? = H[q]?) (hc : va_at g.1 vwCl (ad g k, celm g m2 k) H1) : Mem g m2 H1 := by
  obtain ⟨a1, a2, a3, a4, a5, a6, a7⟩ := h
  obtain ⟨b1, b2, b3, b4⟩ := ho
  refine ⟨by rw [b1]; exact a1, by rw [z, a2, b1], fun j hj => by rw [b2]; exact a3 j hj, fun j hj => by rw [b2]; exact a4 j (by rw [← b1]; exact hj), by rw [b3]; exact a5, fun j h3 h6 => ?_, fun j h8' hj => ?_⟩
  · rw [b3, (b4 j (by omega)).1]
    exact a6 j h3 h6
  · rw [b1] at hj
    refine ⟨by rw [b2]; exact (a7 j h8' hj).1, ?_⟩
    by_cases e : j = k
    · rw [e]; exact hc
    · obtain ⟨c1, c2, c3⟩ := b4 j e
      have := (a7 j h8' hj).2
      unfold celm
      rw [b2, b3, c1, c2, c3]
      refine this.kept (oq _ ?_)
      show ad g j ≠ ad g k
      rw [ad_ge g h8', ad_ge g h8]
      omega
/-- one cell has come -/
theorem Mem.new {g : Gv} {m : Mm} {H H1 : Heap} {t n : Nat} (h : Mem g m H) (ht : t ≤ 12) (z : H1.size = H.size + 1) (oq : ∀ q, q < H.size → H1[q]? = H[q]?) (hc : va_at g.1 vwCl (H.size, cel g t n (fun _ => 0) (fun _ => 0) (fun _ => 0)) H1) : Mem g (nw m t n) H1 := by
  obtain ⟨a1, a2, a3, a4, a5, a6, a7⟩ := h
  have eS : mS (nw m t n) = mS m + 1 := rfl
  have eT : ∀ j, j ≠ mS m → mT (nw m t n) j = mT m j := fun j hj => va_up_ne _ _ hj
  have eN : ∀ j, j ≠ mS m → mN (nw m t n) j = mN m j := fun j hj => va_up_ne _ _ hj
  have eI : ∀ j, j ≠ mS m → mI (nw m t n) j = mI m j := fun j hj => va_up_ne _ _ hj
  have eL : ∀ j, j ≠ mS m → mL (nw m t n) j = mL m j := fun j hj => va_up_ne _ _ hj
  have eP : ∀ j, j ≠ mS m → mP (nw m t n) j = mP m j := fun j hj => va_up_ne _ _ hj
  refine ⟨by rw [eS]; omega, by rw [z, a2, eS]; omega, fun j hj => by rw [eT j (by omega)]; exact a3 j hj, fun j hj => by rw [eS] at hj; rw [eT j (by omega)]; exact a4 j (by omega), by rw [eN 1 (by omega)]; exact a5, fun j h3 h6 => ?_, fun j h8 hj => ?_⟩
  · rw [eN j (by omega), eI j (by omega)]
    exact a6 j h3 h6
  · rw [eS] at hj
    by_cases e : j = mS m
    · subst e
      have c1 : mT (nw m t n) (mS m) = t := va_up_self _ _ _
      have c2 : mN (nw m t n) (mS m) = n := va_up_self _ _ _
      have c3 : mI (nw m t n) (mS m) = fun _ => 0 := va_up_self _ _ _
      have c4 : mL (nw m t n) (mS m) = fun _ => 0 := va_up_self _ _ _
      have c5 : mP (nw m t n) (mS m) = fun _ => 0 := va_up_self _ _ _
      refine ⟨by rw [c1]; exact ht, ?_⟩
      unfold celm
      rw [c1, c2, c3, c4, c5, ad_ge g a1, ← a2]
      exact hc
    · have hj' : j < mS m := by omega
      refine ⟨by rw [eT j e]; exact (a7 j h8 hj').1, ?_⟩
      unfold celm
      rw [eT j e, eN j e, eI j e, eL j e, eP j e]
      have := (a7 j h8 hj').2
      refine this.kept (oq _ ?_)
      exact this.lt
/-- the walk's world: the memory, and nothing older changed -/
def Wo (g : Gv) (m : Mm) (s : State) (H : Heap) (locs : List Loc) : Prop := Mem g m H ∧ va_S (Ag g) s.heap H locs
