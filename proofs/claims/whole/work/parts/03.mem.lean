/-! numbers: a Java int is written by a whole number z, an int row of the machine by qI z -/
abbrev qMem : Type := Nat → Nat → Int → Int
abbrev qGm : Type := va_G × (ClassId × ClassId × ClassId × ClassId) × (Nat → Nat → Nat)
abbrev qIn (z : Int) : Prop := -2147483648 ≤ z ∧ z ≤ 2147483647
abbrev qI (z : Int) : Value := .int (Int32.ofInt z)
abbrev qJ (z : Int) : Value := .long (Int64.ofInt z)
abbrev qR (g : qGm) (j u : Nat) : Value := .ref (g.2.2 j u)
theorem q_ti {z : Int} (h : qIn z) : (Int32.ofInt z).toInt = z := Int32.toInt_ofInt_of_le (by omega) (by omega)
theorem q_tj {z : Int} (h1 : -9223372036854775808 ≤ z) (h2 : z ≤ 9223372036854775807) : (Int64.ofInt z).toInt = z := Int64.toInt_ofInt_of_le (by omega) (by omega)
theorem q_inj {a b : Int} (ha : qIn a) (hb : qIn b) : Int32.ofInt a = Int32.ofInt b ↔ a = b := by
  constructor
  · intro h
    have := congrArg Int32.toInt h
    rwa [q_ti ha, q_ti hb] at this
  · intro h; rw [h]
theorem q_lt {a b : Int} (ha : qIn a) (hb : qIn b) : Int32.ofInt a < Int32.ofInt b ↔ a < b := by rw [Int32.lt_iff_toInt_lt, q_ti ha, q_ti hb]
theorem q_le {a b : Int} (ha : qIn a) (hb : qIn b) : Int32.ofInt a ≤ Int32.ofInt b ↔ a ≤ b := by rw [Int32.le_iff_toInt_le, q_ti ha, q_ti hb]
theorem q_tin (x : Int32) : qIn x.toInt := by
  have h1 := x.toInt_lt
  have h2 := x.le_toInt
  omega
theorem q_cl {z : Int} (h0 : 0 ≤ z) (h : z ≤ 2147483647) : (Int32.ofInt z).toNatClampNeg = z.toNat := Int32.toNatClampNeg_ofInt_of_le (by omega) (by omega)
theorem q_vin {z : Int} {n : Nat} (h0 : 0 ≤ z) (h : z < n) (hn : n ≤ 2147483647) : vp_in (Int32.ofInt z) n := by
  rw [vp_in_iff, q_ti ⟨by omega, by omega⟩]
  exact ⟨h0, h⟩
/-! the memory: kind j, which one of it u, place i -/
def qUp (M : qMem) (j u : Nat) (i z : Int) : qMem := fun j' u' i' => if j' = j then if u' = u then if i' = i then z else M j' u' i' else M j' u' i' else M j' u' i'
def qSet (M : qMem) (j u : Nat) (f : Int → Int) : qMem := fun j' u' => if j' = j then if u' = u then f else M j' u' else M j' u'
def qRg (M : qMem) : Prop := ∀ (j u : Nat) (i : Int), qIn (M j u i)
theorem q_rgUp {M : qMem} (h : qRg M) {j u : Nat} {i z : Int} (hz : qIn z) : qRg (qUp M j u i z) := by
  intro j' u' i'
  unfold qUp
  split
  · split
    · split
      · exact hz
      · exact h _ _ _
    · exact h _ _ _
  · exact h _ _ _
theorem q_rgSet {M : qMem} (h : qRg M) {j u : Nat} {f : Int → Int} (hz : ∀ i, qIn (f i)) : qRg (qSet M j u f) := by
  intro j' u' i'
  unfold qSet
  split
  · split
    · exact hz _
    · exact h _ _ _
  · exact h _ _ _
theorem q_upOff {M : qMem} {j u j' u' : Nat} {i z : Int} (h : ¬ (j' = j ∧ u' = u)) : qUp M j u i z j' u' = M j' u' := by
  funext i'
  unfold qUp
  split
  · split
    · exact absurd ⟨by assumption, by assumption⟩ h
    · rfl
  · rfl
theorem q_setOff {M : qMem} {j u j' u' : Nat} {f : Int → Int} (h : ¬ (j' = j ∧ u' = u)) : qSet M j u f j' u' = M j' u' := by
  unfold qSet
  split
  · split
    · exact absurd ⟨by assumption, by assumption⟩ h
    · rfl
  · rfl
theorem q_upOn {M : qMem} {j u : Nat} {i z : Int} : qUp M j u i z j u = fun k => if k = i then z else M j u k := by
  funext k; simp [qUp]
theorem q_setOn {M : qMem} {j u : Nat} {f : Int → Int} : qSet M j u f j u = f := by simp [qSet]
theorem q_rd (M : qMem) (j u : Nat) (i z : Int) (j' u' : Nat) (i' : Int) : qUp M j u i z j' u' i' = if j' = j then if u' = u then if i' = i then z else M j' u' i' else M j' u' i' else M j' u' i' := rfl
theorem q_rdS (M : qMem) (j u : Nat) (f : Int → Int) (j' u' : Nat) (i' : Int) : qSet M j u f j' u' i' = if j' = j then if u' = u then f i' else M j' u' i' else M j' u' i' := by
  unfold qSet
  split
  · split <;> rfl
  · rfl
/-! the cells -/
def qRow (g : qGm) (M : qMem) (j u n : Nat) : va_E := .inl (g.2.1.1, n, .inl (fun k => Int32.ofInt (M j u (k : Int))))
def qCnt : Nat → Nat := fun j => match j with
  | 0 => 1 | 1 => 1 | 2 => 1 | 3 => 2 | 4 => 2 | 5 => 2 | 6 => 2 | 7 => 2 | 8 => 2 | 9 => 2
  | 10 => 33 | 11 => 33 | 12 => 33 | 13 => 33 | 14 => 33 | 15 => 33 | 16 => 33 | 17 => 33 | 18 => 33
  | 19 => 1 | 20 => 1 | 21 => 1 | 22 => 1 | 23 => 1 | 24 => 1 | 26 => 1 | 27 => 1 | 28 => 2 | 29 => 1 | 30 => 1 | 31 => 1 | 32 => 1 | 33 => 1 | 34 => 1 | 35 => 1
  | 41 => 1 | 49 => 1 | 50 => 1 | 51 => 1 | 52 => 1 | 53 => 1 | 54 => 1 | 58 => 1 | 59 => 1 | 60 => 1 | 61 => 1 | 62 => 1 | 63 => 1 | 64 => 1 | 67 => 1 | 70 => 1 | 71 => 1 | 73 => 1 | 74 => 1 | 75 => 1 | 76 => 1 | 77 => 1
  | _ => 0
def qCell (g : qGm) (M : qMem) (j u : Nat) : va_E := match j with
  | 0 => .inr (11, [qR g 1 0, qR g 3 0, qR g 3 1, qR g 10 0, qR g 19 0, qR g 20 0, qR g 26 0, qR g 28 0, qR g 28 1, qR g 29 0, qR g 32 0, qI (M 0 u 11)])
  | 1 => .inr (9, [qR g 2 u, qI (M 1 u 1), qI (M 1 u 2), qI (M 1 u 3), qI (M 1 u 4)])
  | 2 => qRow g M 2 u 240
  | 3 => .inr (7, [qI (M 3 u 0), qI (M 3 u 1), qI (M 3 u 2), qR g 4 u, qR g 5 u, qR g 6 u, qR g 7 u, qR g 8 u, qR g 9 u])
  | 4 => qRow g M 4 u 6
  | 5 => qRow g M 5 u 6
  | 6 => qRow g M 6 u 6
  | 7 => qRow g M 7 u 6
  | 8 => qRow g M 8 u 6
  | 9 => qRow g M 9 u 48
  | 10 => .inr (2, [qI (M 10 u 0), qI (M 10 u 1), qR g 11 u, qR g 12 u, qR g 13 u, qR g 14 u, qR g 15 u, qR g 16 u, qR g 17 u])
  | 11 => qRow g M 11 u 6
  | 12 => qRow g M 12 u 6
  | 13 => qRow g M 13 u 6
  | 14 => qRow g M 14 u 6
  | 15 => qRow g M 15 u 36
  | 16 => qRow g M 16 u 36
  | 17 => .inr (4, [qR g 18 u, qI (M 17 u 1), qI (M 17 u 2)])
  | 18 => qRow g M 18 u 100
  | 19 => .inr (10, [qR g 3 1, qR g 10 0])
  | 20 => .inr (5, [qR g 19 0, qR g 21 u, qR g 22 u, qR g 23 u, qR g 24 u, qI (M 20 u 5)])
  | 21 => qRow g M 21 u 36
  | 22 => qRow g M 22 u 6
  | 23 => qRow g M 23 u 6
  | 24 => qRow g M 24 u 6
  | 26 => .inr (6, [qR g 27 u, qI (M 26 u 1), qI (M 26 u 2)])
  | 27 => .inl (g.2.1.2.2.2, 30, .inr (.inr (.inr (.inr (fun k => some (g.2.2 10 (k + 1)))))))
  | 28 => .inr (3, [qI (M 28 u 0), qI (M 28 u 1), qR g 10 (31 + u)])
  | 29 => .inr (8, [qR g 30 u, qR g 31 u, qI (M 29 u 2)])
  | 30 => qRow g M 30 u 6
  | 31 => qRow g M 31 u 6
  | 32 => .inr (0, [qR g 33 u, qR g 34 u, qI (M 32 u 2)])
  | 33 => qRow g M 33 u 20
  | 34 => qRow g M 34 u 20
  | 35 => .inr (12, [qI (M 35 u 0), qR g 41 u, qI (M 35 u 2), qI (M 35 u 3), qI (M 35 u 4), qI (M 35 u 5), qI (M 35 u 6), qI (M 35 u 7), qI (M 35 u 8), qR g 49 u, qR g 50 u, qR g 51 u, qR g 52 u, qR g 53 u, qR g 54 u, qI (M 35 u 15), qI (M 35 u 16), qI (M 35 u 17), qR g 58 u, qR g 59 u, qR g 60 u, qR g 61 u, qR g 62 u, qR g 63 u, qR g 64 u, qI (M 35 u 25), qI (M 35 u 26), qR g 67 u, qJ (M 35 u 28), qI (M 35 u 29), qR g 70 u, qR g 71 u, qI (M 35 u 32), qR g 73 u, qR g 74 u, qR g 75 u, qR g 76 u, qR g 77 u])
  | 41 => qRow g M 41 u 240
  | 49 => qRow g M 49 u 6
  | 50 => qRow g M 50 u 6
  | 51 => qRow g M 51 u 6
  | 52 => qRow g M 52 u 6
  | 53 => qRow g M 53 u 6
  | 54 => qRow g M 54 u 48
  | 58 => qRow g M 58 u 6
  | 59 => qRow g M 59 u 6
  | 60 => qRow g M 60 u 48
  | 61 => qRow g M 61 u 199
  | 62 => qRow g M 62 u 6
  | 63 => qRow g M 63 u 6
  | 64 => qRow g M 64 u 6
  | 67 => qRow g M 67 u 5970
  | 70 => qRow g M 70 u 6
  | 71 => qRow g M 71 u 6
  | 73 => qRow g M 73 u 20
  | 74 => qRow g M 74 u 20
  | 75 => .inl (g.2.1.2.2.1, 2, .inl (fun k => Int32.ofInt (M 75 u (k : Int))))
  | 76 => qRow g M 76 u 398
  | 77 => .inl (g.2.1.2.1, 2, .inr (.inl (fun k => Int64.ofInt (M 77 u (k : Int)))))
  | _ => .inr (0, [])
set_option maxRecDepth 20000 in
/-- a cell looks at its own row of the memory alone -/
theorem q_cellOff (g : qGm) (M M' : qMem) (j u : Nat) (h : M' j u = M j u) : qCell g M' j u = qCell g M j u := by
  unfold qCell qRow
  split <;> simp only [h]
/-- all cells' places -/
def qIx : List (Nat × Nat) := (List.range 78).flatMap (fun j => (List.range (qCnt j)).map (fun u => (j, u)))
theorem q_ixMem {j u : Nat} : (j, u) ∈ qIx ↔ j < 78 ∧ u < qCnt j := by
  simp [qIx, List.mem_flatMap]
theorem q_cntLt {j u : Nat} (h : u < qCnt j) : j < 78 := by
  unfold qCnt at h
  split at h <;> omega
theorem q_ixMem' {j u : Nat} : (j, u) ∈ qIx ↔ u < qCnt j := by
  rw [q_ixMem]
  exact ⟨fun h => h.2, fun h => ⟨q_cntLt h, h⟩⟩
theorem q_ixNd : qIx.Nodup := by decide +kernel
def qWl (g : qGm) (M : qMem) : va_W := qIx.map (fun q => (g.2.2 q.1 q.2, qCell g M q.1 q.2))
def qWd (g : qGm) (M : qMem) (H : Heap) : Prop := va_P g.1 qcl (qWl g M) H
def qDj (g : qGm) : Prop := ∀ j u j' u', u < qCnt j → u' < qCnt j' → g.2.2 j u = g.2.2 j' u' → j = j' ∧ u = u'
def qFr (g : qGm) : Nat → Prop := fun q => ∃ j u, u < qCnt j ∧ q = g.2.2 j u
theorem q_at {j u : Nat} (h : u < qCnt j) (g : qGm) (M : qMem) : ∃ k : Nat, qIx[k]? = some (j, u) ∧ (qWl g M)[k]? = some (g.2.2 j u, qCell g M j u) := by
  obtain ⟨k, hk⟩ := List.getElem?_of_mem (q_ixMem'.mpr h)
  exact ⟨k, hk, by simp [qWl, hk]⟩
theorem q_wlAt {g : qGm} {M : qMem} {k : Nat} {q : Nat × va_E} (h : (qWl g M)[k]? = some q) : ∃ j u, u < qCnt j ∧ qIx[k]? = some (j, u) ∧ q = (g.2.2 j u, qCell g M j u) := by
  simp only [qWl, List.getElem?_map, Option.map_eq_some_iff] at h
  obtain ⟨⟨j, u⟩, h1, h2⟩ := h
  exact ⟨j, u, q_ixMem'.mp (List.mem_of_getElem? h1), h1, h2.symm⟩
theorem q_D {g : qGm} {A : Nat → Prop} (hd : qDj g) (hA : ∀ q, qFr g q → A q) (M : qMem) : va_D A (qWl g M) := by
  refine ⟨fun i j p q hi hj hpq => ?_, fun k q hk => ?_⟩
  · obtain ⟨j1, u1, h1, h2, rfl⟩ := q_wlAt hi
    obtain ⟨j2, u2, h3, h4, rfl⟩ := q_wlAt hj
    obtain ⟨rfl, rfl⟩ := hd j1 u1 j2 u2 h1 h3 hpq
    exact (List.getElem?_inj (by exact (List.getElem?_eq_some_iff.mp h2).1) q_ixNd).mp (h2.trans h4.symm)
  · obtain ⟨j1, u1, h1, h2, rfl⟩ := q_wlAt hk
    exact hA _ ⟨j1, u1, h1, rfl⟩
/-- one cell new, the others as they were -/
theorem q_wdSetA {g : qGm} {M M' : qMem} {j u k : Nat} {H1 : Heap} (hu : u < qCnt j) (hk : qIx[k]? = some (j, u)) (ho : ∀ j' u', ¬ (j' = j ∧ u' = u) → M' j' u' = M j' u') {e : va_E} (he : va_at g.1 qcl (g.2.2 j u, e) H1 → va_at g.1 qcl (g.2.2 j u, qCell g M' j u) H1) (h : va_P g.1 qcl ((qWl g M).set k (g.2.2 j u, e)) H1) : qWd g M' H1 := by
  intro k' q hq
  obtain ⟨j1, u1, h1, h2, rfl⟩ := q_wlAt hq
  have hlen : k < (qWl g M).length := by
    have := (List.getElem?_eq_some_iff.mp hk).1
    simpa [qWl] using this
  by_cases hkk : k' = k
  · subst hkk
    rw [hk] at h2
    cases h2
    have := h k' (g.2.2 j u, e) (by rw [List.getElem?_set_self hlen])
    exact he this
  · have hne : ¬ (j1 = j ∧ u1 = u) := by
      rintro ⟨rfl, rfl⟩
      exact hkk ((List.getElem?_inj (by exact (List.getElem?_eq_some_iff.mp h2).1) q_ixNd).mp (h2.trans hk.symm))
    have h3 := h k' (g.2.2 j1 u1, qCell g M j1 u1) (by rw [List.getElem?_set_ne (Ne.symm hkk)]; simp [qWl, h2])
    rw [q_cellOff g M M' j1 u1 (ho j1 u1 hne)]
    exact h3
theorem q_wdSet {g : qGm} {M M' : qMem} {j u k : Nat} {H1 : Heap} (hu : u < qCnt j) (hk : qIx[k]? = some (j, u)) (ho : ∀ j' u', ¬ (j' = j ∧ u' = u) → M' j' u' = M j' u') {e : va_E} (he : qCell g M' j u = e) (h : va_P g.1 qcl ((qWl g M).set k (g.2.2 j u, e)) H1) : qWd g M' H1 := q_wdSetA hu hk ho (fun h => by rw [he]; exact h) h
/-! the locals: the first value listed of a place holds -/
def qLg : List (Nat × Value) → Nat → Option Value
  | [], _ => none
  | q :: r, k => match Nat.beq q.1 k with
    | true => some q.2
    | false => qLg r k
def qLh (la : Array Slot) (nL : Nat) (ls : List (Nat × Value)) : Prop := la.size = nL ∧ lv_wf la ∧ ∀ k v, qLg ls k = some v → la[k]? = some (.val v)
def qLc (nL : Nat) (ls : List (Nat × Value)) : List (Nat × Value) := (List.range nL).filterMap (fun k => (qLg ls k).map (fun w => (k, w)))
theorem q_lcMem {nL : Nat} {ls : List (Nat × Value)} {k : Nat} {v : Value} : (k, v) ∈ qLc nL ls ↔ k < nL ∧ qLg ls k = some v := by
  simp only [qLc, List.mem_filterMap, List.mem_range, Option.map_eq_some_iff, Prod.mk.injEq]
  constructor
  · rintro ⟨a, h1, w, h2, rfl, rfl⟩
    exact ⟨h1, h2⟩
  · rintro ⟨h1, h2⟩
    exact ⟨k, h1, v, h2, rfl, rfl⟩
theorem qLh.has {la : Array Slot} {nL : Nat} {ls : List (Nat × Value)} (h : qLh la nL ls) : lv_has la nL (qLc nL ls) := by
  refine ⟨h.1, h.2.1, fun q hq => ?_⟩
  obtain ⟨k, v⟩ := q
  exact h.2.2 k v (q_lcMem.mp hq).2
theorem qLg_cons {k i : Nat} {v w : Value} {ls : List (Nat × Value)} (h : qLg ((i, v) :: ls) k = some w) : (k = i ∧ w = v) ∨ (k ≠ i ∧ qLg ls k = some w) := by
  unfold qLg at h
  cases hb : Nat.beq i k with
  | true =>
    simp only [hb] at h
    exact Or.inl ⟨(Nat.eq_of_beq_eq_true hb).symm, (Option.some.inj h).symm⟩
  | false =>
    simp only [hb] at h
    exact Or.inr ⟨fun e => by rw [e] at hb; simp at hb, h⟩
/-- no long ahead of place i -/
def qL1 (ls : List (Nat × Value)) (i : Nat) : Bool := match qLg ls (i - 1) with
  | some (.long _) => false
  | some (.double _) => false
  | _ => true
theorem qLh.put1 {la0 la : Array Slot} {nL i : Nat} {v : Value} {ls : List (Nat × Value)} (h0 : qLh la0 nL ls) (hc : qL1 ls i = true) (h : lv_has la nL ((i, v) :: (qLc nL ls).filter (fun q => !(q.1 == i) && !(q.1 + 1 == i && q.2.category == 2)))) : qLh la nL ((i, v) :: ls) := by
  refine ⟨h.1, h.2.1, fun k w hk => ?_⟩
  rcases qLg_cons hk with ⟨rfl, rfl⟩ | ⟨hne, hg⟩
  · exact h.2.2 (k, w) List.mem_cons_self
  · have hw : k + 1 = i → w.category = 1 := by
      intro e
      subst e
      unfold qL1 at hc
      rw [Nat.add_sub_cancel, hg] at hc
      cases w <;> first | rfl | cases hc
    by_cases hkn : k < nL
    · refine h.2.2 (k, w) (List.mem_cons_of_mem _ (List.mem_filter.mpr ⟨q_lcMem.mpr ⟨hkn, hg⟩, ?_⟩))
      simp only [Bool.and_eq_true, Bool.not_eq_true', beq_eq_false_iff_ne, ne_eq, Bool.and_eq_false_iff]
      refine ⟨hne, ?_⟩
      by_cases e : k + 1 = i
      · right; rw [hw e]; decide
      · left; exact e
    · have h9 := lv_lt (h0.2.2 k w hg)
      rw [h0.1] at h9
      exact absurd h9 hkn
