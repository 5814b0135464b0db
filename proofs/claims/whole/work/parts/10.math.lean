/-! sums, first places, greatest values, over 0 .. i-1 -/
def sSumN (f : Int → Int) : Nat → Int
  | 0 => 0
  | n + 1 => sSumN f n + f n
def sSum (f : Int → Int) (i : Int) : Int := sSumN f i.toNat
theorem sSum_0 (f : Int → Int) : sSum f 0 = 0 := rfl
theorem sSum_s (f : Int → Int) {i : Int} (h : 0 ≤ i) : sSum f (i + 1) = sSum f i + f i := by
  unfold sSum
  rw [show (i + 1).toNat = i.toNat + 1 by omega, sSumN, Int.toNat_of_nonneg h]
theorem sSum_c {f f' : Int → Int} {n : Int} (h : ∀ k, 0 ≤ k → k < n → f k = f' k) : sSum f n = sSum f' n := by
  unfold sSum
  have : ∀ m : Nat, m ≤ n.toNat → sSumN f m = sSumN f' m := by
    intro m
    induction m with
    | zero => intro _; rfl
    | succ m ih => intro hm; rw [sSumN, sSumN, ih (by omega), h m (by omega) (by omega)]
  exact this _ (Nat.le_refl _)
theorem sSum_b {f : Int → Int} {n B : Int} (hn : 0 ≤ n) (h : ∀ k, 0 ≤ k → k < n → 0 ≤ f k ∧ f k ≤ B) : 0 ≤ sSum f n ∧ sSum f n ≤ B * n := by
  unfold sSum
  have : ∀ m : Nat, m ≤ n.toNat → 0 ≤ sSumN f m ∧ sSumN f m ≤ B * m := by
    intro m
    induction m with
    | zero => intro _; simp [sSumN]
    | succ m ih =>
      intro hm
      have h1 := ih (by omega)
      have h2 := h m (by omega) (by omega)
      rw [sSumN]
      have e : B * ((m + 1 : Nat) : Int) = B * m + B := by rw [Int.natCast_add, Int.mul_add]; simp
      rw [e]
      omega
  have h3 := this _ (Nat.le_refl _)
  rw [Int.toNat_of_nonneg hn] at h3
  exact h3
theorem sSum_z {f : Int → Int} {n m : Int} (h0 : 0 ≤ n) (h1 : n ≤ m) (h : ∀ k, n ≤ k → k < m → f k = 0) : sSum f m = sSum f n := by
  have : ∀ j : Nat, n + j ≤ m → sSum f (n + j) = sSum f n := by
    intro j
    induction j with
    | zero => intro _; simp
    | succ j ih =>
      intro hj
      rw [show n + ((j + 1 : Nat) : Int) = n + j + 1 by omega, sSum_s f (by omega), ih (by omega), h _ (by omega) (by omega)]
      simp
  have h2 := this (m - n).toNat (by omega)
  rw [show n + ((m - n).toNat : Int) = m by omega] at h2
  exact h2
/-- the first place of i .. n-1 where it is so -/
def sFrN (p : Int → Bool) (n : Int) : Nat → Int
  | 0 => -1
  | j + 1 => if p (n - j - 1) then n - j - 1 else sFrN p n j
def sFr (p : Int → Bool) (n i : Int) : Int := sFrN p n (n - i).toNat
theorem sFr_e (p : Int → Bool) (n : Int) : sFr p n n = -1 := by unfold sFr; rw [show (n - n).toNat = 0 by omega]; rfl
theorem sFr_s (p : Int → Bool) {n i : Int} (h : i < n) : sFr p n i = if p i then i else sFr p n (i + 1) := by
  unfold sFr
  rw [show (n - i).toNat = (n - (i + 1)).toNat + 1 by omega, sFrN, show n - ((n - (i + 1)).toNat : Int) - 1 = i by omega]
theorem sFr_c {p p' : Int → Bool} {n i : Int} (h : ∀ k, i ≤ k → k < n → p k = p' k) : sFr p n i = sFr p' n i := by
  unfold sFr
  have : ∀ j : Nat, (j : Int) ≤ n - i → sFrN p n j = sFrN p' n j := by
    intro j
    induction j with
    | zero => intro _; rfl
    | succ j ih => intro hj; rw [sFrN, sFrN, ih (by omega), h _ (by omega) (by omega)]
  by_cases hi : i ≤ n
  · exact this _ (by omega)
  · rw [show (n - i).toNat = 0 by omega]; rfl
theorem sFr_in (p : Int → Bool) {n i : Int} (h : 0 ≤ i) : sFr p n i = -1 ∨ (i ≤ sFr p n i ∧ sFr p n i < n ∧ p (sFr p n i) = true) := by
  unfold sFr
  have : ∀ j : Nat, (j : Int) ≤ n - i → sFrN p n j = -1 ∨ (n - j ≤ sFrN p n j ∧ sFrN p n j < n ∧ p (sFrN p n j) = true) := by
    intro j
    induction j with
    | zero => intro _; exact Or.inl rfl
    | succ j ih =>
      intro hj
      rw [sFrN]
      split
      · right
        refine ⟨by omega, by omega, by assumption⟩
      · rcases ih (by omega) with h1 | ⟨h1, h2, h3⟩
        · exact Or.inl h1
        · exact Or.inr ⟨by omega, h2, h3⟩
  by_cases hi : i ≤ n
  · rcases this (n - i).toNat (by omega) with h1 | ⟨h1, h2, h3⟩
    · exact Or.inl h1
    · exact Or.inr ⟨by omega, h2, h3⟩
  · rw [show (n - i).toNat = 0 by omega]; exact Or.inl rfl
/-- the greatest of b and f 0 .. f (i-1) -/
def sMxN (f : Int → Int) (b : Int) : Nat → Int
  | 0 => b
  | n + 1 => sMax (sMxN f b n) (f n)
def sMx (f : Int → Int) (b i : Int) : Int := sMxN f b i.toNat
theorem sMx_0 (f : Int → Int) (b : Int) : sMx f b 0 = b := rfl
theorem sMx_s (f : Int → Int) (b : Int) {i : Int} (h : 0 ≤ i) : sMx f b (i + 1) = sMax (sMx f b i) (f i) := by
  unfold sMx
  rw [show (i + 1).toNat = i.toNat + 1 by omega, sMxN, Int.toNat_of_nonneg h]
theorem sMx_c {f f' : Int → Int} {b n : Int} (h : ∀ k, 0 ≤ k → k < n → f k = f' k) : sMx f b n = sMx f' b n := by
  unfold sMx
  have : ∀ m : Nat, m ≤ n.toNat → sMxN f b m = sMxN f' b m := by
    intro m
    induction m with
    | zero => intro _; rfl
    | succ m ih => intro hm; rw [sMxN, sMxN, ih (by omega), h m (by omega) (by omega)]
  exact this _ (Nat.le_refl _)
theorem sMx_b {f : Int → Int} {b n B : Int} (hb : b ≤ B) (h : ∀ k, 0 ≤ k → k < n → f k ≤ B) : b ≤ sMx f b n ∧ sMx f b n ≤ B := by
  unfold sMx
  have : ∀ m : Nat, m ≤ n.toNat → b ≤ sMxN f b m ∧ sMxN f b m ≤ B := by
    intro m
    induction m with
    | zero => intro _; exact ⟨Int.le_refl _, hb⟩
    | succ m ih =>
      intro hm
      have h1 := ih (by omega)
      have h2 := h m (by omega) (by omega)
      have h3 := sMax_l (sMxN f b m) (f m)
      rw [sMxN]
      omega
  exact this _ (Nat.le_refl _)
/-! what a house hears: manners, worth, stuffing, prizes by their meanings, the sign -/
def sHr (mn w s : Int) (pr : Int → Int) (g : Int) : Int := sMax (w + s + 3 * pr (sMean g) - (if sSaid mn g then 0 else 10)) 0
theorem sHr_in {mn w s : Int} {pr : Int → Int} {g : Int} (h0 : 0 ≤ g) (h1 : g < 48) (hw : 0 ≤ w ∧ w ≤ 9) (hs : 0 ≤ s ∧ s ≤ 9) (hp : ∀ k, 0 ≤ k → k ≤ 7 → 0 ≤ pr k ∧ pr k ≤ 9) : 0 ≤ sHr mn w s pr g ∧ sHr mn w s pr g ≤ 45 := by
  have h2 := sMean_in h0 h1
  have h3 := hp _ h2.1 h2.2
  unfold sHr
  have h4 := sMax_l (w + s + 3 * pr (sMean g) - (if sSaid mn g then 0 else 10)) 0
  split at h4 <;> split <;> omega
/-- a season as a record: 0 manners, 1 worths, 2 ferns, 3 prizes, 4 how many comers, 5 how many houses -/
abbrev sSD : Type := Nat → Int → Int
def sHeard (sd : sSD) (v : Int → Int) (c h g : Int) : Int := sHr (sd 0 0) (sd 1 c) (if sHas (v (92 + c)) h then 0 else v (14 + c)) (fun k => sd 3 (8 * h + k)) g
def sAns (sd : sSD) (v : Int → Int) (c h g : Int) : Int := if sd 2 h ≤ sHeard sd v c h g then 2 else if v (2 + h) ≤ sHeard sd v c h g then 1 else 0
/-- the bounds of a season -/
def sRS (sd : sSD) : Prop := (-1 ≤ sd 0 0 ∧ sd 0 0 ≤ 2) ∧ (0 ≤ sd 4 0 ∧ sd 4 0 ≤ 6) ∧ (0 ≤ sd 5 0 ∧ sd 5 0 ≤ 6) ∧ (∀ c, 0 ≤ c → c < sd 4 0 → 0 ≤ sd 1 c ∧ sd 1 c ≤ 9) ∧ (∀ h, 0 ≤ h → h < sd 5 0 → 0 ≤ sd 2 h ∧ sd 2 h ≤ 40) ∧ (∀ k, 0 ≤ k → k < 8 * sd 5 0 → 0 ≤ sd 3 k ∧ sd 3 k ≤ 9) ∧ (sd 0 0 = -1 → sd 4 0 = 0 ∧ sd 5 0 = 0)
/-- the bounds of a row -/
def sRR (m n : Int) (v : Int → Int) : Prop := (0 ≤ v 0 ∧ v 0 ≤ 90030) ∧ (0 ≤ v 1 ∧ v 1 < 64) ∧ (∀ h, 0 ≤ h → h < n → 0 ≤ v (2 + h) ∧ v (2 + h) ≤ 40) ∧ (∀ c, 0 ≤ c → c < m → (0 ≤ v (8 + c) ∧ v (8 + c) ≤ 7) ∧ (0 ≤ v (14 + c) ∧ v (14 + c) ≤ 9) ∧ (0 ≤ v (92 + c) ∧ v (92 + c) < 64)) ∧ (∀ c h, 0 ≤ c → c < m → 0 ≤ h → h < n → (0 ≤ v (20 + (6 * c + h)) ∧ v (20 + (6 * c + h)) ≤ 999) ∧ (0 ≤ v (56 + (6 * c + h)) ∧ v (56 + (6 * c + h)) ≤ 3)) ∧ (0 ≤ v 98 ∧ v 98 ≤ 20)
theorem sHeard_in {sd : sSD} {v : Int → Int} (hs : sRS sd) (hv : sRR (sd 4 0) (sd 5 0) v) {c h g : Int} (hc : 0 ≤ c ∧ c < sd 4 0) (hh : 0 ≤ h ∧ h < sd 5 0) (hg : 0 ≤ g ∧ g < 48) : 0 ≤ sHeard sd v c h g ∧ sHeard sd v c h g ≤ 45 := by
  have h1 := hs.2.2.2.1 c hc.1 hc.2
  have h2 := (hv.2.2.2.1 c hc.1 hc.2).2.1
  refine sHr_in hg.1 hg.2 h1 (by split <;> omega) (fun k h3 h4 => hs.2.2.2.2.2.1 _ (by omega) (by omega))
/-- the first place of the greatest value above m0, and that value -/
def sAmN (f : Int → Int) (b m : Int) : Nat → Int × Int
  | 0 => (b, m)
  | n + 1 => if (sAmN f b m n).2 < f n then ((n : Int), f n) else sAmN f b m n
def sAm (f : Int → Int) (b m i : Int) : Int × Int := sAmN f b m i.toNat
theorem sAm_0 (f : Int → Int) (b m : Int) : sAm f b m 0 = (b, m) := rfl
theorem sAm_s (f : Int → Int) (b m : Int) {i : Int} (h : 0 ≤ i) : sAm f b m (i + 1) = if (sAm f b m i).2 < f i then (i, f i) else sAm f b m i := by
  unfold sAm
  rw [show (i + 1).toNat = i.toNat + 1 by omega, sAmN, Int.toNat_of_nonneg h]
theorem sAm_c {f f' : Int → Int} {b m n : Int} (h : ∀ k, 0 ≤ k → k < n → f k = f' k) : sAm f b m n = sAm f' b m n := by
  unfold sAm
  have : ∀ j : Nat, j ≤ n.toNat → sAmN f b m j = sAmN f' b m j := by
    intro j
    induction j with
    | zero => intro _; rfl
    | succ j ih => intro hj; rw [sAmN, sAmN, ih (by omega), h j (by omega) (by omega)]
  exact this _ (Nat.le_refl _)
theorem sAm_m {f : Int → Int} {b m : Int} {n : Int} : m ≤ (sAm f b m n).2 := by
  unfold sAm
  generalize n.toNat = j
  induction j with
  | zero => exact Int.le_refl _
  | succ j ih =>
    rw [sAmN]
    split
    · show m ≤ f j
      omega
    · exact ih
theorem sAm_z {f : Int → Int} {b m n k : Int} (h0 : 0 ≤ n) (h1 : n ≤ k) (h : ∀ i, n ≤ i → i < k → f i ≤ m) : sAm f b m k = sAm f b m n := by
  have : ∀ j : Nat, n + j ≤ k → sAm f b m (n + j) = sAm f b m n := by
    intro j
    induction j with
    | zero => intro _; simp
    | succ j ih =>
      intro hj
      have h3 := h (n + j) (by omega) (by omega)
      have h4 := sAm_m (f := f) (b := b) (m := m) (n := n + j)
      rw [show n + ((j + 1 : Nat) : Int) = n + j + 1 by omega, sAm_s f b m (by omega), if_neg (by omega), ih (by omega)]
  have h2 := this (k - n).toNat (by omega)
  rw [show n + ((k - n).toNat : Int) = k by omega] at h2
  exact h2
theorem sAm_b {f : Int → Int} {b m n : Int} (h0 : 0 ≤ n) : (sAm f b m n = (b, m)) ∨ (0 ≤ (sAm f b m n).1 ∧ (sAm f b m n).1 < n ∧ (sAm f b m n).2 = f (sAm f b m n).1) := by
  have : ∀ j : Nat, (j : Int) ≤ n → (sAmN f b m j = (b, m)) ∨ (0 ≤ (sAmN f b m j).1 ∧ (sAmN f b m j).1 < n ∧ (sAmN f b m j).2 = f (sAmN f b m j).1) := by
    intro j
    induction j with
    | zero => intro _; exact Or.inl rfl
    | succ j ih =>
      intro hj
      rw [sAmN]
      split
      · right
        exact ⟨by show (0 : Int) ≤ (j : Int); omega, by show (j : Int) < n; omega, rfl⟩
      · exact ih (by omega)
  exact this n.toNat (by omega)
/-! the memory, one array changed -/
theorem q_setId (M : qMem) (j u : Nat) : qSet M j u (M j u) = M := by
  funext j' u'
  unfold qSet
  split
  · split
    · subst_vars; rfl
    · rfl
  · rfl
theorem q_upSet (M : qMem) (j u : Nat) (f : Int → Int) (i z : Int) : qUp (qSet M j u f) j u i z = qSet M j u (fun k => if k = i then z else f k) := by
  funext j' u' i'
  unfold qUp qSet
  split
  · split
    · simp
    · rfl
  · rfl
theorem q_upAsSet (M : qMem) (j u : Nat) (i z : Int) : qUp M j u i z = qSet M j u (fun k => if k = i then z else M j u k) := by
  rw [← q_upSet, q_setId]
theorem q_setSet (M : qMem) (j u : Nat) (f f' : Int → Int) : qSet (qSet M j u f) j u f' = qSet M j u f' := by
  funext j' u'
  unfold qSet
  split
  · split <;> rfl
  · rfl
theorem q_setC {M : qMem} {j u : Nat} {f f' : Int → Int} (h : ∀ k, f k = f' k) : qSet M j u f = qSet M j u f' := by rw [funext h]
theorem q_setC0 {M : qMem} {j u : Nat} {f : Int → Int} (h : ∀ k, f k = M j u k) : qSet M j u f = M := by rw [funext h]; exact q_setId M j u
theorem q_setOn' (M : qMem) (j u : Nat) (f : Int → Int) : qSet M j u f j u = f := q_setOn
/-- a row holds its own places alone: what stands beyond them is free -/
theorem q_wdRow {g : qGm} {M : qMem} {j u n : Nat} {f f' : Int → Int} {H : Heap} (he : ∀ M, qCell g M j u = qRow g M j u n) (h : ∀ k : Int, 0 ≤ k → k < n → f k = f' k) (hW : qWd g (qSet M j u f) H) : qWd g (qSet M j u f') H := by
  intro k q hq
  obtain ⟨j1, u1, h1, h2, rfl⟩ := q_wlAt hq
  have h3 := hW k (g.2.2 j1 u1, qCell g (qSet M j u f) j1 u1) (by simp [qWl, h2])
  by_cases hj : j1 = j ∧ u1 = u
  · obtain ⟨rfl, rfl⟩ := hj
    rw [he] at h3 ⊢
    refine h3.trans (congrArg some (q_rowEq (fun k hk => ?_)))
    rw [q_setOn, q_setOn, h k (by omega) (by omega)]
  · rw [q_cellOff g (qSet M j u f) (qSet M j u f') j1 u1 (by rw [q_setOff hj, q_setOff hj])]
    exact h3
theorem q_rowMem {l : Launch} {g : qGm} {X : qCt} {M : qMem} {pc : Nat} {ls : List (Nat × Value)} {st : List Value} {j u n : Nat} {f f' : Int → Int} (he : ∀ M, qCell g M j u = qRow g M j u n) (h : ∀ k : Int, 0 ≤ k → k < n → f k = f' k) (hf : ∀ k, qIn (f' k)) (k : qV l g X (qSet M j u f') pc ls st) : qV l g X (qSet M j u f) pc ls st := by
  obtain ⟨p, e, R, s, m, args, below, meth, c, Q, A, nL, nc, ns⟩ := X
  intro H locs la hR hW hS hL
  refine k H locs la ?_ (q_wdRow he h hW) hS hL
  intro j1 u1 i1
  by_cases hj : j1 = j ∧ u1 = u
  · obtain ⟨rfl, rfl⟩ := hj
    rw [q_setOn]
    exact hf i1
  · have := hR j1 u1 i1
    rw [q_setOff hj] at this ⊢
    exact this
/-- the places 0 .. i-1 of a row are new -/
def qPre (M : qMem) (j u : Nat) (F : Int → Int) (i : Int) : qMem := qSet M j u (fun k => if 0 ≤ k ∧ k < i then F k else M j u k)
theorem qPre_0 (M : qMem) (j u : Nat) (F : Int → Int) : qPre M j u F 0 = M := q_setC0 (fun k => if_neg (by omega))
theorem qPre_s (M : qMem) (j u : Nat) (F : Int → Int) {i z : Int} (h : 0 ≤ i) (hz : z = F i) : qUp (qPre M j u F i) j u i z = qPre M j u F (i + 1) := by
  subst hz
  unfold qPre
  rw [q_upSet]
  refine q_setC (fun k => ?_)
  by_cases hk : k = i
  · subst hk; rw [if_pos rfl, if_pos (by omega)]
  · rw [if_neg hk]
    by_cases hk2 : 0 ≤ k ∧ k < i
    · rw [if_pos hk2, if_pos (by omega)]
    · rw [if_neg hk2, if_neg (by omega)]
theorem qPre_off (M : qMem) (j u : Nat) (F : Int → Int) (i : Int) {j' u' : Nat} (h : ¬ (j' = j ∧ u' = u)) : qPre M j u F i j' u' = M j' u' := q_setOff h
theorem qPre_on (M : qMem) (j u : Nat) (F : Int → Int) (i k : Int) : qPre M j u F i j u k = if 0 ≤ k ∧ k < i then F k else M j u k := by unfold qPre; rw [q_setOn]
theorem qPre_rd (M : qMem) (j u : Nat) (F : Int → Int) (i : Int) (j' u' : Nat) (k : Int) : qPre M j u F i j' u' k = if j' = j then if u' = u then (if 0 ≤ k ∧ k < i then F k else M j u k) else M j' u' k else M j' u' k := by
  unfold qPre
  rw [q_rdS]
theorem q_rdR (M : qMem) (j u : Nat) (i z : Int) (j' u' : Nat) : qUp M j u i z j' u' = if j' = j then if u' = u then (fun k => if k = i then z else M j u k) else M j' u' else M j' u' := by
  funext k
  rw [q_rd]
  split
  · split
    · subst_vars; rfl
    · rfl
  · rfl
theorem q_rdSR (M : qMem) (j u : Nat) (f : Int → Int) (j' u' : Nat) : qSet M j u f j' u' = if j' = j then if u' = u then f else M j' u' else M j' u' := rfl
theorem q_rdPR (M : qMem) (j u : Nat) (F : Int → Int) (i : Int) (j' u' : Nat) : qPre M j u F i j' u' = if j' = j then if u' = u then (fun k => if 0 ≤ k ∧ k < i then F k else M j u k) else M j' u' else M j' u' := rfl
theorem q_ii (i : Int) : (0 ≤ i ∧ i < i) = False := by simp
