/-! sums, first places, greatest values, over 0 .. i-1 -/
def sSumN (f : Int → Int) : Nat → Int
  | 0 => 0
  | n + 1 => sSumN f n + f n
def sSum (f : Int → Int) (i : Int) : Int := sSumN f i.toNat
theorem sSum_0 (f : Int → Int) : sSum f 0 = 0 := rfl
theorem sSum_s (f : Int → Int) {i : Int} (h : 0 ≤ i) : sSum f (i + 1) = sSum f i + f i := by
  unfold sSum
  rw [show (i + 1).toNat = i.toNat + 1 by omega, sSumN, Int.toNat_of_nonneg h]
theorem sSum_c {f f' : Int → Int} {n : Int} (h : ∀ k, 0 ≤ k → k < n → f k = f' k) : sSum f n = sSum f' n := by
  unfold sSum
  have : ∀ m : Nat, m ≤ n.toNat → sSumN f m = sSumN f' m := by
    intro m
    induction m with
    | zero => intro _; rfl
    | succ m ih => intro hm; rw [sSumN, sSumN, ih (by omega), h m (by omega) (by omega)]
  exact this _ (Nat.le_refl _)
theorem sSum_b {f : Int → Int} {n B : Int} (hn : 0 ≤ n) (h : ∀ k, 0 ≤ k → k < n → 0 ≤ f k ∧ f k ≤ B) : 0 ≤ sSum f n ∧ sSum f n ≤ B * n := by
  unfold sSum
  have : ∀ m : Nat, m ≤ n.toNat → 0 ≤ sSumN f m ∧ sSumN f m ≤ B * m := by
    intro m
    induction m with
    | zero => intro _; simp [sSumN]
    | succ m ih =>
      intro hm
      have h1 := ih (by omega)
      have h2 := h m (by omega) (by omega)
      rw [sSumN]
      have e : B * ((m + 1 : Nat) : Int) = B * m + B := by rw [Int.natCast_add, Int.mul_add]; simp
      rw [e]
      omega
  have h3 := this _ (Nat.le_refl _)
  rw [Int.toNat_of_nonneg hn] at h3
  exact h3
theorem sSum_z {f : Int → Int} {n m : Int} (h0 : 0 ≤ n) (h1 : n ≤ m) (h : ∀ k, n ≤ k → k < m → f k = 0) : sSum f m = sSum f n := by
  have : ∀ j : Nat, n + j ≤ m → sSum f (n + j) = sSum f n := by
    intro j
    induction j with
    | zero => intro _; simp
    | succ j ih =>
      intro hj
      rw [show n + ((j + 1 : Nat) : Int) = n + j + 1 by omega, sSum_s f (by omega), ih (by omega), h _ (by omega) (by omega)]
      simp
  have h2 := this (m - n).toNat (by omega)
  rw [show n + ((m - n).toNat : Int) = m by omega] at h2
  exact h2
/-- the first place of i .. n-1 where it is so -/
def sFrN (p : Int → Bool) (n : Int) : Nat → Int
  | 0 => -1
  | j + 1 => if p (n - j - 1) then n - j - 1 else sFrN p n j
def sFr (p : Int → Bool) (n i : Int) : Int := sFrN p n (n - i).toNat
theorem sFr_e (p : Int → Bool) (n : Int) : sFr p n n = -1 := by unfold sFr; rw [show (n - n).toNat = 0 by omega]; rfl
theorem sFr_s (p : Int → Bool) {n i : Int} (h : i < n) : sFr p n i = if p i then i else sFr p n (i + 1) := by
  unfold sFr
  rw [show (n - i).toNat = (n - (i + 1)).toNat + 1 by omega, sFrN, show n - ((n - (i + 1)).toNat : Int) - 1 = i by omega]
theorem sFr_c {p p' : Int → Bool} {n i : Int} (h : ∀ k, i ≤ k → k < n → p k = p' k) : sFr p n i = sFr p' n i := by
  unfold sFr
  have : ∀ j : Nat, (j : Int) ≤ n - i → sFrN p n j = sFrN p' n j := by
    intro j
    induction j with
    | zero => intro _; rfl
    | succ j ih => intro hj; rw [sFrN, sFrN, ih (by omega), h _ (by omega) (by omega)]
  by_cases hi : i ≤ n
  · exact this _ (by omega)
  · rw [show (n - i).toNat = 0 by omega]; rfl
theorem sFr_in (p : Int → Bool) {n i : Int} (h : 0 ≤ i) : sFr p n i = -1 ∨ (i ≤ sFr p n i ∧ sFr p n i < n ∧ p (sFr p n i) = true) := by
  unfold sFr
  have : ∀ j : Nat, (j : Int) ≤ n - i → sFrN p n j = -1 ∨ (n - j ≤ sFrN p n j ∧ sFrN p n j < n ∧ p (sFrN p n j) = true) := by
    intro j
    induction j with
    | zero => intro _; exact Or.inl rfl
    | succ j ih =>
      intro hj
      rw [sFrN]
      split
      · right
        refine ⟨by omega, by omega, by assumption⟩
      · rcases ih (by omega) with h1 | ⟨h1, h2, h3⟩
        · exact Or.inl h1
        · exact Or.inr ⟨by omega, h2, h3⟩
  by_cases hi : i ≤ n
  · rcases this (n - i).toNat (by omega) with h1 | ⟨h1, h2, h3⟩
    · exact Or.inl h1
    · exact Or.inr ⟨by omega, h2, h3⟩
  · rw [show (n - i).toNat = 0 by omega]; exact Or.inl rfl
/-- the greatest of b and f 0 .. f (i-1) -/
def sMxN (f : Int → Int) (b : Int) : Nat → Int
  | 0 => b
  | n + 1 => sMax (sMxN f b n) (f n)
def sMx (f : Int → Int) (b i : Int) : Int := sMxN f b i.toNat
theorem sMx_0 (f : Int → Int) (b : Int) : sMx f b 0 = b := rfl
theorem sMx_s (f : Int → Int) (b : Int) {i : Int} (h : 0 ≤ i) : sMx f b (i + 1) = sMax (sMx f b i) (f i) := by
  unfold sMx
  rw [show (i + 1).toNat = i.toNat + 1 by omega, sMxN, Int.toNat_of_nonneg h]
theorem sMx_c {f f' : Int → Int} {b n : Int} (h : ∀ k, 0 ≤ k → k < n → f k = f' k) : sMx f b n = sMx f' b n := by
  unfold sMx
  have : ∀ m : Nat, m ≤ n.toNat → sMxN f b m = sMxN f' b m := by
    intro m
    induction m with
    | zero => intro _; rfl
    | succ m ih => intro hm; rw [sMxN, sMxN, ih (by omega), h m (by omega) (by omega)]
  exact this _ (Nat.le_refl _)
theorem sMx_b {f : Int → Int} {b n B : Int} (hb : b ≤ B) (h : ∀ k, 0 ≤ k → k < n → f k ≤ B) : b ≤ sMx f b n ∧ sMx f b n ≤ B := by
  unfold sMx
  have : ∀ m : Nat, m ≤ n.toNat → b ≤ sMxN f b m ∧ sMxN f b m ≤ B := by
    intro m
    induction m with
    | zero => intro _; exact ⟨Int.le_refl _, hb⟩
    | succ m ih =>
      intro hm
      have h1 := ih (by omega)
      have h2 := h m (by omega) (by omega)
      have h3 := sMax_l (sMxN f b m) (f m)
      rw [sMxN]
      omega
  exact this _ (Nat.le_refl _)
/-! what a house hears: manners, worth, stuffing, prizes by their meanings, the sign -/
def sHr (mn w s : Int) (pr : Int → Int) (g : Int) : Int := sMax (w + s + 3 * pr (sMean g) - (if sSaid mn g then 0 else 10)) 0
theorem sHr_in {mn w s : Int} {pr : Int → Int} {g : Int} (h0 : 0 ≤ g) (h1 : g < 48) (hw : 0 ≤ w ∧ w ≤ 9) (hs : 0 ≤ s ∧ s ≤ 9) (hp : ∀ k, 0 ≤ k → k ≤ 7 → 0 ≤ pr k ∧ pr k ≤ 9) : 0 ≤ sHr mn w s pr g ∧ sHr mn w s pr g ≤ 45 := by
  have h2 := sMean_in h0 h1
  have h3 := hp _ h2.1 h2.2
  unfold sHr
  have h4 := sMax_l (w + s + 3 * pr (sMean g) - (if sSaid mn g then 0 else 10)) 0
  split at h4 <;> split <;> omega
/-- a season as a record: 0 manners, 1 worths, 2 ferns, 3 prizes, 4 how many comers, 5 how many houses -/
abbrev sSD : Type := Nat → Int → Int
def sHeard (sd : sSD) (v : Int → Int) (c h g : Int) : Int := sHr (sd 0 0) (sd 1 c) (if sHas (v (92 + c)) h then 0 else v (14 + c)) (fun k => sd 3 (8 * h + k)) g
def sAns (sd : sSD) (v : Int → Int) (c h g : Int) : Int := if sd 2 h ≤ sHeard sd v c h g then 2 else if v (2 + h) ≤ sHeard sd v c h g then 1 else 0
/-- the bounds of a season -/
def sRS (sd : sSD) : Prop := (-1 ≤ sd 0 0 ∧ sd 0 0 ≤ 2) ∧ (0 ≤ sd 4 0 ∧ sd 4 0 ≤ 6) ∧ (0 ≤ sd 5 0 ∧ sd 5 0 ≤ 6) ∧ (∀ c, 0 ≤ c → c < sd 4 0 → 0 ≤ sd 1 c ∧ sd 1 c ≤ 9) ∧ (∀ h, 0 ≤ h → h < sd 5 0 → 0 ≤ sd 2 h ∧ sd 2 h ≤ 40) ∧ (∀ k, 0 ≤ k → k < 8 * sd 5 0 → 0 ≤ sd 3 k ∧ sd 3 k ≤ 9) ∧ (sd 0 0 = -1 → sd 4 0 = 0 ∧ sd 5 0 = 0)
/-- the bounds of a row -/
def sRR (m n : Int) (v : Int → Int) : Prop := (0 ≤ v 0 ∧ v 0 ≤ 90030) ∧ (0 ≤ v 1 ∧ v 1 < 64) ∧ (∀ h, 0 ≤ h → h < n → 0 ≤ v (2 + h) ∧ v (2 + h) ≤ 40) ∧ (∀ c, 0 ≤ c → c < m → (0 ≤ v (8 + c) ∧ v (8 + c) ≤ 7) ∧ (0 ≤ v (14 + c) ∧ v (14 + c) ≤ 9) ∧ (0 ≤ v (92 + c) ∧ v (92 + c) < 64)) ∧ (∀ c h, 0 ≤ c → c < m → 0 ≤ h → h < n → (0 ≤ v (20 + (6 * c + h)) ∧ v (20 + (6 * c + h)) ≤ 999) ∧ (0 ≤ v (56 + (6 * c + h)) ∧ v (56 + (6 * c + h)) ≤ 3)) ∧ (0 ≤ v 98 ∧ v 98 ≤ 20)
theorem sHeard_in {sd : sSD} {v : Int → Int} (hs : sRS sd) (hv : sRR (sd 4 0) (sd 5 0) v) {c h g : Int} (hc : 0 ≤ c ∧ c < sd 4 0) (hh : 0 ≤ h ∧ h < sd 5 0) (hg : 0 ≤ g ∧ g < 48) : 0 ≤ sHeard sd v c h g ∧ sHeard sd v c h g ≤ 45 := by
  have h1 := hs.2.2.2.1 c hc.1 hc.2
  have h2 := (hv.2.2.2.1 c hc.1 hc.2).2.1
  refine sHr_in hg.1 hg.2 h1 (by split <;> omega) (fun k h3 h4 => hs.2.2.2.2.2.1 _ (by omega) (by omega))
