/-! matches: T 0 who refused a comer (a set), T 1 his house, T 2 a house's comer -/
abbrev sMT : Type := Nat → Int → Int
def tJoin (T : sMT) (c h : Int) : sMT := fun k i => if k = 1 then (if i = c then h else T 1 i) else if k = 2 then (if i = h then c else T 2 i) else T k i
def tDrop (T : sMT) (o h : Int) : sMT := fun k i => if k = 1 then (if i = o then -1 else T 1 i) else if k = 0 then (if i = o then sAdd (T 0 o) h else T 0 i) else T k i
def tRef (T : sMT) (c h : Int) : sMT := fun k i => if k = 0 then (if i = c then sAdd (T 0 c) h else T 0 i) else T k i
def tPref (S : Int → Int → Int) (c o h : Int) : Prop := S o h < S c h ∨ (S c h = S o h ∧ c < o)
theorem tPref_em (S : Int → Int → Int) (c o h : Int) : tPref S c o h ∨ ¬ tPref S c o h := Classical.em _
noncomputable def tAsk (S : Int → Int → Int) (T : sMT) (c h : Int) : sMT := if T 2 h = -1 then tJoin T c h else if S (T 2 h) h < S c h ∨ (S c h = S (T 2 h) h ∧ c < T 2 h) then tJoin (tDrop T (T 2 h) h) c h else tRef T c h
/-- the house that a comer asks next -/
def tBest (S : Int → Int → Int) (n : Int) (r c : Int) : Int := (sAm (fun h => if sHas r h then -1 else S c h) (-1) (-1) n).1
/-- who asks next -/
def tNext (S : Int → Int → Int) (m n : Int) (T : sMT) : Int := sFr (fun c => decide (T 1 c = -1 ∧ tBest S n (T 0 c) c ≠ -1)) m 0
noncomputable def tStep (S : Int → Int → Int) (m n : Int) (T : sMT) : sMT := if tNext S m n T = -1 then T else tAsk S T (tNext S m n T) (tBest S n (T 0 (tNext S m n T)) (tNext S m n T))
def tInit : sMT := fun k _ => if k = 0 then 0 else -1
noncomputable def tRun (S : Int → Int → Int) (m n : Int) : Nat → sMT
  | 0 => tInit
  | k + 1 => tStep S m n (tRun S m n k)
def tInv (m n : Int) (T : sMT) : Prop := (∀ c, 0 ≤ c → c < m → (0 ≤ T 0 c ∧ T 0 c < 64) ∧ (-1 ≤ T 1 c ∧ T 1 c < n)) ∧ (∀ h, 0 ≤ h → h < n → T 2 h = -1 ∨ (0 ≤ T 2 h ∧ T 2 h < m ∧ T 1 (T 2 h) = h))
theorem tInit_inv {m n : Int} (hn : 0 ≤ n) : tInv m n tInit := ⟨fun c _ _ => by simp [tInit]; omega, fun h _ _ => Or.inl (by simp [tInit])⟩
theorem sAm_cases (f : Int → Int) (m : Int) {n : Int} (hn : 0 ≤ n) : (sAm f (-1) m n = (-1, m) ∧ ∀ k, 0 ≤ k → k < n → f k ≤ m) ∨ (0 ≤ (sAm f (-1) m n).1 ∧ (sAm f (-1) m n).1 < n ∧ m < (sAm f (-1) m n).2 ∧ (sAm f (-1) m n).2 = f (sAm f (-1) m n).1) := by
  have key : ∀ j : Nat, (j : Int) ≤ n → (sAmN f (-1) m j = (-1, m) ∧ ∀ k : Int, 0 ≤ k → k < j → f k ≤ m) ∨ (0 ≤ (sAmN f (-1) m j).1 ∧ (sAmN f (-1) m j).1 < n ∧ m < (sAmN f (-1) m j).2 ∧ (sAmN f (-1) m j).2 = f (sAmN f (-1) m j).1) := by
    intro j
    induction j with
    | zero => intro _; exact Or.inl ⟨rfl, fun k h1 h2 => by omega⟩
    | succ j ih =>
      intro hj
      rw [sAmN]
      by_cases hlt : (sAmN f (-1) m j).2 < f j
      · rw [if_pos hlt]
        right
        refine ⟨by show (0 : Int) ≤ (j : Int); omega, by show (j : Int) < n; omega, ?_, rfl⟩
        show m < f j
        rcases ih (by omega) with ⟨h1, -⟩ | ⟨-, -, h1, -⟩
        · rw [h1] at hlt; exact hlt
        · omega
      · rw [if_neg hlt]
        rcases ih (by omega) with ⟨h1, h2⟩ | h1
        · left
          refine ⟨h1, fun k h3 h4 => ?_⟩
          by_cases e : k = j
          · subst e
            rw [h1] at hlt
            exact Int.not_lt.mp hlt
          · exact h2 k h3 (by omega)
        · exact Or.inr h1
  have := key n.toNat (by omega)
  rw [Int.toNat_of_nonneg hn] at this
  exact this
theorem tBest_in {S : Int → Int → Int} {n r c : Int} (hn : 0 ≤ n) : tBest S n r c = -1 ∨ (0 ≤ tBest S n r c ∧ tBest S n r c < n ∧ ¬ sHas r (tBest S n r c)) := by
  unfold tBest
  rcases sAm_cases (fun h => if sHas r h then -1 else S c h) (-1) hn with ⟨h, -⟩ | ⟨h1, h2, h3, h4⟩
  · left; rw [h]
  · right
    refine ⟨h1, h2, fun hh => ?_⟩
    rw [h4] at h3
    try dsimp only at h3
    rw [if_pos hh] at h3
    omega
/-- more refusals leave nothing where nothing was left -/
theorem tBest_mono {S : Int → Int → Int} {n r r' c : Int} (hn : 0 ≤ n) (hr : ∀ h, 0 ≤ h → h < n → sHas r h → sHas r' h) (h : tBest S n r c = -1) : tBest S n r' c = -1 := by
  unfold tBest at h ⊢
  rcases sAm_cases (fun h => if sHas r h then -1 else S c h) (-1) hn with ⟨-, h1⟩ | ⟨h1, -⟩
  · rcases sAm_cases (fun h => if sHas r' h then -1 else S c h) (-1) hn with ⟨h2, -⟩ | ⟨h2, h3, h4, h5⟩
    · rw [h2]
    · exfalso
      rw [h5] at h4
      try dsimp only at h4
      by_cases hq : sHas r' (sAm (fun h => if sHas r' h then -1 else S c h) (-1) (-1) n).1
      · rw [if_pos hq] at h4; omega
      · rw [if_neg hq] at h4
        have h6 := h1 _ h2 h3
        try dsimp only at h6
        rw [if_neg (fun e => hq (hr _ h2 h3 e))] at h6
        omega
  · omega
theorem tNext_in {S : Int → Int → Int} {m n : Int} {T : sMT} : tNext S m n T = -1 ∨ (0 ≤ tNext S m n T ∧ tNext S m n T < m ∧ T 1 (tNext S m n T) = -1 ∧ tBest S n (T 0 (tNext S m n T)) (tNext S m n T) ≠ -1) := by
  unfold tNext
  rcases sFr_in (fun c => decide (T 1 c = -1 ∧ tBest S n (T 0 c) c ≠ -1)) (n := m) (i := 0) (by omega) with h | ⟨h1, h2, h3⟩
  · exact Or.inl h
  · rw [decide_eq_true_iff] at h3
    exact Or.inr ⟨h1, h2, h3⟩
theorem tAsk_inv {S : Int → Int → Int} {m n : Int} {T : sMT} (hm : m ≤ 6) (hn : n ≤ 6) (hT : tInv m n T) {c h : Int} (hc : 0 ≤ c ∧ c < m) (hh : 0 ≤ h ∧ h < n) (h1 : T 1 c = -1) : tInv m n (tAsk S T c h) := by
  obtain ⟨i1, i2⟩ := hT
  have hc0 := i1 c hc.1 hc.2
  have ha := q_addIn hc0.1.1 hc0.1.2 hh.1 (show h < 6 by omega)
  unfold tAsk
  by_cases ho : T 2 h = -1
  · rw [if_pos ho]
    refine ⟨fun c' h2 h3 => ?_, fun h' h2 h3 => ?_⟩
    · have := i1 c' h2 h3
      simp only [tJoin]
      simp
      by_cases e : c' = c
      · subst e; simp; omega
      · simp [e]; omega
    · simp only [tJoin]
      simp
      by_cases e : h' = h
      · subst e; simp; omega
      · simp [e]
        rcases i2 h' h2 h3 with q | ⟨q1, q2, q3⟩
        · exact Or.inl q
        · right
          have : T 2 h' ≠ c := fun e2 => by rw [e2, h1] at q3; omega
          simp [this]
          exact ⟨q1, q2, q3⟩
  · rw [if_neg ho]
    obtain ⟨o1, o2, o3⟩ := (i2 h hh.1 hh.2).resolve_left ho
    have hoc : T 2 h ≠ c := fun e2 => by rw [e2, h1] at o3; omega
    have hb := i1 (T 2 h) o1 o2
    have ha2 := q_addIn hb.1.1 hb.1.2 hh.1 (show h < 6 by omega)
    by_cases hp : S (T 2 h) h < S c h ∨ (S c h = S (T 2 h) h ∧ c < T 2 h)
    · rw [if_pos hp]
      refine ⟨fun c' h2 h3 => ?_, fun h' h2 h3 => ?_⟩
      · have := i1 c' h2 h3
        simp only [tJoin, tDrop]
        simp
        by_cases e : c' = c
        · subst e; simp [hoc, Ne.symm hoc]; omega
        · by_cases e2 : c' = T 2 h
          · subst e2; simp [e]; omega
          · simp [e, e2]; omega
      · simp only [tJoin, tDrop]
        simp
        by_cases e : h' = h
        · subst e; simp; omega
        · simp [e]
          rcases i2 h' h2 h3 with q | ⟨q1, q2, q3⟩
          · exact Or.inl q
          · right
            have n1 : T 2 h' ≠ c := fun e2 => by rw [e2, h1] at q3; omega
            have n2 : T 2 h' ≠ T 2 h := fun e2 => by rw [e2, o3] at q3; exact e q3.symm
            simp [n1, n2]
            exact ⟨q1, q2, q3⟩
    · rw [if_neg hp]
      refine ⟨fun c' h2 h3 => ?_, fun h' h2 h3 => ?_⟩
      · have := i1 c' h2 h3
        simp only [tRef]
        simp
        by_cases e : c' = c
        · subst e; simp; omega
        · simp [e]; omega
      · simp only [tRef]
        simp
        exact i2 h' h2 h3
theorem tRun_inv {S : Int → Int → Int} {m n : Int} (hm : m ≤ 6) (hn : 0 ≤ n ∧ n ≤ 6) (k : Nat) : tInv m n (tRun S m n k) := by
  induction k with
  | zero => exact tInit_inv hn.1
  | succ k ih =>
    rw [tRun, tStep]
    split
    · exact ih
    · rename_i hne
      obtain ⟨a1, a2, a3, a4⟩ := tNext_in.resolve_left hne
      obtain ⟨b1, b2, b3⟩ := (tBest_in hn.1).resolve_left a4
      exact tAsk_inv hm hn.2 ih ⟨a1, a2⟩ ⟨b1, b2⟩ a3
theorem tRun_fix {S : Int → Int → Int} {m n : Int} {k : Nat} (h : tNext S m n (tRun S m n k) = -1) (j : Nat) : tRun S m n (k + j) = tRun S m n k := by
  induction j with
  | zero => rfl
  | succ j ih =>
    rw [show k + (j + 1) = (k + j) + 1 by omega, tRun, tStep, ih, if_pos h]
/-- the pairs that were asked -/
def tPair (T : sMT) (c h : Int) : Int := qB (sHas (T 0 c) h ∨ T 1 c = h)
def tCnt (m n : Int) (T : sMT) : Int := sSum (fun c => sSum (fun h => tPair T c h) n) m
theorem sSum_le {f f' : Int → Int} {n : Int} (h : ∀ k, 0 ≤ k → k < n → f k ≤ f' k) : sSum f n ≤ sSum f' n := by
  unfold sSum
  have : ∀ m : Nat, (m : Int) ≤ n ∨ m = 0 → sSumN f m ≤ sSumN f' m := by
    intro m
    induction m with
    | zero => intro _; exact Int.le_refl _
    | succ m ih => intro hm; have h1 := ih (by omega); have h2 := h m (by omega) (by omega); rw [sSumN, sSumN]; omega
  exact this _ (by omega)
theorem sSum_lt {f f' : Int → Int} {n k0 : Int} (h : ∀ k, 0 ≤ k → k < n → f k ≤ f' k) (h0 : 0 ≤ k0) (h1 : k0 < n) (hk : f k0 < f' k0) : sSum f n < sSum f' n := by
  unfold sSum
  have : ∀ m : Nat, (m : Int) ≤ n → k0 < m → sSumN f m < sSumN f' m := by
    intro m
    induction m with
    | zero => intro _ h; omega
    | succ m ih =>
      intro hm hkm
      rw [sSumN, sSumN]
      by_cases e : k0 = m
      · have h2 := sSum_le (f := f) (f' := f') (n := (m : Int)) (fun k a b => h k a (by omega))
        unfold sSum at h2
        rw [Int.toNat_natCast] at h2
        subst e
        omega
      · have h3 := ih (by omega) (by omega)
        have h4 := h m (by omega) (by omega)
        omega
  exact this _ (by omega) (by omega)
theorem tAsk_cnt {S : Int → Int → Int} {m n : Int} {T : sMT} (hm : m ≤ 6) (hn : n ≤ 6) (hT : tInv m n T) {c h : Int} (hc : 0 ≤ c ∧ c < m) (hh : 0 ≤ h ∧ h < n) (h1 : T 1 c = -1) (h2 : ¬ sHas (T 0 c) h) : tCnt m n T < tCnt m n (tAsk S T c h) := by
  obtain ⟨i1, i2⟩ := hT
  have hc0 := i1 c hc.1 hc.2
  have key : ∀ c' h', 0 ≤ c' → c' < m → 0 ≤ h' → h' < n → (sHas (T 0 c') h' ∨ T 1 c' = h') → (sHas (tAsk S T c h 0 c') h' ∨ tAsk S T c h 1 c' = h') := by
    intro c' h' a1 a2 a3 a4 hp
    have hb := i1 c' a1 a2
    have had := q_addHas (s := T 0 c') hb.1.1 hb.1.2 hh.1 (show h < 6 by omega) a3 (show h' < 6 by omega)
    unfold tAsk
    by_cases ho : T 2 h = -1
    · rw [if_pos ho]
      simp only [tJoin]
      simp
      by_cases e : c' = c
      · subst e
        rcases hp with q | q
        · exact Or.inl q
        · rw [h1] at q; omega
      · simp [e]; exact hp
    · rw [if_neg ho]
      obtain ⟨o1, o2, o3⟩ := (i2 h hh.1 hh.2).resolve_left ho
      have hoc : T 2 h ≠ c := fun e2 => by rw [e2, h1] at o3; omega
      by_cases hpr : S (T 2 h) h < S c h ∨ (S c h = S (T 2 h) h ∧ c < T 2 h)
      · rw [if_pos hpr]
        simp only [tJoin, tDrop]
        simp
        by_cases e2 : c' = T 2 h
        · subst e2
          simp [hoc]
          left
          rcases hp with q | q
          · exact had.mpr (Or.inr q)
          · rw [o3] at q; exact had.mpr (Or.inl q.symm)
        · by_cases e : c' = c
          · subst e
            simp [e2]
            rcases hp with q | q
            · exact Or.inl q
            · rw [h1] at q; omega
          · simp [e, e2]; exact hp
      · rw [if_neg hpr]
        simp only [tRef]
        simp
        by_cases e : c' = c
        · subst e
          simp
          rcases hp with q | q
          · exact Or.inl (had.mpr (Or.inr q))
          · exact Or.inr q
        · simp [e]; exact hp
  have new : sHas (tAsk S T c h 0 c) h ∨ tAsk S T c h 1 c = h := by
    have had := q_addHas (s := T 0 c) hc0.1.1 hc0.1.2 hh.1 (show h < 6 by omega) hh.1 (show h < 6 by omega)
    unfold tAsk
    by_cases ho : T 2 h = -1
    · rw [if_pos ho]; right; simp [tJoin]
    · rw [if_neg ho]
      by_cases hpr : S (T 2 h) h < S c h ∨ (S c h = S (T 2 h) h ∧ c < T 2 h)
      · rw [if_pos hpr]; right; simp [tJoin]
      · rw [if_neg hpr]; left; simp [tRef]; exact had.mpr (Or.inl rfl)
  have mono : ∀ c' h', 0 ≤ c' → c' < m → 0 ≤ h' → h' < n → tPair T c' h' ≤ tPair (tAsk S T c h) c' h' := by
    intro c' h' a1 a2 a3 a4
    unfold tPair
    by_cases hp : sHas (T 0 c') h' ∨ T 1 c' = h'
    · rw [q_bT hp, q_bT (key c' h' a1 a2 a3 a4 hp)]; exact Int.le_refl _
    · rw [q_bF hp]; exact (q_b01' _).1
  unfold tCnt
  refine sSum_lt (k0 := c) (fun c' a1 a2 => sSum_le (fun h' a3 a4 => mono c' h' a1 a2 a3 a4)) hc.1 hc.2 ?_
  refine sSum_lt (k0 := h) (fun h' a3 a4 => mono c h' hc.1 hc.2 a3 a4) hh.1 hh.2 ?_
  unfold tPair
  rw [q_bF (by rw [h1]; rintro (q | q); exact h2 q; omega), q_bT new]
  omega
/-- so long as somebody asks, every step asked a new pair -/
theorem tRun_cnt {S : Int → Int → Int} {m n : Int} (hm : 0 ≤ m ∧ m ≤ 6) (hn : 0 ≤ n ∧ n ≤ 6) (k : Nat) : (k : Int) ≤ tCnt m n (tRun S m n k) ∨ tNext S m n (tRun S m n k) = -1 := by
  induction k with
  | zero =>
    left
    have := sSum_b (f := fun c => sSum (fun h => tPair (tRun S m n 0) c h) n) (n := m) (B := 6) hm.1 (fun c _ _ => by
      have := sSum_b (f := fun h => tPair (tRun S m n 0) c h) (n := n) (B := 1) hn.1 (fun h _ _ => q_b01' _)
      omega)
    exact this.1
  | succ k ih =>
    by_cases hx : tNext S m n (tRun S m n k) = -1
    · right
      have := tRun_fix hx 1
      rw [this]; exact hx
    · left
      have hk := ih.resolve_right hx
      obtain ⟨a1, a2, a3, a4⟩ := tNext_in.resolve_left hx
      obtain ⟨b1, b2, b3⟩ := (tBest_in hn.1).resolve_left a4
      have := tAsk_cnt (S := S) hm.2 hn.2 (tRun_inv hm.2 hn k) ⟨a1, a2⟩ ⟨b1, b2⟩ a3 b3
      rw [tRun, tStep, if_neg hx]
      omega
theorem tRun_lt {S : Int → Int → Int} {m n : Int} (hm : 0 ≤ m ∧ m ≤ 6) (hn : 0 ≤ n ∧ n ≤ 6) {k : Nat} (h : tNext S m n (tRun S m n k) ≠ -1) : k < 36 := by
  obtain ⟨a1, a2, a3, a4⟩ := tNext_in.resolve_left h
  obtain ⟨b1, b2, b3⟩ := (tBest_in hn.1).resolve_left a4
  have h1 := (tRun_cnt hm hn k).resolve_right h
  have h2 := tAsk_cnt (S := S) hm.2 hn.2 (tRun_inv hm.2 hn k) ⟨a1, a2⟩ ⟨b1, b2⟩ a3 b3
  have h3 : tCnt m n (tAsk S (tRun S m n k) (tNext S m n (tRun S m n k)) (tBest S n (tRun S m n k 0 (tNext S m n (tRun S m n k))) (tNext S m n (tRun S m n k)))) ≤ 36 := by
    have := sSum_b (f := fun c => sSum (fun h => tPair (tAsk S (tRun S m n k) (tNext S m n (tRun S m n k)) (tBest S n (tRun S m n k 0 (tNext S m n (tRun S m n k))) (tNext S m n (tRun S m n k)))) c h) n) (n := m) (B := 6) hm.1 (fun c _ _ => by
      have := sSum_b (f := fun h => tPair (tAsk S (tRun S m n k) (tNext S m n (tRun S m n k)) (tBest S n (tRun S m n k 0 (tNext S m n (tRun S m n k))) (tNext S m n (tRun S m n k)))) c h) (n := n) (B := 1) hn.1 (fun h _ _ => q_b01' _)
      omega)
    unfold tCnt
    omega
  omega
noncomputable def tEnd (S : Int → Int → Int) (m n : Int) : sMT := tRun S m n 36
theorem tEnd_of {S : Int → Int → Int} {m n : Int} (hm : 0 ≤ m ∧ m ≤ 6) (hn : 0 ≤ n ∧ n ≤ 6) {k : Nat} (h : tNext S m n (tRun S m n k) = -1) (hk : k ≤ 36) : tRun S m n k = tEnd S m n := by
  have := tRun_fix h (36 - k)
  rw [show k + (36 - k) = 36 by omega] at this
  exact this.symm
theorem sFr_skip {p : Int → Bool} {n : Int} {c : Int} (h0 : 0 ≤ c) (hc : c ≤ n) (h : ∀ k, 0 ≤ k → k < c → p k = false) : sFr p n 0 = sFr p n c := by
  have : ∀ j : Nat, (j : Int) ≤ c → sFr p n 0 = sFr p n j := by
    intro j
    induction j with
    | zero => intro _; rfl
    | succ j ih =>
      intro hj
      rw [ih (by omega), sFr_s p (show (j : Int) < n by omega), if_neg (by rw [h j (by omega) (by omega)]; decide)]
      rfl
  have h1 := this c.toNat (by omega)
  rw [Int.toNat_of_nonneg h0] at h1
  exact h1
theorem sFr_eq {p : Int → Bool} {n : Int} {c : Int} (h0 : 0 ≤ c) (hc : c < n) (hp : p c = true) (h : ∀ k, 0 ≤ k → k < c → p k = false) : sFr p n 0 = c := by
  rw [sFr_skip h0 (by omega) h, sFr_s p hc, if_pos hp]
theorem sFr_none {p : Int → Bool} {n : Int} (hn : 0 ≤ n) (h : sFr p n 0 = -1) : ∀ k, 0 ≤ k → k < n → p k = false := by
  intro k h0 h1
  have hl : ∀ m : Nat, ∀ k : Int, k.toNat = m → 0 ≤ k → k < n → p k = false := by
    intro m
    induction m using Nat.strongRecOn with
    | _ m ih =>
      intro k hm h0 h1
      by_cases hp : p k = true
      · have := sFr_eq h0 h1 hp (fun j a b => ih j.toNat (by omega) j rfl a (by omega))
        omega
      · exact Bool.eq_false_iff.mpr hp
  exact hl k.toNat k rfl h0 h1
theorem sFr_all {p : Int → Bool} {n : Int} (hn : 0 ≤ n) (h : ∀ k, 0 ≤ k → k < n → p k = false) : sFr p n 0 = -1 := by
  rw [sFr_skip hn (Int.le_refl _) h, sFr_e]
theorem sFr_first {p : Int → Bool} {n : Int} (hn : 0 ≤ n) (h : 0 ≤ sFr p n 0) : ∀ k, 0 ≤ k → k < sFr p n 0 → p k = false := by
  have hin := (sFr_in p (n := n) (i := 0) (by omega)).resolve_left (by omega)
  intro k h0 h1
  have hl : ∀ m : Nat, ∀ k : Int, k.toNat = m → 0 ≤ k → k < sFr p n 0 → p k = false := by
    intro m
    induction m using Nat.strongRecOn with
    | _ m ih =>
      intro k hm h0 h1
      by_cases hp : p k = true
      · have h9 : sFr p n 0 = k := sFr_eq h0 (by omega) hp (fun j a b => ih j.toNat (by omega) j rfl a (by omega))
        exact absurd h1 (by rw [h9]; exact Int.lt_irrefl _)
      · exact Bool.eq_false_iff.mpr hp
  exact hl k.toNat k rfl h0 h1
theorem q_popAdd {s k : Int} (h0 : 0 ≤ s) (h1 : s < 64) (h2 : 0 ≤ k) (h3 : k < 6) : ¬ (s / 2 ^ k.toNat % 2 = 1) → sPop (sAdd s k) = sPop s + 1 := q_fin2 (p := fun s k => ¬ (s / 2 ^ k.toNat % 2 = 1) → sPop (sAdd s k) = sPop s + 1) (N := 64) (K := 6) (by decide +kernel) h0 h1 h2 h3
theorem tAsk_mono {S : Int → Int → Int} {m n : Int} {T : sMT} (hm : m ≤ 6) (hn : n ≤ 6) (hT : tInv m n T) {c h c' h' : Int} (hc : 0 ≤ c ∧ c < m) (hh : 0 ≤ h ∧ h < n) (hc' : 0 ≤ c' ∧ c' < m) (hh' : 0 ≤ h' ∧ h' < n) (hp : sHas (T 0 c') h') : sHas (tAsk S T c h 0 c') h' := by
  have hb := hT.1 c' hc'.1 hc'.2
  have had := q_addHas (s := T 0 c') hb.1.1 hb.1.2 hh.1 (show h < 6 by omega) hh'.1 (show h' < 6 by omega)
  unfold tAsk
  split
  · exact hp
  · split
    · simp only [tJoin, tDrop]
      simp
      by_cases e : c' = T 2 h
      · rw [if_pos e, ← e]; exact had.mpr (Or.inr hp)
      · rw [if_neg e]; exact hp
    · simp only [tRef]
      simp
      by_cases e : c' = c
      · rw [if_pos e, ← e]; exact had.mpr (Or.inr hp)
      · rw [if_neg e]; exact hp
theorem tNext_of {S : Int → Int → Int} {m n : Int} {T : sMT} {c : Int} (hc : 0 ≤ c ∧ c < m) (h1 : T 1 c = -1) (h2 : tBest S n (T 0 c) c ≠ -1) (h3 : ∀ k, 0 ≤ k → k < c → T 1 k = -1 → tBest S n (T 0 k) k = -1) : tNext S m n T = c := by
  unfold tNext
  refine sFr_eq hc.1 hc.2 (by rw [decide_eq_true_iff]; exact ⟨h1, h2⟩) (fun k a b => ?_)
  rw [decide_eq_false_iff_not]
  rintro ⟨q1, q2⟩
  exact q2 (h3 k a b q1)
theorem tNext_none {S : Int → Int → Int} {m n : Int} {T : sMT} (hm : 0 ≤ m) (h3 : ∀ k, 0 ≤ k → k < m → T 1 k = -1 → tBest S n (T 0 k) k = -1) : tNext S m n T = -1 := by
  unfold tNext
  refine sFr_all hm (fun k a b => ?_)
  rw [decide_eq_false_iff_not]
  rintro ⟨q1, q2⟩
  exact q2 (h3 k a b q1)
