/-! the text: letters t 0 .. t (L-1) -/
theorem q_upId (M : qMem) (j u : Nat) (i : Int) : qUp M j u i (M j u i) = M := by
  rw [q_upAsSet]
  refine q_setC0 (fun k => ?_)
  split
  · rename_i h; rw [h]
  · rfl
theorem q_upUp (M : qMem) (j u : Nat) (i a b : Int) : qUp (qUp M j u i a) j u i b = qUp M j u i b := by
  rw [q_upAsSet M, q_upSet, q_upAsSet]
  refine q_setC (fun k => ?_)
  split <;> rfl
/-- the first place from a on where it is so; else L -/
def pTo (p : Int → Bool) (L a : Int) : Int := if sFr p L a = -1 then L else sFr p L a
theorem pTo_e (p : Int → Bool) (L : Int) : pTo p L L = L := by unfold pTo; rw [sFr_e, if_pos rfl]
theorem pTo_y {p : Int → Bool} {L a : Int} (h0 : 0 ≤ a) (h : a < L) (hp : p a = true) : pTo p L a = a := by
  unfold pTo; rw [sFr_s p h, if_pos hp, if_neg (by omega)]
theorem pTo_n {p : Int → Bool} {L a : Int} (h : a < L) (hp : ¬ p a = true) : pTo p L a = pTo p L (a + 1) := by
  unfold pTo; rw [sFr_s p h, if_neg hp]
theorem pTo_in {p : Int → Bool} {L a : Int} (h0 : 0 ≤ a) (h : a ≤ L) : a ≤ pTo p L a ∧ pTo p L a ≤ L ∧ (pTo p L a < L → p (pTo p L a) = true) := by
  unfold pTo
  rcases sFr_in p (n := L) (i := a) h0 with h1 | ⟨h1, h2, h3⟩
  · rw [if_pos h1]; exact ⟨h, Int.le_refl _, fun q => by omega⟩
  · rw [if_neg (by omega)]; exact ⟨h1, by omega, fun _ => h3⟩
theorem pTo_lt {p : Int → Bool} {L a : Int} (h0 : 0 ≤ a) (h : a ≤ L) : ∀ k, a ≤ k → k < pTo p L a → p k = false := by
  have hl : ∀ m : Nat, ∀ a : Int, (L - a).toNat = m → 0 ≤ a → a ≤ L → ∀ k, a ≤ k → k < pTo p L a → p k = false := by
    intro m
    induction m with
    | zero => intro a hm h0 h k h1 h2; have := pTo_in (p := p) h0 h; omega
    | succ m ih =>
      intro a hm h0 h k h1 h2
      by_cases hp : p a = true
      · rw [pTo_y h0 (by omega) hp] at h2; omega
      · rw [pTo_n (by omega) hp] at h2
        by_cases e : k = a
        · subst e; exact Bool.eq_false_iff.mpr hp
        · exact ih (a + 1) (by omega) (by omega) (by omega) k (by omega) h2
  exact hl _ a rfl h0 h
def pSk (t : Int → Int) (L a : Int) : Int := pTo (fun k => decide (t k ≠ 32)) L a
def pDg (t : Int → Int) (L a : Int) : Int := pTo (fun k => decide (¬ (48 ≤ t k ∧ t k ≤ 57))) L a
def pLt (t : Int → Int) (L a : Int) : Int := if a < L then t a else -1
def pV (t : Int → Int) (p : Int) : Nat → Int
  | 0 => 0
  | n + 1 => 10 * pV t p n + t (p + n) - 48
theorem pSk_in {t : Int → Int} {L a : Int} (h0 : 0 ≤ a) (h : a ≤ L) : a ≤ pSk t L a ∧ pSk t L a ≤ L := ⟨(pTo_in h0 h).1, (pTo_in h0 h).2.1⟩
theorem pDg_in {t : Int → Int} {L a : Int} (h0 : 0 ≤ a) (h : a ≤ L) : a ≤ pDg t L a ∧ pDg t L a ≤ L := ⟨(pTo_in h0 h).1, (pTo_in h0 h).2.1⟩
/-- the fault of a number that is read from a on: 0 none -/
def pNf (t : Int → Int) (L most a : Int) : Int := if pDg t L (pSk t L a) = pSk t L a then 1 else if 3 < pDg t L (pSk t L a) - pSk t L a ∨ most < pV t (pSk t L a) (pDg t L (pSk t L a) - pSk t L a).toNat then 2 else 0
def pNv (t : Int → Int) (L a : Int) : Int := pV t (pSk t L a) (pDg t L (pSk t L a) - pSk t L a).toNat
def pNq (t : Int → Int) (L a : Int) : Int := pDg t L (pSk t L a)
theorem pNq_in {t : Int → Int} {L a : Int} (h0 : 0 ≤ a) (h : a ≤ L) : a ≤ pNq t L a ∧ pSk t L a ≤ pNq t L a ∧ pNq t L a ≤ L := by
  have h1 := pSk_in (t := t) h0 h
  have h2 := pDg_in (t := t) (L := L) (a := pSk t L a) (by omega) h1.2
  unfold pNq
  omega
theorem pV_s (t : Int → Int) (p : Int) {i : Int} (h : p ≤ i) : pV t p (i + 1 - p).toNat = 10 * pV t p (i - p).toNat + t i - 48 := by
  rw [show (i + 1 - p).toNat = (i - p).toNat + 1 by omega, pV, show p + ((i - p).toNat : Int) = i by omega]
theorem pV_b {t : Int → Int} {p : Int} {n : Nat} (hn : n ≤ 3) (hd : ∀ k, p ≤ k → k < p + n → 48 ≤ t k ∧ t k ≤ 57) : 0 ≤ pV t p n ∧ pV t p n ≤ 999 := by
  match n, hn with
  | 0, _ => simp [pV]
  | 1, _ => have h0 := hd p (by omega) (by omega); simp only [pV]; simp; omega
  | 2, _ => have h0 := hd p (by omega) (by omega); have h1 := hd (p + 1) (by omega) (by omega); simp only [pV]; simp; omega
  | 3, _ => have h0 := hd p (by omega) (by omega); have h1 := hd (p + 1) (by omega) (by omega); have h2 := hd (p + 2) (by omega) (by omega); simp only [pV]; simp; omega
theorem pNv_in {t : Int → Int} {L most a : Int} (h0 : 0 ≤ a) (h : a ≤ L) (hf : pNf t L most a = 0) : 0 ≤ pNv t L a ∧ pNv t L a ≤ most := by
  have h1 := pSk_in (t := t) h0 h
  have h2 := pDg_in (t := t) (L := L) (a := pSk t L a) (by omega) h1.2
  unfold pNf at hf
  split at hf
  · omega
  · split at hf
    · omega
    · unfold pNv
      rename_i h3 h4
      refine ⟨(pV_b (by omega) (fun k h5 h6 => ?_)).1, by omega⟩
      have := pTo_lt (p := fun k => decide (¬ (48 ≤ t k ∧ t k ≤ 57))) (L := L) (a := pSk t L a) (by omega) h1.2 k h5 (by show k < pDg t L (pSk t L a); omega)
      rw [decide_eq_false_iff_not] at this
      omega
theorem pNf_in (t : Int → Int) (L most a : Int) : pNf t L most a = 0 ∨ pNf t L most a = 1 ∨ pNf t L most a = 2 := by unfold pNf; split <;> (try split) <;> omega
/-- the end of a clause: a ';' -/
def pEf (t : Int → Int) (L a : Int) : Int := if pLt t L (pSk t L a) = 59 then 0 else 1
