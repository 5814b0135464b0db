/-! a season as it is read: 0 manners, 1 how many comers, 2 houses; 3 worth, 4 stuffing, 5 meaning; 6 from what, 7 fern; 8 prizes -/
abbrev sRd : Type := Nat → Int → Int
def rUp (R : sRd) (k : Nat) (i z : Int) : sRd := fun k' i' => if k' = k then if i' = i then z else R k' i' else R k' i'
def rRow (R : sRd) (k : Nat) (f : Int → Int) : sRd := fun k' i' => if k' = k then f i' else R k' i'
def pHeadB (t : Int → Int) (L a : Int) (R : sRd) : Int × Int × sRd := if pNf t L 2 a = 0 then (0, pNq t L a, rUp R 0 0 (pNv t L a)) else (pNf t L 2 a, pSk t L a, R)
def rComer (R : sRd) (w s m : Int) : sRd := rUp (rUp (rUp (rUp R 3 (R 1 0) w) 4 (R 1 0) s) 5 (R 1 0) m) 1 0 (R 1 0 + 1)
def pComerB (t : Int → Int) (L a : Int) (R : sRd) : Int × Int × sRd :=
  if pNf t L 9 a = 0 then
    if pNf t L 9 (pNq t L a) = 0 then
      if pNf t L 7 (pNq t L (pNq t L a)) = 0 then (0, pNq t L (pNq t L (pNq t L a)), rComer R (pNv t L a) (pNv t L (pNq t L a)) (pNv t L (pNq t L (pNq t L a))))
      else (pNf t L 7 (pNq t L (pNq t L a)), pSk t L (pNq t L (pNq t L a)), R)
    else (pNf t L 9 (pNq t L a), pSk t L (pNq t L a), R)
  else (pNf t L 9 a, pSk t L a, R)
def pPrz (t : Int → Int) (L h : Int) : Nat → Int → Int → (Int → Int) → Int × Int × (Int → Int)
  | 0, _, a, r => (0, a, r)
  | k + 1, n, a, r =>
    if pNf t L 9 a = 0 then
      if pLt t L (pSk t L (pNq t L a)) = 44 ∧ n + 1 < 8 then pPrz t L h k (n + 1) (pSk t L (pNq t L a) + 1) (fun i => if i = 8 * h + n then pNv t L a else r i)
      else (0, pSk t L (pNq t L a), fun i => if i = 8 * h + n then pNv t L a else r i)
    else (pNf t L 9 a, pSk t L a, r)
def rPz0 (R : sRd) : Int → Int := fun k => if 8 * R 2 0 ≤ k ∧ k < 8 * R 2 0 + 8 then 0 else R 8 k
def rHouse (R : sRd) (u f : Int) (pr : Int → Int) : sRd := rUp (rRow (rUp (rUp R 6 (R 2 0) u) 7 (R 2 0) f) 8 pr) 2 0 (R 2 0 + 1)
def pHouseB (t : Int → Int) (L a : Int) (R : sRd) : Int × Int × sRd :=
  if pNf t L 40 a = 0 then
    if pNf t L 40 (pNq t L a) = 0 then
      if (pPrz t L (R 2 0) 8 0 (pNq t L (pNq t L a)) (rPz0 R)).1 = 0 then (0, (pPrz t L (R 2 0) 8 0 (pNq t L (pNq t L a)) (rPz0 R)).2.1, rHouse R (pNv t L a) (pNv t L (pNq t L a)) (pPrz t L (R 2 0) 8 0 (pNq t L (pNq t L a)) (rPz0 R)).2.2)
      else ((pPrz t L (R 2 0) 8 0 (pNq t L (pNq t L a)) (rPz0 R)).1, (pPrz t L (R 2 0) 8 0 (pNq t L (pNq t L a)) (rPz0 R)).2.1, R)
    else (pNf t L 40 (pNq t L a), pSk t L (pNq t L a), R)
  else (pNf t L 40 a, pSk t L a, R)
def pBody (t : Int → Int) (L w a : Int) (R : sRd) : Int × Int × sRd := if w = 115 then pHeadB t L a R else if w = 99 then pComerB t L a R else pHouseB t L a R
def pFin (t : Int → Int) (L : Int) (b : Int × Int × sRd) : Int × Int × sRd := if b.1 = 0 then (if pEf t L b.2.1 = 0 then (0, pSk t L b.2.1 + 1, b.2.2) else (1, pSk t L b.2.1, b.2.2)) else b
/-- a clause that begins at a -/
def pCl (t : Int → Int) (L a : Int) (R : sRd) : Int × Int × sRd :=
  if t a ≠ 115 ∧ (R 0 0 = -1 ∨ (t a ≠ 99 ∧ t a ≠ 104)) then (1, a, R)
  else if (t a = 115 ∧ R 0 0 ≠ -1) ∨ (t a = 99 ∧ 6 ≤ R 1 0) ∨ (t a = 104 ∧ 6 ≤ R 2 0) then (3, a, R)
  else pFin t L (pBody t L (t a) (a + 1) R)
def pAll (t : Int → Int) (L : Int) : Nat → Int → sRd → Int × Int × sRd
  | 0, a, R => (0, a, R)
  | k + 1, a, R => if pSk t L a < L then (if (pCl t L (pSk t L a) R).1 = 0 then pAll t L k (pCl t L (pSk t L a) R).2.1 (pCl t L (pSk t L a) R).2.2 else pCl t L (pSk t L a) R) else (0, pSk t L a, R)
def rInit : sRd := fun k _ => if k = 0 then -1 else 0
def pRes (t : Int → Int) (L : Int) : Int × Int × sRd := pAll t L 241 0 rInit
/-- the bounds of what is read -/
def rB (R : sRd) : Prop := (-1 ≤ R 0 0 ∧ R 0 0 ≤ 2) ∧ (0 ≤ R 1 0 ∧ R 1 0 ≤ 6) ∧ (0 ≤ R 2 0 ∧ R 2 0 ≤ 6) ∧ (∀ c, 0 ≤ c → c < R 1 0 → (0 ≤ R 3 c ∧ R 3 c ≤ 9) ∧ (0 ≤ R 4 c ∧ R 4 c ≤ 9) ∧ (0 ≤ R 5 c ∧ R 5 c ≤ 7)) ∧ (∀ h, 0 ≤ h → h < R 2 0 → (0 ≤ R 6 h ∧ R 6 h ≤ 40) ∧ (0 ≤ R 7 h ∧ R 7 h ≤ 40)) ∧ (∀ k, 0 ≤ k → k < 8 * R 2 0 → 0 ≤ R 8 k ∧ R 8 k ≤ 9) ∧ (R 0 0 = -1 → R 1 0 = 0 ∧ R 2 0 = 0)
theorem rInit_B : rB rInit := by
  unfold rB rInit
  refine ⟨by simp, by simp, by simp, fun c h1 h2 => ?_, fun c h1 h2 => ?_, fun c h1 h2 => ?_, by simp⟩ <;> simp at h2 <;> omega
theorem pPrz_in {t : Int → Int} {L h : Int} (hh : 0 ≤ h) : ∀ (k : Nat) (n a : Int) (r : Int → Int), 0 ≤ n → n + k = 8 → 0 < k → 0 ≤ a → a ≤ L → (∀ i, 0 ≤ i → i < 8 * h + 8 → 0 ≤ r i ∧ r i ≤ 9) → (pPrz t L h k n a r).1 = 0 → (a < (pPrz t L h k n a r).2.1 ∨ a = (pPrz t L h k n a r).2.1) ∧ (pPrz t L h k n a r).2.1 ≤ L ∧ (∀ i, 0 ≤ i → i < 8 * h + 8 → 0 ≤ (pPrz t L h k n a r).2.2 i ∧ (pPrz t L h k n a r).2.2 i ≤ 9) ∧ (∀ i, 0 ≤ i → i < 8 * h → (pPrz t L h k n a r).2.2 i = r i) := by
  intro k
  induction k with
  | zero => intro n a r h0 h1 h2; omega
  | succ k ih =>
    intro n a r h0 h1 _ h3 h4 hr hf
    have hq := pNq_in (t := t) h3 h4
    have hs := pSk_in (t := t) (L := L) (a := pNq t L a) (by omega) hq.2.2
    rw [pPrz] at hf ⊢
    by_cases hnf : pNf t L 9 a = 0
    · rw [if_pos hnf] at hf ⊢
      have hv := pNv_in h3 h4 hnf
      have hr2 : ∀ i, 0 ≤ i → i < 8 * h + 8 → 0 ≤ (if i = 8 * h + n then pNv t L a else r i) ∧ (if i = 8 * h + n then pNv t L a else r i) ≤ 9 := by
        intro i a1 a2
        split
        · exact hv
        · exact hr i a1 a2
      have hr3 : ∀ i, 0 ≤ i → i < 8 * h → (if i = 8 * h + n then pNv t L a else r i) = r i := fun i a1 a2 => if_neg (by omega)
      by_cases hc : pLt t L (pSk t L (pNq t L a)) = 44 ∧ n + 1 < 8
      · rw [if_pos hc] at hf ⊢
        have hlt : pSk t L (pNq t L a) < L := by
          have := hc.1
          unfold pLt at this
          split at this
          · assumption
          · omega
        obtain ⟨b1, b2, b3, b4⟩ := ih (n + 1) (pSk t L (pNq t L a) + 1) _ (by omega) (by omega) (by omega) (by omega) (by omega) hr2 hf
        exact ⟨by omega, b2, b3, fun i a1 a2 => (b4 i a1 a2).trans (hr3 i a1 a2)⟩
      · rw [if_neg hc] at hf ⊢
        exact ⟨by show a < pSk t L (pNq t L a) ∨ a = pSk t L (pNq t L a); omega, hs.2, hr2, hr3⟩
    · rw [if_neg hnf] at hf
      exact absurd hf hnf
theorem pBody_B {t : Int → Int} {L w a : Int} {R : sRd} (h0 : 0 ≤ a) (h1 : a ≤ L) (hR : rB R) (hw : (w = 115 ∧ R 0 0 = -1) ∨ (R 0 0 ≠ -1 ∧ w = 99 ∧ R 1 0 < 6) ∨ (R 0 0 ≠ -1 ∧ w = 104 ∧ R 2 0 < 6)) (hf : (pBody t L w a R).1 = 0) : rB (pBody t L w a R).2.2 ∧ a ≤ (pBody t L w a R).2.1 ∧ (pBody t L w a R).2.1 ≤ L := by
  have q1 := pNq_in (t := t) h0 h1
  have q2 := pNq_in (t := t) (L := L) (a := pNq t L a) (by omega) q1.2.2
  have q3 := pNq_in (t := t) (L := L) (a := pNq t L (pNq t L a)) (by omega) q2.2.2
  obtain ⟨r1, r2, r3, r4, r5, r6, r7⟩ := hR
  unfold pBody at hf ⊢
  rcases hw with ⟨rfl, hm⟩ | ⟨hm, rfl, hc⟩ | ⟨hm, rfl, hc⟩
  · rw [if_pos rfl] at hf ⊢
    unfold pHeadB at hf ⊢
    by_cases n1 : pNf t L 2 a = 0
    · rw [if_pos n1]
      have v1 := pNv_in h0 h1 n1
      have hz := r7 hm
      refine ⟨⟨by simp [rUp]; omega, by simp [rUp]; omega, by simp [rUp]; omega, fun c a1 a2 => ?_, fun c a1 a2 => ?_, fun c a1 a2 => ?_, fun e => ?_⟩, by show a ≤ pNq t L a; omega, by show pNq t L a ≤ L; omega⟩
      · simp [rUp] at a2; omega
      · simp [rUp] at a2; omega
      · simp [rUp] at a2; omega
      · simp [rUp]; omega
    · rw [if_neg n1] at hf; exact absurd hf n1
  · rw [if_neg (by decide), if_pos rfl] at hf ⊢
    unfold pComerB at hf ⊢
    by_cases n1 : pNf t L 9 a = 0
    · rw [if_pos n1] at hf ⊢
      by_cases n2 : pNf t L 9 (pNq t L a) = 0
      · rw [if_pos n2] at hf ⊢
        by_cases n3 : pNf t L 7 (pNq t L (pNq t L a)) = 0
        · rw [if_pos n3]
          have v1 := pNv_in h0 h1 n1
          have v2 := pNv_in (by omega) q1.2.2 n2
          have v3 := pNv_in (by omega) q2.2.2 n3
          refine ⟨⟨by simp [rComer, rUp]; omega, by simp [rComer, rUp]; omega, by simp [rComer, rUp]; omega, fun c a1 a2 => ?_, fun c a1 a2 => ?_, fun c a1 a2 => ?_, fun e => ?_⟩, by show a ≤ pNq t L (pNq t L (pNq t L a)); omega, q3.2.2⟩
          · simp [rComer, rUp] at a2 ⊢
            by_cases e : c = R 1 0
            · simp [e]; omega
            · simp [e]; exact r4 c a1 (by omega)
          · simp [rComer, rUp] at a2 ⊢; exact r5 c a1 a2
          · simp [rComer, rUp] at a2 ⊢; exact r6 c a1 a2
          · simp [rComer, rUp] at e; exact absurd e hm
        · rw [if_neg n3] at hf; exact absurd hf n3
      · rw [if_neg n2] at hf; exact absurd hf n2
    · rw [if_neg n1] at hf; exact absurd hf n1
  · rw [if_neg (by decide), if_neg (by decide)] at hf ⊢
    unfold pHouseB at hf ⊢
    by_cases n1 : pNf t L 40 a = 0
    · rw [if_pos n1] at hf ⊢
      by_cases n2 : pNf t L 40 (pNq t L a) = 0
      · rw [if_pos n2] at hf ⊢
        by_cases n3 : (pPrz t L (R 2 0) 8 0 (pNq t L (pNq t L a)) (rPz0 R)).1 = 0
        · rw [if_pos n3]
          have v1 := pNv_in h0 h1 n1
          have v2 := pNv_in (by omega) q1.2.2 n2
          obtain ⟨b1, b2, b3, b4⟩ := pPrz_in (t := t) (L := L) r3.1 8 0 (pNq t L (pNq t L a)) (rPz0 R) (by omega) (by omega) (by omega) (by omega) q2.2.2 (fun i a1 a2 => by unfold rPz0; split; omega; exact r6 i a1 (by omega)) n3
          refine ⟨⟨by simp [rHouse, rUp, rRow]; omega, by simp [rHouse, rUp, rRow]; omega, by simp [rHouse, rUp, rRow]; omega, fun c a1 a2 => ?_, fun c a1 a2 => ?_, fun c a1 a2 => ?_, fun e => ?_⟩, by show a ≤ (pPrz t L (R 2 0) 8 0 (pNq t L (pNq t L a)) (rPz0 R)).2.1; omega, b2⟩
          · simp [rHouse, rUp, rRow] at a2 ⊢; exact r4 c a1 a2
          · simp [rHouse, rUp, rRow] at a2 ⊢
            by_cases e : c = R 2 0
            · simp [e]; omega
            · simp [e]; exact r5 c a1 (by omega)
          · simp [rHouse, rUp, rRow] at a2 ⊢; exact b3 c a1 (by omega)
          · simp [rHouse, rUp, rRow] at e; exact absurd e hm
        · rw [if_neg n3] at hf; exact absurd hf n3
      · rw [if_neg n2] at hf; exact absurd hf n2
    · rw [if_neg n1] at hf; exact absurd hf n1
theorem pCl_B {t : Int → Int} {L a : Int} {R : sRd} (h0 : 0 ≤ a) (h1 : a < L) (hR : rB R) (hf : (pCl t L a R).1 = 0) : rB (pCl t L a R).2.2 ∧ a < (pCl t L a R).2.1 ∧ (pCl t L a R).2.1 ≤ L := by
  unfold pCl at hf ⊢
  split at hf
  · exact absurd hf (show ¬ ((1 : Int) = 0) by decide)
  · rename_i c1
    rw [if_neg c1]
    split at hf
    · exact absurd hf (show ¬ ((3 : Int) = 0) by decide)
    · rename_i c2
      rw [if_neg c2]
      have hw : (t a = 115 ∧ R 0 0 = -1) ∨ (R 0 0 ≠ -1 ∧ t a = 99 ∧ R 1 0 < 6) ∨ (R 0 0 ≠ -1 ∧ t a = 104 ∧ R 2 0 < 6) := by omega
      unfold pFin at hf ⊢
      by_cases b1 : (pBody t L (t a) (a + 1) R).1 = 0
      · rw [if_pos b1] at hf ⊢
        obtain ⟨e1, e2, e3⟩ := pBody_B (by omega) (by omega) hR hw b1
        have hs := pSk_in (t := t) (L := L) (a := (pBody t L (t a) (a + 1) R).2.1) (by omega) e3
        by_cases b2 : pEf t L (pBody t L (t a) (a + 1) R).2.1 = 0
        · rw [if_pos b2]
          refine ⟨e1, by show a < pSk t L _ + 1; omega, ?_⟩
          show pSk t L _ + 1 ≤ L
          unfold pEf pLt at b2
          split at b2
          · split at *
            · omega
            · omega
          · omega
        · rw [if_neg b2] at hf; exact absurd hf (show ¬ ((1 : Int) = 0) by decide)
      · rw [if_neg b1] at hf; exact absurd hf b1
