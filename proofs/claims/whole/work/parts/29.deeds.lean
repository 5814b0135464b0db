/-! deeds on rows, as the reference tells them -/
def vEnter (v : Int → Int) (c h a r : Int) : Int → Int := fun j => if 104 ≤ j ∧ j ≤ 198 then v (j - 5) else if j = 99 then v 0 else if j = 100 then c else if j = 101 then h else if j = 102 then a else if j = 103 then r else if j = 98 then v 98 + (if v 98 < 20 then 1 else 0) else v j
def vSo (v : Int → Int) (c h : Int) : Int := v (56 + (6 * c + h)) + (if 5 ≤ v (14 + c) ∧ v (56 + (6 * c + h)) < 3 then 1 else 0)
def vWel (v : Int → Int) (c h : Int) : Int → Int := fun j => if j = 20 + (6 * c + h) then v j + (if v j < 999 then 1 else 0) else if j = 1 then qOr (v 1) (qShl 1 h) else if j = 56 + (6 * c + h) then vSo v c h else if j = 92 + c then qOr (v j) (if 5 ≤ v (14 + c) ∧ vSo v c h = 3 then qShl 1 h else 0) else v j
def vVisit (sd : sSD) (v : Int → Int) (c h a : Int) : Int → Int := vEnter (if 0 < sAns sd v c h a then vWel v c h else v) c h a (sAns sd v c h a)
def vDay (n : Int) (v : Int → Int) : Int → Int := fun j => if 2 ≤ j ∧ j < 2 + n then xHard (v 1) (v j) (j - 2) else if j = 1 then 0 else if j = 0 then v 0 + 1 else v j
def vSet (v : Int → Int) (p z : Int) : Int → Int := fun j => if j = p then z else v j
def vPard (v : Int → Int) (c h : Int) : Int → Int := vSet (vSet (vSet v (20 + (6 * c + h)) 0) (56 + (6 * c + h)) 0) (92 + c) (sDel (v (92 + c)) h)
theorem xHard_in {o x h : Int} (hx : 0 ≤ x ∧ x ≤ 40) : 0 ≤ xHard o x h ∧ xHard o x h ≤ 40 := by
  unfold xHard
  have h1 := sMin_l (x + 1) 40
  have h2 := sMax_l (x - 1) 0
  split <;> omega
theorem xH_fr {M N : qMem} {u : Nat} {m n : Int} {v : Int → Int} (h : ∀ j, 10 ≤ j → j ≤ 18 → N j u = M j u) (hx : xH M u m n v) : xH N u m n v := by
  unfold xH at *
  rw [h 10 (by decide) (by decide), h 11 (by decide) (by decide), h 12 (by decide) (by decide), h 13 (by decide) (by decide), h 14 (by decide) (by decide), h 15 (by decide) (by decide), h 16 (by decide) (by decide), h 17 (by decide) (by decide), h 18 (by decide) (by decide)]
  exact hx
/-- a row counts at its 199 places alone -/
theorem xH_v {M : qMem} {u : Nat} {m n : Int} {v v' : Int → Int} (hm : m ≤ 6) (hn : n ≤ 6) (hl : v 98 ≤ 20) (h : ∀ j, 0 ≤ j → j < 199 → v' j = v j) (hx : xH M u m n v) : xH M u m n v' := by
  unfold xH at *
  rw [h 0 (by omega) (by omega), h 1 (by omega) (by omega), h 98 (by omega) (by omega)]
  refine ⟨hx.1, hx.2.1, fun q a b => ?_, fun c a b => ?_, fun c q a1 a2 a3 a4 => ?_, hx.2.2.2.2.2.1, hx.2.2.2.2.2.2.1, fun i k a1 a2 a3 a4 => ?_⟩
  · rw [h (2 + q) (by omega) (by omega)]; exact hx.2.2.1 q a b
  · rw [h (8 + c) (by omega) (by omega), h (14 + c) (by omega) (by omega), h (92 + c) (by omega) (by omega)]; exact hx.2.2.2.1 c a b
  · rw [h (20 + (6 * c + q)) (by omega) (by omega), h (56 + (6 * c + q)) (by omega) (by omega)]; exact hx.2.2.2.2.1 c q a1 a2 a3 a4
  · rw [h (99 + (5 * i + k)) (by omega) (by omega)]; exact hx.2.2.2.2.2.2.2 i k a1 a2 a3 a4
theorem sRR_v {m n : Int} {v v' : Int → Int} (hm : m ≤ 6) (hn : n ≤ 6) (h : ∀ j, 0 ≤ j → j < 199 → v' j = v j) (hx : sRR m n v) : sRR m n v' := by
  unfold sRR at *
  rw [h 0 (by omega) (by omega), h 1 (by omega) (by omega), h 98 (by omega) (by omega)]
  refine ⟨hx.1, hx.2.1, fun q a b => ?_, fun c a b => ?_, fun c q a1 a2 a3 a4 => ?_, hx.2.2.2.2.2⟩
  · rw [h (2 + q) (by omega) (by omega)]; exact hx.2.2.1 q a b
  · rw [h (8 + c) (by omega) (by omega), h (14 + c) (by omega) (by omega), h (92 + c) (by omega) (by omega)]; exact hx.2.2.2.1 c a b
  · rw [h (20 + (6 * c + q)) (by omega) (by omega), h (56 + (6 * c + q)) (by omega) (by omega)]; exact hx.2.2.2.2.1 c q a1 a2 a3 a4
/-- the log, one visit on -/
theorem xH_log {M : qMem} {u : Nat} {m n : Int} {v : Int → Int} (hx : xH M u m n v) (hv : sRR m n v) {c h a r : Int} (hm : m ≤ 6) (hn : n ≤ 6) : xH (xLog M u (M 10 u 0) c h a r) u m n (vEnter v c h a r) := by
  obtain ⟨x1, x2, x3, x4, x5, x6, x7, x8⟩ := hx
  have hl := hv.2.2.2.2.2
  unfold xLog
  generalize hnw : (if M 17 u 1 < 19 then M 17 u 1 + 1 else 0) = nw
  have hnb : (M 17 u 1 < 19 ∧ nw = M 17 u 1 + 1) ∨ (M 17 u 1 = 19 ∧ nw = 0) := by
    by_cases q : M 17 u 1 < 19
    · left; rw [if_pos q] at hnw; exact ⟨q, hnw.symm⟩
    · right; rw [if_neg q] at hnw; exact ⟨by omega, hnw.symm⟩
  have hmn := sMin_l (M 17 u 2 + 1) 20
  unfold xH
  simp only [q_rd, q_rdR]
  simp
  refine ⟨?_, ?_, fun q a1 a2 => ?_, fun q a1 a2 => ?_, fun q p a1 a2 a3 a4 => ?_, ?_, by omega, fun i k a1 a2 a3 a4 => ?_⟩
  · rw [x1]; simp [vEnter]
  · rw [x2]; simp [vEnter]
  · rw [x3 q a1 a2]; unfold vEnter; rw [if_neg (by omega), if_neg (by omega), if_neg (by omega), if_neg (by omega), if_neg (by omega), if_neg (by omega), if_neg (by omega)]
  · have := x4 q a1 a2
    unfold vEnter
    repeat rw [if_neg (by omega)]
    exact this
  · have := x5 q p a1 a2 a3 a4
    unfold vEnter
    repeat rw [if_neg (by omega)]
    simpa using this
  · rw [x6]
    unfold vEnter sMin
    simp
    by_cases q : v 98 < 20
    · rw [if_neg (by omega), if_pos q]
    · rw [if_pos (by omega), if_neg q]; omega
  · have e98 : vEnter v c h a r 98 = v 98 + (if v 98 < 20 then 1 else 0) := by simp [vEnter]
    rw [e98] at a2
    by_cases q : i = 0
    · subst q
      have ek : (k = 0 ∨ k = 1 ∨ k = 2) ∨ k = 3 ∨ k = 4 := by omega
      have e0 : (if 0 ≤ nw then nw - 0 else nw - 0 + 20) = nw := by rw [if_pos (by omega)]; omega
      rw [e0]
      rcases ek with (rfl | rfl | rfl) | rfl | rfl
      · rw [if_neg (by omega), if_neg (by omega), if_neg (by omega), if_neg (by omega), if_pos (by omega), x1]; simp [vEnter]
      · rw [if_neg (by omega), if_neg (by omega), if_neg (by omega), if_pos (by omega)]; simp [vEnter]
      · rw [if_neg (by omega), if_neg (by omega), if_pos (by omega)]; simp [vEnter]
      · rw [if_neg (by omega), if_pos (by omega)]; simp [vEnter]
      · rw [if_pos (by omega)]; simp [vEnter]
    · have hi2 : i - 1 < v 98 := by split at a2 <;> omega
      have hold := x8 (i - 1) k (by omega) hi2 a3 a4
      have hi20 : i < 20 := by split at a2 <;> omega
      have ev : vEnter v c h a r (99 + (5 * i + k)) = v (99 + (5 * (i - 1) + k)) := by
        unfold vEnter
        rw [if_pos (by omega)]
        congr 1
        omega
      rw [ev, ← hold]
      have epos : (if i ≤ nw then nw - i else nw - i + 20) = (if i - 1 ≤ M 17 u 1 then M 17 u 1 - (i - 1) else M 17 u 1 - (i - 1) + 20) := by
        rcases hnb with ⟨b1, b2⟩ | ⟨b1, b2⟩
        · by_cases q2 : i ≤ nw
          · rw [if_pos q2, if_pos (by omega)]; omega
          · rw [if_neg q2, if_neg (by omega)]; omega
        · rw [if_neg (by omega), if_pos (by omega)]; omega
      have hne : (if i ≤ nw then nw - i else nw - i + 20) ≠ nw := by split <;> omega
      rw [if_neg (by omega), if_neg (by omega), if_neg (by omega), if_neg (by omega), if_neg (by omega), epos]
theorem sRR_log {m n : Int} {v : Int → Int} (hv : sRR m n v) {c h a r : Int} (hm : m ≤ 6) (hn : n ≤ 6) : sRR m n (vEnter v c h a r) := by
  obtain ⟨h1, h2, h3, h4, h5, h6⟩ := hv
  refine ⟨by simp [vEnter]; exact h1, by simp [vEnter]; exact h2, fun q a b => ?_, fun q a b => ?_, fun q p a1 a2 a3 a4 => ?_, ?_⟩
  · have := h3 q a b; unfold vEnter; repeat rw [if_neg (by omega)]
    exact this
  · have := h4 q a b; unfold vEnter; repeat rw [if_neg (by omega)]
    exact this
  · have := h5 q p a1 a2 a3 a4; unfold vEnter; repeat rw [if_neg (by omega)]
    exact this
  · simp [vEnter]; split <;> omega
