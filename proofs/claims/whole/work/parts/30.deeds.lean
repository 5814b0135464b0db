theorem q_qor0 {x : Int} (h : 0 ≤ x ∧ x < 64) : qOr x 0 = x := q_or0 (by omega)
theorem sRR_wel {m n : Int} {v : Int → Int} (hv : sRR m n v) {c h : Int} (hm : m ≤ 6) (hn : n ≤ 6) (hc : 0 ≤ c ∧ c < m) (hh : 0 ≤ h ∧ h < n) : sRR m n (vWel v c h) := by
  obtain ⟨h1, h2, h3, h4, h5, h6⟩ := hv
  have h5c := h5 c h hc.1 hc.2 hh.1 hh.2
  have h4c := h4 c hc.1 hc.2
  have hso : 0 ≤ vSo v c h ∧ vSo v c h ≤ 3 := by unfold vSo; split <;> omega
  refine ⟨?_, ?_, fun q a b => ?_, fun q a b => ?_, fun q p a1 a2 a3 a4 => ?_, ?_⟩
  · unfold vWel; repeat rw [if_neg (by omega)]
    exact h1
  · unfold vWel; rw [if_neg (by omega), if_pos rfl]; exact q_orIn64 h2.1 h2.2 hh.1 (by omega)
  · have := h3 q a b; unfold vWel; repeat rw [if_neg (by omega)]
    exact this
  · have h4q := h4 q a b
    unfold vWel
    refine ⟨by (repeat rw [if_neg (by omega)]); exact h4q.1, by (repeat rw [if_neg (by omega)]); exact h4q.2.1, ?_⟩
    rw [if_neg (by omega), if_neg (by omega), if_neg (by omega)]
    by_cases e : q = c
    · subst e
      rw [if_pos rfl]
      split
      · exact q_orIn64 h4q.2.2.1 h4q.2.2.2 hh.1 (by omega)
      · rw [q_qor0 h4q.2.2]; exact h4q.2.2
    · rw [if_neg (by omega)]; exact h4q.2.2
  · have h5q := h5 q p a1 a2 a3 a4
    unfold vWel
    constructor
    · by_cases e : 20 + (6 * q + p) = 20 + (6 * c + h)
      · rw [if_pos e]; split <;> omega
      · rw [if_neg e]; repeat rw [if_neg (by omega)]
        exact h5q.1
    · rw [if_neg (by omega), if_neg (by omega)]
      by_cases e : 56 + (6 * q + p) = 56 + (6 * c + h)
      · rw [if_pos e]; exact hso
      · rw [if_neg e, if_neg (by omega)]; exact h5q.2
  · unfold vWel; repeat rw [if_neg (by omega)]
    exact h6
set_option maxHeartbeats 1000000 in
theorem xH_wel {M : qMem} {u : Nat} {m n : Int} {v : Int → Int} (hx : xH M u m n v) (hv : sRR m n v) {c h : Int} (hm : m ≤ 6) (hn : n ≤ 6) (hc : 0 ≤ c ∧ c < m) (hh : 0 ≤ h ∧ h < n) : xH (xWel M u c h) u m n (vWel v c h) := by
  obtain ⟨x1, x2, x3, x4, x5, x6, x7, x8⟩ := hx
  have x4c := x4 c hc.1 hc.2
  have x5c := (x5 c h hc.1 (by omega) hh.1 (by omega)).1 ⟨hc.2, hh.2⟩
  have v4c := hv.2.2.2.1 c hc.1 hc.2
  have v5c := hv.2.2.2.2.1 c h hc.1 hc.2 hh.1 hh.2
  have vl := hv.2.2.2.2.2
  -- the rows of the hall behind it
  have r10 : xWel M u c h 10 u = fun k => if k = 1 then sAdd (M 10 u 1) h else M 10 u k := by
    unfold xWel; split <;> (try split) <;> simp only [q_rdR] <;> simp
  have r11 : xWel M u c h 11 u = M 11 u := by unfold xWel; split <;> (try split) <;> simp only [q_rdR] <;> simp
  have r12 : xWel M u c h 12 u = M 12 u := by unfold xWel; split <;> (try split) <;> simp only [q_rdR] <;> simp
  have r14 : xWel M u c h 14 u = M 14 u := by unfold xWel; split <;> (try split) <;> simp only [q_rdR] <;> simp
  have r17 : xWel M u c h 17 u = M 17 u := by unfold xWel; split <;> (try split) <;> simp only [q_rdR] <;> simp
  have r18 : xWel M u c h 18 u = M 18 u := by unfold xWel; split <;> (try split) <;> simp only [q_rdR] <;> simp
  have r15 : xWel M u c h 15 u = fun k => if k = c * 6 + h then sMin (M 15 u (c * 6 + h) + 1) 999 else M 15 u k := by
    unfold xWel; split <;> (try split) <;> simp only [q_rdR] <;> simp
  have r16 : xWel M u c h 16 u = fun k => if k = c * 6 + h then vSo v c h else M 16 u k := by
    unfold xWel vSo
    rw [x4c.2.1, x5c.2]
    by_cases q5 : v (14 + c) < 5
    · rw [if_pos q5, if_neg (by omega)]
      simp only [q_rdR]
      simp
      funext k
      split
      · rename_i e; rw [e, x5c.2]
      · rfl
    · rw [if_neg q5]
      have e1 : v (56 + (6 * c + h)) + (if 5 ≤ v (14 + c) ∧ v (56 + (6 * c + h)) < 3 then 1 else 0) = sMin (v (56 + (6 * c + h)) + 1) 3 := by
        unfold sMin
        by_cases q3 : v (56 + (6 * c + h)) < 3
        · rw [if_pos ⟨by omega, q3⟩, if_neg (by omega)]
        · rw [if_neg (by omega), if_pos (by omega)]; omega
      rw [e1]
      split <;> simp only [q_rdR] <;> simp
  have r13 : xWel M u c h 13 u = fun k => if k = c then qOr (v (92 + c)) (if 5 ≤ v (14 + c) ∧ vSo v c h = 3 then qShl 1 h else 0) else M 13 u k := by
    have e13 := x4c.2.2
    have hor := q_qor0 v4c.2.2
    unfold xWel vSo
    rw [x4c.2.1, x5c.2]
    by_cases q5 : v (14 + c) < 5
    · rw [if_pos q5, if_neg (by omega : ¬ (5 ≤ v (14 + c) ∧ v (56 + (6 * c + h)) < 3)), if_neg (by omega), hor]
      simp only [q_rdR]
      simp
      funext k
      split
      · rename_i e; rw [e, e13]
      · rfl
    · rw [if_neg q5]
      have e1 : v (56 + (6 * c + h)) + (if 5 ≤ v (14 + c) ∧ v (56 + (6 * c + h)) < 3 then 1 else 0) = sMin (v (56 + (6 * c + h)) + 1) 3 := by
        unfold sMin
        by_cases q3 : v (56 + (6 * c + h)) < 3
        · rw [if_pos ⟨by omega, q3⟩, if_neg (by omega)]
        · rw [if_neg (by omega), if_pos (by omega)]; omega
      rw [e1]
      have hmn := sMin_l (v (56 + (6 * c + h)) + 1) 3
      by_cases q3 : sMin (v (56 + (6 * c + h)) + 1) 3 < 3
      · rw [if_pos q3, if_neg (by omega : ¬ (5 ≤ v (14 + c) ∧ sMin (v (56 + (6 * c + h)) + 1) 3 = 3)), hor]
        simp only [q_rdR]
        simp
        funext k
        split
        · rename_i e; rw [e, e13]
        · rfl
      · rw [if_neg q3, if_pos (by omega : 5 ≤ v (14 + c) ∧ sMin (v (56 + (6 * c + h)) + 1) 3 = 3)]
        simp only [q_rdR]
        simp
        rw [e13]
        rfl
  unfold xH
  rw [r10, r11, r12, r13, r14, r15, r16, r17, r18]
  dsimp only
  refine ⟨?_, ?_, fun q a b => ?_, fun q a b => ?_, fun q p a1 a2 a3 a4 => ?_, ?_, x7, fun i k a1 a2 a3 a4 => ?_⟩
  · rw [if_neg (show ¬ ((0 : Int) = 1) by decide)]; unfold vWel; repeat rw [if_neg (by omega)]
    exact x1
  · rw [if_pos rfl]; unfold vWel; rw [if_neg (by omega), if_pos rfl, x2]; rfl
  · rw [x3 q a b]; unfold vWel; repeat rw [if_neg (by omega)]
  · have x4q := x4 q a b
    refine ⟨?_, ?_, ?_⟩
    · rw [x4q.1]; unfold vWel; repeat rw [if_neg (by omega)]
    · rw [x4q.2.1]; unfold vWel; repeat rw [if_neg (by omega)]
    · unfold vWel
      rw [if_neg (show ¬ 92 + q = 20 + (6 * c + h) by omega), if_neg (show ¬ 92 + q = 1 by omega), if_neg (show ¬ 92 + q = 56 + (6 * c + h) by omega)]
      by_cases e : q = c
      · subst e; rw [if_pos rfl, if_pos rfl]
      · rw [if_neg e, if_neg (by omega), x4q.2.2]
  · have x5q := x5 q p a1 a2 a3 a4
    by_cases e : q * 6 + p = c * 6 + h
    · have eq : q = c := by omega
      have ep : p = h := by omega
      subst eq; subst ep
      rw [if_pos rfl, if_pos rfl]
      refine ⟨fun _ => ⟨?_, ?_⟩, fun e2 => absurd ⟨hc.2, hh.2⟩ e2⟩
      · unfold vWel
        rw [if_pos rfl, x5c.1]
        unfold sMin
        by_cases q9 : v (20 + (6 * q + p)) < 999
        · rw [if_neg (by omega), if_pos q9]
        · rw [if_pos (by omega), if_neg q9]; omega
      · unfold vWel
        rw [if_neg (by omega), if_neg (by omega), if_pos rfl]
    · rw [if_neg e, if_neg e]
      refine ⟨fun e2 => ⟨?_, ?_⟩, x5q.2⟩
      · rw [(x5q.1 e2).1]; unfold vWel; repeat rw [if_neg (by omega)]
      · rw [(x5q.1 e2).2]; unfold vWel; repeat rw [if_neg (by omega)]
  · rw [x6]; unfold vWel; repeat rw [if_neg (by omega)]
  · have e98 : vWel v c h 98 = v 98 := by unfold vWel; repeat rw [if_neg (by omega)]
    rw [e98] at a2
    rw [x8 i k a1 a2 a3 a4]; unfold vWel; repeat rw [if_neg (by omega)]
theorem xH_day {M : qMem} {u : Nat} {m n : Int} {v : Int → Int} (hx : xH M u m n v) (hv : sRR m n v) (hm : m ≤ 6) (hn : 0 ≤ n ∧ n ≤ 6) : xH (xDay M u n) u m n (vDay n v) := by
  obtain ⟨x1, x2, x3, x4, x5, x6, x7, x8⟩ := hx
  have vl := hv.2.2.2.2.2
  unfold xH xDay
  simp only [q_rd, q_rdR, q_rdPR]
  simp
  refine ⟨?_, ?_, fun q a b => ?_, fun q a b => ?_, fun q p a1 a2 a3 a4 => ?_, ?_, x7, fun i k a1 a2 a3 a4 => ?_⟩
  · rw [x1]; unfold vDay; rw [if_neg (by omega), if_neg (by omega), if_pos rfl]
  · unfold vDay; rw [if_neg (by omega), if_pos rfl]
  · rw [if_pos ⟨a, b⟩]; unfold vDay; rw [if_pos (by omega), x2, x3 q a b, show 2 + q - 2 = q by omega]
  · have := x4 q a b; unfold vDay; repeat rw [if_neg (by omega)]
    exact this
  · have := x5 q p a1 a2 a3 a4; unfold vDay; repeat rw [if_neg (by omega)]
    simpa using this
  · rw [x6]; unfold vDay; repeat rw [if_neg (by omega)]
  · have e98 : vDay n v 98 = v 98 := by unfold vDay; repeat rw [if_neg (by omega)]
    rw [e98] at a2
    rw [x8 i k a1 a2 a3 a4]; unfold vDay; repeat rw [if_neg (by omega)]
theorem sRR_day {m n : Int} {v : Int → Int} (hv : sRR m n v) (hm : m ≤ 6) (hn : 0 ≤ n ∧ n ≤ 6) (hd : v 0 < 90030) : sRR m n (vDay n v) := by
  obtain ⟨h1, h2, h3, h4, h5, h6⟩ := hv
  refine ⟨?_, ?_, fun q a b => ?_, fun q a b => ?_, fun q p a1 a2 a3 a4 => ?_, ?_⟩
  · unfold vDay; rw [if_neg (by omega), if_neg (by omega), if_pos rfl]; omega
  · unfold vDay; rw [if_neg (by omega), if_pos rfl]; omega
  · unfold vDay; rw [if_pos (by omega)]; exact xHard_in (h3 q a b)
  · have := h4 q a b; unfold vDay; repeat rw [if_neg (by omega)]
    exact this
  · have := h5 q p a1 a2 a3 a4; unfold vDay; repeat rw [if_neg (by omega)]
    exact this
  · unfold vDay; repeat rw [if_neg (by omega)]
    exact h6
theorem xH_mean {M : qMem} {u : Nat} {m n : Int} {v : Int → Int} (hx : xH M u m n v) (hv : sRR m n v) {c z : Int} (hm : m ≤ 6) (hn : n ≤ 6) (hc : 0 ≤ c ∧ c < m) : xH (qUp M 12 u c z) u m n (vSet v (8 + c) z) := by
  obtain ⟨x1, x2, x3, x4, x5, x6, x7, x8⟩ := hx
  have vl := hv.2.2.2.2.2
  unfold xH vSet
  simp only [q_rd, q_rdR]
  simp
  refine ⟨by rw [if_neg (by omega)]; exact x1, by rw [if_neg (by omega)]; exact x2, fun q a b => ?_, fun q a b => ?_, fun q p a1 a2 a3 a4 => ?_, by rw [if_neg (by omega)]; exact x6, x7, fun i k a1 a2 a3 a4 => ?_⟩
  · rw [if_neg (by omega)]; exact x3 q a b
  · have x4q := x4 q a b
    rw [if_neg (show ¬ 14 + q = 8 + c by omega), if_neg (show ¬ 92 + q = 8 + c by omega)]
    refine ⟨?_, x4q.2⟩
    by_cases e : q = c
    · simp [e]
    · rw [if_neg e, if_neg (by omega)]; exact x4q.1
  · have := x5 q p a1 a2 a3 a4
    rw [if_neg (by omega), if_neg (by omega)]; simpa using this
  · rw [if_neg (by omega)] at a2
    rw [x8 i k a1 a2 a3 a4, if_neg (by omega)]
theorem sRR_mean {m n : Int} {v : Int → Int} (hv : sRR m n v) {c z : Int} (hm : m ≤ 6) (hn : n ≤ 6) (hc : 0 ≤ c ∧ c < m) (hz : 0 ≤ z ∧ z ≤ 7) : sRR m n (vSet v (8 + c) z) := by
  obtain ⟨h1, h2, h3, h4, h5, h6⟩ := hv
  unfold sRR vSet
  refine ⟨by rw [if_neg (by omega)]; exact h1, by rw [if_neg (by omega)]; exact h2, fun q a b => by rw [if_neg (by omega)]; exact h3 q a b, fun q a b => ?_, fun q p a1 a2 a3 a4 => by rw [if_neg (by omega), if_neg (by omega)]; exact h5 q p a1 a2 a3 a4, by rw [if_neg (by omega)]; exact h6⟩
  have := h4 q a b
  rw [if_neg (show ¬ 14 + q = 8 + c by omega), if_neg (show ¬ 92 + q = 8 + c by omega)]
  refine ⟨?_, this.2⟩
  split
  · exact hz
  · exact this.1
theorem xH_stuff {M : qMem} {u : Nat} {m n : Int} {v : Int → Int} (hx : xH M u m n v) (hv : sRR m n v) {c z : Int} (hm : m ≤ 6) (hn : n ≤ 6) (hc : 0 ≤ c ∧ c < m) : xH (qUp M 11 u c z) u m n (vSet v (14 + c) z) := by
  obtain ⟨x1, x2, x3, x4, x5, x6, x7, x8⟩ := hx
  have vl := hv.2.2.2.2.2
  unfold xH vSet
  simp only [q_rd, q_rdR]
  simp
  refine ⟨by rw [if_neg (by omega)]; exact x1, by rw [if_neg (by omega)]; exact x2, fun q a b => ?_, fun q a b => ?_, fun q p a1 a2 a3 a4 => ?_, by rw [if_neg (by omega)]; exact x6, x7, fun i k a1 a2 a3 a4 => ?_⟩
  · rw [if_neg (by omega)]; exact x3 q a b
  · have x4q := x4 q a b
    rw [if_neg (show ¬ 8 + q = 14 + c by omega), if_neg (show ¬ 92 + q = 14 + c by omega)]
    refine ⟨x4q.1, ?_, x4q.2.2⟩
    by_cases e : q = c
    · simp [e]
    · rw [if_neg e, if_neg (by omega)]; exact x4q.2.1
  · have := x5 q p a1 a2 a3 a4
    rw [if_neg (by omega), if_neg (by omega)]; simpa using this
  · rw [if_neg (by omega)] at a2
    rw [x8 i k a1 a2 a3 a4, if_neg (by omega)]
theorem sRR_stuff {m n : Int} {v : Int → Int} (hv : sRR m n v) {c z : Int} (hm : m ≤ 6) (hn : n ≤ 6) (hc : 0 ≤ c ∧ c < m) (hz : 0 ≤ z ∧ z ≤ 9) : sRR m n (vSet v (14 + c) z) := by
  obtain ⟨h1, h2, h3, h4, h5, h6⟩ := hv
  unfold sRR vSet
  refine ⟨by rw [if_neg (by omega)]; exact h1, by rw [if_neg (by omega)]; exact h2, fun q a b => by rw [if_neg (by omega)]; exact h3 q a b, fun q a b => ?_, fun q p a1 a2 a3 a4 => by rw [if_neg (by omega), if_neg (by omega)]; exact h5 q p a1 a2 a3 a4, by rw [if_neg (by omega)]; exact h6⟩
  have := h4 q a b
  rw [if_neg (show ¬ 8 + q = 14 + c by omega), if_neg (show ¬ 92 + q = 14 + c by omega)]
  refine ⟨this.1, ?_, this.2.2⟩
  split
  · exact hz
  · exact this.2.1
theorem xH_pard {M : qMem} {u : Nat} {m n : Int} {v : Int → Int} (hx : xH M u m n v) (hv : sRR m n v) {c h : Int} (hm : m ≤ 6) (hn : n ≤ 6) (hc : 0 ≤ c ∧ c < m) (hh : 0 ≤ h ∧ h < n) : xH (qUp (qUp (qUp M 13 u c (sDel (M 13 u c) h)) 15 u (c * 6 + h) 0) 16 u (c * 6 + h) 0) u m n (vPard v c h) := by
  obtain ⟨x1, x2, x3, x4, x5, x6, x7, x8⟩ := hx
  have vl := hv.2.2.2.2.2
  have x4c := x4 c hc.1 hc.2
  unfold xH vPard vSet
  simp only [q_rd, q_rdR]
  simp
  refine ⟨?_, ?_, fun q a b => ?_, fun q a b => ?_, fun q p a1 a2 a3 a4 => ?_, ?_, x7, fun i k a1 a2 a3 a4 => ?_⟩
  · repeat rw [if_neg (by omega)]
    exact x1
  · repeat rw [if_neg (by omega)]
    exact x2
  · repeat rw [if_neg (by omega)]
    exact x3 q a b
  · have x4q := x4 q a b
    refine ⟨?_, ?_, ?_⟩
    · repeat rw [if_neg (by omega)]
      exact x4q.1
    · repeat rw [if_neg (by omega)]
      exact x4q.2.1
    · by_cases e : q = c
      · simp [e]; rw [x4c.2.2]
      · rw [if_neg e]; repeat rw [if_neg (by omega)]
        exact x4q.2.2
  · have x5q := x5 q p a1 a2 a3 a4
    rw [if_neg (show ¬ 20 + (6 * q + p) = 92 + c by omega), if_neg (show ¬ 20 + (6 * q + p) = 56 + (6 * c + h) by omega), if_neg (show ¬ 56 + (6 * q + p) = 92 + c by omega), if_neg (show ¬ 56 + (6 * q + p) = 20 + (6 * c + h) by omega)]
    by_cases e : q * 6 + p = c * 6 + h
    · rw [if_pos e, if_pos e, if_pos (by omega), if_pos (by omega)]; simp; intro _ h9; exact absurd e h9
    · rw [if_neg e, if_neg e, if_neg (by omega), if_neg (by omega)]
      exact ⟨fun a b => x5q.1 ⟨a, b⟩, fun a _ => x5q.2 (fun hq => by have := a hq.1; omega)⟩
  · repeat rw [if_neg (by omega)]
    exact x6
  · repeat rw [if_neg (by omega)] at a2
    rw [x8 i k a1 a2 a3 a4]
    repeat rw [if_neg (by omega)]
theorem sRR_pard {m n : Int} {v : Int → Int} (hv : sRR m n v) {c h : Int} (hm : m ≤ 6) (hn : n ≤ 6) (hc : 0 ≤ c ∧ c < m) (hh : 0 ≤ h ∧ h < n) : sRR m n (vPard v c h) := by
  obtain ⟨h1, h2, h3, h4, h5, h6⟩ := hv
  have h4c := h4 c hc.1 hc.2
  unfold sRR vPard vSet
  refine ⟨?_, ?_, fun q a b => ?_, fun q a b => ?_, fun q p a1 a2 a3 a4 => ?_, ?_⟩
  · repeat rw [if_neg (by omega)]
    exact h1
  · repeat rw [if_neg (by omega)]
    exact h2
  · repeat rw [if_neg (by omega)]
    exact h3 q a b
  · have := h4 q a b
    refine ⟨?_, ?_, ?_⟩
    · repeat rw [if_neg (by omega)]
      exact this.1
    · repeat rw [if_neg (by omega)]
      exact this.2.1
    · by_cases e : 92 + q = 92 + c
      · rw [if_pos e]; exact q_delIn h4c.2.2.1 h4c.2.2.2 hh.1 (by omega)
      · repeat rw [if_neg (by omega)]
        exact this.2.2
  · have := h5 q p a1 a2 a3 a4
    rw [if_neg (show ¬ 20 + (6 * q + p) = 92 + c by omega), if_neg (show ¬ 20 + (6 * q + p) = 56 + (6 * c + h) by omega), if_neg (show ¬ 56 + (6 * q + p) = 92 + c by omega), if_neg (show ¬ 56 + (6 * q + p) = 20 + (6 * c + h) by omega)]
    constructor
    · split
      · omega
      · exact this.1
    · split
      · omega
      · exact this.2
  · repeat rw [if_neg (by omega)]
    exact h6
