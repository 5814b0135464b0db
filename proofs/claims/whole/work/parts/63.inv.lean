theorem qInv_fits {M : qMem} (h : qSn M) (mn k : Int) : sFits (M 29 0 2) (M 30 0) (M 31 0) mn k = sFits (M 35 0 29) (M 70 0) (M 71 0) mn k := by
  obtain ⟨h1, h2, h3⟩ := h
  unfold sFits
  rw [h1, sAll_c (fun i a b => by
    obtain ⟨⟨e1, e2⟩, -⟩ := h3 i a b
    rw [e1, e2])]
theorem qInv_could {M : qMem} (h : qSn M) (mn w : Int) : sCould mn (M 29 0 2) (M 30 0) (M 31 0) w = sCould mn (M 35 0 29) (M 70 0) (M 71 0) w := by
  unfold sCould
  simp only [qInv_fits h]
theorem qInv_part {M : qMem} (h : qSn M) (mn : Int) : sPartQ mn (M 29 0 2) (M 30 0) (M 31 0) = sPartQ mn (M 35 0 29) (M 70 0) (M 71 0) := by
  unfold sPartQ sAlk sAlike
  simp only [qInv_fits h]
theorem qInv_judge {M : qMem} {sd : sSD} (h : qInv M sd) : sFr (fun i => decide (M 14 0 (M 33 0 i) ≠ M 34 0 i)) (M 32 0 2) 0 = sFr (fun i => decide (M 61 0 (2 + M 73 0 i) ≠ M 74 0 i)) (M 35 0 32) 0 := by
  obtain ⟨-, h2, -, h4⟩ := h
  have hH := h2.h
  rw [h4.1]
  refine sFr_c (fun k a b => ?_)
  obtain ⟨⟨e1, e2⟩, e3⟩ := h4.2.2 k a b
  rw [e1, e2, hH.2.2.1 _ e3.1 e3.2]
theorem qRow4 {N : qMem} {j : Nat} {i z k : Int} : qUp N j 0 i z j 0 k = if k = i then z else N j 0 k := by rw [q_rd, if_pos rfl, if_pos rfl]
theorem qInv_feed {M : qMem} {sd : sSD} {x : Int} (h : qInv M sd) : xFeed M x 35 0 0 = M 35 0 0 ∧ qInv (mFeed (xFeed M x) x) sd := by
  have e0 : xFeed M x 35 0 0 = M 35 0 0 := by
    unfold xFeed
    split
    · rw [q_upF (by decide), q_upF (by decide)]
    · rfl
  refine ⟨e0, ?_⟩
  obtain ⟨⟨t1, t2, t3, t4, t5⟩, h2, h3, h4⟩ := h
  unfold mFeed
  rw [e0]
  unfold xFeed
  rw [t1]
  by_cases c : (0 ≤ x ∧ x ≤ 255) ∧ M 35 0 0 < 240
  · rw [if_pos c, if_pos c]
    generalize hK : qUp (qUp (qUp (qUp M 2 0 (M 35 0 0) x) 1 0 2 (M 35 0 0 + 1)) 41 0 (M 35 0 0) x) 35 0 0 (M 35 0 0 + 1) = K
    have e : ∀ j u, j ≠ 1 → j ≠ 2 → j ≠ 35 → j ≠ 41 → K j u = M j u := fun j u a1 a2 a3 a4 => by rw [← hK, q_upF (by omega), q_upF (by omega), q_upF (by omega), q_upF (by omega)]
    have f : ∀ j u i, j ≠ 1 → j ≠ 2 → j ≠ 35 → j ≠ 41 → K j u i = M j u i := fun j u i a1 a2 a3 a4 => by rw [e j u a1 a2 a3 a4]
    have k1 : ∀ i, K 1 0 i = if i = 2 then M 35 0 0 + 1 else M 1 0 i := fun i => by rw [← hK, q_upF (by decide), q_upF (by decide), qRow4, q_upF (by decide)]
    have k35 : ∀ i, K 35 0 i = if i = 0 then M 35 0 0 + 1 else M 35 0 i := fun i => by rw [← hK, qRow4, q_upF (by decide), q_upF (by decide), q_upF (by decide)]
    have k2 : ∀ i, K 2 0 i = if i = M 35 0 0 then x else M 2 0 i := fun i => by rw [← hK, q_upF (by decide), q_upF (by decide), q_upF (by decide), qRow4]
    have k41 : ∀ i, K 41 0 i = if i = M 35 0 0 then x else M 41 0 i := fun i => by rw [← hK, q_upF (by decide), qRow4, q_upF (by decide), q_upF (by decide)]
    refine ⟨⟨?_, ?_, ?_, fun k a b => ?_, ?_⟩, qSt_fr (fun j u q => e j u (by omega) (by omega) (by omega) (by omega)) (fun j a b => e j 1 (by omega) (by omega) (by omega) (by omega)) (fun k a b => (k35 k).trans (if_neg (by omega))) (fun j q => e j 0 (by omega) (by omega) (by omega) (by omega)) h2, qSn_fr (f _ _ _ (by decide) (by decide) (by decide) (by decide)) ((k35 _).trans (if_neg (by decide))) (e _ _ (by decide) (by decide) (by decide) (by decide)) (e _ _ (by decide) (by decide) (by decide) (by decide)) (e _ _ (by decide) (by decide) (by decide) (by decide)) (e _ _ (by decide) (by decide) (by decide) (by decide)) h3, qBk_fr (f _ _ _ (by decide) (by decide) (by decide) (by decide)) ((k35 _).trans (if_neg (by decide))) (e _ _ (by decide) (by decide) (by decide) (by decide)) (e _ _ (by decide) (by decide) (by decide) (by decide)) (e _ _ (by decide) (by decide) (by decide) (by decide)) (e _ _ (by decide) (by decide) (by decide) (by decide)) h4⟩
    · rw [k1, k35, if_pos rfl, if_pos rfl]
    · rw [k35, if_pos rfl]; omega
    · funext i; rw [k2, k41, t3]
    · rw [k35, if_pos rfl] at b
      rw [k41]
      by_cases e1 : k = M 35 0 0
      · rw [if_pos e1]; omega
      · rw [if_neg e1]; exact t4 k a (by omega)
    · rw [k1, k35, if_neg (by decide), if_neg (by decide)]; exact t5
  · rw [if_neg c, if_neg c]
    exact ⟨⟨t1, t2, t3, t4, t5⟩, h2, h3, h4⟩
theorem qInv_meant {M : qMem} {sd : sSD} {p x : Int} (h : qInv M sd) : xMeant M p x 35 0 29 = M 35 0 29 ∧ qInv (mMeant (xMeant M p x) p x) sd := by
  have e0 : xMeant M p x 35 0 29 = M 35 0 29 := by
    unfold xMeant
    by_cases c : ((0 ≤ p ∧ p ≤ 4) ∧ (0 ≤ x ∧ x ≤ (if p = 4 then 2 else 1))) ∧ M 29 0 2 < 6
    · rw [if_pos c, q_upF (by decide), q_upF (by decide), q_upF (by decide)]
    · rw [if_neg c]
  refine ⟨e0, ?_⟩
  obtain ⟨h1, h2, ⟨s1, s2, s3⟩, h4⟩ := h
  unfold mMeant
  rw [e0]
  unfold xMeant
  rw [s1]
  by_cases c : ((0 ≤ p ∧ p ≤ 4) ∧ (0 ≤ x ∧ x ≤ (if p = 4 then 2 else 1))) ∧ M 35 0 29 < 6
  · rw [if_pos c, if_pos c]
    generalize hK : qUp (qUp (qUp (qUp (qUp (qUp M 30 0 (M 35 0 29) p) 31 0 (M 35 0 29) x) 29 0 2 (M 35 0 29 + 1)) 70 0 (M 35 0 29) p) 71 0 (M 35 0 29) x) 35 0 29 (M 35 0 29 + 1) = K
    have e : ∀ j u, ¬ (29 ≤ j ∧ j ≤ 31) → j ≠ 35 → j ≠ 70 → j ≠ 71 → K j u = M j u := fun j u a1 a2 a3 a4 => by rw [← hK, q_upF (by omega), q_upF (by omega), q_upF (by omega), q_upF (by omega), q_upF (by omega), q_upF (by omega)]
    have f : ∀ j u i, ¬ (29 ≤ j ∧ j ≤ 31) → j ≠ 35 → j ≠ 70 → j ≠ 71 → K j u i = M j u i := fun j u i a1 a2 a3 a4 => by rw [e j u a1 a2 a3 a4]
    have k29 : K 29 0 2 = M 35 0 29 + 1 := by rw [← hK, q_upF (by decide), q_upF (by decide), q_upF (by decide), qRow4, if_pos rfl]
    have k35 : ∀ i, K 35 0 i = if i = 29 then M 35 0 29 + 1 else M 35 0 i := fun i => by rw [← hK, qRow4, q_upF (by decide), q_upF (by decide), q_upF (by decide), q_upF (by decide), q_upF (by decide)]
    have k30 : ∀ i, K 30 0 i = if i = M 35 0 29 then p else M 30 0 i := fun i => by rw [← hK, q_upF (by decide), q_upF (by decide), q_upF (by decide), q_upF (by decide), q_upF (by decide), qRow4]
    have k31 : ∀ i, K 31 0 i = if i = M 35 0 29 then x else M 31 0 i := fun i => by rw [← hK, q_upF (by decide), q_upF (by decide), q_upF (by decide), q_upF (by decide), qRow4, q_upF (by decide)]
    have k70 : ∀ i, K 70 0 i = if i = M 35 0 29 then p else M 70 0 i := fun i => by rw [← hK, q_upF (by decide), q_upF (by decide), qRow4, q_upF (by decide), q_upF (by decide), q_upF (by decide)]
    have k71 : ∀ i, K 71 0 i = if i = M 35 0 29 then x else M 71 0 i := fun i => by rw [← hK, q_upF (by decide), qRow4, q_upF (by decide), q_upF (by decide), q_upF (by decide), q_upF (by decide)]
    refine ⟨qTx_fr (f _ _ _ (by decide) (by decide) (by decide) (by decide)) (f _ _ _ (by decide) (by decide) (by decide) (by decide)) ((k35 _).trans (if_neg (by decide))) ((k35 _).trans (if_neg (by decide))) (e _ _ (by decide) (by decide) (by decide) (by decide)) (e _ _ (by decide) (by decide) (by decide) (by decide)) h1, qSt_fr (fun j u q => e j u (by omega) (by omega) (by omega) (by omega)) (fun j a b => e j 1 (by omega) (by omega) (by omega) (by omega)) (fun k a b => (k35 k).trans (if_neg (by omega))) (fun j q => e j 0 (by omega) (by omega) (by omega) (by omega)) h2, ⟨?_, ?_, fun k a b => ?_⟩, qBk_fr (f _ _ _ (by decide) (by decide) (by decide) (by decide)) ((k35 _).trans (if_neg (by decide))) (e _ _ (by decide) (by decide) (by decide) (by decide)) (e _ _ (by decide) (by decide) (by decide) (by decide)) (e _ _ (by decide) (by decide) (by decide) (by decide)) (e _ _ (by decide) (by decide) (by decide) (by decide)) h4⟩
    · rw [k29, k35, if_pos rfl]
    · rw [k35, if_pos rfl]; omega
    · rw [k35, if_pos rfl] at b
      rw [k30, k31, k70, k71]
      by_cases e1 : k = M 35 0 29
      · rw [if_pos e1, if_pos e1, if_pos e1, if_pos e1]
        exact ⟨⟨rfl, rfl⟩, by omega⟩
      · rw [if_neg e1, if_neg e1, if_neg e1, if_neg e1]; exact s3 k a (by omega)
  · rw [if_neg c, if_neg c]
    exact ⟨h1, h2, ⟨s1, s2, s3⟩, h4⟩
theorem qInv_write {M : qMem} {sd : sSD} {p x : Int} (h : qInv M sd) : xWrite (sd 5 0) M p x 35 0 32 = M 35 0 32 ∧ mS (xWrite (sd 5 0) M p x) sd ∧ qInv (mWrite (sd 5 0) (xWrite (sd 5 0) M p x) p x) sd := by
  have eo : ∀ j, 34 < j → xWrite (sd 5 0) M p x j = M j := fun j hj => by
    funext u
    unfold xWrite
    by_cases c : ((0 ≤ p ∧ p < sd 5 0) ∧ (0 ≤ x ∧ x ≤ 40)) ∧ M 32 0 2 < 20
    · rw [if_pos c, q_upF (by omega), q_upF (by omega), q_upF (by omega)]
    · rw [if_neg c]
  have e0 : xWrite (sd 5 0) M p x 35 0 32 = M 35 0 32 := by rw [eo 35 (by decide)]
  refine ⟨e0, mS_off (fun k _ _ => by rw [eo 35 (by decide)]) (fun j a _ => by rw [eo j (by omega)]) h.2.1.2.2.1, ?_⟩
  obtain ⟨h1, h2, h3, ⟨s1, s2, s3⟩⟩ := h
  unfold mWrite
  rw [e0]
  unfold xWrite
  rw [s1]
  by_cases c : ((0 ≤ p ∧ p < sd 5 0) ∧ (0 ≤ x ∧ x ≤ 40)) ∧ M 35 0 32 < 20
  · rw [if_pos c, if_pos c]
    generalize hK : qUp (qUp (qUp (qUp (qUp (qUp M 33 0 (M 35 0 32) p) 34 0 (M 35 0 32) x) 32 0 2 (M 35 0 32 + 1)) 73 0 (M 35 0 32) p) 74 0 (M 35 0 32) x) 35 0 32 (M 35 0 32 + 1) = K
    have e : ∀ j u, ¬ (32 ≤ j ∧ j ≤ 34) → j ≠ 35 → j ≠ 73 → j ≠ 74 → K j u = M j u := fun j u a1 a2 a3 a4 => by rw [← hK, q_upF (by omega), q_upF (by omega), q_upF (by omega), q_upF (by omega), q_upF (by omega), q_upF (by omega)]
    have f : ∀ j u i, ¬ (32 ≤ j ∧ j ≤ 34) → j ≠ 35 → j ≠ 73 → j ≠ 74 → K j u i = M j u i := fun j u i a1 a2 a3 a4 => by rw [e j u a1 a2 a3 a4]
    have k29 : K 32 0 2 = M 35 0 32 + 1 := by rw [← hK, q_upF (by decide), q_upF (by decide), q_upF (by decide), qRow4, if_pos rfl]
    have k35 : ∀ i, K 35 0 i = if i = 32 then M 35 0 32 + 1 else M 35 0 i := fun i => by rw [← hK, qRow4, q_upF (by decide), q_upF (by decide), q_upF (by decide), q_upF (by decide), q_upF (by decide)]
    have k30 : ∀ i, K 33 0 i = if i = M 35 0 32 then p else M 33 0 i := fun i => by rw [← hK, q_upF (by decide), q_upF (by decide), q_upF (by decide), q_upF (by decide), q_upF (by decide), qRow4]
    have k31 : ∀ i, K 34 0 i = if i = M 35 0 32 then x else M 34 0 i := fun i => by rw [← hK, q_upF (by decide), q_upF (by decide), q_upF (by decide), q_upF (by decide), qRow4, q_upF (by decide)]
    have k70 : ∀ i, K 73 0 i = if i = M 35 0 32 then p else M 73 0 i := fun i => by rw [← hK, q_upF (by decide), q_upF (by decide), qRow4, q_upF (by decide), q_upF (by decide), q_upF (by decide)]
    have k71 : ∀ i, K 74 0 i = if i = M 35 0 32 then x else M 74 0 i := fun i => by rw [← hK, q_upF (by decide), qRow4, q_upF (by decide), q_upF (by decide), q_upF (by decide), q_upF (by decide)]
    refine ⟨qTx_fr (f _ _ _ (by decide) (by decide) (by decide) (by decide)) (f _ _ _ (by decide) (by decide) (by decide) (by decide)) ((k35 _).trans (if_neg (by decide))) ((k35 _).trans (if_neg (by decide))) (e _ _ (by decide) (by decide) (by decide) (by decide)) (e _ _ (by decide) (by decide) (by decide) (by decide)) h1, qSt_fr (fun j u q => e j u (by omega) (by omega) (by omega) (by omega)) (fun j a b => e j 1 (by omega) (by omega) (by omega) (by omega)) (fun k a b => (k35 k).trans (if_neg (by omega))) (fun j q => e j 0 (by omega) (by omega) (by omega) (by omega)) h2, qSn_fr (f _ _ _ (by decide) (by decide) (by decide) (by decide)) ((k35 _).trans (if_neg (by decide))) (e _ _ (by decide) (by decide) (by decide) (by decide)) (e _ _ (by decide) (by decide) (by decide) (by decide)) (e _ _ (by decide) (by decide) (by decide) (by decide)) (e _ _ (by decide) (by decide) (by decide) (by decide)) h3, ⟨?_, ?_, fun k a b => ?_⟩⟩
    · rw [k29, k35, if_pos rfl]
    · rw [k35, if_pos rfl]; omega
    · rw [k35, if_pos rfl] at b
      rw [k30, k31, k70, k71]
      by_cases e1 : k = M 35 0 32
      · rw [if_pos e1, if_pos e1, if_pos e1, if_pos e1]
        exact ⟨⟨rfl, rfl⟩, c.1.1⟩
      · rw [if_neg e1, if_neg e1, if_neg e1, if_neg e1]; exact s3 k a (by omega)
  · rw [if_neg c, if_neg c]
    exact ⟨h1, h2, h3, ⟨s1, s2, s3⟩⟩
theorem qInv_tear {M : qMem} {sd : sSD} (h : qInv M sd) : qInv (qUp (qUp (qUp (qUp M 29 0 2 0) 32 0 2 0) 35 0 29 0) 35 0 32 0) sd := by
  obtain ⟨h1, h2, h3, h4⟩ := h
  generalize hK : qUp (qUp (qUp (qUp M 29 0 2 0) 32 0 2 0) 35 0 29 0) 35 0 32 0 = K
  have e : ∀ j u, j ≠ 29 → j ≠ 32 → j ≠ 35 → K j u = M j u := fun j u a1 a2 a3 => by rw [← hK, q_upF (by omega), q_upF (by omega), q_upF (by omega), q_upF (by omega)]
  have f : ∀ j u i, j ≠ 29 → j ≠ 32 → j ≠ 35 → K j u i = M j u i := fun j u i a1 a2 a3 => by rw [e j u a1 a2 a3]
  have k29 : K 29 0 2 = 0 := by rw [← hK, q_upF (by decide), q_upF (by decide), q_upF (by decide), qRow4, if_pos rfl]
  have k32 : K 32 0 2 = 0 := by rw [← hK, q_upF (by decide), q_upF (by decide), qRow4, if_pos rfl]
  have k35 : ∀ i, K 35 0 i = if i = 32 then 0 else if i = 29 then 0 else M 35 0 i := fun i => by rw [← hK, qRow4, qRow4, q_upF (by decide), q_upF (by decide)]
  have c : ∀ i, i ≠ 29 → i ≠ 32 → K 35 0 i = M 35 0 i := fun i a b => by rw [k35, if_neg b, if_neg a]
  have d29 : K 35 0 29 = 0 := by rw [k35, if_neg (by decide), if_pos rfl]
  have d32 : K 35 0 32 = 0 := by rw [k35, if_pos rfl]
  refine ⟨qTx_fr (f _ _ _ (by decide) (by decide) (by decide)) (f _ _ _ (by decide) (by decide) (by decide)) (c _ (by decide) (by decide)) (c _ (by decide) (by decide)) (e _ _ (by decide) (by decide) (by decide)) (e _ _ (by decide) (by decide) (by decide)) h1, qSt_fr (fun j u q => e j u (by omega) (by omega) (by omega)) (fun j a b => e j 1 (by omega) (by omega) (by omega)) (fun k a b => c k (by omega) (by omega)) (fun j q => e j 0 (by omega) (by omega) (by omega)) h2, ⟨k29.trans d29.symm, by omega, fun k a b => ?_⟩, ⟨k32.trans d32.symm, by omega, fun k a b => ?_⟩⟩
  · omega
  · omega
