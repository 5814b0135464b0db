def cSea (M : qMem) (Z : sZ) (r : Option Int) (N : qMem) : Prop := (¬ (pRes (M 2 0) (M 1 0 2)).1 = 0 → r = some (-10 - (pRes (M 2 0) (M 1 0 2)).1) ∧ (∀ j u, ¬ (j = 1 ∧ u = 0) → ¬ (3 ≤ j ∧ j ≤ 9 ∧ u = 0) → N j u = M j u)) ∧ ((pRes (M 2 0) (M 1 0 2)).1 = 0 → r = some ((pRes (M 2 0) (M 1 0 2)).2.2 1 0) ∧ rB (pRes (M 2 0) (M 1 0 2)).2.2 ∧ xS N (rSd (pRes (M 2 0) (M 1 0 2)).2.2) ∧ (xZ N ((pRes (M 2 0) (M 1 0 2)).2.2 1 0) ((pRes (M 2 0) (M 1 0 2)).2.2 2 0) (zNew Z (pRes (M 2 0) (M 1 0 2)).2.2) ∧ xIm N ((pRes (M 2 0) (M 1 0 2)).2.2 1 0) ((pRes (M 2 0) (M 1 0 2)).2.2 2 0) (zNew Z (pRes (M 2 0) (M 1 0 2)).2.2) 0 ∧ xIm N ((pRes (M 2 0) (M 1 0 2)).2.2 1 0) ((pRes (M 2 0) (M 1 0 2)).2.2 2 0) (zNew Z (pRes (M 2 0) (M 1 0 2)).2.2) 1) ∧ N 29 0 2 = 0 ∧ N 32 0 2 = 0 ∧ (∀ j u, (j = 2 ∨ 32 < j) → N j u = M j u)) ∧ N 1 0 2 = 0 ∧ N 1 0 4 = (if (pRes (M 2 0) (M 1 0 2)).1 = 0 then -1 else (pRes (M 2 0) (M 1 0 2)).2.1)
def mSea (M : qMem) (t : Int → Int) (L : Int) (r : Option Int) (N : qMem) : Prop := (¬ (pRes t L).1 = 0 → r = some (-10 - (pRes t L).1) ∧ mSF M N) ∧ ((pRes t L).1 = 0 → r = some ((pRes t L).2.2 1 0) ∧ mS N (rSd (pRes t L).2.2) ∧ zG (zM N) (zNew (zM M) (pRes t L).2.2) ∧ N 35 0 29 = 0 ∧ N 35 0 32 = 0 ∧ (∀ j u, j < 35 → N j u = M j u) ∧ N 41 0 = M 41 0) ∧ N 35 0 0 = 0 ∧ N 35 0 5 = (if (pRes t L).1 = 0 then -1 else (pRes t L).2.1)
theorem qInv_sea1 {M N : qMem} {Z : sZ} {r : Option Int} (h : cSea M Z r N) : ∀ j u, 32 < j → N j u = M j u := by
  by_cases c : (pRes (M 2 0) (M 1 0 2)).1 = 0
  · exact fun j u q => (h.2.1 c).2.2.2.2.2.2 j u (Or.inr q)
  · exact fun j u q => (h.1 c).2 j u (by omega) (by omega)
theorem qInv_season {M N K : qMem} {sd : sSD} {r1 r2 : Option Int} (h : qInv M sd) (h1 : cSea M (zM M) r1 N) (h2 : mSea N (M 41 0) (M 35 0 0) r2 K) : r1 = r2 ∧ ∃ sd', qInv K sd' := by
  have ef := qInv_sea1 h1
  obtain ⟨⟨t1, t2, t3, t4, t5⟩, hst, hsn, hbk⟩ := h
  unfold cSea at h1
  rw [t3, t1] at h1
  obtain ⟨a1, a2, a3, a4⟩ := h1
  obtain ⟨b1, b2, b3, b4⟩ := h2
  by_cases c : (pRes (M 41 0) (M 35 0 0)).1 = 0
  · obtain ⟨x1, x2, x3, ⟨x4, x5, x6⟩, x7, x8, x9⟩ := a2 c
    obtain ⟨y1, y2, y3, y4, y5, y6, y7⟩ := b2 c
    rw [if_pos c] at a4 b4
    have ez : zM N = zM M := zM_eq (fun k _ _ => congrFun (ef 35 0 (by decide)) k) (fun j q => ef j 0 (by omega))
    rw [ez] at y3
    have k6 := x2.2.1.2
    have k7 := x2.2.2.1.2
    refine ⟨x1.trans y1.symm, rSd (pRes (M 41 0) (M 35 0 0)).2.2, ⟨?_, ?_, ?_, fun k a b => ?_, ?_⟩, ⟨rSd_rs x2, xS_off (fun j _ _ => y6 j 1 (by omega)) x3, y2, xZ_g k6 k7 y3 (xZ_off (fun j u q => y6 j u (by omega)) x4), xIm_g (by decide) k6 k7 y3 (xIm_fr (y6 28 0 (by decide)) (fun j p q => y6 j _ (by omega)) rfl rfl x5), xIm_g (by decide) k6 k7 y3 (xIm_fr (y6 28 1 (by decide)) (fun j p q => y6 j _ (by omega)) rfl rfl x6)⟩, ⟨?_, ?_, fun k a b => ?_⟩, ⟨?_, ?_, fun k a b => ?_⟩⟩
    · rw [y6 1 0 (by decide), a3, b3]
    · rw [b3]; decide
    · rw [y6 2 0 (by decide), y7, x9 2 0 (Or.inl rfl), ef 41 0 (by decide)]; exact t3
    · rw [b3] at b; omega
    · rw [y6 1 0 (by decide), a4, b4]
    · rw [y6 29 0 (by decide), x7, y4]
    · rw [y4]; decide
    · rw [y4] at b; omega
    · rw [y6 32 0 (by decide), x8, y5]
    · rw [y5]; decide
    · rw [y5] at b; omega
  · obtain ⟨x1, x2⟩ := a1 c
    obtain ⟨y1, y2, y3⟩ := b1 c
    rw [if_neg c] at a4 b4
    have e : ∀ j u, ¬ (j = 1 ∧ u = 0) → ¬ (3 ≤ j ∧ j ≤ 9 ∧ u = 0) → ¬ (j = 35 ∧ u = 0) → ¬ (49 ≤ j ∧ j ≤ 54 ∧ u = 0) → K j u = M j u := fun j u p1 p2 p3 p4 => by rw [y2 j u p3 p4, x2 j u p1 p2]
    have f : ∀ j u i, ¬ (j = 1 ∧ u = 0) → ¬ (3 ≤ j ∧ j ≤ 9 ∧ u = 0) → ¬ (j = 35 ∧ u = 0) → ¬ (49 ≤ j ∧ j ≤ 54 ∧ u = 0) → K j u i = M j u i := fun j u i p1 p2 p3 p4 => by rw [e j u p1 p2 p3 p4]
    have c35 : ∀ k, 9 ≤ k → K 35 0 k = M 35 0 k := fun k q => by rw [y3 k q, x2 35 0 (by decide) (by decide)]
    refine ⟨x1.trans y1.symm, sd, ⟨?_, ?_, ?_, fun k a b => ?_, ?_⟩, qSt_fr (fun j u q => e j u (by omega) (by omega) (by omega) (by omega)) (fun j a b => e j 1 (by omega) (by omega) (by omega) (by omega)) (fun k a b => c35 k (by omega)) (fun j q => e j 0 (by omega) (by omega) (by omega) (by omega)) hst, qSn_fr (f _ _ _ (by decide) (by decide) (by decide) (by decide)) (c35 _ (by decide)) (e _ _ (by decide) (by decide) (by decide) (by decide)) (e _ _ (by decide) (by decide) (by decide) (by decide)) (e _ _ (by decide) (by decide) (by decide) (by decide)) (e _ _ (by decide) (by decide) (by decide) (by decide)) hsn, qBk_fr (f _ _ _ (by decide) (by decide) (by decide) (by decide)) (c35 _ (by decide)) (e _ _ (by decide) (by decide) (by decide) (by decide)) (e _ _ (by decide) (by decide) (by decide) (by decide)) (e _ _ (by decide) (by decide) (by decide) (by decide)) (e _ _ (by decide) (by decide) (by decide) (by decide)) hbk⟩
    · rw [y2 1 0 (by decide) (by decide), a3, b3]
    · rw [b3]; decide
    · rw [e 2 0 (by decide) (by decide) (by decide) (by decide), e 41 0 (by decide) (by decide) (by decide) (by decide)]; exact t3
    · rw [b3] at b; omega
    · rw [y2 1 0 (by decide) (by decide), a4, b4]
