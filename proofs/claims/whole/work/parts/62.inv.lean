/-! the relation of the class and the reference, kept call by call -/
theorem xZ_g {M : qMem} {m n : Int} {Z W : sZ} (hm : m ≤ 6) (hn : n ≤ 6) (h : zG W Z) (hx : xZ M m n Z) : xZ M m n W := by
  obtain ⟨⟨z1, z1'⟩, z2, z3, z4, z5⟩ := hx
  obtain ⟨g1, ⟨g2, g3, g4⟩, g5, -⟩ := h
  unfold xZ
  rw [g2, g3, g4]
  refine ⟨⟨xH_v hm hn z1'.2.2.2.2.2.2 g1 z1, sRR_v hm hn g1 z1'⟩, z2, z3, fun k a b => ?_, z5⟩
  have hp : 0 ≤ xPos (Z 2 0 0) k ∧ xPos (Z 2 0 0) k < 30 := by
    have := z2.2
    have := z3.2
    unfold xPos
    split <;> omega
  have q := z4 k a b
  have e := fun j h1 h2 => g5 (xPos (Z 2 0 0) k) j hp.1 hp.2 h1 h2
  exact ⟨xH_v hm hn q.2.2.2.2.2.2.2 e q.1, sRR_v hm hn e q.2⟩
theorem xIm_g {M : qMem} {m n : Int} {Z W : sZ} {i : Nat} (hi : i < 2) (hm : m ≤ 6) (hn : n ≤ 6) (h : zG W Z) (hx : xIm M m n Z i) : xIm M m n W i := by
  obtain ⟨g1, g2, g3⟩ := h.2.2.2 i hi
  unfold xIm at *
  rw [g2, g3]
  refine ⟨hx.1, hx.2.imp id (fun q => ⟨q.1, ⟨xH_v hm hn q.2.1.2.2.2.2.2.2.2 g1 q.2.1.1, sRR_v hm hn g1 q.2.1.2⟩, q.2.2⟩)⟩
def qTx (M : qMem) : Prop := M 1 0 2 = M 35 0 0 ∧ (0 ≤ M 35 0 0 ∧ M 35 0 0 ≤ 240) ∧ M 2 0 = M 41 0 ∧ (∀ k, 0 ≤ k → k < M 35 0 0 → 0 ≤ M 41 0 k) ∧ M 1 0 4 = M 35 0 5
def qSn (M : qMem) : Prop := M 29 0 2 = M 35 0 29 ∧ (0 ≤ M 35 0 29 ∧ M 35 0 29 ≤ 6) ∧ (∀ k, 0 ≤ k → k < M 35 0 29 → (M 30 0 k = M 70 0 k ∧ M 31 0 k = M 71 0 k) ∧ (0 ≤ M 70 0 k ∧ M 70 0 k < 5))
def qBk (M : qMem) (n : Int) : Prop := M 32 0 2 = M 35 0 32 ∧ (0 ≤ M 35 0 32 ∧ M 35 0 32 ≤ 20) ∧ (∀ k, 0 ≤ k → k < M 35 0 32 → (M 33 0 k = M 73 0 k ∧ M 34 0 k = M 74 0 k) ∧ (0 ≤ M 73 0 k ∧ M 73 0 k < n))
def qSt (M : qMem) (sd : sSD) : Prop := sRS sd ∧ xS M sd ∧ mS M sd ∧ xZ M (sd 4 0) (sd 5 0) (zM M) ∧ xIm M (sd 4 0) (sd 5 0) (zM M) 0 ∧ xIm M (sd 4 0) (sd 5 0) (zM M) 1
def qInv (M : qMem) (sd : sSD) : Prop := qTx M ∧ qSt M sd ∧ qSn M ∧ qBk M (sd 5 0)
theorem qSt.k {M : qMem} {sd : sSD} (h : qSt M sd) : mK M := by
  obtain ⟨-, -, -, ⟨-, z2, z3, -, z5⟩, -⟩ := h
  exact ⟨z2.2, z3.2, z5.2⟩
theorem qSt.v {M : qMem} {sd : sSD} (h : qSt M sd) : sRR (sd 4 0) (sd 5 0) (M 61 0) := h.2.2.2.1.1.2
theorem qSt.h {M : qMem} {sd : sSD} (h : qSt M sd) : xH M 0 (sd 4 0) (sd 5 0) (M 61 0) := h.2.2.2.1.1.1
theorem qSt.u {M : qMem} {sd : sSD} (h : qSt M sd) : M 26 0 2 = M 35 0 25 := h.2.2.2.1.2.2.1.1
theorem zM_eq {M N : qMem} (h35 : ∀ k, 25 ≤ k → k ≤ 28 → N 35 0 k = M 35 0 k) (hj : ∀ j, j = 61 ∨ j = 67 ∨ (75 ≤ j ∧ j ≤ 77) → N j 0 = M j 0) : zM N = zM M := by
  unfold zM
  rw [hj 61 (by omega), hj 67 (by omega), hj 75 (by omega), hj 76 (by omega), hj 77 (by omega), h35 25 (by omega) (by omega), h35 26 (by omega) (by omega), h35 28 (by omega) (by omega)]
theorem xS_off {M N : qMem} {sd : sSD} (h : ∀ j, 3 ≤ j → j ≤ 9 → N j 1 = M j 1) (hx : xS M sd) : xS N sd := by
  unfold xS at *
  rw [h 3 (by omega) (by omega), h 4 (by omega) (by omega), h 8 (by omega) (by omega), h 9 (by omega) (by omega)]
  exact hx
theorem mS_off {M N : qMem} {sd : sSD} (h : ∀ k, 15 ≤ k → k ≤ 17 → N 35 0 k = M 35 0 k) (hj : ∀ j, 58 ≤ j → j ≤ 60 → N j 0 = M j 0) (hx : mS M sd) : mS N sd := by
  unfold mS at *
  rw [h 15 (by omega) (by omega), h 16 (by omega) (by omega), h 17 (by omega) (by omega), hj 58 (by omega) (by omega), hj 59 (by omega) (by omega), hj 60 (by omega) (by omega)]
  exact hx
theorem qSt_fr {M K : qMem} {sd : sSD} (h1 : ∀ j u, j = 0 ∨ j = 26 ∨ j = 28 ∨ (10 ≤ j ∧ j ≤ 18) → K j u = M j u) (h2 : ∀ j, 3 ≤ j → j ≤ 9 → K j 1 = M j 1) (h3 : ∀ k, 15 ≤ k → k ≤ 28 → K 35 0 k = M 35 0 k) (h4 : ∀ j, (58 ≤ j ∧ j ≤ 61) ∨ j = 67 ∨ (75 ≤ j ∧ j ≤ 77) → K j 0 = M j 0) (h : qSt M sd) : qSt K sd := by
  obtain ⟨a1, a2, a3, a4, a5, a6⟩ := h
  have e : zM K = zM M := zM_eq (fun k p q => h3 k (by omega) q) (fun j q => h4 j (by omega))
  unfold qSt
  rw [e]
  exact ⟨a1, xS_off h2 a2, mS_off (fun k p q => h3 k p (by omega)) (fun j p q => h4 j (by omega)) a3, xZ_off (fun j u q => h1 j u (by omega)) a4, xIm_fr (h1 28 0 (by omega)) (fun j p q => h1 j _ (by omega)) rfl rfl a5, xIm_fr (h1 28 1 (by omega)) (fun j p q => h1 j _ (by omega)) rfl rfl a6⟩
theorem qTx_fr {M K : qMem} (h1 : K 1 0 2 = M 1 0 2) (h2 : K 1 0 4 = M 1 0 4) (h3 : K 35 0 0 = M 35 0 0) (h4 : K 35 0 5 = M 35 0 5) (h5 : K 2 0 = M 2 0) (h6 : K 41 0 = M 41 0) (h : qTx M) : qTx K := by
  unfold qTx at *
  rw [h1, h2, h3, h4, h5, h6]
  exact h
theorem qSn_fr {M K : qMem} (h1 : K 29 0 2 = M 29 0 2) (h2 : K 35 0 29 = M 35 0 29) (h3 : K 30 0 = M 30 0) (h4 : K 31 0 = M 31 0) (h5 : K 70 0 = M 70 0) (h6 : K 71 0 = M 71 0) (h : qSn M) : qSn K := by
  unfold qSn at *
  rw [h1, h2, h3, h4, h5, h6]
  exact h
theorem qBk_fr {M K : qMem} {n : Int} (h1 : K 32 0 2 = M 32 0 2) (h2 : K 35 0 32 = M 35 0 32) (h3 : K 33 0 = M 33 0) (h4 : K 34 0 = M 34 0) (h5 : K 73 0 = M 73 0) (h6 : K 74 0 = M 74 0) (h : qBk M n) : qBk K n := by
  unfold qBk at *
  rw [h1, h2, h3, h4, h5, h6]
  exact h
/-- looks that change nothing but the matchings -/
theorem qInv_mt {M N K : qMem} {sd : sSD} (h : qInv M sd) (hx : ∀ j, (j < 20 ∨ 24 < j) → N j = M j) (hm : mMF N K) : qInv K sd := by
  have e : ∀ j u, ¬ (20 ≤ j ∧ j ≤ 24) → ¬ (62 ≤ j ∧ j ≤ 64) → K j u = M j u := fun j u a b => by rw [hm j u (by omega), hx j (by omega)]
  have f : ∀ j u i, ¬ (20 ≤ j ∧ j ≤ 24) → ¬ (62 ≤ j ∧ j ≤ 64) → K j u i = M j u i := fun j u i a b => by rw [e j u a b]
  obtain ⟨h1, h2, h3, h4⟩ := h
  exact ⟨qTx_fr (f _ _ _ (by omega) (by omega)) (f _ _ _ (by omega) (by omega)) (f _ _ _ (by omega) (by omega)) (f _ _ _ (by omega) (by omega)) (e _ _ (by omega) (by omega)) (e _ _ (by omega) (by omega)) h1,
    qSt_fr (fun j u q => e j u (by omega) (by omega)) (fun j a b => e j 1 (by omega) (by omega)) (fun k a b => f _ _ _ (by omega) (by omega)) (fun j q => e j 0 (by omega) (by omega)) h2,
    qSn_fr (f _ _ _ (by omega) (by omega)) (f _ _ _ (by omega) (by omega)) (e _ _ (by omega) (by omega)) (e _ _ (by omega) (by omega)) (e _ _ (by omega) (by omega)) (e _ _ (by omega) (by omega)) h3,
    qBk_fr (f _ _ _ (by omega) (by omega)) (f _ _ _ (by omega) (by omega)) (e _ _ (by omega) (by omega)) (e _ _ (by omega) (by omega)) (e _ _ (by omega) (by omega)) (e _ _ (by omega) (by omega)) h4⟩
theorem xDQ.z {M N : qMem} (h : xDQ M N) : zM N = zM M := zM_eq (fun k _ _ => congrFun (h 35 0 (by decide) (by decide) (by decide) (by decide)) k) (fun j q => h j 0 (by omega) (by omega) (by omega) (by omega))
theorem xDQ.st {M N : qMem} {sd : sSD} (h : xDQ M N) (hs : qSt M sd) : mS N sd ∧ mK N ∧ sRR (sd 4 0) (sd 5 0) (N 61 0) := by
  have f : ∀ k, N 35 0 k = M 35 0 k := fun k => congrFun (h 35 0 (by decide) (by decide) (by decide) (by decide)) k
  refine ⟨mS_off (fun k _ _ => f k) (fun j a b => h j 0 (by omega) (by omega) (by omega) (by omega)) hs.2.2.1, ?_, ?_⟩
  · have := hs.k
    unfold mK at *
    rw [f, f, f]
    exact this
  · rw [h 61 0 (by decide) (by decide) (by decide) (by decide)]; exact hs.v
theorem qInv_deed {M N K : qMem} {sd : sSD} {d : Int × sZ} {r1 r2 : Option Int} (h : qInv M sd) (hx : xE M sd d r1 N) (hm : mE N d r2 K) : qInv K sd ∧ r1 = r2 := by
  obtain ⟨h1, ⟨a1, a2, a3, a4, a5, a6⟩, h3, h4⟩ := h
  obtain ⟨x1, ⟨x2, x3, x4⟩, x5⟩ := hx
  obtain ⟨m1, m2, m3, m4⟩ := hm
  refine ⟨?_, x1.trans m1.symm⟩
  have e : ∀ j u, j ≠ 0 → j ≠ 26 → j ≠ 28 → ¬ (10 ≤ j ∧ j ≤ 18) → j ≠ 35 → j ≠ 61 → j ≠ 67 → ¬ 75 ≤ j → K j u = M j u := fun j u p1 p2 p3 p4 p5 p6 p7 p8 => by rw [m3 j u (by omega), x5 j u p1 p2 p3 p4]
  have f : ∀ j u i, j ≠ 0 → j ≠ 26 → j ≠ 28 → ¬ (10 ≤ j ∧ j ≤ 18) → j ≠ 35 → j ≠ 61 → j ≠ 67 → ¬ 75 ≤ j → K j u i = M j u i := fun j u i p1 p2 p3 p4 p5 p6 p7 p8 => by rw [e j u p1 p2 p3 p4 p5 p6 p7 p8]
  have c : ∀ k, k ≠ 25 → k ≠ 26 → k ≠ 28 → K 35 0 k = M 35 0 k := fun k p1 p2 p3 => by rw [m4 k p1 p2 p3, x5 35 0 (by decide) (by decide) (by decide) (by decide)]
  have o : ∀ j u, j < 35 → K j u = N j u := fun j u q => m3 j u (by omega)
  have k6 := a1.2.1.2
  have k7 := a1.2.2.1.2
  refine ⟨qTx_fr (f _ _ _ (by decide) (by decide) (by decide) (by decide) (by decide) (by decide) (by decide) (by decide)) (f _ _ _ (by decide) (by decide) (by decide) (by decide) (by decide) (by decide) (by decide) (by decide)) (c _ (by decide) (by decide) (by decide)) (c _ (by decide) (by decide) (by decide)) (e _ _ (by decide) (by decide) (by decide) (by decide) (by decide) (by decide) (by decide) (by decide)) (e _ _ (by decide) (by decide) (by decide) (by decide) (by decide) (by decide) (by decide) (by decide)) h1, ⟨a1, xS_off (fun j p q => e j 1 (by omega) (by omega) (by omega) (by omega) (by omega) (by omega) (by omega) (by omega)) a2, mS_off (fun k p q => c k (by omega) (by omega) (by omega)) (fun j p q => e j 0 (by omega) (by omega) (by omega) (by omega) (by omega) (by omega) (by omega) (by omega)) a3, xZ_g k6 k7 m2 (xZ_off (fun j u q => o j u (by omega)) x2), xIm_g (by decide) k6 k7 m2 (xIm_fr (o 28 0 (by decide)) (fun j p q => o j _ (by omega)) rfl rfl x3), xIm_g (by decide) k6 k7 m2 (xIm_fr (o 28 1 (by decide)) (fun j p q => o j _ (by omega)) rfl rfl x4)⟩, ?_, ?_⟩
  · exact qSn_fr (f _ _ _ (by decide) (by decide) (by decide) (by decide) (by decide) (by decide) (by decide) (by decide)) (c _ (by decide) (by decide) (by decide)) (e _ _ (by decide) (by decide) (by decide) (by decide) (by decide) (by decide) (by decide) (by decide)) (e _ _ (by decide) (by decide) (by decide) (by decide) (by decide) (by decide) (by decide) (by decide)) (e _ _ (by decide) (by decide) (by decide) (by decide) (by decide) (by decide) (by decide) (by decide)) (e _ _ (by decide) (by decide) (by decide) (by decide) (by decide) (by decide) (by decide) (by decide)) h3
  · exact qBk_fr (f _ _ _ (by decide) (by decide) (by decide) (by decide) (by decide) (by decide) (by decide) (by decide)) (c _ (by decide) (by decide) (by decide)) (e _ _ (by decide) (by decide) (by decide) (by decide) (by decide) (by decide) (by decide) (by decide)) (e _ _ (by decide) (by decide) (by decide) (by decide) (by decide) (by decide) (by decide) (by decide)) (e _ _ (by decide) (by decide) (by decide) (by decide) (by decide) (by decide) (by decide) (by decide)) (e _ _ (by decide) (by decide) (by decide) (by decide) (by decide) (by decide) (by decide) (by decide)) h4
