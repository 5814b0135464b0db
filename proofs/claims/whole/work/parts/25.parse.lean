theorem pPrz_cong {t : Int → Int} {L h : Int} : ∀ (k : Nat) (n a : Int) (r r' : Int → Int), (pPrz t L h k n a r).1 = (pPrz t L h k n a r').1 ∧ (pPrz t L h k n a r).2.1 = (pPrz t L h k n a r').2.1 ∧ ∀ i, r i = r' i → (pPrz t L h k n a r).2.2 i = (pPrz t L h k n a r').2.2 i := by
  intro k
  induction k with
  | zero => intro n a r r'; exact ⟨rfl, rfl, fun i h => h⟩
  | succ k ih =>
    intro n a r r'
    rw [pPrz, pPrz]
    split
    · split
      · obtain ⟨h1, h2, h3⟩ := ih (n + 1) (pSk t L (pNq t L a) + 1) (fun i => if i = 8 * h + n then pNv t L a else r i) (fun i => if i = 8 * h + n then pNv t L a else r' i)
        refine ⟨h1, h2, fun i hi => h3 i ?_⟩
        split
        · rfl
        · exact hi
      · refine ⟨rfl, rfl, fun i hi => ?_⟩
        show (if i = 8 * h + n then pNv t L a else r i) = (if i = 8 * h + n then pNv t L a else r' i)
        rw [hi]
    · exact ⟨rfl, rfl, fun i hi => hi⟩
theorem pPrz_out {t : Int → Int} {L h : Int} : ∀ (k : Nat) (n a : Int) (r : Int → Int), 0 ≤ n → n + k ≤ 8 → ∀ i, (i < 8 * h ∨ 8 * h + 8 ≤ i) → (pPrz t L h k n a r).2.2 i = r i := by
  intro k
  induction k with
  | zero => intro n a r _ _ i _; rfl
  | succ k ih =>
    intro n a r h0 h1 i hi
    rw [pPrz]
    split
    · split
      · rw [ih (n + 1) _ _ (by omega) (by omega) i hi, if_neg (by omega)]
      · show (if i = 8 * h + n then pNv t L a else r i) = r i
        rw [if_neg (by omega)]
    · rfl
/-- the class's draft is R -/
def rX (M : qMem) (R : sRd) : Prop := M 3 0 0 = R 0 0 ∧ M 3 0 1 = R 1 0 ∧ M 3 0 2 = R 2 0 ∧ (∀ c, 0 ≤ c → c < R 1 0 → M 4 0 c = R 3 c ∧ M 5 0 c = R 4 c ∧ M 6 0 c = R 5 c) ∧ (∀ h, 0 ≤ h → h < R 2 0 → M 7 0 h = R 6 h ∧ M 8 0 h = R 7 h) ∧ (∀ k, 0 ≤ k → k < 8 * R 2 0 → M 9 0 k = R 8 k) ∧ (∀ k, 8 * R 2 0 ≤ k → k < 48 → M 9 0 k = 0)
def xFr9 (M N : qMem) : Prop := (∀ j u, ¬ (j = 1 ∧ u = 0) → ¬ (3 ≤ j ∧ j ≤ 9 ∧ u = 0) → N j u = M j u) ∧ N 1 0 2 = M 1 0 2 ∧ (0 ≤ N 1 0 1 ∧ N 1 0 1 ≤ M 1 0 2)
def xBdP (M N : qMem) (b : Int × Int × sRd) : Prop := xFr9 M N ∧ (b.1 = 0 → N 1 0 3 = 0 ∧ N 1 0 4 = M 1 0 4 ∧ N 1 0 1 = b.2.1 ∧ rX N b.2.2) ∧ (b.1 ≠ 0 → N 1 0 3 = b.1 ∧ N 1 0 4 = b.2.1)
theorem xBd_s {M : qMem} {R : sRd} {z : Int} (hA : 0 ≤ M 1 0 1 ∧ M 1 0 1 ≤ M 1 0 2) (h3 : M 1 0 3 = 0) (hX : rX M R) (hz : z = if pNf (M 2 0) (M 1 0 2) 2 (M 1 0 1) = 0 then pNv (M 2 0) (M 1 0 2) (M 1 0 1) else 0) : xBdP M (qUp (xNum M 2) 3 0 0 z) (pHeadB (M 2 0) (M 1 0 2) (M 1 0 1) R) := by
  have hq := pNq_in (t := M 2 0) (L := M 1 0 2) hA.1 hA.2
  have hf := (xNum_flt M 2).2 h3
  obtain ⟨x1, x2, x3, x4, x5, x6, x7⟩ := hX
  refine ⟨⟨fun j u a b => ?_, ?_, ?_⟩, fun e => ?_, fun e => ?_⟩
  · simp only [q_rdR]
    by_cases ej : j = 3
    · have eu : u ≠ 0 := fun e => b ⟨by omega, by omega, e⟩
      subst ej; simp [eu, xNum_3]
    · simp only [if_neg ej]
      by_cases e1 : j = 1
      · subst e1; rw [xNum_u _ _ (fun e => a ⟨rfl, e⟩)]
      · rw [xNum_off _ _ e1]
  · simp [q_rd, xNum_L]
  · simp [q_rd, xNum_at]; omega
  · unfold pHeadB at e ⊢
    by_cases n1 : pNf (M 2 0) (M 1 0 2) 2 (M 1 0 1) = 0
    · rw [if_pos n1]
      rw [if_pos n1] at hz
      refine ⟨by simp [q_rd, hf.1, n1], by simp [q_rd, hf.2.2 n1], by simp [q_rd, xNum_at], ?_⟩
      unfold rX
      simp only [q_rd, q_rdR, xNum_3, xNum_4, xNum_5, xNum_6, xNum_7, xNum_8, xNum_9, rUp]
      simp
      exact ⟨hz, x2, x3, x4, x5, x6, x7⟩
    · rw [if_neg n1] at e; exact absurd e n1
  · unfold pHeadB at e ⊢
    by_cases n1 : pNf (M 2 0) (M 1 0 2) 2 (M 1 0 1) = 0
    · rw [if_pos n1] at e; exact absurd rfl e
    · rw [if_neg n1]
      exact ⟨by simp [q_rd, hf.1], by simp [q_rd, hf.2.1 n1]⟩
theorem xFlt_two {M N N' : qMem} {f p f' p' : Int} (h1 : xFlt M N f p) (h2 : xFlt N N' f' p') (h3 : M 1 0 3 = 0) : (f = 0 → N' 1 0 3 = f' ∧ (f' ≠ 0 → N' 1 0 4 = p') ∧ (f' = 0 → N' 1 0 4 = M 1 0 4)) ∧ (f ≠ 0 → N' 1 0 3 = f ∧ N' 1 0 4 = p) := by
  have a := h1.2 h3
  refine ⟨fun e => ?_, fun e => ?_⟩
  · have b := h2.2 (by rw [a.1, e])
    exact ⟨b.1, b.2.1, fun e2 => (b.2.2 e2).trans (a.2.2 e)⟩
  · have b := h2.1 (by rw [a.1]; exact e)
    exact ⟨b.1.trans a.1, b.2.trans (a.2.1 e)⟩
theorem xBd_c {M : qMem} {R : sRd} {w s m : Int} (hA : 0 ≤ M 1 0 1 ∧ M 1 0 1 ≤ M 1 0 2) (h3 : M 1 0 3 = 0) (hX : rX M R) (hR : rB R)
    (hw : w = if pNf (M 2 0) (M 1 0 2) 9 (M 1 0 1) = 0 then pNv (M 2 0) (M 1 0 2) (M 1 0 1) else 0)
    (hs : s = if pNf (M 2 0) (M 1 0 2) 9 (pNq (M 2 0) (M 1 0 2) (M 1 0 1)) = 0 then pNv (M 2 0) (M 1 0 2) (pNq (M 2 0) (M 1 0 2) (M 1 0 1)) else 0)
    (hm : m = if pNf (M 2 0) (M 1 0 2) 7 (pNq (M 2 0) (M 1 0 2) (pNq (M 2 0) (M 1 0 2) (M 1 0 1))) = 0 then pNv (M 2 0) (M 1 0 2) (pNq (M 2 0) (M 1 0 2) (pNq (M 2 0) (M 1 0 2) (M 1 0 1))) else 0) :
    xBdP M (xAddC (xNum (xNum (xNum M 9) 9) 7) 0 w s m) (pComerB (M 2 0) (M 1 0 2) (M 1 0 1) R) := by
  have q1 := pNq_in (t := M 2 0) (L := M 1 0 2) hA.1 hA.2
  have q2 := pNq_in (t := M 2 0) (L := M 1 0 2) (a := pNq (M 2 0) (M 1 0 2) (M 1 0 1)) (by omega) q1.2.2
  have q3 := pNq_in (t := M 2 0) (L := M 1 0 2) (a := pNq (M 2 0) (M 1 0 2) (pNq (M 2 0) (M 1 0 2) (M 1 0 1))) (by omega) q2.2.2
  have f1 := xNum_flt M 9
  have f2 := xNum_flt (xNum M 9) 9
  have f3 := xNum_flt (xNum (xNum M 9) 9) 7
  simp only [xNum_2, xNum_L, xNum_at] at f2 f3
  obtain ⟨x1, x2, x3, x4, x5, x6, x7⟩ := hX
  generalize hN : xNum (xNum (xNum M 9) 9) 7 = N at f3 ⊢
  have o3 : ∀ j, j ≠ 1 → N j = M j := by intro j hj; rw [← hN, xNum_off _ _ hj, xNum_off _ _ hj, xNum_off _ _ hj]
  have ou : ∀ u, u ≠ 0 → N 1 u = M 1 u := by intro u hu; rw [← hN, xNum_u _ _ hu, xNum_u _ _ hu, xNum_u _ _ hu]
  have oL : N 1 0 2 = M 1 0 2 := by rw [← hN]; simp only [xNum_L]
  have oA : N 1 0 1 = pNq (M 2 0) (M 1 0 2) (pNq (M 2 0) (M 1 0 2) (pNq (M 2 0) (M 1 0 2) (M 1 0 1))) := by rw [← hN]; simp only [xNum_2, xNum_L, xNum_at]
  have g1 : ∀ i, xAddC N 0 w s m 1 0 i = N 1 0 i := by intro i; unfold xAddC; simp [q_rd]
  refine ⟨⟨fun j u a b => ?_, ?_, ?_⟩, fun e => ?_, fun e => ?_⟩
  · unfold xAddC
    simp only [q_rdR]
    have nj : ∀ k, 3 ≤ k → k ≤ 9 → j = k → u ≠ 0 := fun k a1 a2 e1 e2 => b ⟨by omega, by omega, e2⟩
    by_cases e3 : j = 3
    · simp [e3, nj 3 (by omega) (by omega) e3]; rw [o3 3 (by decide)]
    · by_cases e4 : j = 4
      · simp [e4, nj 4 (by omega) (by omega) e4]; rw [o3 4 (by decide)]
      · by_cases e5 : j = 5
        · simp [e5, nj 5 (by omega) (by omega) e5]; rw [o3 5 (by decide)]
        · by_cases e6 : j = 6
          · simp [e6, nj 6 (by omega) (by omega) e6]; rw [o3 6 (by decide)]
          · simp only [if_neg e3, if_neg e4, if_neg e5, if_neg e6]
            by_cases e1 : j = 1
            · subst e1; rw [ou u (fun e => a ⟨rfl, e⟩)]
            · rw [o3 j e1]
  · rw [g1, oL]
  · rw [g1, oA]; omega
  · unfold pComerB at e ⊢
    by_cases n1 : pNf (M 2 0) (M 1 0 2) 9 (M 1 0 1) = 0
    · rw [if_pos n1] at e ⊢
      by_cases n2 : pNf (M 2 0) (M 1 0 2) 9 (pNq (M 2 0) (M 1 0 2) (M 1 0 1)) = 0
      · rw [if_pos n2] at e ⊢
        by_cases n3 : pNf (M 2 0) (M 1 0 2) 7 (pNq (M 2 0) (M 1 0 2) (pNq (M 2 0) (M 1 0 2) (M 1 0 1))) = 0
        · rw [if_pos n3]
          rw [if_pos n1] at hw; rw [if_pos n2] at hs; rw [if_pos n3] at hm
          have c1 := (xFlt_two f1 f2 h3).1 n1
          have c2 := f3.2 (by rw [c1.1, n2])
          refine ⟨by rw [g1, c2.1, n3], by rw [g1, c2.2.2 n3, c1.2.2 n2], by rw [g1, oA], ?_⟩
          have hc := hR.2.1
          unfold rX xAddC
          simp only [q_rd, q_rdR, rComer, rUp, o3 3 (by decide), o3 4 (by decide), o3 5 (by decide), o3 6 (by decide), o3 7 (by decide), o3 8 (by decide), o3 9 (by decide)]
          simp
          refine ⟨x1, by omega, x3, fun c a1 a2 => ?_, x5, x6, x7⟩
          rw [x2]
          by_cases ec : c = R 1 0
          · simp [ec, hw, hs, hm]
          · simp [ec]; exact x4 c a1 (by omega)
        · rw [if_neg n3] at e; exact absurd e n3
      · rw [if_neg n2] at e; exact absurd e n2
    · rw [if_neg n1] at e; exact absurd e n1
  · rw [g1, g1]
    unfold pComerB at e ⊢
    by_cases n1 : pNf (M 2 0) (M 1 0 2) 9 (M 1 0 1) = 0
    · rw [if_pos n1] at e ⊢
      have c1 := (xFlt_two f1 f2 h3).1 n1
      by_cases n2 : pNf (M 2 0) (M 1 0 2) 9 (pNq (M 2 0) (M 1 0 2) (M 1 0 1)) = 0
      · rw [if_pos n2] at e ⊢
        have c2 := f3.2 (by rw [c1.1, n2])
        by_cases n3 : pNf (M 2 0) (M 1 0 2) 7 (pNq (M 2 0) (M 1 0 2) (pNq (M 2 0) (M 1 0 2) (M 1 0 1))) = 0
        · rw [if_pos n3] at e; exact absurd rfl e
        · rw [if_neg n3]; exact ⟨c2.1, c2.2.1 n3⟩
      · rw [if_neg n2]
        have c2 := f3.1 (by rw [c1.1]; exact n2)
        exact ⟨c2.1.trans c1.1, c2.2.trans (c1.2.1 n2)⟩
    · rw [if_neg n1]
      have c1 := (xFlt_two f1 f2 h3).2 n1
      have c2 := f3.1 (by rw [c1.1]; exact n1)
      exact ⟨c2.1.trans c1.1, c2.2.trans c1.2⟩
theorem xBd_h {M N : qMem} {R : sRd} {u f : Int} (hL : 0 ≤ M 1 0 2 ∧ M 1 0 2 ≤ 240) (hA : 0 ≤ M 1 0 1 ∧ M 1 0 1 ≤ M 1 0 2) (h3 : M 1 0 3 = 0) (hX : rX M R) (hR : rB R) (h6 : R 2 0 < 6)
    (hu : u = if pNf (M 2 0) (M 1 0 2) 40 (M 1 0 1) = 0 then pNv (M 2 0) (M 1 0 2) (M 1 0 1) else 0)
    (hf : f = if pNf (M 2 0) (M 1 0 2) 40 (pNq (M 2 0) (M 1 0 2) (M 1 0 1)) = 0 then pNv (M 2 0) (M 1 0 2) (pNq (M 2 0) (M 1 0 2) (M 1 0 1)) else 0)
    (hN : xPzP (xAddH (xNum (xNum M 40) 40) 0 u f) N) : xBdP M N (pHouseB (M 2 0) (M 1 0 2) (M 1 0 1) R) := by
  have q1 := pNq_in (t := M 2 0) (L := M 1 0 2) hA.1 hA.2
  have q2 := pNq_in (t := M 2 0) (L := M 1 0 2) (a := pNq (M 2 0) (M 1 0 2) (M 1 0 1)) (by omega) q1.2.2
  have f1 := xNum_flt M 40
  have f2 := xNum_flt (xNum M 40) 40
  simp only [xNum_2, xNum_L, xNum_at] at f2
  obtain ⟨x1, x2, x3, x4, x5, x6, x7⟩ := hX
  have hr2 := hR.2.2.1
  generalize hK : xNum (xNum M 40) 40 = K at f2 hN
  have o3 : ∀ j, j ≠ 1 → K j = M j := by intro j hj; rw [← hK, xNum_off _ _ hj, xNum_off _ _ hj]
  have ou : ∀ u, u ≠ 0 → K 1 u = M 1 u := by intro u hu; rw [← hK, xNum_u _ _ hu, xNum_u _ _ hu]
  have oL : K 1 0 2 = M 1 0 2 := by rw [← hK]; simp only [xNum_L]
  have oA : K 1 0 1 = pNq (M 2 0) (M 1 0 2) (pNq (M 2 0) (M 1 0 2) (M 1 0 1)) := by rw [← hK]; simp only [xNum_2, xNum_L, xNum_at]
  have g1 : ∀ i, xAddH K 0 u f 1 0 i = K 1 0 i := by intro i; unfold xAddH; simp [q_rd]
  have g2 : xAddH K 0 u f 2 0 = M 2 0 := by unfold xAddH; simp only [q_rdR]; simp; rw [o3 2 (by decide)]
  have g32 : xAddH K 0 u f 3 0 2 = M 3 0 2 + 1 := by unfold xAddH; simp [q_rd]; rw [o3 3 (by decide)]
  have g9 : xAddH K 0 u f 9 0 = M 9 0 := by unfold xAddH; simp only [q_rdR]; simp; rw [o3 9 (by decide)]
  have eR : xPzR (xAddH K 0 u f) = pPrz (M 2 0) (M 1 0 2) (R 2 0) 8 0 (pNq (M 2 0) (M 1 0 2) (pNq (M 2 0) (M 1 0 2) (M 1 0 1))) (M 9 0) := by
    unfold xPzR
    rw [g2, g1, g1, oL, oA, g32, g9, x3]
    congr 1
    omega
  have eC := pPrz_cong (t := M 2 0) (L := M 1 0 2) (h := R 2 0) 8 0 (pNq (M 2 0) (M 1 0 2) (pNq (M 2 0) (M 1 0 2) (M 1 0 1))) (M 9 0) (rPz0 R)
  obtain ⟨⟨p1, p2, p3⟩, p4, p5⟩ := hN
  rw [eR] at p4 p5
  rw [g1] at p2 p3
  rw [oL] at p2 p3
  have c1 := xFlt_two f1 f2 h3
  have k3 : xAddH K 0 u f 1 0 3 = K 1 0 3 := g1 3
  have k4 : xAddH K 0 u f 1 0 4 = K 1 0 4 := g1 4
  unfold xFlt at p4
  rw [k3, k4] at p4
  rw [k3] at p5
  refine ⟨⟨fun j v a b => ?_, p2, p3⟩, fun e => ?_, fun e => ?_⟩
  · rw [p1 j v a (fun q => b ⟨by omega, by omega, q.2⟩)]
    unfold xAddH
    simp only [q_rdR]
    have nj : ∀ k, 3 ≤ k → k ≤ 9 → j = k → v ≠ 0 := fun k a1 a2 e1 e2 => b ⟨by omega, by omega, e2⟩
    by_cases e3 : j = 3
    · simp [e3, nj 3 (by omega) (by omega) e3]; rw [o3 3 (by decide)]
    · by_cases e4 : j = 7
      · simp [e4, nj 7 (by omega) (by omega) e4]; rw [o3 7 (by decide)]
      · by_cases e5 : j = 8
        · simp [e5, nj 8 (by omega) (by omega) e5]; rw [o3 8 (by decide)]
        · simp only [if_neg e3, if_neg e4, if_neg e5]
          by_cases e1 : j = 1
          · subst e1; rw [ou v (fun e => a ⟨rfl, e⟩)]
          · rw [o3 j e1]
  · unfold pHouseB at e ⊢
    by_cases n1 : pNf (M 2 0) (M 1 0 2) 40 (M 1 0 1) = 0
    · rw [if_pos n1] at e ⊢
      by_cases n2 : pNf (M 2 0) (M 1 0 2) 40 (pNq (M 2 0) (M 1 0 2) (M 1 0 1)) = 0
      · rw [if_pos n2] at e ⊢
        by_cases n3 : (pPrz (M 2 0) (M 1 0 2) (R 2 0) 8 0 (pNq (M 2 0) (M 1 0 2) (pNq (M 2 0) (M 1 0 2) (M 1 0 1))) (rPz0 R)).1 = 0
        · rw [if_pos n3]
          rw [if_pos n1] at hu; rw [if_pos n2] at hf
          have d1 := c1.1 n1
          have z3 : K 1 0 3 = 0 := by rw [d1.1, n2]
          have n3' := eC.1.trans n3
          have d2 := p4.2 z3
          obtain ⟨d3, d4⟩ := p5 z3 n3'
          refine ⟨by rw [d2.1, n3'], by rw [d2.2.2 n3', d1.2.2 n2], by rw [d3, eC.2.1], ?_⟩
          have r3 : ∀ k, k ≠ 1 → k ≠ 9 → N k 0 = xAddH K 0 u f k 0 := fun k a1 a2 => p1 k 0 (fun q => a1 q.1) (fun q => a2 q.1)
          unfold rX
          rw [d4, r3 3 (by decide) (by decide), r3 4 (by decide) (by decide), r3 5 (by decide) (by decide), r3 6 (by decide) (by decide), r3 7 (by decide) (by decide), r3 8 (by decide) (by decide)]
          unfold xAddH
          simp only [q_rd, q_rdR, rHouse, rUp, rRow, o3 3 (by decide), o3 4 (by decide), o3 5 (by decide), o3 6 (by decide), o3 7 (by decide), o3 8 (by decide)]
          simp
          refine ⟨x1, x2, by omega, x4, fun h a1 a2 => ?_, fun k a1 a2 => ?_, fun k a1 a2 => ?_⟩
          · rw [x3]
            by_cases eh : h = R 2 0
            · simp [eh, hu, hf]
            · simp [eh]; exact x5 h a1 (by omega)
          · refine eC.2.2 k ?_
            unfold rPz0
            by_cases eq : 8 * R 2 0 ≤ k ∧ k < 8 * R 2 0 + 8
            · rw [if_pos eq]; exact x7 k eq.1 (by omega)
            · rw [if_neg eq]; exact x6 k a1 (by omega)
          · rw [pPrz_out 8 0 _ _ (by omega) (by omega) k (by omega)]
            exact x7 k (by omega) a2
        · rw [if_neg n3] at e; exact absurd e n3
      · rw [if_neg n2] at e; exact absurd e n2
    · rw [if_neg n1] at e; exact absurd e n1
  · unfold pHouseB at e ⊢
    by_cases n1 : pNf (M 2 0) (M 1 0 2) 40 (M 1 0 1) = 0
    · rw [if_pos n1] at e ⊢
      have d1 := c1.1 n1
      by_cases n2 : pNf (M 2 0) (M 1 0 2) 40 (pNq (M 2 0) (M 1 0 2) (M 1 0 1)) = 0
      · rw [if_pos n2] at e ⊢
        have z3 : K 1 0 3 = 0 := by rw [d1.1, n2]
        have d2 := p4.2 z3
        by_cases n3 : (pPrz (M 2 0) (M 1 0 2) (R 2 0) 8 0 (pNq (M 2 0) (M 1 0 2) (pNq (M 2 0) (M 1 0 2) (M 1 0 1))) (rPz0 R)).1 = 0
        · rw [if_pos n3] at e; exact absurd rfl e
        · rw [if_neg n3]
          exact ⟨d2.1.trans eC.1, (d2.2.1 (fun q => n3 (eC.1.symm.trans q))).trans eC.2.1⟩
      · rw [if_neg n2]
        have d2 := p4.1 (by rw [d1.1]; exact n2)
        exact ⟨d2.1.trans d1.1, d2.2.trans (d1.2.1 n2)⟩
    · rw [if_neg n1]
      have d1 := c1.2 n1
      have d2 := p4.1 (by rw [d1.1]; exact n1)
      exact ⟨d2.1.trans d1.1, d2.2.trans d1.2⟩
