/-! reading: t the letters, L how many, a where one reads -/
def mT (M : qMem) (t : Int → Int) (L a : Int) : Prop := M 41 0 = t ∧ M 35 0 0 = L ∧ M 35 0 2 = a
def mRd (M N : qMem) (f p : Int) : Prop := (∀ j u, ¬ (j = 35 ∧ u = 0) → N j u = M j u) ∧ (∀ k, k ≠ 2 → k ≠ 3 → k ≠ 4 → N 35 0 k = M 35 0 k) ∧ N 35 0 2 = p ∧ (f ≠ 0 → N 35 0 4 = f)
theorem q_upK {N : qMem} {k k' z : Int} (h : k' ≠ k) : qUp N 35 0 k z 35 0 k' = N 35 0 k' := by simp [q_rd, h]
theorem q_upO {N : qMem} {k z : Int} : qUp N 35 0 k z 35 0 k = z := by simp [q_rd]
theorem mT.f {M : qMem} {t : Int → Int} {L a k z : Int} (h : mT M t L a) (hk : k ≠ 0 ∧ k ≠ 2) : mT (qUp M 35 0 k z) t L a :=
  ⟨(q_upF (by omega)).trans h.1, (q_upK (by omega)).trans h.2.1, (q_upK (by omega)).trans h.2.2⟩
theorem mT.at {M : qMem} {t : Int → Int} {L a z : Int} (h : mT M t L a) : mT (qUp M 35 0 2 z) t L z :=
  ⟨(q_upF (by omega)).trans h.1, (q_upK (by omega)).trans h.2.1, q_upO⟩
theorem mT.r {M : qMem} {t : Int → Int} {L a i z : Int} {j : Nat} (h : mT M t L a) (hj : j ≠ 35 ∧ j ≠ 41) : mT (qUp M j 0 i z) t L a :=
  ⟨(q_upF (by omega)).trans h.1, (congrFun (q_upF (by omega)) 0).trans h.2.1, (congrFun (q_upF (by omega)) 2).trans h.2.2⟩
theorem mT.s {M : qMem} {t : Int → Int} {L a : Int} {f : Int → Int} {j : Nat} (h : mT M t L a) (hj : j ≠ 35 ∧ j ≠ 41) : mT (qSet M j 0 f) t L a :=
  ⟨(q_setF (by omega)).trans h.1, (congrFun (q_setF (by omega)) 0).trans h.2.1, (congrFun (q_setF (by omega)) 2).trans h.2.2⟩
theorem mRd_at (M : qMem) (q : Int) : mRd M (qUp M 35 0 2 q) 0 q := ⟨fun j u h => q_upF h, fun k h _ _ => q_upK h, q_upO, fun h => absurd rfl h⟩
theorem mRd.at {M N : qMem} {f p : Int} (h : mRd M N f p) (q : Int) : mRd M (qUp N 35 0 2 q) 0 q := ⟨fun j u e => (q_upF e).trans (h.1 j u e), fun k e e1 e2 => (q_upK e).trans (h.2.1 k e e1 e2), q_upO, fun h => absurd rfl h⟩
theorem mRd.nu {M N : qMem} {f p : Int} (h : mRd M N f p) (z : Int) : mRd M (qUp N 35 0 3 z) f p := ⟨fun j u e => (q_upF e).trans (h.1 j u e), fun k e e1 e2 => (q_upK e1).trans (h.2.1 k e e1 e2), (q_upK (by decide)).trans h.2.2.1, fun q => (q_upK (by decide)).trans (h.2.2.2 q)⟩
theorem mRd.fl {M N : qMem} {f p : Int} (h : mRd M N f p) (f' q : Int) : mRd M (qUp (qUp N 35 0 4 f') 35 0 2 q) f' q := ⟨fun j u e => (q_upF e).trans ((q_upF e).trans (h.1 j u e)), fun k e e1 e2 => (q_upK e).trans ((q_upK e2).trans (h.2.1 k e e1 e2)), q_upO, fun _ => (q_upK (by decide)).trans q_upO⟩
theorem mRd.r {M N : qMem} {f p : Int} (h : mRd M N f p) {j : Nat} (hj : j ≠ 35) (u : Nat) : N j u = M j u := h.1 j u (fun q => hj q.1)
theorem mRd.k {M N : qMem} {f p : Int} (h : mRd M N f p) {k : Int} (hk : k ≠ 2 ∧ k ≠ 3 ∧ k ≠ 4) : N 35 0 k = M 35 0 k := h.2.1 k hk.1 hk.2.1 hk.2.2
theorem mRd.t {M N : qMem} {f p L a : Int} {t : Int → Int} (h : mRd M N f p) (hT : mT M t L a) : mT N t L p := ⟨(h.r (by decide) 0).trans hT.1, (h.k (by decide)).trans hT.2.1, h.2.2.1⟩
/-- what a reading leaves -/
def mRf (M N : qMem) : Prop := (∀ j u, ¬ (j = 35 ∧ u = 0) → ¬ (49 ≤ j ∧ j ≤ 54 ∧ u = 0) → N j u = M j u) ∧ (∀ k, k ≠ 2 → k ≠ 3 → k ≠ 4 → ¬ (6 ≤ k ∧ k ≤ 8) → N 35 0 k = M 35 0 k)
theorem mRf.rf {M : qMem} : mRf M M := ⟨fun _ _ _ _ => rfl, fun _ _ _ _ _ => rfl⟩
theorem mRf.tr {M N K : qMem} (h : mRf M N) (k : mRf N K) : mRf M K := ⟨fun j u a b => (k.1 j u a b).trans (h.1 j u a b), fun i a b c d => (k.2 i a b c d).trans (h.2 i a b c d)⟩
theorem mRf.d {M N K : qMem} {f p : Int} (h : mRf M N) (g : mRd N K f p) : mRf M K := h.tr ⟨fun j u a _ => g.1 j u a, fun i a b c _ => g.2.1 i a b c⟩
theorem mRf.w {M N : qMem} {j : Nat} {i z : Int} (h : mRf M N) (hj : 49 ≤ j ∧ j ≤ 54) : mRf M (qUp N j 0 i z) := h.tr ⟨fun j' u a b => q_upF (by omega), fun i' _ _ _ _ => congrFun (q_upF (by omega)) i'⟩
theorem mRf.sw {M N : qMem} {j : Nat} {f : Int → Int} (h : mRf M N) (hj : 49 ≤ j ∧ j ≤ 54) : mRf M (qSet N j 0 f) := h.tr ⟨fun j' u a b => q_setF (by omega), fun i' _ _ _ _ => congrFun (q_setF (by omega)) i'⟩
theorem mRf.f {M N : qMem} {k z : Int} (h : mRf M N) (hk : k = 2 ∨ k = 3 ∨ k = 4 ∨ (6 ≤ k ∧ k ≤ 8)) : mRf M (qUp N 35 0 k z) := h.tr ⟨fun j' u a b => q_upF a, fun i' _ _ _ _ => q_upK (by omega)⟩
/-- what has been read is R -/
def mX (M : qMem) (R : sRd) : Prop := M 35 0 6 = R 0 0 ∧ M 35 0 7 = R 1 0 ∧ M 35 0 8 = R 2 0 ∧ (∀ c, 0 ≤ c → c < R 1 0 → M 49 0 c = R 3 c ∧ M 50 0 c = R 4 c ∧ M 51 0 c = R 5 c) ∧ (∀ h, 0 ≤ h → h < R 2 0 → M 52 0 h = R 6 h ∧ M 53 0 h = R 7 h) ∧ (∀ k, 0 ≤ k → k < 8 * R 2 0 → M 54 0 k = R 8 k)
theorem mX.d {M N : qMem} {R : sRd} {f p : Int} (h : mX M R) (g : mRd M N f p) : mX N R := by
  unfold mX at *
  rw [g.k (by decide), g.k (by decide), g.k (by decide), g.r (by decide) 0, g.r (by decide) 0, g.r (by decide) 0, g.r (by decide) 0, g.r (by decide) 0, g.r (by decide) 0]
  exact h
def mBd (M N : qMem) (b : Int × Int × sRd) : Prop := mRf M N ∧ N 35 0 2 = b.2.1 ∧ (b.1 ≠ 0 → N 35 0 4 = b.1) ∧ (b.1 = 0 → mX N b.2.2)
theorem mBd_no {M N : qMem} {f p : Int} {R : sRd} (hf : f ≠ 0) (h1 : mRf M N) (h2 : N 35 0 2 = p) (h3 : N 35 0 4 = f) : mBd M N (f, p, R) := ⟨h1, h2, fun _ => h3, fun q => absurd q hf⟩
theorem mBd_ok {M K N : qMem} {f p : Int} {R : sRd} (h1 : mRf M K) (hK : mX K R) (g : mRd K N f p) : mBd M N (f, p, R) := ⟨h1.d g, g.2.2.1, g.2.2.2, fun _ => hK.d g⟩
theorem pFin_ok {t : Int → Int} {L : Int} {b : Int × Int × sRd} {p : Int} (hb : b.1 = 0) (hp : (pEf t L b.2.1 = 0 ∧ p = pSk t L b.2.1 + 1) ∨ (pEf t L b.2.1 = 1 ∧ p = pSk t L b.2.1)) : pFin t L b = (pEf t L b.2.1, p, b.2.2) := by
  unfold pFin
  rw [if_pos hb]
  rcases hp with ⟨h1, h2⟩ | ⟨h1, h2⟩
  · rw [if_pos h1, h1, h2]
  · rw [if_neg (by omega), h1, h2]
theorem pFin_no {t : Int → Int} {L : Int} {b : Int × Int × sRd} (hb : b.1 ≠ 0) : pFin t L b = b := if_neg hb
theorem dX12_letterAt_0 : decode cX12_letterAt 0 = .ok (.iload_n 1, 1) := by decide +kernel
theorem dX12_letterAt_1 : decode cX12_letterAt 1 = .ok (.aload_n 0, 1) := by decide +kernel
theorem dX12_letterAt_2 : decode cX12_letterAt 2 = .ok (.getfield 90, 3) := by decide +kernel
theorem dX12_letterAt_5 : decode cX12_letterAt 5 = .ok (.if_icmp .ge 12, 3) := by decide +kernel
theorem dX12_letterAt_8 : decode cX12_letterAt 8 = .ok (.aload_n 0, 1) := by decide +kernel
theorem dX12_letterAt_9 : decode cX12_letterAt 9 = .ok (.getfield 7, 3) := by decide +kernel
theorem dX12_letterAt_12 : decode cX12_letterAt 12 = .ok (.iload_n 1, 1) := by decide +kernel
theorem dX12_letterAt_13 : decode cX12_letterAt 13 = .ok (.iaload, 1) := by decide +kernel
theorem dX12_letterAt_14 : decode cX12_letterAt 14 = .ok (.goto 4, 3) := by decide +kernel
theorem dX12_letterAt_17 : decode cX12_letterAt 17 = .ok (.iconst (-1), 1) := by decide +kernel
theorem dX12_letterAt_18 : decode cX12_letterAt 18 = .ok (.ireturn, 1) := by decide +kernel
set_option maxRecDepth 4000 in
set_option maxHeartbeats 4000000 in
theorem m_X12_letterAt (l : Launch) (g : qGm) (M : qMem) {t : Int → Int} {L a : Int} (hT : mT M t L a) (hL : 0 ≤ L ∧ L ≤ 240) {i : Int} (hi : 0 ≤ i) (hiq : qIn i) : qOk l g 1 yX12_letterAt cX12_letterAt 2 (some .int) [qR g 35 0, qI i] M (qEv (some (pLt t L i)) M) := by
  refine q_ok (by decide +kernel) (Nat.le_of_ble_eq_true rfl) (fun X C' hn => ?_)
  have C := C'.1
  obtain ⟨rfl, rfl, rfl⟩ := hT
  refine q_iloadn C dX12_letterAt_0 rfl ?_
  refine q_aloadn C dX12_letterAt_1 rfl ?_
  refine gf_RX12_90 C dX12_letterAt_2 (fun r2 => ?_)
  refine q_icmp_ge C 17 dX12_letterAt_5 (by decide) (by first | assumption | omega | exact q_tin _ | exact q_bIn _) (by first | assumption | omega | exact q_tin _ | exact q_bIn _) (fun h5 => ?_) (fun h5 => ?_)
  · refine q_iconst C dX12_letterAt_17 ?_
    refine q_iret C' dX12_letterAt_18 (by first | assumption | omega | exact q_tin _ | exact q_bIn _) ?_
    refine ⟨congrArg some ?_, rfl⟩
    unfold pLt
    first | (rw [if_pos (by omega)]; done) | (rw [if_neg (by omega)]; done)
  · refine q_aloadn C dX12_letterAt_8 rfl ?_
    refine gf_RX12_7 C dX12_letterAt_9 ?_
    refine q_iloadn C dX12_letterAt_12 rfl ?_
    refine q_iald C (by first | assumption | decide | omega) rfl dX12_letterAt_13 (by omega) (by omega) (by decide) (fun r13 => ?_)
    refine q_goto C (tgt := 18) dX12_letterAt_14 (by decide) ?_
    refine q_iret C' dX12_letterAt_18 (by first | assumption | omega | exact q_tin _ | exact q_bIn _) ?_
    refine ⟨congrArg some ?_, rfl⟩
    unfold pLt
    first | (rw [if_pos (by omega)]; done) | (rw [if_neg (by omega)]; done)
theorem dX12_nextLetter_0 : decode cX12_nextLetter 0 = .ok (.aload_n 0, 1) := by decide +kernel
theorem dX12_nextLetter_1 : decode cX12_nextLetter 1 = .ok (.aload_n 0, 1) := by decide +kernel
theorem dX12_nextLetter_2 : decode cX12_nextLetter 2 = .ok (.getfield 94, 3) := by decide +kernel
theorem dX12_nextLetter_5 : decode cX12_nextLetter 5 = .ok (.invokevirtual 97, 3) := by decide +kernel
theorem dX12_nextLetter_8 : decode cX12_nextLetter 8 = .ok (.bipush 32, 2) := by decide +kernel
theorem dX12_nextLetter_10 : decode cX12_nextLetter 10 = .ok (.if_icmp .ne 16, 3) := by decide +kernel
theorem dX12_nextLetter_13 : decode cX12_nextLetter 13 = .ok (.aload_n 0, 1) := by decide +kernel
theorem dX12_nextLetter_14 : decode cX12_nextLetter 14 = .ok (.dup, 1) := by decide +kernel
theorem dX12_nextLetter_15 : decode cX12_nextLetter 15 = .ok (.getfield 94, 3) := by decide +kernel
theorem dX12_nextLetter_18 : decode cX12_nextLetter 18 = .ok (.iconst 1, 1) := by decide +kernel
theorem dX12_nextLetter_19 : decode cX12_nextLetter 19 = .ok (.iadd, 1) := by decide +kernel
theorem dX12_nextLetter_20 : decode cX12_nextLetter 20 = .ok (.putfield 94, 3) := by decide +kernel
theorem dX12_nextLetter_23 : decode cX12_nextLetter 23 = .ok (.goto (-23), 3) := by decide +kernel
theorem dX12_nextLetter_26 : decode cX12_nextLetter 26 = .ok (.aload_n 0, 1) := by decide +kernel
theorem dX12_nextLetter_27 : decode cX12_nextLetter 27 = .ok (.aload_n 0, 1) := by decide +kernel
theorem dX12_nextLetter_28 : decode cX12_nextLetter 28 = .ok (.getfield 94, 3) := by decide +kernel
theorem dX12_nextLetter_31 : decode cX12_nextLetter 31 = .ok (.invokevirtual 97, 3) := by decide +kernel
theorem dX12_nextLetter_34 : decode cX12_nextLetter 34 = .ok (.ireturn, 1) := by decide +kernel
set_option maxRecDepth 4000 in
set_option maxHeartbeats 4000000 in
theorem m_X12_nextLetter (l : Launch) (g : qGm) (M : qMem) {t : Int → Int} {L a : Int} (hT : mT M t L a) (hL : 0 ≤ L ∧ L ≤ 240) (hA : 0 ≤ a ∧ a ≤ L) : qOk l g 2 yX12_nextLetter cX12_nextLetter 1 (some .int) [qR g 35 0] M (qEv (some (pLt t L (pSk t L a))) (qUp M 35 0 2 (pSk t L a))) := by
  refine q_ok (by decide +kernel) (Nat.le_of_ble_eq_true rfl) (fun X C' hn => ?_)
  have C := C'.1
  obtain ⟨rfl, rfl, rfl⟩ := hT
  have L0 : ∀ (n0 : Nat) (i : Int) (N : qMem), M 35 0 0 - i < (n0 : Int) → (0 ≤ i) → (i ≤ M 35 0 0) → (pSk (M 41 0) (M 35 0 0) (M 35 0 2) = pSk (M 41 0) (M 35 0 0) i) → (N = qUp M 35 0 2 i) → qV l g X N 0 [(0, qR g 35 0)] [] := by
    intro n0
    induction n0 with
    | zero => intro i N hm0 i0 i1 ie hN; exfalso; first | omega | (simp at *; omega)
    | succ n0 ih0 =>
      intro i N hm0 i0 i1 ie hN
      subst hN
      have n1 : qUp M 35 0 2 i 41 0 = M 41 0 := q_upF (by omega)
      have n2 : qUp M 35 0 2 i 35 0 0 = M 35 0 0 := q_upK (by decide)
      have n3 : qUp M 35 0 2 i 35 0 2 = i := q_upO
      have pl : pLt (M 41 0) (M 35 0 0) i = (if i < M 35 0 0 then M 41 0 i else -1) := rfl
      have pc : (i < M 35 0 0 ∧ pLt (M 41 0) (M 35 0 0) i = M 41 0 i) ∨ (i = M 35 0 0 ∧ pLt (M 41 0) (M 35 0 0) i = -1) := by by_cases e : i < M 35 0 0 <;> simp [pl, e] <;> omega
      refine q_aloadn C dX12_nextLetter_0 rfl ?_
      refine q_aloadn C dX12_nextLetter_1 rfl ?_
      refine gf_RX12_94 C dX12_nextLetter_2 (fun r2 => ?_)
      try simp only [q_rd, q_rdS, ↓reduceIte, if_true, if_false, eq_self, Nat.reduceEqDiff, Int.reduceEq, Int.reduceNeg, reduceCtorEq] at r2 ⊢
      refine cv_RX12_97 C (by decide) (m_X12_letterAt l g _ (t := M 41 0) (L := M 35 0 0) (a := i) ⟨n1, n2, n3⟩ hL (by omega) (by omega)) dX12_nextLetter_5 (Nat.le_of_ble_eq_true rfl) (fun r5 => ?_)
      refine q_bipush C dX12_nextLetter_8 (by decide) ?_
      refine q_icmp_ne C 26 dX12_nextLetter_10 (by decide) (by first | assumption | omega | exact q_tin _ | exact q_bIn _) (by first | assumption | omega | exact q_tin _ | exact q_bIn _) (fun h10 => ?_) (fun h10 => ?_)
      · refine q_aloadn C dX12_nextLetter_26 rfl ?_
        refine q_aloadn C dX12_nextLetter_27 rfl ?_
        refine gf_RX12_94 C dX12_nextLetter_28 (fun r28 => ?_)
        try simp only [q_rd, q_rdS, ↓reduceIte, if_true, if_false, eq_self, Nat.reduceEqDiff, Int.reduceEq, Int.reduceNeg, reduceCtorEq] at r28 ⊢
        refine cv_RX12_97 C (by decide) (m_X12_letterAt l g _ (t := M 41 0) (L := M 35 0 0) (a := i) ⟨n1, n2, n3⟩ hL (by omega) (by omega)) dX12_nextLetter_31 (Nat.le_of_ble_eq_true rfl) (fun r31 => ?_)
        refine q_iret C' dX12_nextLetter_34 (by first | assumption | omega | exact q_tin _ | exact q_bIn _) ?_
        have e9 : pSk (M 41 0) (M 35 0 0) i = i := by
          rcases pc with ⟨c1, c2⟩ | ⟨c1, c2⟩
          · exact pTo_y i0 c1 (by rw [decide_eq_true_iff]; omega)
          · rw [c1]; exact pTo_e _ _
        rw [ie, e9]
        exact ⟨rfl, rfl⟩
      · refine q_aloadn C dX12_nextLetter_13 rfl ?_
        refine q_dup C dX12_nextLetter_14 rfl ?_
        refine gf_RX12_94 C dX12_nextLetter_15 (fun r15 => ?_)
        try simp only [q_rd, q_rdS, ↓reduceIte, if_true, if_false, eq_self, Nat.reduceEqDiff, Int.reduceEq, Int.reduceNeg, reduceCtorEq] at r15 ⊢
        refine q_iconst C dX12_nextLetter_18 ?_
        refine q_iadd C dX12_nextLetter_19 ?_
        refine pf_RX12_94 C (by first | assumption | omega | exact q_tin _ | exact q_bIn _) dX12_nextLetter_20 ?_
        refine q_goto C (tgt := 0) dX12_nextLetter_23 (by decide) ?_
        exact q_ls (by exact ⟨rfl, trivial⟩) (ih0 (i + 1) _ (by omega) (by omega) (by omega) (by rw [ie]; unfold pSk; exact pTo_n (by omega) (by rw [decide_eq_true_iff]; omega)) (by exact q_upUp _ _ _ _ _ _))
  exact q_ls (by exact ⟨rfl, trivial⟩) (L0 1000 (M 35 0 2) M (by omega) (by omega) (by omega) (by rfl) (by exact (q_upId _ _ _ _).symm))
theorem dX12_fails_0 : decode cX12_fails 0 = .ok (.aload_n 0, 1) := by decide +kernel
theorem dX12_fails_1 : decode cX12_fails 1 = .ok (.iload_n 1, 1) := by decide +kernel
theorem dX12_fails_2 : decode cX12_fails 2 = .ok (.putfield 101, 3) := by decide +kernel
theorem dX12_fails_5 : decode cX12_fails 5 = .ok (.aload_n 0, 1) := by decide +kernel
theorem dX12_fails_6 : decode cX12_fails 6 = .ok (.iload_n 2, 1) := by decide +kernel
theorem dX12_fails_7 : decode cX12_fails 7 = .ok (.putfield 94, 3) := by decide +kernel
theorem dX12_fails_10 : decode cX12_fails 10 = .ok (.iconst (-1), 1) := by decide +kernel
theorem dX12_fails_11 : decode cX12_fails 11 = .ok (.ireturn, 1) := by decide +kernel
set_option maxRecDepth 4000 in
set_option maxHeartbeats 4000000 in
theorem m_X12_fails (l : Launch) (g : qGm) (M : qMem) {f p : Int} (hf : qIn f) (hp : qIn p) : qOk l g 1 yX12_fails cX12_fails 3 (some .int) [qR g 35 0, qI f, qI p] M (qEv (some (-1)) (qUp (qUp M 35 0 4 f) 35 0 2 p)) := by
  refine q_ok (by decide +kernel) (Nat.le_of_ble_eq_true rfl) (fun X C' hn => ?_)
  have C := C'.1
  refine q_aloadn C dX12_fails_0 rfl ?_
  refine q_iloadn C dX12_fails_1 rfl ?_
  refine pf_RX12_101 C (by first | assumption | omega | exact q_tin _ | exact q_bIn _) dX12_fails_2 ?_
  refine q_aloadn C dX12_fails_5 rfl ?_
  refine q_iloadn C dX12_fails_6 rfl ?_
  refine pf_RX12_94 C (by first | assumption | omega | exact q_tin _ | exact q_bIn _) dX12_fails_7 ?_
  refine q_iconst C dX12_fails_10 ?_
  refine q_iret C' dX12_fails_11 (by first | assumption | omega | exact q_tin _ | exact q_bIn _) ?_
  exact ⟨rfl, rfl⟩
theorem dX12_readsNumber_0 : decode cX12_readsNumber 0 = .ok (.aload_n 0, 1) := by decide +kernel
theorem dX12_readsNumber_1 : decode cX12_readsNumber 1 = .ok (.invokevirtual 104, 3) := by decide +kernel
theorem dX12_readsNumber_4 : decode cX12_readsNumber 4 = .ok (.bipush 48, 2) := by decide +kernel
theorem dX12_readsNumber_6 : decode cX12_readsNumber 6 = .ok (.bipush 57, 2) := by decide +kernel
theorem dX12_readsNumber_8 : decode cX12_readsNumber 8 = .ok (.invokestatic 85, 3) := by decide +kernel
theorem dX12_readsNumber_11 : decode cX12_readsNumber 11 = .ok (.ifCond .ne 13, 3) := by decide +kernel
theorem dX12_readsNumber_14 : decode cX12_readsNumber 14 = .ok (.aload_n 0, 1) := by decide +kernel
theorem dX12_readsNumber_15 : decode cX12_readsNumber 15 = .ok (.iconst 1, 1) := by decide +kernel
theorem dX12_readsNumber_16 : decode cX12_readsNumber 16 = .ok (.aload_n 0, 1) := by decide +kernel
theorem dX12_readsNumber_17 : decode cX12_readsNumber 17 = .ok (.getfield 94, 3) := by decide +kernel
theorem dX12_readsNumber_20 : decode cX12_readsNumber 20 = .ok (.invokevirtual 108, 3) := by decide +kernel
theorem dX12_readsNumber_23 : decode cX12_readsNumber 23 = .ok (.ireturn, 1) := by decide +kernel
theorem dX12_readsNumber_24 : decode cX12_readsNumber 24 = .ok (.aload_n 0, 1) := by decide +kernel
theorem dX12_readsNumber_25 : decode cX12_readsNumber 25 = .ok (.aload_n 0, 1) := by decide +kernel
theorem dX12_readsNumber_26 : decode cX12_readsNumber 26 = .ok (.getfield 94, 3) := by decide +kernel
theorem dX12_readsNumber_29 : decode cX12_readsNumber 29 = .ok (.putfield 112, 3) := by decide +kernel
theorem dX12_readsNumber_32 : decode cX12_readsNumber 32 = .ok (.iconst 0, 1) := by decide +kernel
theorem dX12_readsNumber_33 : decode cX12_readsNumber 33 = .ok (.istore_n 3, 1) := by decide +kernel
theorem dX12_readsNumber_34 : decode cX12_readsNumber 34 = .ok (.aload_n 0, 1) := by decide +kernel
theorem dX12_readsNumber_35 : decode cX12_readsNumber 35 = .ok (.aload_n 0, 1) := by decide +kernel
theorem dX12_readsNumber_36 : decode cX12_readsNumber 36 = .ok (.getfield 94, 3) := by decide +kernel
theorem dX12_readsNumber_39 : decode cX12_readsNumber 39 = .ok (.invokevirtual 97, 3) := by decide +kernel
theorem dX12_readsNumber_42 : decode cX12_readsNumber 42 = .ok (.bipush 48, 2) := by decide +kernel
theorem dX12_readsNumber_44 : decode cX12_readsNumber 44 = .ok (.bipush 57, 2) := by decide +kernel
theorem dX12_readsNumber_46 : decode cX12_readsNumber 46 = .ok (.invokestatic 85, 3) := by decide +kernel
theorem dX12_readsNumber_49 : decode cX12_readsNumber 49 = .ok (.ifCond .eq 44, 3) := by decide +kernel
theorem dX12_readsNumber_52 : decode cX12_readsNumber 52 = .ok (.iload_n 3, 1) := by decide +kernel
theorem dX12_readsNumber_53 : decode cX12_readsNumber 53 = .ok (.sipush 999, 3) := by decide +kernel
theorem dX12_readsNumber_56 : decode cX12_readsNumber 56 = .ok (.if_icmp .le 7, 3) := by decide +kernel
theorem dX12_readsNumber_59 : decode cX12_readsNumber 59 = .ok (.iload_n 3, 1) := by decide +kernel
theorem dX12_readsNumber_60 : decode cX12_readsNumber 60 = .ok (.goto 19, 3) := by decide +kernel
theorem dX12_readsNumber_63 : decode cX12_readsNumber 63 = .ok (.bipush 10, 2) := by decide +kernel
theorem dX12_readsNumber_65 : decode cX12_readsNumber 65 = .ok (.iload_n 3, 1) := by decide +kernel
theorem dX12_readsNumber_66 : decode cX12_readsNumber 66 = .ok (.imul, 1) := by decide +kernel
theorem dX12_readsNumber_67 : decode cX12_readsNumber 67 = .ok (.aload_n 0, 1) := by decide +kernel
theorem dX12_readsNumber_68 : decode cX12_readsNumber 68 = .ok (.aload_n 0, 1) := by decide +kernel
theorem dX12_readsNumber_69 : decode cX12_readsNumber 69 = .ok (.getfield 94, 3) := by decide +kernel
theorem dX12_readsNumber_72 : decode cX12_readsNumber 72 = .ok (.invokevirtual 97, 3) := by decide +kernel
theorem dX12_readsNumber_75 : decode cX12_readsNumber 75 = .ok (.iadd, 1) := by decide +kernel
theorem dX12_readsNumber_76 : decode cX12_readsNumber 76 = .ok (.bipush 48, 2) := by decide +kernel
theorem dX12_readsNumber_78 : decode cX12_readsNumber 78 = .ok (.isub, 1) := by decide +kernel
theorem dX12_readsNumber_79 : decode cX12_readsNumber 79 = .ok (.istore_n 3, 1) := by decide +kernel
theorem dX12_readsNumber_80 : decode cX12_readsNumber 80 = .ok (.aload_n 0, 1) := by decide +kernel
theorem dX12_readsNumber_81 : decode cX12_readsNumber 81 = .ok (.dup, 1) := by decide +kernel
theorem dX12_readsNumber_82 : decode cX12_readsNumber 82 = .ok (.getfield 94, 3) := by decide +kernel
theorem dX12_readsNumber_85 : decode cX12_readsNumber 85 = .ok (.iconst 1, 1) := by decide +kernel
theorem dX12_readsNumber_86 : decode cX12_readsNumber 86 = .ok (.iadd, 1) := by decide +kernel
theorem dX12_readsNumber_87 : decode cX12_readsNumber 87 = .ok (.putfield 94, 3) := by decide +kernel
theorem dX12_readsNumber_90 : decode cX12_readsNumber 90 = .ok (.goto (-56), 3) := by decide +kernel
theorem dX12_readsNumber_93 : decode cX12_readsNumber 93 = .ok (.aload_n 0, 1) := by decide +kernel
theorem dX12_readsNumber_94 : decode cX12_readsNumber 94 = .ok (.getfield 94, 3) := by decide +kernel
theorem dX12_readsNumber_97 : decode cX12_readsNumber 97 = .ok (.aload_n 0, 1) := by decide +kernel
theorem dX12_readsNumber_98 : decode cX12_readsNumber 98 = .ok (.getfield 112, 3) := by decide +kernel
theorem dX12_readsNumber_101 : decode cX12_readsNumber 101 = .ok (.isub, 1) := by decide +kernel
theorem dX12_readsNumber_102 : decode cX12_readsNumber 102 = .ok (.iconst 3, 1) := by decide +kernel
theorem dX12_readsNumber_103 : decode cX12_readsNumber 103 = .ok (.if_icmp .gt 12, 3) := by decide +kernel
theorem dX12_readsNumber_106 : decode cX12_readsNumber 106 = .ok (.iload_n 3, 1) := by decide +kernel
theorem dX12_readsNumber_107 : decode cX12_readsNumber 107 = .ok (.iload_n 1, 1) := by decide +kernel
theorem dX12_readsNumber_108 : decode cX12_readsNumber 108 = .ok (.iload_n 2, 1) := by decide +kernel
theorem dX12_readsNumber_109 : decode cX12_readsNumber 109 = .ok (.invokestatic 85, 3) := by decide +kernel
theorem dX12_readsNumber_112 : decode cX12_readsNumber 112 = .ok (.ifCond .ne 15, 3) := by decide +kernel
theorem dX12_readsNumber_115 : decode cX12_readsNumber 115 = .ok (.aload_n 0, 1) := by decide +kernel
theorem dX12_readsNumber_116 : decode cX12_readsNumber 116 = .ok (.iconst 2, 1) := by decide +kernel
theorem dX12_readsNumber_117 : decode cX12_readsNumber 117 = .ok (.aload_n 0, 1) := by decide +kernel
theorem dX12_readsNumber_118 : decode cX12_readsNumber 118 = .ok (.getfield 112, 3) := by decide +kernel
theorem dX12_readsNumber_121 : decode cX12_readsNumber 121 = .ok (.invokevirtual 108, 3) := by decide +kernel
theorem dX12_readsNumber_124 : decode cX12_readsNumber 124 = .ok (.goto 4, 3) := by decide +kernel
theorem dX12_readsNumber_127 : decode cX12_readsNumber 127 = .ok (.iload_n 3, 1) := by decide +kernel
theorem dX12_readsNumber_128 : decode cX12_readsNumber 128 = .ok (.ireturn, 1) := by decide +kernel
set_option maxRecDepth 4000 in
set_option maxHeartbeats 4000000 in
theorem m_X12_readsNumber (l : Launch) (g : qGm) (M : qMem) {t : Int → Int} {L a : Int} (hT : mT M t L a) (hL : 0 ≤ L ∧ L ≤ 240) (hA : 0 ≤ a ∧ a ≤ L) {hi : Int} (hq : 0 ≤ hi ∧ hi ≤ 999) : qOk l g 3 yX12_readsNumber cX12_readsNumber 4 (some .int) [qR g 35 0, qI 0, qI hi] M (fun r N => (∃ z p, r = some z ∧ ((pNf t L hi a = 0 ∧ z = pNv t L a ∧ (0 ≤ z ∧ z ≤ hi) ∧ p = pNq t L a) ∨ (pNf t L hi a ≠ 0 ∧ z = -1 ∧ p = pSk t L a)) ∧ mRd M N (pNf t L hi a) p)) := by
  refine q_ok (by decide +kernel) (Nat.le_of_ble_eq_true rfl) (fun X C' hn => ?_)
  have C := C'.1
  have hpk := pSk_in (t := t) hA.1 hA.2
  have t2 := hT.2.2
  refine q_aloadn C dX12_readsNumber_0 rfl ?_
  refine cv_RX12_104 C (by decide) (m_X12_nextLetter l g _ hT hL hA) dX12_readsNumber_1 (Nat.le_of_ble_eq_true rfl) (fun r1 => ?_)
  refine q_bipush C dX12_readsNumber_4 (by decide) ?_
  refine q_bipush C dX12_readsNumber_6 (by decide) ?_
  refine cv_RX12_85 C (by decide) (m_X12_in l g _ (by first | assumption | omega) (by omega) (by omega)) dX12_readsNumber_8 (Nat.le_of_ble_eq_true rfl) (fun r8 => ?_)
  refine q_ifneB C 24 dX12_readsNumber_11 (by decide) (fun h11 => ?_) (fun h11 => ?_)
  · refine q_aloadn C dX12_readsNumber_24 rfl ?_
    refine q_aloadn C dX12_readsNumber_25 rfl ?_
    refine gf_RX12_94 C dX12_readsNumber_26 (fun r26 => ?_)
    try simp only [q_rd, q_rdS, ↓reduceIte, if_true, if_false, eq_self, Nat.reduceEqDiff, Int.reduceEq, Int.reduceNeg, reduceCtorEq] at r26 ⊢
    refine pf_RX12_112 C (by first | assumption | omega | exact q_tin _ | exact q_bIn _) dX12_readsNumber_29 ?_
    refine q_iconst C dX12_readsNumber_32 ?_
    refine q_istoren C dX12_readsNumber_33 hn (by decide) rfl ?_
    have L34 : ∀ (n34 : Nat) (i : Int) (w : Int) (N : qMem), L - i < (n34 : Int) → ((pSk t L a) ≤ i) → (i ≤ L) → (pDg t L (pSk t L a) = pDg t L i) → (∀ k, (pSk t L a) ≤ k → k < i → 48 ≤ t k ∧ t k ≤ 57) → (0 ≤ w ∧ w ≤ 9999) → (i - (pSk t L a) ≤ 3 → w = pV t (pSk t L a) (i - (pSk t L a)).toNat) → (mRd M N 0 i) → (N 35 0 3 = (pSk t L a)) → (i = (pSk t L a) → 48 ≤ pLt t L i ∧ pLt t L i ≤ 57) → qV l g X N 34 [(0, qR g 35 0), (1, qI 0), (2, qI hi), (3, qI w)] [] := by
      intro n34
      induction n34 with
      | zero => intro i w N hm34 i0 i1 ie id iw iv kN k3 ig; exfalso; first | omega | (simp at *; omega)
      | succ n34 ih34 =>
        intro i w N hm34 i0 i1 ie id iw iv kN k3 ig
        have kA := kN.2.2.1
        have tN := kN.t hT
        have pc : (i < L ∧ pLt t L i = t i) ∨ (i = L ∧ pLt t L i = -1) := by unfold pLt; by_cases e : i < L <;> simp [e] <;> omega
        refine q_aloadn C dX12_readsNumber_34 rfl ?_
        refine q_aloadn C dX12_readsNumber_35 rfl ?_
        refine gf_RX12_94 C dX12_readsNumber_36 (fun r36 => ?_)
        try simp only [q_rd, q_rdS, ↓reduceIte, if_true, if_false, eq_self, Nat.reduceEqDiff, Int.reduceEq, Int.reduceNeg, reduceCtorEq] at r36 ⊢
        rw [kA] at r36 ⊢
        refine cv_RX12_97 C (by decide) (m_X12_letterAt l g _ tN hL (by omega) (by omega)) dX12_readsNumber_39 (Nat.le_of_ble_eq_true rfl) (fun r39 => ?_)
        refine q_bipush C dX12_readsNumber_42 (by decide) ?_
        refine q_bipush C dX12_readsNumber_44 (by decide) ?_
        refine cv_RX12_85 C (by decide) (m_X12_in l g _ (by first | assumption | omega) (by omega) (by omega)) dX12_readsNumber_46 (Nat.le_of_ble_eq_true rfl) (fun r46 => ?_)
        refine q_ifeqB C 93 dX12_readsNumber_49 (by decide) (fun h49 => ?_) (fun h49 => ?_)
        · refine q_aloadn C dX12_readsNumber_93 rfl ?_
          refine gf_RX12_94 C dX12_readsNumber_94 (fun r94 => ?_)
          try simp only [q_rd, q_rdS, ↓reduceIte, if_true, if_false, eq_self, Nat.reduceEqDiff, Int.reduceEq, Int.reduceNeg, reduceCtorEq] at r94 ⊢
          rw [kA] at r94 ⊢
          refine q_aloadn C dX12_readsNumber_97 rfl ?_
          refine gf_RX12_112 C dX12_readsNumber_98 (fun r98 => ?_)
          try simp only [q_rd, q_rdS, ↓reduceIte, if_true, if_false, eq_self, Nat.reduceEqDiff, Int.reduceEq, Int.reduceNeg, reduceCtorEq] at r98 ⊢
          rw [k3] at r98 ⊢
          refine q_isub C dX12_readsNumber_101 ?_
          refine q_iconst C dX12_readsNumber_102 ?_
          refine q_icmp_gt C 115 dX12_readsNumber_103 (by decide) (by first | assumption | omega | exact q_tin _ | exact q_bIn _) (by first | assumption | omega | exact q_tin _ | exact q_bIn _) (fun h103 => ?_) (fun h103 => ?_)
          · refine q_aloadn C dX12_readsNumber_115 rfl ?_
            refine q_iconst C dX12_readsNumber_116 ?_
            refine q_aloadn C dX12_readsNumber_117 rfl ?_
            refine gf_RX12_112 C dX12_readsNumber_118 (fun r118 => ?_)
            try simp only [q_rd, q_rdS, ↓reduceIte, if_true, if_false, eq_self, Nat.reduceEqDiff, Int.reduceEq, Int.reduceNeg, reduceCtorEq] at r118 ⊢
            rw [k3] at r118 ⊢
            refine cv_RX12_108 C (by decide) (m_X12_fails l g _ (by omega) (by omega)) dX12_readsNumber_121 (Nat.le_of_ble_eq_true rfl) (fun r121 => ?_)
            refine q_goto C (tgt := 128) dX12_readsNumber_124 (by decide) ?_
            refine q_iret C' dX12_readsNumber_128 (by first | assumption | omega | exact q_tin _ | exact q_bIn _) ?_
            have e8 : pDg t L i = i := by
              rcases pc with ⟨c1, c2⟩ | ⟨c1, c2⟩
              · exact pTo_y (by omega) c1 (by rw [decide_eq_true_iff]; omega)
              · rw [c1]; exact pTo_e _ _
            have i9 : i ≠ (pSk t L a) := fun q => by have := ig q; omega
            have e9 : pNq t L a = i := by unfold pNq; rw [ie, e8]
            have e10 : pNf t L hi a = (if i = (pSk t L a) then 1 else if 3 < i - (pSk t L a) ∨ hi < pV t (pSk t L a) (i - (pSk t L a)).toNat then 2 else 0) := by unfold pNf; rw [ie, e8]
            have e11 : pNv t L a = pV t (pSk t L a) (i - (pSk t L a)).toNat := by unfold pNv; rw [ie, e8]
            have v2 := fun q : i - (pSk t L a) ≤ 3 => iv q
            first | (have e12 : pNf t L hi a = 2 := (by rw [e10, if_neg i9, if_pos (by omega)]); exact ⟨-1, (pSk t L a), rfl, Or.inr ⟨by omega, rfl, rfl⟩, by rw [e12]; exact kN.fl 2 _⟩) | (have e12 : pNf t L hi a = 0 := (by rw [e10, if_neg i9, if_neg (by omega)]); exact ⟨w, i, rfl, Or.inl ⟨e12, by rw [e11]; exact v2 (by omega), by omega, e9.symm⟩, by rw [e12]; exact kN⟩) | (exfalso; omega)
          · refine q_iloadn C dX12_readsNumber_106 rfl ?_
            refine q_iloadn C dX12_readsNumber_107 rfl ?_
            refine q_iloadn C dX12_readsNumber_108 rfl ?_
            refine cv_RX12_85 C (by decide) (m_X12_in l g _ (by first | assumption | omega) (by omega) (by omega)) dX12_readsNumber_109 (Nat.le_of_ble_eq_true rfl) (fun r109 => ?_)
            refine q_ifneB C 127 dX12_readsNumber_112 (by decide) (fun h112 => ?_) (fun h112 => ?_)
            · refine q_iloadn C dX12_readsNumber_127 rfl ?_
              refine q_iret C' dX12_readsNumber_128 (by first | assumption | omega | exact q_tin _ | exact q_bIn _) ?_
              have e8 : pDg t L i = i := by
                rcases pc with ⟨c1, c2⟩ | ⟨c1, c2⟩
                · exact pTo_y (by omega) c1 (by rw [decide_eq_true_iff]; omega)
                · rw [c1]; exact pTo_e _ _
              have i9 : i ≠ (pSk t L a) := fun q => by have := ig q; omega
              have e9 : pNq t L a = i := by unfold pNq; rw [ie, e8]
              have e10 : pNf t L hi a = (if i = (pSk t L a) then 1 else if 3 < i - (pSk t L a) ∨ hi < pV t (pSk t L a) (i - (pSk t L a)).toNat then 2 else 0) := by unfold pNf; rw [ie, e8]
              have e11 : pNv t L a = pV t (pSk t L a) (i - (pSk t L a)).toNat := by unfold pNv; rw [ie, e8]
              have v2 := fun q : i - (pSk t L a) ≤ 3 => iv q
              first | (have e12 : pNf t L hi a = 2 := (by rw [e10, if_neg i9, if_pos (by omega)]); exact ⟨-1, (pSk t L a), rfl, Or.inr ⟨by omega, rfl, rfl⟩, by rw [e12]; exact kN.fl 2 _⟩) | (have e12 : pNf t L hi a = 0 := (by rw [e10, if_neg i9, if_neg (by omega)]); exact ⟨w, i, rfl, Or.inl ⟨e12, by rw [e11]; exact v2 (by omega), by omega, e9.symm⟩, by rw [e12]; exact kN⟩) | (exfalso; omega)
            · refine q_aloadn C dX12_readsNumber_115 rfl ?_
              refine q_iconst C dX12_readsNumber_116 ?_
              refine q_aloadn C dX12_readsNumber_117 rfl ?_
              refine gf_RX12_112 C dX12_readsNumber_118 (fun r118 => ?_)
              try simp only [q_rd, q_rdS, ↓reduceIte, if_true, if_false, eq_self, Nat.reduceEqDiff, Int.reduceEq, Int.reduceNeg, reduceCtorEq] at r118 ⊢
              rw [k3] at r118 ⊢
              refine cv_RX12_108 C (by decide) (m_X12_fails l g _ (by omega) (by omega)) dX12_readsNumber_121 (Nat.le_of_ble_eq_true rfl) (fun r121 => ?_)
              refine q_goto C (tgt := 128) dX12_readsNumber_124 (by decide) ?_
              refine q_iret C' dX12_readsNumber_128 (by first | assumption | omega | exact q_tin _ | exact q_bIn _) ?_
              have e8 : pDg t L i = i := by
                rcases pc with ⟨c1, c2⟩ | ⟨c1, c2⟩
                · exact pTo_y (by omega) c1 (by rw [decide_eq_true_iff]; omega)
                · rw [c1]; exact pTo_e _ _
              have i9 : i ≠ (pSk t L a) := fun q => by have := ig q; omega
              have e9 : pNq t L a = i := by unfold pNq; rw [ie, e8]
              have e10 : pNf t L hi a = (if i = (pSk t L a) then 1 else if 3 < i - (pSk t L a) ∨ hi < pV t (pSk t L a) (i - (pSk t L a)).toNat then 2 else 0) := by unfold pNf; rw [ie, e8]
              have e11 : pNv t L a = pV t (pSk t L a) (i - (pSk t L a)).toNat := by unfold pNv; rw [ie, e8]
              have v2 := fun q : i - (pSk t L a) ≤ 3 => iv q
              first | (have e12 : pNf t L hi a = 2 := (by rw [e10, if_neg i9, if_pos (by omega)]); exact ⟨-1, (pSk t L a), rfl, Or.inr ⟨by omega, rfl, rfl⟩, by rw [e12]; exact kN.fl 2 _⟩) | (have e12 : pNf t L hi a = 0 := (by rw [e10, if_neg i9, if_neg (by omega)]); exact ⟨w, i, rfl, Or.inl ⟨e12, by rw [e11]; exact v2 (by omega), by omega, e9.symm⟩, by rw [e12]; exact kN⟩) | (exfalso; omega)
        · refine q_iloadn C dX12_readsNumber_52 rfl ?_
          refine q_sipush C dX12_readsNumber_53 (by decide) ?_
          refine q_icmp_le C 63 dX12_readsNumber_56 (by decide) (by first | assumption | omega | exact q_tin _ | exact q_bIn _) (by first | assumption | omega | exact q_tin _ | exact q_bIn _) (fun h56 => ?_) (fun h56 => ?_)
          · refine q_bipush C dX12_readsNumber_63 (by decide) ?_
            refine q_iloadn C dX12_readsNumber_65 rfl ?_
            refine q_imul C dX12_readsNumber_66 ?_
            refine q_aloadn C dX12_readsNumber_67 rfl ?_
            refine q_aloadn C dX12_readsNumber_68 rfl ?_
            refine gf_RX12_94 C dX12_readsNumber_69 (fun r69 => ?_)
            try simp only [q_rd, q_rdS, ↓reduceIte, if_true, if_false, eq_self, Nat.reduceEqDiff, Int.reduceEq, Int.reduceNeg, reduceCtorEq] at r69 ⊢
            rw [kA] at r69 ⊢
            refine cv_RX12_97 C (by decide) (m_X12_letterAt l g _ tN hL (by omega) (by omega)) dX12_readsNumber_72 (Nat.le_of_ble_eq_true rfl) (fun r72 => ?_)
            refine q_iadd C dX12_readsNumber_75 ?_
            refine q_bipush C dX12_readsNumber_76 (by decide) ?_
            refine q_isub C dX12_readsNumber_78 ?_
            refine q_istoren C dX12_readsNumber_79 hn (by decide) rfl ?_
            refine q_aloadn C dX12_readsNumber_80 rfl ?_
            refine q_dup C dX12_readsNumber_81 rfl ?_
            refine gf_RX12_94 C dX12_readsNumber_82 (fun r82 => ?_)
            try simp only [q_rd, q_rdS, ↓reduceIte, if_true, if_false, eq_self, Nat.reduceEqDiff, Int.reduceEq, Int.reduceNeg, reduceCtorEq] at r82 ⊢
            rw [kA] at r82 ⊢
            refine q_iconst C dX12_readsNumber_85 ?_
            refine q_iadd C dX12_readsNumber_86 ?_
            refine pf_RX12_94 C (by first | assumption | omega | exact q_tin _ | exact q_bIn _) dX12_readsNumber_87 ?_
            refine q_goto C (tgt := 34) dX12_readsNumber_90 (by decide) ?_
            exact q_ls (by exact ⟨rfl, rfl, rfl, rfl, trivial⟩) (ih34 (i + 1) _ _ (by omega) (by omega) (by omega) (by rw [ie]; unfold pDg; exact pTo_n (by omega) (by rw [decide_eq_true_iff]; omega)) (by intro k a1 a2; by_cases e : k = i <;> first | (subst e; omega) | exact id k a1 (by omega)) (by omega) (by intro q; rw [pV_s _ _ i0, ← iv (by omega)]; have hb9 := pV_b (t := t) (p := (pSk t L a)) (n := (i - (pSk t L a)).toNat) (by omega) (fun k a1 a2 => id k a1 (by omega)); rw [← iv (by omega)] at hb9; first | (exfalso; omega) | omega) (by exact kN.at _) (by rw [q_upK (by decide)]; exact k3) (by intro q; exfalso; omega))
          · refine q_iloadn C dX12_readsNumber_59 rfl ?_
            refine q_goto C (tgt := 79) dX12_readsNumber_60 (by decide) ?_
            refine q_istoren C dX12_readsNumber_79 hn (by decide) rfl ?_
            refine q_aloadn C dX12_readsNumber_80 rfl ?_
            refine q_dup C dX12_readsNumber_81 rfl ?_
            refine gf_RX12_94 C dX12_readsNumber_82 (fun r82 => ?_)
            try simp only [q_rd, q_rdS, ↓reduceIte, if_true, if_false, eq_self, Nat.reduceEqDiff, Int.reduceEq, Int.reduceNeg, reduceCtorEq] at r82 ⊢
            rw [kA] at r82 ⊢
            refine q_iconst C dX12_readsNumber_85 ?_
            refine q_iadd C dX12_readsNumber_86 ?_
            refine pf_RX12_94 C (by first | assumption | omega | exact q_tin _ | exact q_bIn _) dX12_readsNumber_87 ?_
            refine q_goto C (tgt := 34) dX12_readsNumber_90 (by decide) ?_
            exact q_ls (by exact ⟨rfl, rfl, rfl, rfl, trivial⟩) (ih34 (i + 1) _ _ (by omega) (by omega) (by omega) (by rw [ie]; unfold pDg; exact pTo_n (by omega) (by rw [decide_eq_true_iff]; omega)) (by intro k a1 a2; by_cases e : k = i <;> first | (subst e; omega) | exact id k a1 (by omega)) (by omega) (by intro q; rw [pV_s _ _ i0, ← iv (by omega)]; have hb9 := pV_b (t := t) (p := (pSk t L a)) (n := (i - (pSk t L a)).toNat) (by omega) (fun k a1 a2 => id k a1 (by omega)); rw [← iv (by omega)] at hb9; first | (exfalso; omega) | omega) (by exact kN.at _) (by rw [q_upK (by decide)]; exact k3) (by intro q; exfalso; omega))
    exact q_ls (by exact ⟨rfl, rfl, rfl, rfl, trivial⟩) (L34 1000 (pSk t L a) 0 _ (by omega) (by omega) (by omega) (by rfl) (by intro k a1 a2; omega) (by omega) (by intro _; rw [Int.sub_self]; rfl) (by exact (mRd_at _ _).nu _) (by first | exact q_upO | (rw [q_upO]; done) | simp [q_rd]) (by intro _; omega))
  · refine q_aloadn C dX12_readsNumber_14 rfl ?_
    refine q_iconst C dX12_readsNumber_15 ?_
    refine q_aloadn C dX12_readsNumber_16 rfl ?_
    refine gf_RX12_94 C dX12_readsNumber_17 (fun r17 => ?_)
    try simp only [q_rd, q_rdS, ↓reduceIte, if_true, if_false, eq_self, Nat.reduceEqDiff, Int.reduceEq, Int.reduceNeg, reduceCtorEq] at r17 ⊢
    refine cv_RX12_108 C (by decide) (m_X12_fails l g _ (by omega) (by omega)) dX12_readsNumber_20 (Nat.le_of_ble_eq_true rfl) (fun r20 => ?_)
    refine q_iret C' dX12_readsNumber_23 (by first | assumption | omega | exact q_tin _ | exact q_bIn _) ?_
    have e8 : pDg t L (pSk t L a) = (pSk t L a) := by
      have pc : ((pSk t L a) < L ∧ pLt t L (pSk t L a) = t (pSk t L a)) ∨ ((pSk t L a) = L ∧ pLt t L (pSk t L a) = -1) := by unfold pLt; by_cases e : (pSk t L a) < L <;> simp [e] <;> omega
      first | (by_cases e7 : (pSk t L a) = L <;> first | (rw [e7]; exact pTo_e _ _) | exact pTo_y (by omega) (by omega) (by rw [decide_eq_true_iff]; omega)) 
    have e12 : pNf t L hi a = 1 := by unfold pNf; rw [if_pos e8]
    exact ⟨-1, (pSk t L a), rfl, Or.inr ⟨by omega, rfl, rfl⟩, by rw [e12]; exact (mRd_at _ _).fl 1 _⟩
theorem dX12_readsSign_0 : decode cX12_readsSign 0 = .ok (.aload_n 0, 1) := by decide +kernel
theorem dX12_readsSign_1 : decode cX12_readsSign 1 = .ok (.invokevirtual 104, 3) := by decide +kernel
theorem dX12_readsSign_4 : decode cX12_readsSign 4 = .ok (.iload_n 1, 1) := by decide +kernel
theorem dX12_readsSign_5 : decode cX12_readsSign 5 = .ok (.if_icmp .eq 15, 3) := by decide +kernel
theorem dX12_readsSign_8 : decode cX12_readsSign 8 = .ok (.aload_n 0, 1) := by decide +kernel
theorem dX12_readsSign_9 : decode cX12_readsSign 9 = .ok (.iconst 1, 1) := by decide +kernel
theorem dX12_readsSign_10 : decode cX12_readsSign 10 = .ok (.aload_n 0, 1) := by decide +kernel
theorem dX12_readsSign_11 : decode cX12_readsSign 11 = .ok (.getfield 94, 3) := by decide +kernel
theorem dX12_readsSign_14 : decode cX12_readsSign 14 = .ok (.invokevirtual 108, 3) := by decide +kernel
theorem dX12_readsSign_17 : decode cX12_readsSign 17 = .ok (.pop, 1) := by decide +kernel
theorem dX12_readsSign_18 : decode cX12_readsSign 18 = .ok (.iconst 0, 1) := by decide +kernel
theorem dX12_readsSign_19 : decode cX12_readsSign 19 = .ok (.ireturn, 1) := by decide +kernel
theorem dX12_readsSign_20 : decode cX12_readsSign 20 = .ok (.aload_n 0, 1) := by decide +kernel
theorem dX12_readsSign_21 : decode cX12_readsSign 21 = .ok (.dup, 1) := by decide +kernel
theorem dX12_readsSign_22 : decode cX12_readsSign 22 = .ok (.getfield 94, 3) := by decide +kernel
theorem dX12_readsSign_25 : decode cX12_readsSign 25 = .ok (.iconst 1, 1) := by decide +kernel
theorem dX12_readsSign_26 : decode cX12_readsSign 26 = .ok (.iadd, 1) := by decide +kernel
theorem dX12_readsSign_27 : decode cX12_readsSign 27 = .ok (.putfield 94, 3) := by decide +kernel
theorem dX12_readsSign_30 : decode cX12_readsSign 30 = .ok (.iconst 1, 1) := by decide +kernel
theorem dX12_readsSign_31 : decode cX12_readsSign 31 = .ok (.ireturn, 1) := by decide +kernel
set_option maxRecDepth 4000 in
set_option maxHeartbeats 4000000 in
theorem m_X12_readsSign (l : Launch) (g : qGm) (M : qMem) {t : Int → Int} {L a : Int} (hT : mT M t L a) (hL : 0 ≤ L ∧ L ≤ 240) (hA : 0 ≤ a ∧ a ≤ L) : qOk l g 3 yX12_readsSign cX12_readsSign 2 (some .boolean) [qR g 35 0, qI 59] M (fun r N => (∃ p, r = some (qB (pEf t L a = 0)) ∧ ((pEf t L a = 0 ∧ p = pSk t L a + 1) ∨ (pEf t L a = 1 ∧ p = pSk t L a)) ∧ mRd M N (pEf t L a) p)) := by
  refine q_ok (by decide +kernel) (Nat.le_of_ble_eq_true rfl) (fun X C' hn => ?_)
  have C := C'.1
  have hpk := pSk_in (t := t) hA.1 hA.2
  refine q_aloadn C dX12_readsSign_0 rfl ?_
  refine cv_RX12_104 C (by decide) (m_X12_nextLetter l g _ hT hL hA) dX12_readsSign_1 (Nat.le_of_ble_eq_true rfl) (fun r1 => ?_)
  refine q_iloadn C dX12_readsSign_4 rfl ?_
  refine q_icmp_eq C 20 dX12_readsSign_5 (by decide) (by first | assumption | omega | exact q_tin _ | exact q_bIn _) (by first | assumption | omega | exact q_tin _ | exact q_bIn _) (fun h5 => ?_) (fun h5 => ?_)
  · refine q_aloadn C dX12_readsSign_20 rfl ?_
    refine q_dup C dX12_readsSign_21 rfl ?_
    refine gf_RX12_94 C dX12_readsSign_22 (fun r22 => ?_)
    try simp only [q_rd, q_rdS, ↓reduceIte, if_true, if_false, eq_self, Nat.reduceEqDiff, Int.reduceEq, Int.reduceNeg, reduceCtorEq] at r22 ⊢
    refine q_iconst C dX12_readsSign_25 ?_
    refine q_iadd C dX12_readsSign_26 ?_
    refine pf_RX12_94 C (by first | assumption | omega | exact q_tin _ | exact q_bIn _) dX12_readsSign_27 ?_
    refine q_iconst C dX12_readsSign_30 ?_
    refine q_zret C' dX12_readsSign_31 (by first | omega | exact q_b01 _ | simp) ?_
    have e1 : pEf t L a = 0 := by unfold pEf; rw [if_pos (by omega)]
    exact ⟨(pSk t L a) + 1, congrArg some (q_bT e1).symm, Or.inl ⟨e1, rfl⟩, by rw [e1]; exact (mRd_at _ _).at _⟩
  · refine q_aloadn C dX12_readsSign_8 rfl ?_
    refine q_iconst C dX12_readsSign_9 ?_
    refine q_aloadn C dX12_readsSign_10 rfl ?_
    refine gf_RX12_94 C dX12_readsSign_11 (fun r11 => ?_)
    try simp only [q_rd, q_rdS, ↓reduceIte, if_true, if_false, eq_self, Nat.reduceEqDiff, Int.reduceEq, Int.reduceNeg, reduceCtorEq] at r11 ⊢
    refine cv_RX12_108 C (by decide) (m_X12_fails l g _ (by omega) (by omega)) dX12_readsSign_14 (Nat.le_of_ble_eq_true rfl) (fun r14 => ?_)
    refine q_pop C dX12_readsSign_17 rfl ?_
    refine q_iconst C dX12_readsSign_18 ?_
    refine q_zret C' dX12_readsSign_19 (by first | omega | exact q_b01 _ | simp) ?_
    have e1 : pEf t L a = 1 := by unfold pEf; rw [if_neg (by omega)]
    exact ⟨(pSk t L a), congrArg some (q_bF (by omega)).symm, Or.inr ⟨e1, rfl⟩, by rw [e1]; exact (mRd_at _ _).fl 1 _⟩
