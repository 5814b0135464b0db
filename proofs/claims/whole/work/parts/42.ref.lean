def mSh (M : qMem) (i : Int) : qMem := qSet M 61 0 (fun j => if 99 + i < j ∧ j ≤ 198 then M 61 0 (j - 5) else M 61 0 j)
theorem mSh_s {M : qMem} {i : Int} (h : 5 ≤ i ∧ i ≤ 99) : qUp (mSh M i) 61 0 (99 + i) (M 61 0 (99 + i - 5)) = mSh M (i + -1) := by
  unfold mSh
  rw [q_upSet]
  refine q_setC (fun k => ?_)
  by_cases e : k = 99 + i
  · rw [if_pos e, if_pos (by omega), e]
  · rw [if_neg e]
    by_cases q : 99 + i < k ∧ k ≤ 198
    · rw [if_pos q, if_pos (by omega)]
    · rw [if_neg q, if_neg (by omega)]
def mDy (M : qMem) (i : Int) : qMem := qSet M 61 0 (fun j => if 2 ≤ j ∧ j < 2 + i then xHard (M 61 0 1) (M 61 0 j) (j - 2) else M 61 0 j)
theorem mDy_s {M : qMem} {i z : Int} (h : 0 ≤ i) (hz : z = xHard (M 61 0 1) (M 61 0 (2 + i)) i) : qUp (mDy M i) 61 0 (2 + i) z = mDy M (i + 1) := by
  unfold mDy
  rw [q_upSet]
  refine q_setC (fun k => ?_)
  by_cases e : k = 2 + i
  · rw [if_pos e, if_pos (by omega), e, hz, show 2 + i - 2 = i by omega]
  · rw [if_neg e]
    by_cases q : 2 ≤ k ∧ k < 2 + i
    · rw [if_pos q, if_pos (by omega)]
    · rw [if_neg q, if_neg (by omega)]
theorem mRow_fr {M : qMem} {f : Int → Int} {j u : Nat} (h : ¬ (j = 61 ∧ u = 0)) : qSet M 61 0 f j u = M j u := q_setF h
theorem mRow_dp (M : qMem) (f : Int → Int) : mDP M (qSet M 61 0 f) := ⟨fun j u q => mRow_fr (by omega), fun i _ _ _ => by rw [mRow_fr (by omega)]⟩
theorem mRow_z (M : qMem) (f : Int → Int) : zM (qSet M 61 0 f) = zRow (zM M) f := by
  funext a b c
  unfold zM zRow
  rw [q_setOn, mRow_fr (j := 67) (by omega), mRow_fr (j := 35) (by omega), mRow_fr (j := 76) (by omega), mRow_fr (j := 75) (by omega), mRow_fr (j := 77) (by omega)]
  by_cases e : a = 0
  · rw [if_pos e, if_pos e]
  · simp only [if_neg e]
def mVisit (M : qMem) (sd : sSD) (c h a : Int) : qMem := qSet M 61 0 (vVisit sd (M 61 0) c h a)
theorem q_memEq {l : Launch} {g : qGm} {X : qCt} {M N : qMem} {pc : Nat} {ls : List (Nat × Value)} {st : List Value} (h : M = N) (k : qV l g X N pc ls st) : qV l g X M pc ls st := by rw [h]; exact k
theorem dX12_enters_0 : decode cX12_enters 0 = .ok (.bipush 99, 2) := by decide +kernel
theorem dX12_enters_2 : decode cX12_enters 2 = .ok (.istore 5, 2) := by decide +kernel
theorem dX12_enters_4 : decode cX12_enters 4 = .ok (.iload 5, 2) := by decide +kernel
theorem dX12_enters_6 : decode cX12_enters 6 = .ok (.iconst 5, 1) := by decide +kernel
theorem dX12_enters_7 : decode cX12_enters 7 = .ok (.if_icmp .lt 31, 3) := by decide +kernel
theorem dX12_enters_10 : decode cX12_enters 10 = .ok (.aload_n 0, 1) := by decide +kernel
theorem dX12_enters_11 : decode cX12_enters 11 = .ok (.getfield 47, 3) := by decide +kernel
theorem dX12_enters_14 : decode cX12_enters 14 = .ok (.bipush 99, 2) := by decide +kernel
theorem dX12_enters_16 : decode cX12_enters 16 = .ok (.iload 5, 2) := by decide +kernel
theorem dX12_enters_18 : decode cX12_enters 18 = .ok (.iadd, 1) := by decide +kernel
theorem dX12_enters_19 : decode cX12_enters 19 = .ok (.aload_n 0, 1) := by decide +kernel
theorem dX12_enters_20 : decode cX12_enters 20 = .ok (.getfield 47, 3) := by decide +kernel
theorem dX12_enters_23 : decode cX12_enters 23 = .ok (.bipush 99, 2) := by decide +kernel
theorem dX12_enters_25 : decode cX12_enters 25 = .ok (.iload 5, 2) := by decide +kernel
theorem dX12_enters_27 : decode cX12_enters 27 = .ok (.iadd, 1) := by decide +kernel
theorem dX12_enters_28 : decode cX12_enters 28 = .ok (.iconst 5, 1) := by decide +kernel
theorem dX12_enters_29 : decode cX12_enters 29 = .ok (.isub, 1) := by decide +kernel
theorem dX12_enters_30 : decode cX12_enters 30 = .ok (.iaload, 1) := by decide +kernel
theorem dX12_enters_31 : decode cX12_enters 31 = .ok (.iastore, 1) := by decide +kernel
theorem dX12_enters_32 : decode cX12_enters 32 = .ok (.iinc 5 (-1), 3) := by decide +kernel
theorem dX12_enters_35 : decode cX12_enters 35 = .ok (.goto (-31), 3) := by decide +kernel
theorem dX12_enters_38 : decode cX12_enters 38 = .ok (.aload_n 0, 1) := by decide +kernel
theorem dX12_enters_39 : decode cX12_enters 39 = .ok (.getfield 47, 3) := by decide +kernel
theorem dX12_enters_42 : decode cX12_enters 42 = .ok (.bipush 99, 2) := by decide +kernel
theorem dX12_enters_44 : decode cX12_enters 44 = .ok (.aload_n 0, 1) := by decide +kernel
theorem dX12_enters_45 : decode cX12_enters 45 = .ok (.getfield 47, 3) := by decide +kernel
theorem dX12_enters_48 : decode cX12_enters 48 = .ok (.iconst 0, 1) := by decide +kernel
theorem dX12_enters_49 : decode cX12_enters 49 = .ok (.iaload, 1) := by decide +kernel
theorem dX12_enters_50 : decode cX12_enters 50 = .ok (.iastore, 1) := by decide +kernel
theorem dX12_enters_51 : decode cX12_enters 51 = .ok (.aload_n 0, 1) := by decide +kernel
theorem dX12_enters_52 : decode cX12_enters 52 = .ok (.getfield 47, 3) := by decide +kernel
theorem dX12_enters_55 : decode cX12_enters 55 = .ok (.bipush 100, 2) := by decide +kernel
theorem dX12_enters_57 : decode cX12_enters 57 = .ok (.iload_n 1, 1) := by decide +kernel
theorem dX12_enters_58 : decode cX12_enters 58 = .ok (.iastore, 1) := by decide +kernel
theorem dX12_enters_59 : decode cX12_enters 59 = .ok (.aload_n 0, 1) := by decide +kernel
theorem dX12_enters_60 : decode cX12_enters 60 = .ok (.getfield 47, 3) := by decide +kernel
theorem dX12_enters_63 : decode cX12_enters 63 = .ok (.bipush 101, 2) := by decide +kernel
theorem dX12_enters_65 : decode cX12_enters 65 = .ok (.iload_n 2, 1) := by decide +kernel
theorem dX12_enters_66 : decode cX12_enters 66 = .ok (.iastore, 1) := by decide +kernel
theorem dX12_enters_67 : decode cX12_enters 67 = .ok (.aload_n 0, 1) := by decide +kernel
theorem dX12_enters_68 : decode cX12_enters 68 = .ok (.getfield 47, 3) := by decide +kernel
theorem dX12_enters_71 : decode cX12_enters 71 = .ok (.bipush 102, 2) := by decide +kernel
theorem dX12_enters_73 : decode cX12_enters 73 = .ok (.iload_n 3, 1) := by decide +kernel
theorem dX12_enters_74 : decode cX12_enters 74 = .ok (.iastore, 1) := by decide +kernel
theorem dX12_enters_75 : decode cX12_enters 75 = .ok (.aload_n 0, 1) := by decide +kernel
theorem dX12_enters_76 : decode cX12_enters 76 = .ok (.getfield 47, 3) := by decide +kernel
theorem dX12_enters_79 : decode cX12_enters 79 = .ok (.bipush 103, 2) := by decide +kernel
theorem dX12_enters_81 : decode cX12_enters 81 = .ok (.iload 4, 2) := by decide +kernel
theorem dX12_enters_83 : decode cX12_enters 83 = .ok (.iastore, 1) := by decide +kernel
theorem dX12_enters_84 : decode cX12_enters 84 = .ok (.aload_n 0, 1) := by decide +kernel
theorem dX12_enters_85 : decode cX12_enters 85 = .ok (.getfield 47, 3) := by decide +kernel
theorem dX12_enters_88 : decode cX12_enters 88 = .ok (.bipush 98, 2) := by decide +kernel
theorem dX12_enters_90 : decode cX12_enters 90 = .ok (.dup2, 1) := by decide +kernel
theorem dX12_enters_91 : decode cX12_enters 91 = .ok (.iaload, 1) := by decide +kernel
theorem dX12_enters_92 : decode cX12_enters 92 = .ok (.aload_n 0, 1) := by decide +kernel
theorem dX12_enters_93 : decode cX12_enters 93 = .ok (.getfield 47, 3) := by decide +kernel
theorem dX12_enters_96 : decode cX12_enters 96 = .ok (.bipush 98, 2) := by decide +kernel
theorem dX12_enters_98 : decode cX12_enters 98 = .ok (.iaload, 1) := by decide +kernel
theorem dX12_enters_99 : decode cX12_enters 99 = .ok (.bipush 20, 2) := by decide +kernel
theorem dX12_enters_101 : decode cX12_enters 101 = .ok (.if_icmp .ge 7, 3) := by decide +kernel
theorem dX12_enters_104 : decode cX12_enters 104 = .ok (.iconst 1, 1) := by decide +kernel
theorem dX12_enters_105 : decode cX12_enters 105 = .ok (.goto 4, 3) := by decide +kernel
theorem dX12_enters_108 : decode cX12_enters 108 = .ok (.iconst 0, 1) := by decide +kernel
theorem dX12_enters_109 : decode cX12_enters 109 = .ok (.iadd, 1) := by decide +kernel
theorem dX12_enters_110 : decode cX12_enters 110 = .ok (.iastore, 1) := by decide +kernel
theorem dX12_enters_111 : decode cX12_enters 111 = .ok (.return_, 1) := by decide +kernel
set_option maxRecDepth 4000 in
set_option maxHeartbeats 4000000 in
theorem m_X12_enters (l : Launch) (g : qGm) (M : qMem) {c : Int} (hcq : qIn c) {h : Int} (hhq : qIn h) {a : Int} (haq : qIn a) {r : Int} (hrq : qIn r) (hl : 0 ≤ M 61 0 98 ∧ M 61 0 98 ≤ 20) : qOk l g 1 yX12_enters cX12_enters 6 none [qR g 35 0, qI c, qI h, qI a, qI r] M (qEv none (qSet M 61 0 (vEnter (M 61 0) c h a r))) := by
  refine q_ok (by decide +kernel) (Nat.le_of_ble_eq_true rfl) (fun X C' hn => ?_)
  have C := C'.1
  refine q_bipush C dX12_enters_0 (by decide) ?_
  refine q_istore C dX12_enters_2 hn (by decide) rfl ?_
  have L4 : ∀ (n4 : Nat) (i : Int) (N : qMem), i < (n4 : Int) → (4 ≤ i) → (i ≤ 99) → (N = mSh M i) → qV l g X N 4 [(0, qR g 35 0), (1, qI c), (2, qI h), (3, qI a), (4, qI r), (5, qI i)] [] := by
    intro n4
    induction n4 with
    | zero => intro i N hm4 i0 i1 hN; exfalso; first | omega | (simp at *; omega)
    | succ n4 ih4 =>
      intro i N hm4 i0 i1 hN
      subst hN
      have n1 : mSh M i 61 0 (99 + i - 5) = M 61 0 (99 + i - 5) := by unfold mSh; rw [q_setOn, if_neg (by omega)]
      have n2 : mSh M i 61 0 0 = M 61 0 0 := by unfold mSh; rw [q_setOn, if_neg (by omega)]
      have n3 : mSh M i 61 0 98 = M 61 0 98 := by unfold mSh; rw [q_setOn, if_neg (by omega)]
      refine q_iload C dX12_enters_4 rfl ?_
      refine q_iconst C dX12_enters_6 ?_
      refine q_icmp_lt C 38 dX12_enters_7 (by decide) (by first | assumption | omega | exact q_tin _ | exact q_bIn _) (by first | assumption | omega | exact q_tin _ | exact q_bIn _) (fun h7 => ?_) (fun h7 => ?_)
      · refine q_aloadn C dX12_enters_38 rfl ?_
        refine gf_RX12_47 C dX12_enters_39 ?_
        refine q_bipush C dX12_enters_42 (by decide) ?_
        refine q_aloadn C dX12_enters_44 rfl ?_
        refine gf_RX12_47 C dX12_enters_45 ?_
        refine q_iconst C dX12_enters_48 ?_
        refine q_iald C (by first | assumption | decide | omega) rfl dX12_enters_49 (by omega) (by omega) (by decide) (fun r49 => ?_)
        try simp only [q_rd, q_rdS, ↓reduceIte, if_true, if_false, eq_self, Nat.reduceEqDiff, Int.reduceEq, Int.reduceNeg, reduceCtorEq, n1, n2, n3] at r49 ⊢
        refine q_iast C (by first | assumption | decide | omega) (fun _ => rfl) dX12_enters_50 (by omega) (by omega) (by decide) (by first | assumption | omega | exact q_tin _ | exact q_bIn _) ?_
        refine q_aloadn C dX12_enters_51 rfl ?_
        refine gf_RX12_47 C dX12_enters_52 ?_
        refine q_bipush C dX12_enters_55 (by decide) ?_
        refine q_iloadn C dX12_enters_57 rfl ?_
        refine q_iast C (by first | assumption | decide | omega) (fun _ => rfl) dX12_enters_58 (by omega) (by omega) (by decide) (by first | assumption | omega | exact q_tin _ | exact q_bIn _) ?_
        refine q_aloadn C dX12_enters_59 rfl ?_
        refine gf_RX12_47 C dX12_enters_60 ?_
        refine q_bipush C dX12_enters_63 (by decide) ?_
        refine q_iloadn C dX12_enters_65 rfl ?_
        refine q_iast C (by first | assumption | decide | omega) (fun _ => rfl) dX12_enters_66 (by omega) (by omega) (by decide) (by first | assumption | omega | exact q_tin _ | exact q_bIn _) ?_
        refine q_aloadn C dX12_enters_67 rfl ?_
        refine gf_RX12_47 C dX12_enters_68 ?_
        refine q_bipush C dX12_enters_71 (by decide) ?_
        refine q_iloadn C dX12_enters_73 rfl ?_
        refine q_iast C (by first | assumption | decide | omega) (fun _ => rfl) dX12_enters_74 (by omega) (by omega) (by decide) (by first | assumption | omega | exact q_tin _ | exact q_bIn _) ?_
        refine q_aloadn C dX12_enters_75 rfl ?_
        refine gf_RX12_47 C dX12_enters_76 ?_
        refine q_bipush C dX12_enters_79 (by decide) ?_
        refine q_iload C dX12_enters_81 rfl ?_
        refine q_iast C (by first | assumption | decide | omega) (fun _ => rfl) dX12_enters_83 (by omega) (by omega) (by decide) (by first | assumption | omega | exact q_tin _ | exact q_bIn _) ?_
        refine q_aloadn C dX12_enters_84 rfl ?_
        refine gf_RX12_47 C dX12_enters_85 ?_
        refine q_bipush C dX12_enters_88 (by decide) ?_
        refine q_dup2 C dX12_enters_90 rfl rfl ?_
        refine q_iald C (by first | assumption | decide | omega) rfl dX12_enters_91 (by omega) (by omega) (by decide) (fun r91 => ?_)
        try simp only [q_rd, q_rdS, ↓reduceIte, if_true, if_false, eq_self, Nat.reduceEqDiff, Int.reduceEq, Int.reduceNeg, reduceCtorEq, n1, n2, n3] at r91 ⊢
        refine q_aloadn C dX12_enters_92 rfl ?_
        refine gf_RX12_47 C dX12_enters_93 ?_
        refine q_bipush C dX12_enters_96 (by decide) ?_
        refine q_iald C (by first | assumption | decide | omega) rfl dX12_enters_98 (by omega) (by omega) (by decide) (fun r98 => ?_)
        try simp only [q_rd, q_rdS, ↓reduceIte, if_true, if_false, eq_self, Nat.reduceEqDiff, Int.reduceEq, Int.reduceNeg, reduceCtorEq, n1, n2, n3] at r98 ⊢
        refine q_bipush C dX12_enters_99 (by decide) ?_
        refine q_icmp_ge C 108 dX12_enters_101 (by decide) (by first | assumption | omega | exact q_tin _ | exact q_bIn _) (by first | assumption | omega | exact q_tin _ | exact q_bIn _) (fun h101 => ?_) (fun h101 => ?_)
        · refine q_iconst C dX12_enters_108 ?_
          refine q_iadd C dX12_enters_109 ?_
          refine q_iast C (by first | assumption | decide | omega) (fun _ => rfl) dX12_enters_110 (by omega) (by omega) (by decide) (by first | assumption | omega | exact q_tin _ | exact q_bIn _) ?_
          refine q_vret C' dX12_enters_111 ?_
          have e9 : i = 4 := (by omega)
          refine ⟨rfl, ?_⟩
          rw [e9]
          unfold mSh
          simp only [q_upSet]
          refine q_setC (fun k => ?_)
          unfold vEnter
          rcases (show k = 98 ∨ k = 99 ∨ k = 100 ∨ k = 101 ∨ k = 102 ∨ k = 103 ∨ (104 ≤ k ∧ k ≤ 198) ∨ ¬ (98 ≤ k ∧ k ≤ 198) by omega) with q | q | q | q | q | q | q | q
          · subst q
            first | (rw [if_pos (show M 61 0 98 < 20 by omega)]; simp; done) | (rw [if_neg (show ¬ M 61 0 98 < 20 by omega)]; simp; done)
          · subst q; simp
          · subst q; simp
          · subst q; simp
          · subst q; simp
          · subst q; simp
          · rw [if_pos q]; repeat rw [if_neg (by omega)]
            rw [if_pos (by omega)]
          · repeat rw [if_neg (by omega)]
        · refine q_iconst C dX12_enters_104 ?_
          refine q_goto C (tgt := 109) dX12_enters_105 (by decide) ?_
          refine q_iadd C dX12_enters_109 ?_
          refine q_iast C (by first | assumption | decide | omega) (fun _ => rfl) dX12_enters_110 (by omega) (by omega) (by decide) (by first | assumption | omega | exact q_tin _ | exact q_bIn _) ?_
          refine q_vret C' dX12_enters_111 ?_
          have e9 : i = 4 := (by omega)
          refine ⟨rfl, ?_⟩
          rw [e9]
          unfold mSh
          simp only [q_upSet]
          refine q_setC (fun k => ?_)
          unfold vEnter
          rcases (show k = 98 ∨ k = 99 ∨ k = 100 ∨ k = 101 ∨ k = 102 ∨ k = 103 ∨ (104 ≤ k ∧ k ≤ 198) ∨ ¬ (98 ≤ k ∧ k ≤ 198) by omega) with q | q | q | q | q | q | q | q
          · subst q
            first | (rw [if_pos (show M 61 0 98 < 20 by omega)]; simp; done) | (rw [if_neg (show ¬ M 61 0 98 < 20 by omega)]; simp; done)
          · subst q; simp
          · subst q; simp
          · subst q; simp
          · subst q; simp
          · subst q; simp
          · rw [if_pos q]; repeat rw [if_neg (by omega)]
            rw [if_pos (by omega)]
          · repeat rw [if_neg (by omega)]
      · refine q_aloadn C dX12_enters_10 rfl ?_
        refine gf_RX12_47 C dX12_enters_11 ?_
        refine q_bipush C dX12_enters_14 (by decide) ?_
        refine q_iload C dX12_enters_16 rfl ?_
        refine q_iadd C dX12_enters_18 ?_
        refine q_aloadn C dX12_enters_19 rfl ?_
        refine gf_RX12_47 C dX12_enters_20 ?_
        refine q_bipush C dX12_enters_23 (by decide) ?_
        refine q_iload C dX12_enters_25 rfl ?_
        refine q_iadd C dX12_enters_27 ?_
        refine q_iconst C dX12_enters_28 ?_
        refine q_isub C dX12_enters_29 ?_
        refine q_iald C (by first | assumption | decide | omega) rfl dX12_enters_30 (by omega) (by omega) (by decide) (fun r30 => ?_)
        try simp only [q_rd, q_rdS, ↓reduceIte, if_true, if_false, eq_self, Nat.reduceEqDiff, Int.reduceEq, Int.reduceNeg, reduceCtorEq, n1, n2, n3] at r30 ⊢
        refine q_iast C (by first | assumption | decide | omega) (fun _ => rfl) dX12_enters_31 (by omega) (by omega) (by decide) (by first | assumption | omega | exact q_tin _ | exact q_bIn _) ?_
        refine q_iinc C dX12_enters_32 rfl hn (by decide) rfl ?_
        refine q_goto C (tgt := 4) dX12_enters_35 (by decide) ?_
        exact q_ls (by exact ⟨rfl, rfl, rfl, rfl, rfl, rfl, trivial⟩) (ih4 (i + -1) _ (by omega) (by omega) (by omega) (by exact mSh_s (by omega)))
  exact q_ls (by exact ⟨rfl, rfl, rfl, rfl, rfl, rfl, trivial⟩) (L4 1000 99 M (by omega) (by omega) (by omega) (by unfold mSh; exact (q_setC0 (fun k => if_neg (by omega))).symm))
theorem dX12_needDays_0 : decode cX12_needDays 0 = .ok (.iload_n 1, 1) := by decide +kernel
theorem dX12_needDays_1 : decode cX12_needDays 1 = .ok (.iconst 1, 1) := by decide +kernel
theorem dX12_needDays_2 : decode cX12_needDays 2 = .ok (.bipush 30, 2) := by decide +kernel
theorem dX12_needDays_4 : decode cX12_needDays 4 = .ok (.invokestatic 85, 3) := by decide +kernel
theorem dX12_needDays_7 : decode cX12_needDays 7 = .ok (.ifCond .ne 8, 3) := by decide +kernel
theorem dX12_needDays_10 : decode cX12_needDays 10 = .ok (.ldc 89, 2) := by decide +kernel
theorem dX12_needDays_12 : decode cX12_needDays 12 = .ok (.goto 32, 3) := by decide +kernel
theorem dX12_needDays_15 : decode cX12_needDays 15 = .ok (.aload_n 0, 1) := by decide +kernel
theorem dX12_needDays_16 : decode cX12_needDays 16 = .ok (.invokevirtual 189, 3) := by decide +kernel
theorem dX12_needDays_19 : decode cX12_needDays 19 = .ok (.ifCond .ne 8, 3) := by decide +kernel
theorem dX12_needDays_22 : decode cX12_needDays 22 = .ok (.ldc 224, 2) := by decide +kernel
theorem dX12_needDays_24 : decode cX12_needDays 24 = .ok (.goto 20, 3) := by decide +kernel
theorem dX12_needDays_27 : decode cX12_needDays 27 = .ok (.aload_n 0, 1) := by decide +kernel
theorem dX12_needDays_28 : decode cX12_needDays 28 = .ok (.getfield 47, 3) := by decide +kernel
theorem dX12_needDays_31 : decode cX12_needDays 31 = .ok (.iconst 0, 1) := by decide +kernel
theorem dX12_needDays_32 : decode cX12_needDays 32 = .ok (.iaload, 1) := by decide +kernel
theorem dX12_needDays_33 : decode cX12_needDays 33 = .ok (.ldc 241, 2) := by decide +kernel
theorem dX12_needDays_35 : decode cX12_needDays 35 = .ok (.if_icmp .le 8, 3) := by decide +kernel
theorem dX12_needDays_38 : decode cX12_needDays 38 = .ok (.ldc 93, 2) := by decide +kernel
theorem dX12_needDays_40 : decode cX12_needDays 40 = .ok (.goto 4, 3) := by decide +kernel
theorem dX12_needDays_43 : decode cX12_needDays 43 = .ok (.iconst 0, 1) := by decide +kernel
theorem dX12_needDays_44 : decode cX12_needDays 44 = .ok (.ireturn, 1) := by decide +kernel
set_option maxRecDepth 4000 in
set_option maxHeartbeats 4000000 in
theorem m_X12_needDays (l : Launch) (g : qGm) (M : qMem) {sd : sSD} (hs : sRS sd) (hS : mS M sd) (hv : sRR (sd 4 0) (sd 5 0) (M 61 0)) {k : Int} (hkq : qIn k) : qOk l g 2 yX12_needDays cX12_needDays 2 (some .int) [qR g 35 0, qI k] M (qEv (some (dNo sd (zM M) k)) M) := by
  refine q_ok (by decide +kernel) (Nat.le_of_ble_eq_true rfl) (fun X C' hn => ?_)
  have C := C'.1
  have km := hs.2.1
  have kn := hs.2.2.1
  have hmn := hs.1
  have w0 := hS.1
  have w1 := hS.2.1
  have w2 := hS.2.2.1
  have vd := hv.1
  have z0 : zM M 0 0 0 = M 61 0 0 := rfl
  refine q_iloadn C dX12_needDays_0 rfl ?_
  refine q_iconst C dX12_needDays_1 ?_
  refine q_bipush C dX12_needDays_2 (by decide) ?_
  refine cv_RX12_85 C (by decide) (m_X12_in l g _ (by omega) (by omega) (by omega)) dX12_needDays_4 (Nat.le_of_ble_eq_true rfl) (fun r4 => ?_)
  refine q_ifneB C 15 dX12_needDays_7 (by decide) (fun h7 => ?_) (fun h7 => ?_)
  · refine q_aloadn C dX12_needDays_15 rfl ?_
    refine cv_RX12_189 C (by decide) (m_X12_isSeason l g _ hs hS) dX12_needDays_16 (Nat.le_of_ble_eq_true rfl) (fun r16 => ?_)
    refine q_ifneB C 27 dX12_needDays_19 (by decide) (fun h19 => ?_) (fun h19 => ?_)
    · refine q_aloadn C dX12_needDays_27 rfl ?_
      refine gf_RX12_47 C dX12_needDays_28 ?_
      refine q_iconst C dX12_needDays_31 ?_
      refine q_iald C (by first | assumption | decide | omega) rfl dX12_needDays_32 (by omega) (by omega) (by decide) (fun r32 => ?_)
      refine q_ldc C (z := 90000) q_ci_RX12_241 (by decide) dX12_needDays_33 ?_
      refine q_icmp_le C 43 dX12_needDays_35 (by decide) (by first | assumption | omega | exact q_tin _ | exact q_bIn _) (by first | assumption | omega | exact q_tin _ | exact q_bIn _) (fun h35 => ?_) (fun h35 => ?_)
      · refine q_iconst C dX12_needDays_43 ?_
        refine q_iret C' dX12_needDays_44 (by first | assumption | omega | exact q_tin _ | exact q_bIn _) ?_
        refine ⟨congrArg some ?_, rfl⟩
        unfold dNo
        rw [z0]
        first | (rw [if_neg (by omega)]; done) | (rw [if_pos (by omega), if_pos (by omega)]; done) | (rw [if_pos (by omega), if_neg (by omega), if_pos (by omega)]; done) | (rw [if_pos (by omega), if_neg (by omega), if_neg (by omega)]; done)
      · refine q_ldc C (z := -1000000004) q_ci_RX12_93 (by decide) dX12_needDays_38 ?_
        refine q_goto C (tgt := 44) dX12_needDays_40 (by decide) ?_
        refine q_iret C' dX12_needDays_44 (by first | assumption | omega | exact q_tin _ | exact q_bIn _) ?_
        refine ⟨congrArg some ?_, rfl⟩
        unfold dNo
        rw [z0]
        first | (rw [if_neg (by omega)]; done) | (rw [if_pos (by omega), if_pos (by omega)]; done) | (rw [if_pos (by omega), if_neg (by omega), if_pos (by omega)]; done) | (rw [if_pos (by omega), if_neg (by omega), if_neg (by omega)]; done)
    · refine q_ldc C (z := -1000000003) q_ci_RX12_224 (by decide) dX12_needDays_22 ?_
      refine q_goto C (tgt := 44) dX12_needDays_24 (by decide) ?_
      refine q_iret C' dX12_needDays_44 (by first | assumption | omega | exact q_tin _ | exact q_bIn _) ?_
      refine ⟨congrArg some ?_, rfl⟩
      unfold dNo
      rw [z0]
      first | (rw [if_neg (by omega)]; done) | (rw [if_pos (by omega), if_pos (by omega)]; done) | (rw [if_pos (by omega), if_neg (by omega), if_pos (by omega)]; done) | (rw [if_pos (by omega), if_neg (by omega), if_neg (by omega)]; done)
  · refine q_ldc C (z := -1000000002) q_ci_RX12_89 (by decide) dX12_needDays_10 ?_
    refine q_goto C (tgt := 44) dX12_needDays_12 (by decide) ?_
    refine q_iret C' dX12_needDays_44 (by first | assumption | omega | exact q_tin _ | exact q_bIn _) ?_
    refine ⟨congrArg some ?_, rfl⟩
    unfold dNo
    rw [z0]
    first | (rw [if_neg (by omega)]; done) | (rw [if_pos (by omega), if_pos (by omega)]; done) | (rw [if_pos (by omega), if_neg (by omega), if_pos (by omega)]; done) | (rw [if_pos (by omega), if_neg (by omega), if_neg (by omega)]; done)
theorem dX12_days_0 : decode cX12_days 0 = .ok (.iconst 0, 1) := by decide +kernel
theorem dX12_days_1 : decode cX12_days 1 = .ok (.istore_n 1, 1) := by decide +kernel
theorem dX12_days_2 : decode cX12_days 2 = .ok (.iload_n 1, 1) := by decide +kernel
theorem dX12_days_3 : decode cX12_days 3 = .ok (.aload_n 0, 1) := by decide +kernel
theorem dX12_days_4 : decode cX12_days 4 = .ok (.getfield 150, 3) := by decide +kernel
theorem dX12_days_7 : decode cX12_days 7 = .ok (.if_icmp .ge 65, 3) := by decide +kernel
theorem dX12_days_10 : decode cX12_days 10 = .ok (.aload_n 0, 1) := by decide +kernel
theorem dX12_days_11 : decode cX12_days 11 = .ok (.getfield 47, 3) := by decide +kernel
theorem dX12_days_14 : decode cX12_days 14 = .ok (.iconst 2, 1) := by decide +kernel
theorem dX12_days_15 : decode cX12_days 15 = .ok (.iload_n 1, 1) := by decide +kernel
theorem dX12_days_16 : decode cX12_days 16 = .ok (.iadd, 1) := by decide +kernel
theorem dX12_days_17 : decode cX12_days 17 = .ok (.iaload, 1) := by decide +kernel
theorem dX12_days_18 : decode cX12_days 18 = .ok (.aload_n 0, 1) := by decide +kernel
theorem dX12_days_19 : decode cX12_days 19 = .ok (.getfield 47, 3) := by decide +kernel
theorem dX12_days_22 : decode cX12_days 22 = .ok (.iconst 1, 1) := by decide +kernel
theorem dX12_days_23 : decode cX12_days 23 = .ok (.iaload, 1) := by decide +kernel
theorem dX12_days_24 : decode cX12_days 24 = .ok (.iload_n 1, 1) := by decide +kernel
theorem dX12_days_25 : decode cX12_days 25 = .ok (.invokestatic 168, 3) := by decide +kernel
theorem dX12_days_28 : decode cX12_days 28 = .ok (.ifCond .eq 7, 3) := by decide +kernel
theorem dX12_days_31 : decode cX12_days 31 = .ok (.iconst 1, 1) := by decide +kernel
theorem dX12_days_32 : decode cX12_days 32 = .ok (.goto 4, 3) := by decide +kernel
theorem dX12_days_35 : decode cX12_days 35 = .ok (.iconst (-1), 1) := by decide +kernel
theorem dX12_days_36 : decode cX12_days 36 = .ok (.iadd, 1) := by decide +kernel
theorem dX12_days_37 : decode cX12_days 37 = .ok (.istore_n 2, 1) := by decide +kernel
theorem dX12_days_38 : decode cX12_days 38 = .ok (.aload_n 0, 1) := by decide +kernel
theorem dX12_days_39 : decode cX12_days 39 = .ok (.getfield 47, 3) := by decide +kernel
theorem dX12_days_42 : decode cX12_days 42 = .ok (.iconst 2, 1) := by decide +kernel
theorem dX12_days_43 : decode cX12_days 43 = .ok (.iload_n 1, 1) := by decide +kernel
theorem dX12_days_44 : decode cX12_days 44 = .ok (.iadd, 1) := by decide +kernel
theorem dX12_days_45 : decode cX12_days 45 = .ok (.iload_n 2, 1) := by decide +kernel
theorem dX12_days_46 : decode cX12_days 46 = .ok (.bipush 40, 2) := by decide +kernel
theorem dX12_days_48 : decode cX12_days 48 = .ok (.if_icmp .le 8, 3) := by decide +kernel
theorem dX12_days_51 : decode cX12_days 51 = .ok (.bipush 40, 2) := by decide +kernel
theorem dX12_days_53 : decode cX12_days 53 = .ok (.goto 12, 3) := by decide +kernel
theorem dX12_days_56 : decode cX12_days 56 = .ok (.iload_n 2, 1) := by decide +kernel
theorem dX12_days_57 : decode cX12_days 57 = .ok (.ifCond .ge 7, 3) := by decide +kernel
theorem dX12_days_60 : decode cX12_days 60 = .ok (.iconst 0, 1) := by decide +kernel
theorem dX12_days_61 : decode cX12_days 61 = .ok (.goto 4, 3) := by decide +kernel
theorem dX12_days_64 : decode cX12_days 64 = .ok (.iload_n 2, 1) := by decide +kernel
theorem dX12_days_65 : decode cX12_days 65 = .ok (.iastore, 1) := by decide +kernel
theorem dX12_days_66 : decode cX12_days 66 = .ok (.iinc 1 1, 3) := by decide +kernel
theorem dX12_days_69 : decode cX12_days 69 = .ok (.goto (-67), 3) := by decide +kernel
theorem dX12_days_72 : decode cX12_days 72 = .ok (.aload_n 0, 1) := by decide +kernel
theorem dX12_days_73 : decode cX12_days 73 = .ok (.getfield 47, 3) := by decide +kernel
theorem dX12_days_76 : decode cX12_days 76 = .ok (.iconst 1, 1) := by decide +kernel
theorem dX12_days_77 : decode cX12_days 77 = .ok (.iconst 0, 1) := by decide +kernel
theorem dX12_days_78 : decode cX12_days 78 = .ok (.iastore, 1) := by decide +kernel
theorem dX12_days_79 : decode cX12_days 79 = .ok (.aload_n 0, 1) := by decide +kernel
theorem dX12_days_80 : decode cX12_days 80 = .ok (.getfield 47, 3) := by decide +kernel
theorem dX12_days_83 : decode cX12_days 83 = .ok (.iconst 0, 1) := by decide +kernel
theorem dX12_days_84 : decode cX12_days 84 = .ok (.dup2, 1) := by decide +kernel
theorem dX12_days_85 : decode cX12_days 85 = .ok (.iaload, 1) := by decide +kernel
theorem dX12_days_86 : decode cX12_days 86 = .ok (.iconst 1, 1) := by decide +kernel
theorem dX12_days_87 : decode cX12_days 87 = .ok (.iadd, 1) := by decide +kernel
theorem dX12_days_88 : decode cX12_days 88 = .ok (.iastore, 1) := by decide +kernel
theorem dX12_days_89 : decode cX12_days 89 = .ok (.return_, 1) := by decide +kernel
set_option maxRecDepth 4000 in
set_option maxHeartbeats 4000000 in
theorem m_X12_days (l : Launch) (g : qGm) (M : qMem) {sd : sSD} (hs : sRS sd) (hS : mS M sd) (hv : sRR (sd 4 0) (sd 5 0) (M 61 0)) (hd : M 61 0 0 < 90030) : qOk l g 2 yX12_days cX12_days 3 none [qR g 35 0] M (qEv none (qSet M 61 0 (vDay (sd 5 0) (M 61 0)))) := by
  refine q_ok (by decide +kernel) (Nat.le_of_ble_eq_true rfl) (fun X C' hn => ?_)
  have C := C'.1
  have km := hs.2.1
  have kn := hs.2.2.1
  have hmn := hs.1
  have w0 := hS.1
  have w1 := hS.2.1
  have w2 := hS.2.2.1
  have vo := hv.2.1
  have vd := hv.1
  refine q_iconst C dX12_days_0 ?_
  refine q_istoren C dX12_days_1 hn (by decide) rfl ?_
  have L2 : ∀ (n2 : Nat) (i : Int) (N : qMem), sd 5 0 - i < (n2 : Int) → (0 ≤ i) → (i ≤ sd 5 0) → (N = mDy M i) → qV l g X N 2 [(0, qR g 35 0), (1, qI i)] [] := by
    intro n2
    induction n2 with
    | zero => intro i N hm2 i0 i1 hN; exfalso; first | omega | (simp at *; omega)
    | succ n2 ih2 =>
      intro i N hm2 i0 i1 hN
      subst hN
      have n1 : mDy M i 61 0 (2 + i) = M 61 0 (2 + i) := by unfold mDy; rw [q_setOn, if_neg (by omega)]
      have n2 : mDy M i 61 0 0 = M 61 0 0 := by unfold mDy; rw [q_setOn, if_neg (by omega)]
      have n3 : mDy M i 61 0 1 = M 61 0 1 := by unfold mDy; rw [q_setOn, if_neg (by omega)]
      have n4 : mDy M i 35 0 17 = sd 5 0 := by unfold mDy; rw [mRow_fr (by omega)]; exact w2
      have vu := fun q : i < sd 5 0 => hv.2.2.1 i i0 q
      refine q_iloadn C dX12_days_2 rfl ?_
      refine q_aloadn C dX12_days_3 rfl ?_
      refine gf_RX12_150 C dX12_days_4 (fun r4 => ?_)
      try simp only [q_rd, q_rdS, ↓reduceIte, if_true, if_false, eq_self, Nat.reduceEqDiff, Int.reduceEq, Int.reduceNeg, reduceCtorEq, n1, n2, n3, n4] at r4 ⊢
      refine q_icmp_ge C 72 dX12_days_7 (by decide) (by first | assumption | omega | exact q_tin _ | exact q_bIn _) (by first | assumption | omega | exact q_tin _ | exact q_bIn _) (fun h7 => ?_) (fun h7 => ?_)
      · refine q_aloadn C dX12_days_72 rfl ?_
        refine gf_RX12_47 C dX12_days_73 ?_
        refine q_iconst C dX12_days_76 ?_
        refine q_iconst C dX12_days_77 ?_
        refine q_iast C (by first | assumption | decide | omega) (fun _ => rfl) dX12_days_78 (by omega) (by omega) (by decide) (by first | assumption | omega | exact q_tin _ | exact q_bIn _) ?_
        refine q_aloadn C dX12_days_79 rfl ?_
        refine gf_RX12_47 C dX12_days_80 ?_
        refine q_iconst C dX12_days_83 ?_
        refine q_dup2 C dX12_days_84 rfl rfl ?_
        refine q_iald C (by first | assumption | decide | omega) rfl dX12_days_85 (by omega) (by omega) (by decide) (fun r85 => ?_)
        try simp only [q_rd, q_rdS, ↓reduceIte, if_true, if_false, eq_self, Nat.reduceEqDiff, Int.reduceEq, Int.reduceNeg, reduceCtorEq, n1, n2, n3, n4] at r85 ⊢
        refine q_iconst C dX12_days_86 ?_
        refine q_iadd C dX12_days_87 ?_
        refine q_iast C (by first | assumption | decide | omega) (fun _ => rfl) dX12_days_88 (by omega) (by omega) (by decide) (by first | assumption | omega | exact q_tin _ | exact q_bIn _) ?_
        refine q_vret C' dX12_days_89 ?_
        have e9 : i = sd 5 0 := (by omega)
        refine ⟨rfl, ?_⟩
        rw [e9]
        unfold mDy
        simp only [q_upSet]
        refine q_setC (fun k => ?_)
        unfold vDay
        by_cases q0 : k = 0
        · subst q0; simp
        · by_cases q1 : k = 1
          · subst q1; simp
          · by_cases q2 : 2 ≤ k ∧ k < 2 + sd 5 0
            · rw [if_neg q0, if_neg q1, if_pos q2, if_pos q2]
            · rw [if_neg q0, if_neg q1, if_neg q2, if_neg q2, if_neg q1, if_neg q0]
      · refine q_aloadn C dX12_days_10 rfl ?_
        refine gf_RX12_47 C dX12_days_11 ?_
        refine q_iconst C dX12_days_14 ?_
        refine q_iloadn C dX12_days_15 rfl ?_
        refine q_iadd C dX12_days_16 ?_
        refine q_iald C (by first | assumption | decide | omega) rfl dX12_days_17 (by omega) (by omega) (by decide) (fun r17 => ?_)
        try simp only [q_rd, q_rdS, ↓reduceIte, if_true, if_false, eq_self, Nat.reduceEqDiff, Int.reduceEq, Int.reduceNeg, reduceCtorEq, n1, n2, n3, n4] at r17 ⊢
        refine q_aloadn C dX12_days_18 rfl ?_
        refine gf_RX12_47 C dX12_days_19 ?_
        refine q_iconst C dX12_days_22 ?_
        refine q_iald C (by first | assumption | decide | omega) rfl dX12_days_23 (by omega) (by omega) (by decide) (fun r23 => ?_)
        try simp only [q_rd, q_rdS, ↓reduceIte, if_true, if_false, eq_self, Nat.reduceEqDiff, Int.reduceEq, Int.reduceNeg, reduceCtorEq, n1, n2, n3, n4] at r23 ⊢
        refine q_iloadn C dX12_days_24 rfl ?_
        refine cv_RX12_168 C (by decide) (m_X12_has l g _ (by omega) (by omega)) dX12_days_25 (Nat.le_of_ble_eq_true rfl) (fun r25 => ?_)
        refine q_ifeqB C 35 dX12_days_28 (by decide) (fun h28 => ?_) (fun h28 => ?_)
        · refine q_iconst C dX12_days_35 ?_
          refine q_iadd C dX12_days_36 ?_
          refine q_istoren C dX12_days_37 hn (by decide) rfl ?_
          refine q_aloadn C dX12_days_38 rfl ?_
          refine gf_RX12_47 C dX12_days_39 ?_
          refine q_iconst C dX12_days_42 ?_
          refine q_iloadn C dX12_days_43 rfl ?_
          refine q_iadd C dX12_days_44 ?_
          refine q_iloadn C dX12_days_45 rfl ?_
          refine q_bipush C dX12_days_46 (by decide) ?_
          refine q_icmp_le C 56 dX12_days_48 (by decide) (by first | assumption | omega | exact q_tin _ | exact q_bIn _) (by first | assumption | omega | exact q_tin _ | exact q_bIn _) (fun h48 => ?_) (fun h48 => ?_)
          · refine q_iloadn C dX12_days_56 rfl ?_
            refine q_if_ge C 64 dX12_days_57 (by decide) (by first | assumption | omega | exact q_tin _ | exact q_bIn _) (fun h57 => ?_) (fun h57 => ?_)
            · refine q_iloadn C dX12_days_64 rfl ?_
              refine q_iast C (by first | assumption | decide | omega) (fun _ => rfl) dX12_days_65 (by omega) (by omega) (by decide) (by first | assumption | omega | exact q_tin _ | exact q_bIn _) ?_
              refine q_iinc C dX12_days_66 rfl hn (by decide) rfl ?_
              refine q_goto C (tgt := 2) dX12_days_69 (by decide) ?_
              exact q_ls (by exact ⟨rfl, rfl, trivial⟩) (ih2 (i + 1) _ (by omega) (by omega) (by omega) (by exact mDy_s i0 (by have := vu (by omega); unfold xHard; (first | rw [if_pos h28] | rw [if_neg h28]); (first | unfold sMin | unfold sMax); split <;> omega)))
            · refine q_iconst C dX12_days_60 ?_
              refine q_goto C (tgt := 65) dX12_days_61 (by decide) ?_
              refine q_iast C (by first | assumption | decide | omega) (fun _ => rfl) dX12_days_65 (by omega) (by omega) (by decide) (by first | assumption | omega | exact q_tin _ | exact q_bIn _) ?_
              refine q_iinc C dX12_days_66 rfl hn (by decide) rfl ?_
              refine q_goto C (tgt := 2) dX12_days_69 (by decide) ?_
              exact q_ls (by exact ⟨rfl, rfl, trivial⟩) (ih2 (i + 1) _ (by omega) (by omega) (by omega) (by exact mDy_s i0 (by have := vu (by omega); unfold xHard; (first | rw [if_pos h28] | rw [if_neg h28]); (first | unfold sMin | unfold sMax); split <;> omega)))
          · refine q_bipush C dX12_days_51 (by decide) ?_
            refine q_goto C (tgt := 65) dX12_days_53 (by decide) ?_
            refine q_iast C (by first | assumption | decide | omega) (fun _ => rfl) dX12_days_65 (by omega) (by omega) (by decide) (by first | assumption | omega | exact q_tin _ | exact q_bIn _) ?_
            refine q_iinc C dX12_days_66 rfl hn (by decide) rfl ?_
            refine q_goto C (tgt := 2) dX12_days_69 (by decide) ?_
            exact q_ls (by exact ⟨rfl, rfl, trivial⟩) (ih2 (i + 1) _ (by omega) (by omega) (by omega) (by exact mDy_s i0 (by have := vu (by omega); unfold xHard; (first | rw [if_pos h28] | rw [if_neg h28]); (first | unfold sMin | unfold sMax); split <;> omega)))
        · refine q_iconst C dX12_days_31 ?_
          refine q_goto C (tgt := 36) dX12_days_32 (by decide) ?_
          refine q_iadd C dX12_days_36 ?_
          refine q_istoren C dX12_days_37 hn (by decide) rfl ?_
          refine q_aloadn C dX12_days_38 rfl ?_
          refine gf_RX12_47 C dX12_days_39 ?_
          refine q_iconst C dX12_days_42 ?_
          refine q_iloadn C dX12_days_43 rfl ?_
          refine q_iadd C dX12_days_44 ?_
          refine q_iloadn C dX12_days_45 rfl ?_
          refine q_bipush C dX12_days_46 (by decide) ?_
          refine q_icmp_le C 56 dX12_days_48 (by decide) (by first | assumption | omega | exact q_tin _ | exact q_bIn _) (by first | assumption | omega | exact q_tin _ | exact q_bIn _) (fun h48 => ?_) (fun h48 => ?_)
          · refine q_iloadn C dX12_days_56 rfl ?_
            refine q_if_ge C 64 dX12_days_57 (by decide) (by first | assumption | omega | exact q_tin _ | exact q_bIn _) (fun h57 => ?_) (fun h57 => ?_)
            · refine q_iloadn C dX12_days_64 rfl ?_
              refine q_iast C (by first | assumption | decide | omega) (fun _ => rfl) dX12_days_65 (by omega) (by omega) (by decide) (by first | assumption | omega | exact q_tin _ | exact q_bIn _) ?_
              refine q_iinc C dX12_days_66 rfl hn (by decide) rfl ?_
              refine q_goto C (tgt := 2) dX12_days_69 (by decide) ?_
              exact q_ls (by exact ⟨rfl, rfl, trivial⟩) (ih2 (i + 1) _ (by omega) (by omega) (by omega) (by exact mDy_s i0 (by have := vu (by omega); unfold xHard; (first | rw [if_pos h28] | rw [if_neg h28]); (first | unfold sMin | unfold sMax); split <;> omega)))
            · refine q_iconst C dX12_days_60 ?_
              refine q_goto C (tgt := 65) dX12_days_61 (by decide) ?_
              refine q_iast C (by first | assumption | decide | omega) (fun _ => rfl) dX12_days_65 (by omega) (by omega) (by decide) (by first | assumption | omega | exact q_tin _ | exact q_bIn _) ?_
              refine q_iinc C dX12_days_66 rfl hn (by decide) rfl ?_
              refine q_goto C (tgt := 2) dX12_days_69 (by decide) ?_
              exact q_ls (by exact ⟨rfl, rfl, trivial⟩) (ih2 (i + 1) _ (by omega) (by omega) (by omega) (by exact mDy_s i0 (by have := vu (by omega); unfold xHard; (first | rw [if_pos h28] | rw [if_neg h28]); (first | unfold sMin | unfold sMax); split <;> omega)))
          · refine q_bipush C dX12_days_51 (by decide) ?_
            refine q_goto C (tgt := 65) dX12_days_53 (by decide) ?_
            refine q_iast C (by first | assumption | decide | omega) (fun _ => rfl) dX12_days_65 (by omega) (by omega) (by decide) (by first | assumption | omega | exact q_tin _ | exact q_bIn _) ?_
            refine q_iinc C dX12_days_66 rfl hn (by decide) rfl ?_
            refine q_goto C (tgt := 2) dX12_days_69 (by decide) ?_
            exact q_ls (by exact ⟨rfl, rfl, trivial⟩) (ih2 (i + 1) _ (by omega) (by omega) (by omega) (by exact mDy_s i0 (by have := vu (by omega); unfold xHard; (first | rw [if_pos h28] | rw [if_neg h28]); (first | unfold sMin | unfold sMax); split <;> omega)))
  exact q_ls (by exact ⟨rfl, rfl, trivial⟩) (L2 1000 0 M (by omega) (by omega) (by omega) (by unfold mDy; exact (q_setC0 (fun k => if_neg (by omega))).symm))
