theorem m_X12_nextAt (l : Launch) (g : qGm) (M : qMem) {t : Int → Int} {L a : Int} (hT : mT M t L a) (hL : 0 ≤ L ∧ L ≤ 240) (hA : 0 ≤ a ∧ a < L) (hk : pSk t L a = a) : qOk l g 2 yX12_nextLetter cX12_nextLetter 1 (some .int) [qR g 35 0] M (qEv (some (t a)) M) := by
  have h := m_X12_nextLetter l g M hT hL ⟨hA.1, by omega⟩
  rw [hk, pLt_lt hA.2, show qUp M 35 0 2 a = M from by rw [← hT.2.2]; exact q_upId _ _ _ _] at h
  exact h
theorem mBd_at {M N : qMem} {q : Int} {b : Int × Int × sRd} (h : mBd (qUp M 35 0 2 q) N b) : mBd M N b := ⟨(mRf.rf.f (by decide)).tr h.1, h.2⟩
theorem dX12_readsClause_0 : decode cX12_readsClause 0 = .ok (.aload_n 0, 1) := by decide +kernel
theorem dX12_readsClause_1 : decode cX12_readsClause 1 = .ok (.invokevirtual 104, 3) := by decide +kernel
theorem dX12_readsClause_4 : decode cX12_readsClause 4 = .ok (.istore_n 1, 1) := by decide +kernel
theorem dX12_readsClause_5 : decode cX12_readsClause 5 = .ok (.aload_n 0, 1) := by decide +kernel
theorem dX12_readsClause_6 : decode cX12_readsClause 6 = .ok (.getfield 94, 3) := by decide +kernel
theorem dX12_readsClause_9 : decode cX12_readsClause 9 = .ok (.istore_n 2, 1) := by decide +kernel
theorem dX12_readsClause_10 : decode cX12_readsClause 10 = .ok (.aload_n 0, 1) := by decide +kernel
theorem dX12_readsClause_11 : decode cX12_readsClause 11 = .ok (.dup, 1) := by decide +kernel
theorem dX12_readsClause_12 : decode cX12_readsClause 12 = .ok (.getfield 94, 3) := by decide +kernel
theorem dX12_readsClause_15 : decode cX12_readsClause 15 = .ok (.iconst 1, 1) := by decide +kernel
theorem dX12_readsClause_16 : decode cX12_readsClause 16 = .ok (.iadd, 1) := by decide +kernel
theorem dX12_readsClause_17 : decode cX12_readsClause 17 = .ok (.putfield 94, 3) := by decide +kernel
theorem dX12_readsClause_20 : decode cX12_readsClause 20 = .ok (.iload_n 1, 1) := by decide +kernel
theorem dX12_readsClause_21 : decode cX12_readsClause 21 = .ok (.bipush 115, 2) := by decide +kernel
theorem dX12_readsClause_23 : decode cX12_readsClause 23 = .ok (.if_icmp .ne 16, 3) := by decide +kernel
theorem dX12_readsClause_26 : decode cX12_readsClause 26 = .ok (.aload_n 0, 1) := by decide +kernel
theorem dX12_readsClause_27 : decode cX12_readsClause 27 = .ok (.getfield 118, 3) := by decide +kernel
theorem dX12_readsClause_30 : decode cX12_readsClause 30 = .ok (.iconst (-1), 1) := by decide +kernel
theorem dX12_readsClause_31 : decode cX12_readsClause 31 = .ok (.if_icmp .ne 8, 3) := by decide +kernel
theorem dX12_readsClause_34 : decode cX12_readsClause 34 = .ok (.aload_n 0, 1) := by decide +kernel
theorem dX12_readsClause_35 : decode cX12_readsClause 35 = .ok (.invokevirtual 131, 3) := by decide +kernel
theorem dX12_readsClause_38 : decode cX12_readsClause 38 = .ok (.ireturn, 1) := by decide +kernel
theorem dX12_readsClause_39 : decode cX12_readsClause 39 = .ok (.iload_n 1, 1) := by decide +kernel
theorem dX12_readsClause_40 : decode cX12_readsClause 40 = .ok (.bipush 115, 2) := by decide +kernel
theorem dX12_readsClause_42 : decode cX12_readsClause 42 = .ok (.if_icmp .eq 15, 3) := by decide +kernel
theorem dX12_readsClause_45 : decode cX12_readsClause 45 = .ok (.iload_n 1, 1) := by decide +kernel
theorem dX12_readsClause_46 : decode cX12_readsClause 46 = .ok (.bipush 99, 2) := by decide +kernel
theorem dX12_readsClause_48 : decode cX12_readsClause 48 = .ok (.if_icmp .eq 9, 3) := by decide +kernel
theorem dX12_readsClause_51 : decode cX12_readsClause 51 = .ok (.iload_n 1, 1) := by decide +kernel
theorem dX12_readsClause_52 : decode cX12_readsClause 52 = .ok (.bipush 104, 2) := by decide +kernel
theorem dX12_readsClause_54 : decode cX12_readsClause 54 = .ok (.if_icmp .ne 7, 3) := by decide +kernel
theorem dX12_readsClause_57 : decode cX12_readsClause 57 = .ok (.iconst 1, 1) := by decide +kernel
theorem dX12_readsClause_58 : decode cX12_readsClause 58 = .ok (.goto 4, 3) := by decide +kernel
theorem dX12_readsClause_61 : decode cX12_readsClause 61 = .ok (.iconst 0, 1) := by decide +kernel
theorem dX12_readsClause_62 : decode cX12_readsClause 62 = .ok (.istore_n 3, 1) := by decide +kernel
theorem dX12_readsClause_63 : decode cX12_readsClause 63 = .ok (.iload_n 3, 1) := by decide +kernel
theorem dX12_readsClause_64 : decode cX12_readsClause 64 = .ok (.ifCond .eq 11, 3) := by decide +kernel
theorem dX12_readsClause_67 : decode cX12_readsClause 67 = .ok (.aload_n 0, 1) := by decide +kernel
theorem dX12_readsClause_68 : decode cX12_readsClause 68 = .ok (.getfield 118, 3) := by decide +kernel
theorem dX12_readsClause_71 : decode cX12_readsClause 71 = .ok (.iconst (-1), 1) := by decide +kernel
theorem dX12_readsClause_72 : decode cX12_readsClause 72 = .ok (.if_icmp .ne 12, 3) := by decide +kernel
theorem dX12_readsClause_75 : decode cX12_readsClause 75 = .ok (.aload_n 0, 1) := by decide +kernel
theorem dX12_readsClause_76 : decode cX12_readsClause 76 = .ok (.iconst 1, 1) := by decide +kernel
theorem dX12_readsClause_77 : decode cX12_readsClause 77 = .ok (.iload_n 2, 1) := by decide +kernel
theorem dX12_readsClause_78 : decode cX12_readsClause 78 = .ok (.invokevirtual 108, 3) := by decide +kernel
theorem dX12_readsClause_81 : decode cX12_readsClause 81 = .ok (.pop, 1) := by decide +kernel
theorem dX12_readsClause_82 : decode cX12_readsClause 82 = .ok (.iconst 0, 1) := by decide +kernel
theorem dX12_readsClause_83 : decode cX12_readsClause 83 = .ok (.ireturn, 1) := by decide +kernel
theorem dX12_readsClause_84 : decode cX12_readsClause 84 = .ok (.iload_n 1, 1) := by decide +kernel
theorem dX12_readsClause_85 : decode cX12_readsClause 85 = .ok (.bipush 115, 2) := by decide +kernel
theorem dX12_readsClause_87 : decode cX12_readsClause 87 = .ok (.if_icmp .eq 33, 3) := by decide +kernel
theorem dX12_readsClause_90 : decode cX12_readsClause 90 = .ok (.iload_n 1, 1) := by decide +kernel
theorem dX12_readsClause_91 : decode cX12_readsClause 91 = .ok (.bipush 99, 2) := by decide +kernel
theorem dX12_readsClause_93 : decode cX12_readsClause 93 = .ok (.if_icmp .ne 12, 3) := by decide +kernel
theorem dX12_readsClause_96 : decode cX12_readsClause 96 = .ok (.aload_n 0, 1) := by decide +kernel
theorem dX12_readsClause_97 : decode cX12_readsClause 97 = .ok (.getfield 125, 3) := by decide +kernel
theorem dX12_readsClause_100 : decode cX12_readsClause 100 = .ok (.bipush 6, 2) := by decide +kernel
theorem dX12_readsClause_102 : decode cX12_readsClause 102 = .ok (.if_icmp .eq 18, 3) := by decide +kernel
theorem dX12_readsClause_105 : decode cX12_readsClause 105 = .ok (.iload_n 1, 1) := by decide +kernel
theorem dX12_readsClause_106 : decode cX12_readsClause 106 = .ok (.bipush 104, 2) := by decide +kernel
theorem dX12_readsClause_108 : decode cX12_readsClause 108 = .ok (.if_icmp .ne 21, 3) := by decide +kernel
theorem dX12_readsClause_111 : decode cX12_readsClause 111 = .ok (.aload_n 0, 1) := by decide +kernel
theorem dX12_readsClause_112 : decode cX12_readsClause 112 = .ok (.getfield 128, 3) := by decide +kernel
theorem dX12_readsClause_115 : decode cX12_readsClause 115 = .ok (.bipush 6, 2) := by decide +kernel
theorem dX12_readsClause_117 : decode cX12_readsClause 117 = .ok (.if_icmp .ne 12, 3) := by decide +kernel
theorem dX12_readsClause_120 : decode cX12_readsClause 120 = .ok (.aload_n 0, 1) := by decide +kernel
theorem dX12_readsClause_121 : decode cX12_readsClause 121 = .ok (.iconst 3, 1) := by decide +kernel
theorem dX12_readsClause_122 : decode cX12_readsClause 122 = .ok (.iload_n 2, 1) := by decide +kernel
theorem dX12_readsClause_123 : decode cX12_readsClause 123 = .ok (.invokevirtual 108, 3) := by decide +kernel
theorem dX12_readsClause_126 : decode cX12_readsClause 126 = .ok (.pop, 1) := by decide +kernel
theorem dX12_readsClause_127 : decode cX12_readsClause 127 = .ok (.iconst 0, 1) := by decide +kernel
theorem dX12_readsClause_128 : decode cX12_readsClause 128 = .ok (.ireturn, 1) := by decide +kernel
theorem dX12_readsClause_129 : decode cX12_readsClause 129 = .ok (.iload_n 1, 1) := by decide +kernel
theorem dX12_readsClause_130 : decode cX12_readsClause 130 = .ok (.bipush 99, 2) := by decide +kernel
theorem dX12_readsClause_132 : decode cX12_readsClause 132 = .ok (.if_icmp .ne 10, 3) := by decide +kernel
theorem dX12_readsClause_135 : decode cX12_readsClause 135 = .ok (.aload_n 0, 1) := by decide +kernel
theorem dX12_readsClause_136 : decode cX12_readsClause 136 = .ok (.invokevirtual 135, 3) := by decide +kernel
theorem dX12_readsClause_139 : decode cX12_readsClause 139 = .ok (.goto 7, 3) := by decide +kernel
theorem dX12_readsClause_142 : decode cX12_readsClause 142 = .ok (.aload_n 0, 1) := by decide +kernel
theorem dX12_readsClause_143 : decode cX12_readsClause 143 = .ok (.invokevirtual 138, 3) := by decide +kernel
theorem dX12_readsClause_146 : decode cX12_readsClause 146 = .ok (.ireturn, 1) := by decide +kernel
set_option maxRecDepth 4000 in
set_option maxHeartbeats 4000000 in
theorem m_X12_readsClause (l : Launch) (g : qGm) (M : qMem) {t : Int → Int} {L a : Int} (hT : mT M t L a) (hL : 0 ≤ L ∧ L ≤ 240) (hA : 0 ≤ a ∧ a < L) (hk : pSk t L a = a) {R : sRd} (hR : rB R) (hX : mX M R) : qOk l g 5 yX12_readsClause cX12_readsClause 4 (some .boolean) [qR g 35 0] M (fun r N => r = some (qB ((pCl t L a R).1 = 0)) ∧ mBd M N (pCl t L a R)) := by
  refine q_ok (by decide +kernel) (Nat.le_of_ble_eq_true rfl) (fun X C' hn => ?_)
  have C := C'.1
  have x6 := hX.1
  have x7 := hX.2.1
  have x8 := hX.2.2.1
  have b7 := hR.2.1
  have b8 := hR.2.2.1
  have b6 := hR.1
  have t2 := hT.2.2
  refine q_aloadn C dX12_readsClause_0 rfl ?_
  refine cv_RX12_104 C (by decide) (m_X12_nextAt l g _ hT hL hA hk) dX12_readsClause_1 (Nat.le_of_ble_eq_true rfl) (fun r1 => ?_)
  refine q_istoren C dX12_readsClause_4 hn (by decide) rfl ?_
  refine q_aloadn C dX12_readsClause_5 rfl ?_
  refine gf_RX12_94 C dX12_readsClause_6 (fun r6 => ?_)
  try simp only [q_rd, q_rdS, ↓reduceIte, if_true, if_false, eq_self, Nat.reduceEqDiff, Int.reduceEq, Int.reduceNeg, reduceCtorEq] at r6 ⊢
  rw [t2] at r6 ⊢
  refine q_istoren C dX12_readsClause_9 hn (by decide) rfl ?_
  refine q_aloadn C dX12_readsClause_10 rfl ?_
  refine q_dup C dX12_readsClause_11 rfl ?_
  refine gf_RX12_94 C dX12_readsClause_12 (fun r12 => ?_)
  try simp only [q_rd, q_rdS, ↓reduceIte, if_true, if_false, eq_self, Nat.reduceEqDiff, Int.reduceEq, Int.reduceNeg, reduceCtorEq] at r12 ⊢
  rw [t2] at r12 ⊢
  refine q_iconst C dX12_readsClause_15 ?_
  refine q_iadd C dX12_readsClause_16 ?_
  refine pf_RX12_94 C (by first | assumption | omega | exact q_tin _ | exact q_bIn _) dX12_readsClause_17 ?_
  refine q_iloadn C dX12_readsClause_20 rfl ?_
  refine q_bipush C dX12_readsClause_21 (by decide) ?_
  refine q_icmp_ne C 39 dX12_readsClause_23 (by decide) (by first | assumption | omega | exact q_tin _ | exact q_bIn _) (by first | assumption | omega | exact q_tin _ | exact q_bIn _) (fun h23 => ?_) (fun h23 => ?_)
  · refine q_iloadn C dX12_readsClause_39 rfl ?_
    refine q_bipush C dX12_readsClause_40 (by decide) ?_
    refine q_icmp_eq C 57 dX12_readsClause_42 (by decide) (by first | assumption | omega | exact q_tin _ | exact q_bIn _) (by first | assumption | omega | exact q_tin _ | exact q_bIn _) (fun h42 => ?_) (fun h42 => ?_)
    · refine q_iconst C dX12_readsClause_57 ?_
      refine q_goto C (tgt := 62) dX12_readsClause_58 (by decide) ?_
      refine q_istoren C dX12_readsClause_62 hn (by decide) rfl ?_
      refine q_iloadn C dX12_readsClause_63 rfl ?_
      refine q_if_eq C 75 dX12_readsClause_64 (by decide) (by first | assumption | omega | exact q_tin _ | exact q_bIn _) (fun h64 => ?_) (fun h64 => ?_)
      · exact absurd h64 (by decide)
      · refine q_aloadn C dX12_readsClause_67 rfl ?_
        refine gf_RX12_118 C dX12_readsClause_68 (fun r68 => ?_)
        try simp only [q_rd, q_rdS, ↓reduceIte, if_true, if_false, eq_self, Nat.reduceEqDiff, Int.reduceEq, Int.reduceNeg, reduceCtorEq] at r68 ⊢
        rw [x6] at r68 ⊢
        refine q_iconst C dX12_readsClause_71 ?_
        refine q_icmp_ne C 84 dX12_readsClause_72 (by decide) (by first | assumption | omega | exact q_tin _ | exact q_bIn _) (by first | assumption | omega | exact q_tin _ | exact q_bIn _) (fun h72 => ?_) (fun h72 => ?_)
        · refine q_iloadn C dX12_readsClause_84 rfl ?_
          refine q_bipush C dX12_readsClause_85 (by decide) ?_
          refine q_icmp_eq C 120 dX12_readsClause_87 (by decide) (by first | assumption | omega | exact q_tin _ | exact q_bIn _) (by first | assumption | omega | exact q_tin _ | exact q_bIn _) (fun h87 => ?_) (fun h87 => ?_)
          · refine q_aloadn C dX12_readsClause_120 rfl ?_
            refine q_iconst C dX12_readsClause_121 ?_
            refine q_iloadn C dX12_readsClause_122 rfl ?_
            refine cv_RX12_108 C (by decide) (m_X12_fails l g _ (by omega) (by omega)) dX12_readsClause_123 (Nat.le_of_ble_eq_true rfl) (fun r123 => ?_)
            refine q_pop C dX12_readsClause_126 rfl ?_
            refine q_iconst C dX12_readsClause_127 ?_
            refine q_zret C' dX12_readsClause_128 (by first | omega | exact q_b01 _ | simp) ?_
            first | (exfalso; omega) | (have e9 : pCl t L a R = (3, a, R) := (by unfold pCl; rw [if_neg (by omega), if_pos (by omega)]); rw [e9]; exact ⟨congrArg some (q_bF (show ¬ (3 : Int) = 0 by decide)).symm, mBd_no (by decide) (((mRf.rf.f (by decide)).f (by decide)).f (by decide)) q_upO ((q_upK (by decide)).trans q_upO)⟩)
          · refine q_iloadn C dX12_readsClause_90 rfl ?_
            refine q_bipush C dX12_readsClause_91 (by decide) ?_
            refine q_icmp_ne C 105 dX12_readsClause_93 (by decide) (by first | assumption | omega | exact q_tin _ | exact q_bIn _) (by first | assumption | omega | exact q_tin _ | exact q_bIn _) (fun h93 => ?_) (fun h93 => ?_)
            · refine q_iloadn C dX12_readsClause_105 rfl ?_
              refine q_bipush C dX12_readsClause_106 (by decide) ?_
              refine q_icmp_ne C 129 dX12_readsClause_108 (by decide) (by first | assumption | omega | exact q_tin _ | exact q_bIn _) (by first | assumption | omega | exact q_tin _ | exact q_bIn _) (fun h108 => ?_) (fun h108 => ?_)
              · refine q_iloadn C dX12_readsClause_129 rfl ?_
                refine q_bipush C dX12_readsClause_130 (by decide) ?_
                refine q_icmp_ne C 142 dX12_readsClause_132 (by decide) (by first | assumption | omega | exact q_tin _ | exact q_bIn _) (by first | assumption | omega | exact q_tin _ | exact q_bIn _) (fun h132 => ?_) (fun h132 => ?_)
                · refine q_aloadn C dX12_readsClause_142 rfl ?_
                  refine cw_RX12_138 C (by decide) (m_X12_readsHouse l g _ hT.at hL (by omega) hR (hX.d (mRd_at _ _)) (by omega)) dX12_readsClause_143 (Nat.le_of_ble_eq_true rfl) (fun r N1 hz hp => ?_)
                  obtain ⟨rfl, hb⟩ := hp
                  show qV l g X _ _ _ (qI _ :: [])
                  refine q_zret C' dX12_readsClause_146 (by first | omega | exact q_b01 _ | simp) ?_
                  first | (exfalso; omega) | (have e9 : pCl t L a R = pFin t L (pHouseB t L (a + 1) R) := (by unfold pCl pBody; rw [if_neg (by omega), if_neg (by omega), if_neg (by omega), if_neg (by omega)]); rw [e9]; exact ⟨rfl, mBd_at hb⟩)
                · refine q_aloadn C dX12_readsClause_135 rfl ?_
                  refine cw_RX12_135 C (by decide) (m_X12_readsComer l g _ hT.at hL (by omega) hR (hX.d (mRd_at _ _)) (by omega)) dX12_readsClause_136 (Nat.le_of_ble_eq_true rfl) (fun r N1 hz hp => ?_)
                  obtain ⟨rfl, hb⟩ := hp
                  show qV l g X _ _ _ (qI _ :: [])
                  refine q_goto C (tgt := 146) dX12_readsClause_139 (by decide) ?_
                  refine q_zret C' dX12_readsClause_146 (by first | omega | exact q_b01 _ | simp) ?_
                  first | (exfalso; omega) | (have e9 : pCl t L a R = pFin t L (pComerB t L (a + 1) R) := (by unfold pCl pBody; rw [if_neg (by omega), if_neg (by omega), if_neg (by omega), if_pos (by omega)]); rw [e9]; exact ⟨rfl, mBd_at hb⟩)
              · refine q_aloadn C dX12_readsClause_111 rfl ?_
                refine gf_RX12_128 C dX12_readsClause_112 (fun r112 => ?_)
                try simp only [q_rd, q_rdS, ↓reduceIte, if_true, if_false, eq_self, Nat.reduceEqDiff, Int.reduceEq, Int.reduceNeg, reduceCtorEq] at r112 ⊢
                rw [x8] at r112 ⊢
                refine q_bipush C dX12_readsClause_115 (by decide) ?_
                refine q_icmp_ne C 129 dX12_readsClause_117 (by decide) (by first | assumption | omega | exact q_tin _ | exact q_bIn _) (by first | assumption | omega | exact q_tin _ | exact q_bIn _) (fun h117 => ?_) (fun h117 => ?_)
                · refine q_iloadn C dX12_readsClause_129 rfl ?_
                  refine q_bipush C dX12_readsClause_130 (by decide) ?_
                  refine q_icmp_ne C 142 dX12_readsClause_132 (by decide) (by first | assumption | omega | exact q_tin _ | exact q_bIn _) (by first | assumption | omega | exact q_tin _ | exact q_bIn _) (fun h132 => ?_) (fun h132 => ?_)
                  · refine q_aloadn C dX12_readsClause_142 rfl ?_
                    refine cw_RX12_138 C (by decide) (m_X12_readsHouse l g _ hT.at hL (by omega) hR (hX.d (mRd_at _ _)) (by omega)) dX12_readsClause_143 (Nat.le_of_ble_eq_true rfl) (fun r N1 hz hp => ?_)
                    obtain ⟨rfl, hb⟩ := hp
                    show qV l g X _ _ _ (qI _ :: [])
                    refine q_zret C' dX12_readsClause_146 (by first | omega | exact q_b01 _ | simp) ?_
                    first | (exfalso; omega) | (have e9 : pCl t L a R = pFin t L (pHouseB t L (a + 1) R) := (by unfold pCl pBody; rw [if_neg (by omega), if_neg (by omega), if_neg (by omega), if_neg (by omega)]); rw [e9]; exact ⟨rfl, mBd_at hb⟩)
                  · refine q_aloadn C dX12_readsClause_135 rfl ?_
                    refine cw_RX12_135 C (by decide) (m_X12_readsComer l g _ hT.at hL (by omega) hR (hX.d (mRd_at _ _)) (by omega)) dX12_readsClause_136 (Nat.le_of_ble_eq_true rfl) (fun r N1 hz hp => ?_)
                    obtain ⟨rfl, hb⟩ := hp
                    show qV l g X _ _ _ (qI _ :: [])
                    refine q_goto C (tgt := 146) dX12_readsClause_139 (by decide) ?_
                    refine q_zret C' dX12_readsClause_146 (by first | omega | exact q_b01 _ | simp) ?_
                    first | (exfalso; omega) | (have e9 : pCl t L a R = pFin t L (pComerB t L (a + 1) R) := (by unfold pCl pBody; rw [if_neg (by omega), if_neg (by omega), if_neg (by omega), if_pos (by omega)]); rw [e9]; exact ⟨rfl, mBd_at hb⟩)
                · refine q_aloadn C dX12_readsClause_120 rfl ?_
                  refine q_iconst C dX12_readsClause_121 ?_
                  refine q_iloadn C dX12_readsClause_122 rfl ?_
                  refine cv_RX12_108 C (by decide) (m_X12_fails l g _ (by omega) (by omega)) dX12_readsClause_123 (Nat.le_of_ble_eq_true rfl) (fun r123 => ?_)
                  refine q_pop C dX12_readsClause_126 rfl ?_
                  refine q_iconst C dX12_readsClause_127 ?_
                  refine q_zret C' dX12_readsClause_128 (by first | omega | exact q_b01 _ | simp) ?_
                  first | (exfalso; omega) | (have e9 : pCl t L a R = (3, a, R) := (by unfold pCl; rw [if_neg (by omega), if_pos (by omega)]); rw [e9]; exact ⟨congrArg some (q_bF (show ¬ (3 : Int) = 0 by decide)).symm, mBd_no (by decide) (((mRf.rf.f (by decide)).f (by decide)).f (by decide)) q_upO ((q_upK (by decide)).trans q_upO)⟩)
            · refine q_aloadn C dX12_readsClause_96 rfl ?_
              refine gf_RX12_125 C dX12_readsClause_97 (fun r97 => ?_)
              try simp only [q_rd, q_rdS, ↓reduceIte, if_true, if_false, eq_self, Nat.reduceEqDiff, Int.reduceEq, Int.reduceNeg, reduceCtorEq] at r97 ⊢
              rw [x7] at r97 ⊢
              refine q_bipush C dX12_readsClause_100 (by decide) ?_
              refine q_icmp_eq C 120 dX12_readsClause_102 (by decide) (by first | assumption | omega | exact q_tin _ | exact q_bIn _) (by first | assumption | omega | exact q_tin _ | exact q_bIn _) (fun h102 => ?_) (fun h102 => ?_)
              · refine q_aloadn C dX12_readsClause_120 rfl ?_
                refine q_iconst C dX12_readsClause_121 ?_
                refine q_iloadn C dX12_readsClause_122 rfl ?_
                refine cv_RX12_108 C (by decide) (m_X12_fails l g _ (by omega) (by omega)) dX12_readsClause_123 (Nat.le_of_ble_eq_true rfl) (fun r123 => ?_)
                refine q_pop C dX12_readsClause_126 rfl ?_
                refine q_iconst C dX12_readsClause_127 ?_
                refine q_zret C' dX12_readsClause_128 (by first | omega | exact q_b01 _ | simp) ?_
                first | (exfalso; omega) | (have e9 : pCl t L a R = (3, a, R) := (by unfold pCl; rw [if_neg (by omega), if_pos (by omega)]); rw [e9]; exact ⟨congrArg some (q_bF (show ¬ (3 : Int) = 0 by decide)).symm, mBd_no (by decide) (((mRf.rf.f (by decide)).f (by decide)).f (by decide)) q_upO ((q_upK (by decide)).trans q_upO)⟩)
              · refine q_iloadn C dX12_readsClause_105 rfl ?_
                refine q_bipush C dX12_readsClause_106 (by decide) ?_
                refine q_icmp_ne C 129 dX12_readsClause_108 (by decide) (by first | assumption | omega | exact q_tin _ | exact q_bIn _) (by first | assumption | omega | exact q_tin _ | exact q_bIn _) (fun h108 => ?_) (fun h108 => ?_)
                · refine q_iloadn C dX12_readsClause_129 rfl ?_
                  refine q_bipush C dX12_readsClause_130 (by decide) ?_
                  refine q_icmp_ne C 142 dX12_readsClause_132 (by decide) (by first | assumption | omega | exact q_tin _ | exact q_bIn _) (by first | assumption | omega | exact q_tin _ | exact q_bIn _) (fun h132 => ?_) (fun h132 => ?_)
                  · refine q_aloadn C dX12_readsClause_142 rfl ?_
                    refine cw_RX12_138 C (by decide) (m_X12_readsHouse l g _ hT.at hL (by omega) hR (hX.d (mRd_at _ _)) (by omega)) dX12_readsClause_143 (Nat.le_of_ble_eq_true rfl) (fun r N1 hz hp => ?_)
                    obtain ⟨rfl, hb⟩ := hp
                    show qV l g X _ _ _ (qI _ :: [])
                    refine q_zret C' dX12_readsClause_146 (by first | omega | exact q_b01 _ | simp) ?_
                    first | (exfalso; omega) | (have e9 : pCl t L a R = pFin t L (pHouseB t L (a + 1) R) := (by unfold pCl pBody; rw [if_neg (by omega), if_neg (by omega), if_neg (by omega), if_neg (by omega)]); rw [e9]; exact ⟨rfl, mBd_at hb⟩)
                  · refine q_aloadn C dX12_readsClause_135 rfl ?_
                    refine cw_RX12_135 C (by decide) (m_X12_readsComer l g _ hT.at hL (by omega) hR (hX.d (mRd_at _ _)) (by omega)) dX12_readsClause_136 (Nat.le_of_ble_eq_true rfl) (fun r N1 hz hp => ?_)
                    obtain ⟨rfl, hb⟩ := hp
                    show qV l g X _ _ _ (qI _ :: [])
                    refine q_goto C (tgt := 146) dX12_readsClause_139 (by decide) ?_
                    refine q_zret C' dX12_readsClause_146 (by first | omega | exact q_b01 _ | simp) ?_
                    first | (exfalso; omega) | (have e9 : pCl t L a R = pFin t L (pComerB t L (a + 1) R) := (by unfold pCl pBody; rw [if_neg (by omega), if_neg (by omega), if_neg (by omega), if_pos (by omega)]); rw [e9]; exact ⟨rfl, mBd_at hb⟩)
                · refine q_aloadn C dX12_readsClause_111 rfl ?_
                  refine gf_RX12_128 C dX12_readsClause_112 (fun r112 => ?_)
                  try simp only [q_rd, q_rdS, ↓reduceIte, if_true, if_false, eq_self, Nat.reduceEqDiff, Int.reduceEq, Int.reduceNeg, reduceCtorEq] at r112 ⊢
                  rw [x8] at r112 ⊢
                  refine q_bipush C dX12_readsClause_115 (by decide) ?_
                  refine q_icmp_ne C 129 dX12_readsClause_117 (by decide) (by first | assumption | omega | exact q_tin _ | exact q_bIn _) (by first | assumption | omega | exact q_tin _ | exact q_bIn _) (fun h117 => ?_) (fun h117 => ?_)
                  · refine q_iloadn C dX12_readsClause_129 rfl ?_
                    refine q_bipush C dX12_readsClause_130 (by decide) ?_
                    refine q_icmp_ne C 142 dX12_readsClause_132 (by decide) (by first | assumption | omega | exact q_tin _ | exact q_bIn _) (by first | assumption | omega | exact q_tin _ | exact q_bIn _) (fun h132 => ?_) (fun h132 => ?_)
                    · refine q_aloadn C dX12_readsClause_142 rfl ?_
                      refine cw_RX12_138 C (by decide) (m_X12_readsHouse l g _ hT.at hL (by omega) hR (hX.d (mRd_at _ _)) (by omega)) dX12_readsClause_143 (Nat.le_of_ble_eq_true rfl) (fun r N1 hz hp => ?_)
                      obtain ⟨rfl, hb⟩ := hp
                      show qV l g X _ _ _ (qI _ :: [])
                      refine q_zret C' dX12_readsClause_146 (by first | omega | exact q_b01 _ | simp) ?_
                      first | (exfalso; omega) | (have e9 : pCl t L a R = pFin t L (pHouseB t L (a + 1) R) := (by unfold pCl pBody; rw [if_neg (by omega), if_neg (by omega), if_neg (by omega), if_neg (by omega)]); rw [e9]; exact ⟨rfl, mBd_at hb⟩)
                    · refine q_aloadn C dX12_readsClause_135 rfl ?_
                      refine cw_RX12_135 C (by decide) (m_X12_readsComer l g _ hT.at hL (by omega) hR (hX.d (mRd_at _ _)) (by omega)) dX12_readsClause_136 (Nat.le_of_ble_eq_true rfl) (fun r N1 hz hp => ?_)
                      obtain ⟨rfl, hb⟩ := hp
                      show qV l g X _ _ _ (qI _ :: [])
                      refine q_goto C (tgt := 146) dX12_readsClause_139 (by decide) ?_
                      refine q_zret C' dX12_readsClause_146 (by first | omega | exact q_b01 _ | simp) ?_
                      first | (exfalso; omega) | (have e9 : pCl t L a R = pFin t L (pComerB t L (a + 1) R) := (by unfold pCl pBody; rw [if_neg (by omega), if_neg (by omega), if_neg (by omega), if_pos (by omega)]); rw [e9]; exact ⟨rfl, mBd_at hb⟩)
                  · refine q_aloadn C dX12_readsClause_120 rfl ?_
                    refine q_iconst C dX12_readsClause_121 ?_
                    refine q_iloadn C dX12_readsClause_122 rfl ?_
                    refine cv_RX12_108 C (by decide) (m_X12_fails l g _ (by omega) (by omega)) dX12_readsClause_123 (Nat.le_of_ble_eq_true rfl) (fun r123 => ?_)
                    refine q_pop C dX12_readsClause_126 rfl ?_
                    refine q_iconst C dX12_readsClause_127 ?_
                    refine q_zret C' dX12_readsClause_128 (by first | omega | exact q_b01 _ | simp) ?_
                    first | (exfalso; omega) | (have e9 : pCl t L a R = (3, a, R) := (by unfold pCl; rw [if_neg (by omega), if_pos (by omega)]); rw [e9]; exact ⟨congrArg some (q_bF (show ¬ (3 : Int) = 0 by decide)).symm, mBd_no (by decide) (((mRf.rf.f (by decide)).f (by decide)).f (by decide)) q_upO ((q_upK (by decide)).trans q_upO)⟩)
        · refine q_aloadn C dX12_readsClause_75 rfl ?_
          refine q_iconst C dX12_readsClause_76 ?_
          refine q_iloadn C dX12_readsClause_77 rfl ?_
          refine cv_RX12_108 C (by decide) (m_X12_fails l g _ (by omega) (by omega)) dX12_readsClause_78 (Nat.le_of_ble_eq_true rfl) (fun r78 => ?_)
          refine q_pop C dX12_readsClause_81 rfl ?_
          refine q_iconst C dX12_readsClause_82 ?_
          refine q_zret C' dX12_readsClause_83 (by first | omega | exact q_b01 _ | simp) ?_
          have e9 : pCl t L a R = (1, a, R) := (by unfold pCl; rw [if_pos (by omega)])
          rw [e9]
          exact ⟨congrArg some (q_bF (show ¬ (1 : Int) = 0 by decide)).symm, mBd_no (by decide) (((mRf.rf.f (by decide)).f (by decide)).f (by decide)) q_upO ((q_upK (by decide)).trans q_upO)⟩
    · refine q_iloadn C dX12_readsClause_45 rfl ?_
      refine q_bipush C dX12_readsClause_46 (by decide) ?_
      refine q_icmp_eq C 57 dX12_readsClause_48 (by decide) (by first | assumption | omega | exact q_tin _ | exact q_bIn _) (by first | assumption | omega | exact q_tin _ | exact q_bIn _) (fun h48 => ?_) (fun h48 => ?_)
      · refine q_iconst C dX12_readsClause_57 ?_
        refine q_goto C (tgt := 62) dX12_readsClause_58 (by decide) ?_
        refine q_istoren C dX12_readsClause_62 hn (by decide) rfl ?_
        refine q_iloadn C dX12_readsClause_63 rfl ?_
        refine q_if_eq C 75 dX12_readsClause_64 (by decide) (by first | assumption | omega | exact q_tin _ | exact q_bIn _) (fun h64 => ?_) (fun h64 => ?_)
        · exact absurd h64 (by decide)
        · refine q_aloadn C dX12_readsClause_67 rfl ?_
          refine gf_RX12_118 C dX12_readsClause_68 (fun r68 => ?_)
          try simp only [q_rd, q_rdS, ↓reduceIte, if_true, if_false, eq_self, Nat.reduceEqDiff, Int.reduceEq, Int.reduceNeg, reduceCtorEq] at r68 ⊢
          rw [x6] at r68 ⊢
          refine q_iconst C dX12_readsClause_71 ?_
          refine q_icmp_ne C 84 dX12_readsClause_72 (by decide) (by first | assumption | omega | exact q_tin _ | exact q_bIn _) (by first | assumption | omega | exact q_tin _ | exact q_bIn _) (fun h72 => ?_) (fun h72 => ?_)
          · refine q_iloadn C dX12_readsClause_84 rfl ?_
            refine q_bipush C dX12_readsClause_85 (by decide) ?_
            refine q_icmp_eq C 120 dX12_readsClause_87 (by decide) (by first | assumption | omega | exact q_tin _ | exact q_bIn _) (by first | assumption | omega | exact q_tin _ | exact q_bIn _) (fun h87 => ?_) (fun h87 => ?_)
            · refine q_aloadn C dX12_readsClause_120 rfl ?_
              refine q_iconst C dX12_readsClause_121 ?_
              refine q_iloadn C dX12_readsClause_122 rfl ?_
              refine cv_RX12_108 C (by decide) (m_X12_fails l g _ (by omega) (by omega)) dX12_readsClause_123 (Nat.le_of_ble_eq_true rfl) (fun r123 => ?_)
              refine q_pop C dX12_readsClause_126 rfl ?_
              refine q_iconst C dX12_readsClause_127 ?_
              refine q_zret C' dX12_readsClause_128 (by first | omega | exact q_b01 _ | simp) ?_
              first | (exfalso; omega) | (have e9 : pCl t L a R = (3, a, R) := (by unfold pCl; rw [if_neg (by omega), if_pos (by omega)]); rw [e9]; exact ⟨congrArg some (q_bF (show ¬ (3 : Int) = 0 by decide)).symm, mBd_no (by decide) (((mRf.rf.f (by decide)).f (by decide)).f (by decide)) q_upO ((q_upK (by decide)).trans q_upO)⟩)
            · refine q_iloadn C dX12_readsClause_90 rfl ?_
              refine q_bipush C dX12_readsClause_91 (by decide) ?_
              refine q_icmp_ne C 105 dX12_readsClause_93 (by decide) (by first | assumption | omega | exact q_tin _ | exact q_bIn _) (by first | assumption | omega | exact q_tin _ | exact q_bIn _) (fun h93 => ?_) (fun h93 => ?_)
              · refine q_iloadn C dX12_readsClause_105 rfl ?_
                refine q_bipush C dX12_readsClause_106 (by decide) ?_
                refine q_icmp_ne C 129 dX12_readsClause_108 (by decide) (by first | assumption | omega | exact q_tin _ | exact q_bIn _) (by first | assumption | omega | exact q_tin _ | exact q_bIn _) (fun h108 => ?_) (fun h108 => ?_)
                · refine q_iloadn C dX12_readsClause_129 rfl ?_
                  refine q_bipush C dX12_readsClause_130 (by decide) ?_
                  refine q_icmp_ne C 142 dX12_readsClause_132 (by decide) (by first | assumption | omega | exact q_tin _ | exact q_bIn _) (by first | assumption | omega | exact q_tin _ | exact q_bIn _) (fun h132 => ?_) (fun h132 => ?_)
                  · refine q_aloadn C dX12_readsClause_142 rfl ?_
                    refine cw_RX12_138 C (by decide) (m_X12_readsHouse l g _ hT.at hL (by omega) hR (hX.d (mRd_at _ _)) (by omega)) dX12_readsClause_143 (Nat.le_of_ble_eq_true rfl) (fun r N1 hz hp => ?_)
                    obtain ⟨rfl, hb⟩ := hp
                    show qV l g X _ _ _ (qI _ :: [])
                    refine q_zret C' dX12_readsClause_146 (by first | omega | exact q_b01 _ | simp) ?_
                    first | (exfalso; omega) | (have e9 : pCl t L a R = pFin t L (pHouseB t L (a + 1) R) := (by unfold pCl pBody; rw [if_neg (by omega), if_neg (by omega), if_neg (by omega), if_neg (by omega)]); rw [e9]; exact ⟨rfl, mBd_at hb⟩)
                  · refine q_aloadn C dX12_readsClause_135 rfl ?_
                    refine cw_RX12_135 C (by decide) (m_X12_readsComer l g _ hT.at hL (by omega) hR (hX.d (mRd_at _ _)) (by omega)) dX12_readsClause_136 (Nat.le_of_ble_eq_true rfl) (fun r N1 hz hp => ?_)
                    obtain ⟨rfl, hb⟩ := hp
                    show qV l g X _ _ _ (qI _ :: [])
                    refine q_goto C (tgt := 146) dX12_readsClause_139 (by decide) ?_
                    refine q_zret C' dX12_readsClause_146 (by first | omega | exact q_b01 _ | simp) ?_
                    first | (exfalso; omega) | (have e9 : pCl t L a R = pFin t L (pComerB t L (a + 1) R) := (by unfold pCl pBody; rw [if_neg (by omega), if_neg (by omega), if_neg (by omega), if_pos (by omega)]); rw [e9]; exact ⟨rfl, mBd_at hb⟩)
                · refine q_aloadn C dX12_readsClause_111 rfl ?_
                  refine gf_RX12_128 C dX12_readsClause_112 (fun r112 => ?_)
                  try simp only [q_rd, q_rdS, ↓reduceIte, if_true, if_false, eq_self, Nat.reduceEqDiff, Int.reduceEq, Int.reduceNeg, reduceCtorEq] at r112 ⊢
                  rw [x8] at r112 ⊢
                  refine q_bipush C dX12_readsClause_115 (by decide) ?_
                  refine q_icmp_ne C 129 dX12_readsClause_117 (by decide) (by first | assumption | omega | exact q_tin _ | exact q_bIn _) (by first | assumption | omega | exact q_tin _ | exact q_bIn _) (fun h117 => ?_) (fun h117 => ?_)
                  · refine q_iloadn C dX12_readsClause_129 rfl ?_
                    refine q_bipush C dX12_readsClause_130 (by decide) ?_
                    refine q_icmp_ne C 142 dX12_readsClause_132 (by decide) (by first | assumption | omega | exact q_tin _ | exact q_bIn _) (by first | assumption | omega | exact q_tin _ | exact q_bIn _) (fun h132 => ?_) (fun h132 => ?_)
                    · refine q_aloadn C dX12_readsClause_142 rfl ?_
                      refine cw_RX12_138 C (by decide) (m_X12_readsHouse l g _ hT.at hL (by omega) hR (hX.d (mRd_at _ _)) (by omega)) dX12_readsClause_143 (Nat.le_of_ble_eq_true rfl) (fun r N1 hz hp => ?_)
                      obtain ⟨rfl, hb⟩ := hp
                      show qV l g X _ _ _ (qI _ :: [])
                      refine q_zret C' dX12_readsClause_146 (by first | omega | exact q_b01 _ | simp) ?_
                      first | (exfalso; omega) | (have e9 : pCl t L a R = pFin t L (pHouseB t L (a + 1) R) := (by unfold pCl pBody; rw [if_neg (by omega), if_neg (by omega), if_neg (by omega), if_neg (by omega)]); rw [e9]; exact ⟨rfl, mBd_at hb⟩)
                    · refine q_aloadn C dX12_readsClause_135 rfl ?_
                      refine cw_RX12_135 C (by decide) (m_X12_readsComer l g _ hT.at hL (by omega) hR (hX.d (mRd_at _ _)) (by omega)) dX12_readsClause_136 (Nat.le_of_ble_eq_true rfl) (fun r N1 hz hp => ?_)
                      obtain ⟨rfl, hb⟩ := hp
                      show qV l g X _ _ _ (qI _ :: [])
                      refine q_goto C (tgt := 146) dX12_readsClause_139 (by decide) ?_
                      refine q_zret C' dX12_readsClause_146 (by first | omega | exact q_b01 _ | simp) ?_
                      first | (exfalso; omega) | (have e9 : pCl t L a R = pFin t L (pComerB t L (a + 1) R) := (by unfold pCl pBody; rw [if_neg (by omega), if_neg (by omega), if_neg (by omega), if_pos (by omega)]); rw [e9]; exact ⟨rfl, mBd_at hb⟩)
                  · refine q_aloadn C dX12_readsClause_120 rfl ?_
                    refine q_iconst C dX12_readsClause_121 ?_
                    refine q_iloadn C dX12_readsClause_122 rfl ?_
                    refine cv_RX12_108 C (by decide) (m_X12_fails l g _ (by omega) (by omega)) dX12_readsClause_123 (Nat.le_of_ble_eq_true rfl) (fun r123 => ?_)
                    refine q_pop C dX12_readsClause_126 rfl ?_
                    refine q_iconst C dX12_readsClause_127 ?_
                    refine q_zret C' dX12_readsClause_128 (by first | omega | exact q_b01 _ | simp) ?_
                    first | (exfalso; omega) | (have e9 : pCl t L a R = (3, a, R) := (by unfold pCl; rw [if_neg (by omega), if_pos (by omega)]); rw [e9]; exact ⟨congrArg some (q_bF (show ¬ (3 : Int) = 0 by decide)).symm, mBd_no (by decide) (((mRf.rf.f (by decide)).f (by decide)).f (by decide)) q_upO ((q_upK (by decide)).trans q_upO)⟩)
              · refine q_aloadn C dX12_readsClause_96 rfl ?_
                refine gf_RX12_125 C dX12_readsClause_97 (fun r97 => ?_)
                try simp only [q_rd, q_rdS, ↓reduceIte, if_true, if_false, eq_self, Nat.reduceEqDiff, Int.reduceEq, Int.reduceNeg, reduceCtorEq] at r97 ⊢
                rw [x7] at r97 ⊢
                refine q_bipush C dX12_readsClause_100 (by decide) ?_
                refine q_icmp_eq C 120 dX12_readsClause_102 (by decide) (by first | assumption | omega | exact q_tin _ | exact q_bIn _) (by first | assumption | omega | exact q_tin _ | exact q_bIn _) (fun h102 => ?_) (fun h102 => ?_)
                · refine q_aloadn C dX12_readsClause_120 rfl ?_
                  refine q_iconst C dX12_readsClause_121 ?_
                  refine q_iloadn C dX12_readsClause_122 rfl ?_
                  refine cv_RX12_108 C (by decide) (m_X12_fails l g _ (by omega) (by omega)) dX12_readsClause_123 (Nat.le_of_ble_eq_true rfl) (fun r123 => ?_)
                  refine q_pop C dX12_readsClause_126 rfl ?_
                  refine q_iconst C dX12_readsClause_127 ?_
                  refine q_zret C' dX12_readsClause_128 (by first | omega | exact q_b01 _ | simp) ?_
                  first | (exfalso; omega) | (have e9 : pCl t L a R = (3, a, R) := (by unfold pCl; rw [if_neg (by omega), if_pos (by omega)]); rw [e9]; exact ⟨congrArg some (q_bF (show ¬ (3 : Int) = 0 by decide)).symm, mBd_no (by decide) (((mRf.rf.f (by decide)).f (by decide)).f (by decide)) q_upO ((q_upK (by decide)).trans q_upO)⟩)
                · refine q_iloadn C dX12_readsClause_105 rfl ?_
                  refine q_bipush C dX12_readsClause_106 (by decide) ?_
                  refine q_icmp_ne C 129 dX12_readsClause_108 (by decide) (by first | assumption | omega | exact q_tin _ | exact q_bIn _) (by first | assumption | omega | exact q_tin _ | exact q_bIn _) (fun h108 => ?_) (fun h108 => ?_)
                  · refine q_iloadn C dX12_readsClause_129 rfl ?_
                    refine q_bipush C dX12_readsClause_130 (by decide) ?_
                    refine q_icmp_ne C 142 dX12_readsClause_132 (by decide) (by first | assumption | omega | exact q_tin _ | exact q_bIn _) (by first | assumption | omega | exact q_tin _ | exact q_bIn _) (fun h132 => ?_) (fun h132 => ?_)
                    · refine q_aloadn C dX12_readsClause_142 rfl ?_
                      refine cw_RX12_138 C (by decide) (m_X12_readsHouse l g _ hT.at hL (by omega) hR (hX.d (mRd_at _ _)) (by omega)) dX12_readsClause_143 (Nat.le_of_ble_eq_true rfl) (fun r N1 hz hp => ?_)
                      obtain ⟨rfl, hb⟩ := hp
                      show qV l g X _ _ _ (qI _ :: [])
                      refine q_zret C' dX12_readsClause_146 (by first | omega | exact q_b01 _ | simp) ?_
                      first | (exfalso; omega) | (have e9 : pCl t L a R = pFin t L (pHouseB t L (a + 1) R) := (by unfold pCl pBody; rw [if_neg (by omega), if_neg (by omega), if_neg (by omega), if_neg (by omega)]); rw [e9]; exact ⟨rfl, mBd_at hb⟩)
                    · refine q_aloadn C dX12_readsClause_135 rfl ?_
                      refine cw_RX12_135 C (by decide) (m_X12_readsComer l g _ hT.at hL (by omega) hR (hX.d (mRd_at _ _)) (by omega)) dX12_readsClause_136 (Nat.le_of_ble_eq_true rfl) (fun r N1 hz hp => ?_)
                      obtain ⟨rfl, hb⟩ := hp
                      show qV l g X _ _ _ (qI _ :: [])
                      refine q_goto C (tgt := 146) dX12_readsClause_139 (by decide) ?_
                      refine q_zret C' dX12_readsClause_146 (by first | omega | exact q_b01 _ | simp) ?_
                      first | (exfalso; omega) | (have e9 : pCl t L a R = pFin t L (pComerB t L (a + 1) R) := (by unfold pCl pBody; rw [if_neg (by omega), if_neg (by omega), if_neg (by omega), if_pos (by omega)]); rw [e9]; exact ⟨rfl, mBd_at hb⟩)
                  · refine q_aloadn C dX12_readsClause_111 rfl ?_
                    refine gf_RX12_128 C dX12_readsClause_112 (fun r112 => ?_)
                    try simp only [q_rd, q_rdS, ↓reduceIte, if_true, if_false, eq_self, Nat.reduceEqDiff, Int.reduceEq, Int.reduceNeg, reduceCtorEq] at r112 ⊢
                    rw [x8] at r112 ⊢
                    refine q_bipush C dX12_readsClause_115 (by decide) ?_
                    refine q_icmp_ne C 129 dX12_readsClause_117 (by decide) (by first | assumption | omega | exact q_tin _ | exact q_bIn _) (by first | assumption | omega | exact q_tin _ | exact q_bIn _) (fun h117 => ?_) (fun h117 => ?_)
                    · refine q_iloadn C dX12_readsClause_129 rfl ?_
                      refine q_bipush C dX12_readsClause_130 (by decide) ?_
                      refine q_icmp_ne C 142 dX12_readsClause_132 (by decide) (by first | assumption | omega | exact q_tin _ | exact q_bIn _) (by first | assumption | omega | exact q_tin _ | exact q_bIn _) (fun h132 => ?_) (fun h132 => ?_)
                      · refine q_aloadn C dX12_readsClause_142 rfl ?_
                        refine cw_RX12_138 C (by decide) (m_X12_readsHouse l g _ hT.at hL (by omega) hR (hX.d (mRd_at _ _)) (by omega)) dX12_readsClause_143 (Nat.le_of_ble_eq_true rfl) (fun r N1 hz hp => ?_)
                        obtain ⟨rfl, hb⟩ := hp
                        show qV l g X _ _ _ (qI _ :: [])
                        refine q_zret C' dX12_readsClause_146 (by first | omega | exact q_b01 _ | simp) ?_
                        first | (exfalso; omega) | (have e9 : pCl t L a R = pFin t L (pHouseB t L (a + 1) R) := (by unfold pCl pBody; rw [if_neg (by omega), if_neg (by omega), if_neg (by omega), if_neg (by omega)]); rw [e9]; exact ⟨rfl, mBd_at hb⟩)
                      · refine q_aloadn C dX12_readsClause_135 rfl ?_
                        refine cw_RX12_135 C (by decide) (m_X12_readsComer l g _ hT.at hL (by omega) hR (hX.d (mRd_at _ _)) (by omega)) dX12_readsClause_136 (Nat.le_of_ble_eq_true rfl) (fun r N1 hz hp => ?_)
                        obtain ⟨rfl, hb⟩ := hp
                        show qV l g X _ _ _ (qI _ :: [])
                        refine q_goto C (tgt := 146) dX12_readsClause_139 (by decide) ?_
                        refine q_zret C' dX12_readsClause_146 (by first | omega | exact q_b01 _ | simp) ?_
                        first | (exfalso; omega) | (have e9 : pCl t L a R = pFin t L (pComerB t L (a + 1) R) := (by unfold pCl pBody; rw [if_neg (by omega), if_neg (by omega), if_neg (by omega), if_pos (by omega)]); rw [e9]; exact ⟨rfl, mBd_at hb⟩)
                    · refine q_aloadn C dX12_readsClause_120 rfl ?_
                      refine q_iconst C dX12_readsClause_121 ?_
                      refine q_iloadn C dX12_readsClause_122 rfl ?_
                      refine cv_RX12_108 C (by decide) (m_X12_fails l g _ (by omega) (by omega)) dX12_readsClause_123 (Nat.le_of_ble_eq_true rfl) (fun r123 => ?_)
                      refine q_pop C dX12_readsClause_126 rfl ?_
                      refine q_iconst C dX12_readsClause_127 ?_
                      refine q_zret C' dX12_readsClause_128 (by first | omega | exact q_b01 _ | simp) ?_
                      first | (exfalso; omega) | (have e9 : pCl t L a R = (3, a, R) := (by unfold pCl; rw [if_neg (by omega), if_pos (by omega)]); rw [e9]; exact ⟨congrArg some (q_bF (show ¬ (3 : Int) = 0 by decide)).symm, mBd_no (by decide) (((mRf.rf.f (by decide)).f (by decide)).f (by decide)) q_upO ((q_upK (by decide)).trans q_upO)⟩)
          · refine q_aloadn C dX12_readsClause_75 rfl ?_
            refine q_iconst C dX12_readsClause_76 ?_
            refine q_iloadn C dX12_readsClause_77 rfl ?_
            refine cv_RX12_108 C (by decide) (m_X12_fails l g _ (by omega) (by omega)) dX12_readsClause_78 (Nat.le_of_ble_eq_true rfl) (fun r78 => ?_)
            refine q_pop C dX12_readsClause_81 rfl ?_
            refine q_iconst C dX12_readsClause_82 ?_
            refine q_zret C' dX12_readsClause_83 (by first | omega | exact q_b01 _ | simp) ?_
            have e9 : pCl t L a R = (1, a, R) := (by unfold pCl; rw [if_pos (by omega)])
            rw [e9]
            exact ⟨congrArg some (q_bF (show ¬ (1 : Int) = 0 by decide)).symm, mBd_no (by decide) (((mRf.rf.f (by decide)).f (by decide)).f (by decide)) q_upO ((q_upK (by decide)).trans q_upO)⟩
      · refine q_iloadn C dX12_readsClause_51 rfl ?_
        refine q_bipush C dX12_readsClause_52 (by decide) ?_
        refine q_icmp_ne C 61 dX12_readsClause_54 (by decide) (by first | assumption | omega | exact q_tin _ | exact q_bIn _) (by first | assumption | omega | exact q_tin _ | exact q_bIn _) (fun h54 => ?_) (fun h54 => ?_)
        · refine q_iconst C dX12_readsClause_61 ?_
          refine q_istoren C dX12_readsClause_62 hn (by decide) rfl ?_
          refine q_iloadn C dX12_readsClause_63 rfl ?_
          refine q_if_eq C 75 dX12_readsClause_64 (by decide) (by first | assumption | omega | exact q_tin _ | exact q_bIn _) (fun h64 => ?_) (fun h64 => ?_)
          · refine q_aloadn C dX12_readsClause_75 rfl ?_
            refine q_iconst C dX12_readsClause_76 ?_
            refine q_iloadn C dX12_readsClause_77 rfl ?_
            refine cv_RX12_108 C (by decide) (m_X12_fails l g _ (by omega) (by omega)) dX12_readsClause_78 (Nat.le_of_ble_eq_true rfl) (fun r78 => ?_)
            refine q_pop C dX12_readsClause_81 rfl ?_
            refine q_iconst C dX12_readsClause_82 ?_
            refine q_zret C' dX12_readsClause_83 (by first | omega | exact q_b01 _ | simp) ?_
            have e9 : pCl t L a R = (1, a, R) := (by unfold pCl; rw [if_pos (by omega)])
            rw [e9]
            exact ⟨congrArg some (q_bF (show ¬ (1 : Int) = 0 by decide)).symm, mBd_no (by decide) (((mRf.rf.f (by decide)).f (by decide)).f (by decide)) q_upO ((q_upK (by decide)).trans q_upO)⟩
          · exact absurd rfl h64
        · refine q_iconst C dX12_readsClause_57 ?_
          refine q_goto C (tgt := 62) dX12_readsClause_58 (by decide) ?_
          refine q_istoren C dX12_readsClause_62 hn (by decide) rfl ?_
          refine q_iloadn C dX12_readsClause_63 rfl ?_
          refine q_if_eq C 75 dX12_readsClause_64 (by decide) (by first | assumption | omega | exact q_tin _ | exact q_bIn _) (fun h64 => ?_) (fun h64 => ?_)
          · exact absurd h64 (by decide)
          · refine q_aloadn C dX12_readsClause_67 rfl ?_
            refine gf_RX12_118 C dX12_readsClause_68 (fun r68 => ?_)
            try simp only [q_rd, q_rdS, ↓reduceIte, if_true, if_false, eq_self, Nat.reduceEqDiff, Int.reduceEq, Int.reduceNeg, reduceCtorEq] at r68 ⊢
            rw [x6] at r68 ⊢
            refine q_iconst C dX12_readsClause_71 ?_
            refine q_icmp_ne C 84 dX12_readsClause_72 (by decide) (by first | assumption | omega | exact q_tin _ | exact q_bIn _) (by first | assumption | omega | exact q_tin _ | exact q_bIn _) (fun h72 => ?_) (fun h72 => ?_)
            · refine q_iloadn C dX12_readsClause_84 rfl ?_
              refine q_bipush C dX12_readsClause_85 (by decide) ?_
              refine q_icmp_eq C 120 dX12_readsClause_87 (by decide) (by first | assumption | omega | exact q_tin _ | exact q_bIn _) (by first | assumption | omega | exact q_tin _ | exact q_bIn _) (fun h87 => ?_) (fun h87 => ?_)
              · refine q_aloadn C dX12_readsClause_120 rfl ?_
                refine q_iconst C dX12_readsClause_121 ?_
                refine q_iloadn C dX12_readsClause_122 rfl ?_
                refine cv_RX12_108 C (by decide) (m_X12_fails l g _ (by omega) (by omega)) dX12_readsClause_123 (Nat.le_of_ble_eq_true rfl) (fun r123 => ?_)
                refine q_pop C dX12_readsClause_126 rfl ?_
                refine q_iconst C dX12_readsClause_127 ?_
                refine q_zret C' dX12_readsClause_128 (by first | omega | exact q_b01 _ | simp) ?_
                first | (exfalso; omega) | (have e9 : pCl t L a R = (3, a, R) := (by unfold pCl; rw [if_neg (by omega), if_pos (by omega)]); rw [e9]; exact ⟨congrArg some (q_bF (show ¬ (3 : Int) = 0 by decide)).symm, mBd_no (by decide) (((mRf.rf.f (by decide)).f (by decide)).f (by decide)) q_upO ((q_upK (by decide)).trans q_upO)⟩)
              · refine q_iloadn C dX12_readsClause_90 rfl ?_
                refine q_bipush C dX12_readsClause_91 (by decide) ?_
                refine q_icmp_ne C 105 dX12_readsClause_93 (by decide) (by first | assumption | omega | exact q_tin _ | exact q_bIn _) (by first | assumption | omega | exact q_tin _ | exact q_bIn _) (fun h93 => ?_) (fun h93 => ?_)
                · refine q_iloadn C dX12_readsClause_105 rfl ?_
                  refine q_bipush C dX12_readsClause_106 (by decide) ?_
                  refine q_icmp_ne C 129 dX12_readsClause_108 (by decide) (by first | assumption | omega | exact q_tin _ | exact q_bIn _) (by first | assumption | omega | exact q_tin _ | exact q_bIn _) (fun h108 => ?_) (fun h108 => ?_)
                  · refine q_iloadn C dX12_readsClause_129 rfl ?_
                    refine q_bipush C dX12_readsClause_130 (by decide) ?_
                    refine q_icmp_ne C 142 dX12_readsClause_132 (by decide) (by first | assumption | omega | exact q_tin _ | exact q_bIn _) (by first | assumption | omega | exact q_tin _ | exact q_bIn _) (fun h132 => ?_) (fun h132 => ?_)
                    · refine q_aloadn C dX12_readsClause_142 rfl ?_
                      refine cw_RX12_138 C (by decide) (m_X12_readsHouse l g _ hT.at hL (by omega) hR (hX.d (mRd_at _ _)) (by omega)) dX12_readsClause_143 (Nat.le_of_ble_eq_true rfl) (fun r N1 hz hp => ?_)
                      obtain ⟨rfl, hb⟩ := hp
                      show qV l g X _ _ _ (qI _ :: [])
                      refine q_zret C' dX12_readsClause_146 (by first | omega | exact q_b01 _ | simp) ?_
                      first | (exfalso; omega) | (have e9 : pCl t L a R = pFin t L (pHouseB t L (a + 1) R) := (by unfold pCl pBody; rw [if_neg (by omega), if_neg (by omega), if_neg (by omega), if_neg (by omega)]); rw [e9]; exact ⟨rfl, mBd_at hb⟩)
                    · refine q_aloadn C dX12_readsClause_135 rfl ?_
                      refine cw_RX12_135 C (by decide) (m_X12_readsComer l g _ hT.at hL (by omega) hR (hX.d (mRd_at _ _)) (by omega)) dX12_readsClause_136 (Nat.le_of_ble_eq_true rfl) (fun r N1 hz hp => ?_)
                      obtain ⟨rfl, hb⟩ := hp
                      show qV l g X _ _ _ (qI _ :: [])
                      refine q_goto C (tgt := 146) dX12_readsClause_139 (by decide) ?_
                      refine q_zret C' dX12_readsClause_146 (by first | omega | exact q_b01 _ | simp) ?_
                      first | (exfalso; omega) | (have e9 : pCl t L a R = pFin t L (pComerB t L (a + 1) R) := (by unfold pCl pBody; rw [if_neg (by omega), if_neg (by omega), if_neg (by omega), if_pos (by omega)]); rw [e9]; exact ⟨rfl, mBd_at hb⟩)
                  · refine q_aloadn C dX12_readsClause_111 rfl ?_
                    refine gf_RX12_128 C dX12_readsClause_112 (fun r112 => ?_)
                    try simp only [q_rd, q_rdS, ↓reduceIte, if_true, if_false, eq_self, Nat.reduceEqDiff, Int.reduceEq, Int.reduceNeg, reduceCtorEq] at r112 ⊢
                    rw [x8] at r112 ⊢
                    refine q_bipush C dX12_readsClause_115 (by decide) ?_
                    refine q_icmp_ne C 129 dX12_readsClause_117 (by decide) (by first | assumption | omega | exact q_tin _ | exact q_bIn _) (by first | assumption | omega | exact q_tin _ | exact q_bIn _) (fun h117 => ?_) (fun h117 => ?_)
                    · refine q_iloadn C dX12_readsClause_129 rfl ?_
                      refine q_bipush C dX12_readsClause_130 (by decide) ?_
                      refine q_icmp_ne C 142 dX12_readsClause_132 (by decide) (by first | assumption | omega | exact q_tin _ | exact q_bIn _) (by first | assumption | omega | exact q_tin _ | exact q_bIn _) (fun h132 => ?_) (fun h132 => ?_)
                      · refine q_aloadn C dX12_readsClause_142 rfl ?_
                        refine cw_RX12_138 C (by decide) (m_X12_readsHouse l g _ hT.at hL (by omega) hR (hX.d (mRd_at _ _)) (by omega)) dX12_readsClause_143 (Nat.le_of_ble_eq_true rfl) (fun r N1 hz hp => ?_)
                        obtain ⟨rfl, hb⟩ := hp
                        show qV l g X _ _ _ (qI _ :: [])
                        refine q_zret C' dX12_readsClause_146 (by first | omega | exact q_b01 _ | simp) ?_
                        first | (exfalso; omega) | (have e9 : pCl t L a R = pFin t L (pHouseB t L (a + 1) R) := (by unfold pCl pBody; rw [if_neg (by omega), if_neg (by omega), if_neg (by omega), if_neg (by omega)]); rw [e9]; exact ⟨rfl, mBd_at hb⟩)
                      · refine q_aloadn C dX12_readsClause_135 rfl ?_
                        refine cw_RX12_135 C (by decide) (m_X12_readsComer l g _ hT.at hL (by omega) hR (hX.d (mRd_at _ _)) (by omega)) dX12_readsClause_136 (Nat.le_of_ble_eq_true rfl) (fun r N1 hz hp => ?_)
                        obtain ⟨rfl, hb⟩ := hp
                        show qV l g X _ _ _ (qI _ :: [])
                        refine q_goto C (tgt := 146) dX12_readsClause_139 (by decide) ?_
                        refine q_zret C' dX12_readsClause_146 (by first | omega | exact q_b01 _ | simp) ?_
                        first | (exfalso; omega) | (have e9 : pCl t L a R = pFin t L (pComerB t L (a + 1) R) := (by unfold pCl pBody; rw [if_neg (by omega), if_neg (by omega), if_neg (by omega), if_pos (by omega)]); rw [e9]; exact ⟨rfl, mBd_at hb⟩)
                    · refine q_aloadn C dX12_readsClause_120 rfl ?_
                      refine q_iconst C dX12_readsClause_121 ?_
                      refine q_iloadn C dX12_readsClause_122 rfl ?_
                      refine cv_RX12_108 C (by decide) (m_X12_fails l g _ (by omega) (by omega)) dX12_readsClause_123 (Nat.le_of_ble_eq_true rfl) (fun r123 => ?_)
                      refine q_pop C dX12_readsClause_126 rfl ?_
                      refine q_iconst C dX12_readsClause_127 ?_
                      refine q_zret C' dX12_readsClause_128 (by first | omega | exact q_b01 _ | simp) ?_
                      first | (exfalso; omega) | (have e9 : pCl t L a R = (3, a, R) := (by unfold pCl; rw [if_neg (by omega), if_pos (by omega)]); rw [e9]; exact ⟨congrArg some (q_bF (show ¬ (3 : Int) = 0 by decide)).symm, mBd_no (by decide) (((mRf.rf.f (by decide)).f (by decide)).f (by decide)) q_upO ((q_upK (by decide)).trans q_upO)⟩)
                · refine q_aloadn C dX12_readsClause_96 rfl ?_
                  refine gf_RX12_125 C dX12_readsClause_97 (fun r97 => ?_)
                  try simp only [q_rd, q_rdS, ↓reduceIte, if_true, if_false, eq_self, Nat.reduceEqDiff, Int.reduceEq, Int.reduceNeg, reduceCtorEq] at r97 ⊢
                  rw [x7] at r97 ⊢
                  refine q_bipush C dX12_readsClause_100 (by decide) ?_
                  refine q_icmp_eq C 120 dX12_readsClause_102 (by decide) (by first | assumption | omega | exact q_tin _ | exact q_bIn _) (by first | assumption | omega | exact q_tin _ | exact q_bIn _) (fun h102 => ?_) (fun h102 => ?_)
                  · refine q_aloadn C dX12_readsClause_120 rfl ?_
                    refine q_iconst C dX12_readsClause_121 ?_
                    refine q_iloadn C dX12_readsClause_122 rfl ?_
                    refine cv_RX12_108 C (by decide) (m_X12_fails l g _ (by omega) (by omega)) dX12_readsClause_123 (Nat.le_of_ble_eq_true rfl) (fun r123 => ?_)
                    refine q_pop C dX12_readsClause_126 rfl ?_
                    refine q_iconst C dX12_readsClause_127 ?_
                    refine q_zret C' dX12_readsClause_128 (by first | omega | exact q_b01 _ | simp) ?_
                    first | (exfalso; omega) | (have e9 : pCl t L a R = (3, a, R) := (by unfold pCl; rw [if_neg (by omega), if_pos (by omega)]); rw [e9]; exact ⟨congrArg some (q_bF (show ¬ (3 : Int) = 0 by decide)).symm, mBd_no (by decide) (((mRf.rf.f (by decide)).f (by decide)).f (by decide)) q_upO ((q_upK (by decide)).trans q_upO)⟩)
                  · refine q_iloadn C dX12_readsClause_105 rfl ?_
                    refine q_bipush C dX12_readsClause_106 (by decide) ?_
                    refine q_icmp_ne C 129 dX12_readsClause_108 (by decide) (by first | assumption | omega | exact q_tin _ | exact q_bIn _) (by first | assumption | omega | exact q_tin _ | exact q_bIn _) (fun h108 => ?_) (fun h108 => ?_)
                    · refine q_iloadn C dX12_readsClause_129 rfl ?_
                      refine q_bipush C dX12_readsClause_130 (by decide) ?_
                      refine q_icmp_ne C 142 dX12_readsClause_132 (by decide) (by first | assumption | omega | exact q_tin _ | exact q_bIn _) (by first | assumption | omega | exact q_tin _ | exact q_bIn _) (fun h132 => ?_) (fun h132 => ?_)
                      · refine q_aloadn C dX12_readsClause_142 rfl ?_
                        refine cw_RX12_138 C (by decide) (m_X12_readsHouse l g _ hT.at hL (by omega) hR (hX.d (mRd_at _ _)) (by omega)) dX12_readsClause_143 (Nat.le_of_ble_eq_true rfl) (fun r N1 hz hp => ?_)
                        obtain ⟨rfl, hb⟩ := hp
                        show qV l g X _ _ _ (qI _ :: [])
                        refine q_zret C' dX12_readsClause_146 (by first | omega | exact q_b01 _ | simp) ?_
                        first | (exfalso; omega) | (have e9 : pCl t L a R = pFin t L (pHouseB t L (a + 1) R) := (by unfold pCl pBody; rw [if_neg (by omega), if_neg (by omega), if_neg (by omega), if_neg (by omega)]); rw [e9]; exact ⟨rfl, mBd_at hb⟩)
                      · refine q_aloadn C dX12_readsClause_135 rfl ?_
                        refine cw_RX12_135 C (by decide) (m_X12_readsComer l g _ hT.at hL (by omega) hR (hX.d (mRd_at _ _)) (by omega)) dX12_readsClause_136 (Nat.le_of_ble_eq_true rfl) (fun r N1 hz hp => ?_)
                        obtain ⟨rfl, hb⟩ := hp
                        show qV l g X _ _ _ (qI _ :: [])
                        refine q_goto C (tgt := 146) dX12_readsClause_139 (by decide) ?_
                        refine q_zret C' dX12_readsClause_146 (by first | omega | exact q_b01 _ | simp) ?_
                        first | (exfalso; omega) | (have e9 : pCl t L a R = pFin t L (pComerB t L (a + 1) R) := (by unfold pCl pBody; rw [if_neg (by omega), if_neg (by omega), if_neg (by omega), if_pos (by omega)]); rw [e9]; exact ⟨rfl, mBd_at hb⟩)
                    · refine q_aloadn C dX12_readsClause_111 rfl ?_
                      refine gf_RX12_128 C dX12_readsClause_112 (fun r112 => ?_)
                      try simp only [q_rd, q_rdS, ↓reduceIte, if_true, if_false, eq_self, Nat.reduceEqDiff, Int.reduceEq, Int.reduceNeg, reduceCtorEq] at r112 ⊢
                      rw [x8] at r112 ⊢
                      refine q_bipush C dX12_readsClause_115 (by decide) ?_
                      refine q_icmp_ne C 129 dX12_readsClause_117 (by decide) (by first | assumption | omega | exact q_tin _ | exact q_bIn _) (by first | assumption | omega | exact q_tin _ | exact q_bIn _) (fun h117 => ?_) (fun h117 => ?_)
                      · refine q_iloadn C dX12_readsClause_129 rfl ?_
                        refine q_bipush C dX12_readsClause_130 (by decide) ?_
                        refine q_icmp_ne C 142 dX12_readsClause_132 (by decide) (by first | assumption | omega | exact q_tin _ | exact q_bIn _) (by first | assumption | omega | exact q_tin _ | exact q_bIn _) (fun h132 => ?_) (fun h132 => ?_)
                        · refine q_aloadn C dX12_readsClause_142 rfl ?_
                          refine cw_RX12_138 C (by decide) (m_X12_readsHouse l g _ hT.at hL (by omega) hR (hX.d (mRd_at _ _)) (by omega)) dX12_readsClause_143 (Nat.le_of_ble_eq_true rfl) (fun r N1 hz hp => ?_)
                          obtain ⟨rfl, hb⟩ := hp
                          show qV l g X _ _ _ (qI _ :: [])
                          refine q_zret C' dX12_readsClause_146 (by first | omega | exact q_b01 _ | simp) ?_
                          first | (exfalso; omega) | (have e9 : pCl t L a R = pFin t L (pHouseB t L (a + 1) R) := (by unfold pCl pBody; rw [if_neg (by omega), if_neg (by omega), if_neg (by omega), if_neg (by omega)]); rw [e9]; exact ⟨rfl, mBd_at hb⟩)
                        · refine q_aloadn C dX12_readsClause_135 rfl ?_
                          refine cw_RX12_135 C (by decide) (m_X12_readsComer l g _ hT.at hL (by omega) hR (hX.d (mRd_at _ _)) (by omega)) dX12_readsClause_136 (Nat.le_of_ble_eq_true rfl) (fun r N1 hz hp => ?_)
                          obtain ⟨rfl, hb⟩ := hp
                          show qV l g X _ _ _ (qI _ :: [])
                          refine q_goto C (tgt := 146) dX12_readsClause_139 (by decide) ?_
                          refine q_zret C' dX12_readsClause_146 (by first | omega | exact q_b01 _ | simp) ?_
                          first | (exfalso; omega) | (have e9 : pCl t L a R = pFin t L (pComerB t L (a + 1) R) := (by unfold pCl pBody; rw [if_neg (by omega), if_neg (by omega), if_neg (by omega), if_pos (by omega)]); rw [e9]; exact ⟨rfl, mBd_at hb⟩)
                      · refine q_aloadn C dX12_readsClause_120 rfl ?_
                        refine q_iconst C dX12_readsClause_121 ?_
                        refine q_iloadn C dX12_readsClause_122 rfl ?_
                        refine cv_RX12_108 C (by decide) (m_X12_fails l g _ (by omega) (by omega)) dX12_readsClause_123 (Nat.le_of_ble_eq_true rfl) (fun r123 => ?_)
                        refine q_pop C dX12_readsClause_126 rfl ?_
                        refine q_iconst C dX12_readsClause_127 ?_
                        refine q_zret C' dX12_readsClause_128 (by first | omega | exact q_b01 _ | simp) ?_
                        first | (exfalso; omega) | (have e9 : pCl t L a R = (3, a, R) := (by unfold pCl; rw [if_neg (by omega), if_pos (by omega)]); rw [e9]; exact ⟨congrArg some (q_bF (show ¬ (3 : Int) = 0 by decide)).symm, mBd_no (by decide) (((mRf.rf.f (by decide)).f (by decide)).f (by decide)) q_upO ((q_upK (by decide)).trans q_upO)⟩)
            · refine q_aloadn C dX12_readsClause_75 rfl ?_
              refine q_iconst C dX12_readsClause_76 ?_
              refine q_iloadn C dX12_readsClause_77 rfl ?_
              refine cv_RX12_108 C (by decide) (m_X12_fails l g _ (by omega) (by omega)) dX12_readsClause_78 (Nat.le_of_ble_eq_true rfl) (fun r78 => ?_)
              refine q_pop C dX12_readsClause_81 rfl ?_
              refine q_iconst C dX12_readsClause_82 ?_
              refine q_zret C' dX12_readsClause_83 (by first | omega | exact q_b01 _ | simp) ?_
              have e9 : pCl t L a R = (1, a, R) := (by unfold pCl; rw [if_pos (by omega)])
              rw [e9]
              exact ⟨congrArg some (q_bF (show ¬ (1 : Int) = 0 by decide)).symm, mBd_no (by decide) (((mRf.rf.f (by decide)).f (by decide)).f (by decide)) q_upO ((q_upK (by decide)).trans q_upO)⟩
  · refine q_aloadn C dX12_readsClause_26 rfl ?_
    refine gf_RX12_118 C dX12_readsClause_27 (fun r27 => ?_)
    try simp only [q_rd, q_rdS, ↓reduceIte, if_true, if_false, eq_self, Nat.reduceEqDiff, Int.reduceEq, Int.reduceNeg, reduceCtorEq] at r27 ⊢
    rw [x6] at r27 ⊢
    refine q_iconst C dX12_readsClause_30 ?_
    refine q_icmp_ne C 39 dX12_readsClause_31 (by decide) (by first | assumption | omega | exact q_tin _ | exact q_bIn _) (by first | assumption | omega | exact q_tin _ | exact q_bIn _) (fun h31 => ?_) (fun h31 => ?_)
    · refine q_iloadn C dX12_readsClause_39 rfl ?_
      refine q_bipush C dX12_readsClause_40 (by decide) ?_
      refine q_icmp_eq C 57 dX12_readsClause_42 (by decide) (by first | assumption | omega | exact q_tin _ | exact q_bIn _) (by first | assumption | omega | exact q_tin _ | exact q_bIn _) (fun h42 => ?_) (fun h42 => ?_)
      · refine q_iconst C dX12_readsClause_57 ?_
        refine q_goto C (tgt := 62) dX12_readsClause_58 (by decide) ?_
        refine q_istoren C dX12_readsClause_62 hn (by decide) rfl ?_
        refine q_iloadn C dX12_readsClause_63 rfl ?_
        refine q_if_eq C 75 dX12_readsClause_64 (by decide) (by first | assumption | omega | exact q_tin _ | exact q_bIn _) (fun h64 => ?_) (fun h64 => ?_)
        · exact absurd h64 (by decide)
        · refine q_aloadn C dX12_readsClause_67 rfl ?_
          refine gf_RX12_118 C dX12_readsClause_68 (fun r68 => ?_)
          try simp only [q_rd, q_rdS, ↓reduceIte, if_true, if_false, eq_self, Nat.reduceEqDiff, Int.reduceEq, Int.reduceNeg, reduceCtorEq] at r68 ⊢
          rw [x6] at r68 ⊢
          refine q_iconst C dX12_readsClause_71 ?_
          refine q_icmp_ne C 84 dX12_readsClause_72 (by decide) (by first | assumption | omega | exact q_tin _ | exact q_bIn _) (by first | assumption | omega | exact q_tin _ | exact q_bIn _) (fun h72 => ?_) (fun h72 => ?_)
          · refine q_iloadn C dX12_readsClause_84 rfl ?_
            refine q_bipush C dX12_readsClause_85 (by decide) ?_
            refine q_icmp_eq C 120 dX12_readsClause_87 (by decide) (by first | assumption | omega | exact q_tin _ | exact q_bIn _) (by first | assumption | omega | exact q_tin _ | exact q_bIn _) (fun h87 => ?_) (fun h87 => ?_)
            · refine q_aloadn C dX12_readsClause_120 rfl ?_
              refine q_iconst C dX12_readsClause_121 ?_
              refine q_iloadn C dX12_readsClause_122 rfl ?_
              refine cv_RX12_108 C (by decide) (m_X12_fails l g _ (by omega) (by omega)) dX12_readsClause_123 (Nat.le_of_ble_eq_true rfl) (fun r123 => ?_)
              refine q_pop C dX12_readsClause_126 rfl ?_
              refine q_iconst C dX12_readsClause_127 ?_
              refine q_zret C' dX12_readsClause_128 (by first | omega | exact q_b01 _ | simp) ?_
              first | (exfalso; omega) | (have e9 : pCl t L a R = (3, a, R) := (by unfold pCl; rw [if_neg (by omega), if_pos (by omega)]); rw [e9]; exact ⟨congrArg some (q_bF (show ¬ (3 : Int) = 0 by decide)).symm, mBd_no (by decide) (((mRf.rf.f (by decide)).f (by decide)).f (by decide)) q_upO ((q_upK (by decide)).trans q_upO)⟩)
            · refine q_iloadn C dX12_readsClause_90 rfl ?_
              refine q_bipush C dX12_readsClause_91 (by decide) ?_
              refine q_icmp_ne C 105 dX12_readsClause_93 (by decide) (by first | assumption | omega | exact q_tin _ | exact q_bIn _) (by first | assumption | omega | exact q_tin _ | exact q_bIn _) (fun h93 => ?_) (fun h93 => ?_)
              · refine q_iloadn C dX12_readsClause_105 rfl ?_
                refine q_bipush C dX12_readsClause_106 (by decide) ?_
                refine q_icmp_ne C 129 dX12_readsClause_108 (by decide) (by first | assumption | omega | exact q_tin _ | exact q_bIn _) (by first | assumption | omega | exact q_tin _ | exact q_bIn _) (fun h108 => ?_) (fun h108 => ?_)
                · refine q_iloadn C dX12_readsClause_129 rfl ?_
                  refine q_bipush C dX12_readsClause_130 (by decide) ?_
                  refine q_icmp_ne C 142 dX12_readsClause_132 (by decide) (by first | assumption | omega | exact q_tin _ | exact q_bIn _) (by first | assumption | omega | exact q_tin _ | exact q_bIn _) (fun h132 => ?_) (fun h132 => ?_)
                  · refine q_aloadn C dX12_readsClause_142 rfl ?_
                    refine cw_RX12_138 C (by decide) (m_X12_readsHouse l g _ hT.at hL (by omega) hR (hX.d (mRd_at _ _)) (by omega)) dX12_readsClause_143 (Nat.le_of_ble_eq_true rfl) (fun r N1 hz hp => ?_)
                    obtain ⟨rfl, hb⟩ := hp
                    show qV l g X _ _ _ (qI _ :: [])
                    refine q_zret C' dX12_readsClause_146 (by first | omega | exact q_b01 _ | simp) ?_
                    first | (exfalso; omega) | (have e9 : pCl t L a R = pFin t L (pHouseB t L (a + 1) R) := (by unfold pCl pBody; rw [if_neg (by omega), if_neg (by omega), if_neg (by omega), if_neg (by omega)]); rw [e9]; exact ⟨rfl, mBd_at hb⟩)
                  · refine q_aloadn C dX12_readsClause_135 rfl ?_
                    refine cw_RX12_135 C (by decide) (m_X12_readsComer l g _ hT.at hL (by omega) hR (hX.d (mRd_at _ _)) (by omega)) dX12_readsClause_136 (Nat.le_of_ble_eq_true rfl) (fun r N1 hz hp => ?_)
                    obtain ⟨rfl, hb⟩ := hp
                    show qV l g X _ _ _ (qI _ :: [])
                    refine q_goto C (tgt := 146) dX12_readsClause_139 (by decide) ?_
                    refine q_zret C' dX12_readsClause_146 (by first | omega | exact q_b01 _ | simp) ?_
                    first | (exfalso; omega) | (have e9 : pCl t L a R = pFin t L (pComerB t L (a + 1) R) := (by unfold pCl pBody; rw [if_neg (by omega), if_neg (by omega), if_neg (by omega), if_pos (by omega)]); rw [e9]; exact ⟨rfl, mBd_at hb⟩)
                · refine q_aloadn C dX12_readsClause_111 rfl ?_
                  refine gf_RX12_128 C dX12_readsClause_112 (fun r112 => ?_)
                  try simp only [q_rd, q_rdS, ↓reduceIte, if_true, if_false, eq_self, Nat.reduceEqDiff, Int.reduceEq, Int.reduceNeg, reduceCtorEq] at r112 ⊢
                  rw [x8] at r112 ⊢
                  refine q_bipush C dX12_readsClause_115 (by decide) ?_
                  refine q_icmp_ne C 129 dX12_readsClause_117 (by decide) (by first | assumption | omega | exact q_tin _ | exact q_bIn _) (by first | assumption | omega | exact q_tin _ | exact q_bIn _) (fun h117 => ?_) (fun h117 => ?_)
                  · refine q_iloadn C dX12_readsClause_129 rfl ?_
                    refine q_bipush C dX12_readsClause_130 (by decide) ?_
                    refine q_icmp_ne C 142 dX12_readsClause_132 (by decide) (by first | assumption | omega | exact q_tin _ | exact q_bIn _) (by first | assumption | omega | exact q_tin _ | exact q_bIn _) (fun h132 => ?_) (fun h132 => ?_)
                    · refine q_aloadn C dX12_readsClause_142 rfl ?_
                      refine cw_RX12_138 C (by decide) (m_X12_readsHouse l g _ hT.at hL (by omega) hR (hX.d (mRd_at _ _)) (by omega)) dX12_readsClause_143 (Nat.le_of_ble_eq_true rfl) (fun r N1 hz hp => ?_)
                      obtain ⟨rfl, hb⟩ := hp
                      show qV l g X _ _ _ (qI _ :: [])
                      refine q_zret C' dX12_readsClause_146 (by first | omega | exact q_b01 _ | simp) ?_
                      first | (exfalso; omega) | (have e9 : pCl t L a R = pFin t L (pHouseB t L (a + 1) R) := (by unfold pCl pBody; rw [if_neg (by omega), if_neg (by omega), if_neg (by omega), if_neg (by omega)]); rw [e9]; exact ⟨rfl, mBd_at hb⟩)
                    · refine q_aloadn C dX12_readsClause_135 rfl ?_
                      refine cw_RX12_135 C (by decide) (m_X12_readsComer l g _ hT.at hL (by omega) hR (hX.d (mRd_at _ _)) (by omega)) dX12_readsClause_136 (Nat.le_of_ble_eq_true rfl) (fun r N1 hz hp => ?_)
                      obtain ⟨rfl, hb⟩ := hp
                      show qV l g X _ _ _ (qI _ :: [])
                      refine q_goto C (tgt := 146) dX12_readsClause_139 (by decide) ?_
                      refine q_zret C' dX12_readsClause_146 (by first | omega | exact q_b01 _ | simp) ?_
                      first | (exfalso; omega) | (have e9 : pCl t L a R = pFin t L (pComerB t L (a + 1) R) := (by unfold pCl pBody; rw [if_neg (by omega), if_neg (by omega), if_neg (by omega), if_pos (by omega)]); rw [e9]; exact ⟨rfl, mBd_at hb⟩)
                  · refine q_aloadn C dX12_readsClause_120 rfl ?_
                    refine q_iconst C dX12_readsClause_121 ?_
                    refine q_iloadn C dX12_readsClause_122 rfl ?_
                    refine cv_RX12_108 C (by decide) (m_X12_fails l g _ (by omega) (by omega)) dX12_readsClause_123 (Nat.le_of_ble_eq_true rfl) (fun r123 => ?_)
                    refine q_pop C dX12_readsClause_126 rfl ?_
                    refine q_iconst C dX12_readsClause_127 ?_
                    refine q_zret C' dX12_readsClause_128 (by first | omega | exact q_b01 _ | simp) ?_
                    first | (exfalso; omega) | (have e9 : pCl t L a R = (3, a, R) := (by unfold pCl; rw [if_neg (by omega), if_pos (by omega)]); rw [e9]; exact ⟨congrArg some (q_bF (show ¬ (3 : Int) = 0 by decide)).symm, mBd_no (by decide) (((mRf.rf.f (by decide)).f (by decide)).f (by decide)) q_upO ((q_upK (by decide)).trans q_upO)⟩)
              · refine q_aloadn C dX12_readsClause_96 rfl ?_
                refine gf_RX12_125 C dX12_readsClause_97 (fun r97 => ?_)
                try simp only [q_rd, q_rdS, ↓reduceIte, if_true, if_false, eq_self, Nat.reduceEqDiff, Int.reduceEq, Int.reduceNeg, reduceCtorEq] at r97 ⊢
                rw [x7] at r97 ⊢
                refine q_bipush C dX12_readsClause_100 (by decide) ?_
                refine q_icmp_eq C 120 dX12_readsClause_102 (by decide) (by first | assumption | omega | exact q_tin _ | exact q_bIn _) (by first | assumption | omega | exact q_tin _ | exact q_bIn _) (fun h102 => ?_) (fun h102 => ?_)
                · refine q_aloadn C dX12_readsClause_120 rfl ?_
                  refine q_iconst C dX12_readsClause_121 ?_
                  refine q_iloadn C dX12_readsClause_122 rfl ?_
                  refine cv_RX12_108 C (by decide) (m_X12_fails l g _ (by omega) (by omega)) dX12_readsClause_123 (Nat.le_of_ble_eq_true rfl) (fun r123 => ?_)
                  refine q_pop C dX12_readsClause_126 rfl ?_
                  refine q_iconst C dX12_readsClause_127 ?_
                  refine q_zret C' dX12_readsClause_128 (by first | omega | exact q_b01 _ | simp) ?_
                  first | (exfalso; omega) | (have e9 : pCl t L a R = (3, a, R) := (by unfold pCl; rw [if_neg (by omega), if_pos (by omega)]); rw [e9]; exact ⟨congrArg some (q_bF (show ¬ (3 : Int) = 0 by decide)).symm, mBd_no (by decide) (((mRf.rf.f (by decide)).f (by decide)).f (by decide)) q_upO ((q_upK (by decide)).trans q_upO)⟩)
                · refine q_iloadn C dX12_readsClause_105 rfl ?_
                  refine q_bipush C dX12_readsClause_106 (by decide) ?_
                  refine q_icmp_ne C 129 dX12_readsClause_108 (by decide) (by first | assumption | omega | exact q_tin _ | exact q_bIn _) (by first | assumption | omega | exact q_tin _ | exact q_bIn _) (fun h108 => ?_) (fun h108 => ?_)
                  · refine q_iloadn C dX12_readsClause_129 rfl ?_
                    refine q_bipush C dX12_readsClause_130 (by decide) ?_
                    refine q_icmp_ne C 142 dX12_readsClause_132 (by decide) (by first | assumption | omega | exact q_tin _ | exact q_bIn _) (by first | assumption | omega | exact q_tin _ | exact q_bIn _) (fun h132 => ?_) (fun h132 => ?_)
                    · refine q_aloadn C dX12_readsClause_142 rfl ?_
                      refine cw_RX12_138 C (by decide) (m_X12_readsHouse l g _ hT.at hL (by omega) hR (hX.d (mRd_at _ _)) (by omega)) dX12_readsClause_143 (Nat.le_of_ble_eq_true rfl) (fun r N1 hz hp => ?_)
                      obtain ⟨rfl, hb⟩ := hp
                      show qV l g X _ _ _ (qI _ :: [])
                      refine q_zret C' dX12_readsClause_146 (by first | omega | exact q_b01 _ | simp) ?_
                      first | (exfalso; omega) | (have e9 : pCl t L a R = pFin t L (pHouseB t L (a + 1) R) := (by unfold pCl pBody; rw [if_neg (by omega), if_neg (by omega), if_neg (by omega), if_neg (by omega)]); rw [e9]; exact ⟨rfl, mBd_at hb⟩)
                    · refine q_aloadn C dX12_readsClause_135 rfl ?_
                      refine cw_RX12_135 C (by decide) (m_X12_readsComer l g _ hT.at hL (by omega) hR (hX.d (mRd_at _ _)) (by omega)) dX12_readsClause_136 (Nat.le_of_ble_eq_true rfl) (fun r N1 hz hp => ?_)
                      obtain ⟨rfl, hb⟩ := hp
                      show qV l g X _ _ _ (qI _ :: [])
                      refine q_goto C (tgt := 146) dX12_readsClause_139 (by decide) ?_
                      refine q_zret C' dX12_readsClause_146 (by first | omega | exact q_b01 _ | simp) ?_
                      first | (exfalso; omega) | (have e9 : pCl t L a R = pFin t L (pComerB t L (a + 1) R) := (by unfold pCl pBody; rw [if_neg (by omega), if_neg (by omega), if_neg (by omega), if_pos (by omega)]); rw [e9]; exact ⟨rfl, mBd_at hb⟩)
                  · refine q_aloadn C dX12_readsClause_111 rfl ?_
                    refine gf_RX12_128 C dX12_readsClause_112 (fun r112 => ?_)
                    try simp only [q_rd, q_rdS, ↓reduceIte, if_true, if_false, eq_self, Nat.reduceEqDiff, Int.reduceEq, Int.reduceNeg, reduceCtorEq] at r112 ⊢
                    rw [x8] at r112 ⊢
                    refine q_bipush C dX12_readsClause_115 (by decide) ?_
                    refine q_icmp_ne C 129 dX12_readsClause_117 (by decide) (by first | assumption | omega | exact q_tin _ | exact q_bIn _) (by first | assumption | omega | exact q_tin _ | exact q_bIn _) (fun h117 => ?_) (fun h117 => ?_)
                    · refine q_iloadn C dX12_readsClause_129 rfl ?_
                      refine q_bipush C dX12_readsClause_130 (by decide) ?_
                      refine q_icmp_ne C 142 dX12_readsClause_132 (by decide) (by first | assumption | omega | exact q_tin _ | exact q_bIn _) (by first | assumption | omega | exact q_tin _ | exact q_bIn _) (fun h132 => ?_) (fun h132 => ?_)
                      · refine q_aloadn C dX12_readsClause_142 rfl ?_
                        refine cw_RX12_138 C (by decide) (m_X12_readsHouse l g _ hT.at hL (by omega) hR (hX.d (mRd_at _ _)) (by omega)) dX12_readsClause_143 (Nat.le_of_ble_eq_true rfl) (fun r N1 hz hp => ?_)
                        obtain ⟨rfl, hb⟩ := hp
                        show qV l g X _ _ _ (qI _ :: [])
                        refine q_zret C' dX12_readsClause_146 (by first | omega | exact q_b01 _ | simp) ?_
                        first | (exfalso; omega) | (have e9 : pCl t L a R = pFin t L (pHouseB t L (a + 1) R) := (by unfold pCl pBody; rw [if_neg (by omega), if_neg (by omega), if_neg (by omega), if_neg (by omega)]); rw [e9]; exact ⟨rfl, mBd_at hb⟩)
                      · refine q_aloadn C dX12_readsClause_135 rfl ?_
                        refine cw_RX12_135 C (by decide) (m_X12_readsComer l g _ hT.at hL (by omega) hR (hX.d (mRd_at _ _)) (by omega)) dX12_readsClause_136 (Nat.le_of_ble_eq_true rfl) (fun r N1 hz hp => ?_)
                        obtain ⟨rfl, hb⟩ := hp
                        show qV l g X _ _ _ (qI _ :: [])
                        refine q_goto C (tgt := 146) dX12_readsClause_139 (by decide) ?_
                        refine q_zret C' dX12_readsClause_146 (by first | omega | exact q_b01 _ | simp) ?_
                        first | (exfalso; omega) | (have e9 : pCl t L a R = pFin t L (pComerB t L (a + 1) R) := (by unfold pCl pBody; rw [if_neg (by omega), if_neg (by omega), if_neg (by omega), if_pos (by omega)]); rw [e9]; exact ⟨rfl, mBd_at hb⟩)
                    · refine q_aloadn C dX12_readsClause_120 rfl ?_
                      refine q_iconst C dX12_readsClause_121 ?_
                      refine q_iloadn C dX12_readsClause_122 rfl ?_
                      refine cv_RX12_108 C (by decide) (m_X12_fails l g _ (by omega) (by omega)) dX12_readsClause_123 (Nat.le_of_ble_eq_true rfl) (fun r123 => ?_)
                      refine q_pop C dX12_readsClause_126 rfl ?_
                      refine q_iconst C dX12_readsClause_127 ?_
                      refine q_zret C' dX12_readsClause_128 (by first | omega | exact q_b01 _ | simp) ?_
                      first | (exfalso; omega) | (have e9 : pCl t L a R = (3, a, R) := (by unfold pCl; rw [if_neg (by omega), if_pos (by omega)]); rw [e9]; exact ⟨congrArg some (q_bF (show ¬ (3 : Int) = 0 by decide)).symm, mBd_no (by decide) (((mRf.rf.f (by decide)).f (by decide)).f (by decide)) q_upO ((q_upK (by decide)).trans q_upO)⟩)
          · refine q_aloadn C dX12_readsClause_75 rfl ?_
            refine q_iconst C dX12_readsClause_76 ?_
            refine q_iloadn C dX12_readsClause_77 rfl ?_
            refine cv_RX12_108 C (by decide) (m_X12_fails l g _ (by omega) (by omega)) dX12_readsClause_78 (Nat.le_of_ble_eq_true rfl) (fun r78 => ?_)
            refine q_pop C dX12_readsClause_81 rfl ?_
            refine q_iconst C dX12_readsClause_82 ?_
            refine q_zret C' dX12_readsClause_83 (by first | omega | exact q_b01 _ | simp) ?_
            have e9 : pCl t L a R = (1, a, R) := (by unfold pCl; rw [if_pos (by omega)])
            rw [e9]
            exact ⟨congrArg some (q_bF (show ¬ (1 : Int) = 0 by decide)).symm, mBd_no (by decide) (((mRf.rf.f (by decide)).f (by decide)).f (by decide)) q_upO ((q_upK (by decide)).trans q_upO)⟩
      · refine q_iloadn C dX12_readsClause_45 rfl ?_
        refine q_bipush C dX12_readsClause_46 (by decide) ?_
        refine q_icmp_eq C 57 dX12_readsClause_48 (by decide) (by first | assumption | omega | exact q_tin _ | exact q_bIn _) (by first | assumption | omega | exact q_tin _ | exact q_bIn _) (fun h48 => ?_) (fun h48 => ?_)
        · refine q_iconst C dX12_readsClause_57 ?_
          refine q_goto C (tgt := 62) dX12_readsClause_58 (by decide) ?_
          refine q_istoren C dX12_readsClause_62 hn (by decide) rfl ?_
          refine q_iloadn C dX12_readsClause_63 rfl ?_
          refine q_if_eq C 75 dX12_readsClause_64 (by decide) (by first | assumption | omega | exact q_tin _ | exact q_bIn _) (fun h64 => ?_) (fun h64 => ?_)
          · exact absurd h64 (by decide)
          · refine q_aloadn C dX12_readsClause_67 rfl ?_
            refine gf_RX12_118 C dX12_readsClause_68 (fun r68 => ?_)
            try simp only [q_rd, q_rdS, ↓reduceIte, if_true, if_false, eq_self, Nat.reduceEqDiff, Int.reduceEq, Int.reduceNeg, reduceCtorEq] at r68 ⊢
            rw [x6] at r68 ⊢
            refine q_iconst C dX12_readsClause_71 ?_
            refine q_icmp_ne C 84 dX12_readsClause_72 (by decide) (by first | assumption | omega | exact q_tin _ | exact q_bIn _) (by first | assumption | omega | exact q_tin _ | exact q_bIn _) (fun h72 => ?_) (fun h72 => ?_)
            · refine q_iloadn C dX12_readsClause_84 rfl ?_
              refine q_bipush C dX12_readsClause_85 (by decide) ?_
              refine q_icmp_eq C 120 dX12_readsClause_87 (by decide) (by first | assumption | omega | exact q_tin _ | exact q_bIn _) (by first | assumption | omega | exact q_tin _ | exact q_bIn _) (fun h87 => ?_) (fun h87 => ?_)
              · refine q_aloadn C dX12_readsClause_120 rfl ?_
                refine q_iconst C dX12_readsClause_121 ?_
                refine q_iloadn C dX12_readsClause_122 rfl ?_
                refine cv_RX12_108 C (by decide) (m_X12_fails l g _ (by omega) (by omega)) dX12_readsClause_123 (Nat.le_of_ble_eq_true rfl) (fun r123 => ?_)
                refine q_pop C dX12_readsClause_126 rfl ?_
                refine q_iconst C dX12_readsClause_127 ?_
                refine q_zret C' dX12_readsClause_128 (by first | omega | exact q_b01 _ | simp) ?_
                first | (exfalso; omega) | (have e9 : pCl t L a R = (3, a, R) := (by unfold pCl; rw [if_neg (by omega), if_pos (by omega)]); rw [e9]; exact ⟨congrArg some (q_bF (show ¬ (3 : Int) = 0 by decide)).symm, mBd_no (by decide) (((mRf.rf.f (by decide)).f (by decide)).f (by decide)) q_upO ((q_upK (by decide)).trans q_upO)⟩)
              · refine q_iloadn C dX12_readsClause_90 rfl ?_
                refine q_bipush C dX12_readsClause_91 (by decide) ?_
                refine q_icmp_ne C 105 dX12_readsClause_93 (by decide) (by first | assumption | omega | exact q_tin _ | exact q_bIn _) (by first | assumption | omega | exact q_tin _ | exact q_bIn _) (fun h93 => ?_) (fun h93 => ?_)
                · refine q_iloadn C dX12_readsClause_105 rfl ?_
                  refine q_bipush C dX12_readsClause_106 (by decide) ?_
                  refine q_icmp_ne C 129 dX12_readsClause_108 (by decide) (by first | assumption | omega | exact q_tin _ | exact q_bIn _) (by first | assumption | omega | exact q_tin _ | exact q_bIn _) (fun h108 => ?_) (fun h108 => ?_)
                  · refine q_iloadn C dX12_readsClause_129 rfl ?_
                    refine q_bipush C dX12_readsClause_130 (by decide) ?_
                    refine q_icmp_ne C 142 dX12_readsClause_132 (by decide) (by first | assumption | omega | exact q_tin _ | exact q_bIn _) (by first | assumption | omega | exact q_tin _ | exact q_bIn _) (fun h132 => ?_) (fun h132 => ?_)
                    · refine q_aloadn C dX12_readsClause_142 rfl ?_
                      refine cw_RX12_138 C (by decide) (m_X12_readsHouse l g _ hT.at hL (by omega) hR (hX.d (mRd_at _ _)) (by omega)) dX12_readsClause_143 (Nat.le_of_ble_eq_true rfl) (fun r N1 hz hp => ?_)
                      obtain ⟨rfl, hb⟩ := hp
                      show qV l g X _ _ _ (qI _ :: [])
                      refine q_zret C' dX12_readsClause_146 (by first | omega | exact q_b01 _ | simp) ?_
                      first | (exfalso; omega) | (have e9 : pCl t L a R = pFin t L (pHouseB t L (a + 1) R) := (by unfold pCl pBody; rw [if_neg (by omega), if_neg (by omega), if_neg (by omega), if_neg (by omega)]); rw [e9]; exact ⟨rfl, mBd_at hb⟩)
                    · refine q_aloadn C dX12_readsClause_135 rfl ?_
                      refine cw_RX12_135 C (by decide) (m_X12_readsComer l g _ hT.at hL (by omega) hR (hX.d (mRd_at _ _)) (by omega)) dX12_readsClause_136 (Nat.le_of_ble_eq_true rfl) (fun r N1 hz hp => ?_)
                      obtain ⟨rfl, hb⟩ := hp
                      show qV l g X _ _ _ (qI _ :: [])
                      refine q_goto C (tgt := 146) dX12_readsClause_139 (by decide) ?_
                      refine q_zret C' dX12_readsClause_146 (by first | omega | exact q_b01 _ | simp) ?_
                      first | (exfalso; omega) | (have e9 : pCl t L a R = pFin t L (pComerB t L (a + 1) R) := (by unfold pCl pBody; rw [if_neg (by omega), if_neg (by omega), if_neg (by omega), if_pos (by omega)]); rw [e9]; exact ⟨rfl, mBd_at hb⟩)
                  · refine q_aloadn C dX12_readsClause_111 rfl ?_
                    refine gf_RX12_128 C dX12_readsClause_112 (fun r112 => ?_)
                    try simp only [q_rd, q_rdS, ↓reduceIte, if_true, if_false, eq_self, Nat.reduceEqDiff, Int.reduceEq, Int.reduceNeg, reduceCtorEq] at r112 ⊢
                    rw [x8] at r112 ⊢
                    refine q_bipush C dX12_readsClause_115 (by decide) ?_
                    refine q_icmp_ne C 129 dX12_readsClause_117 (by decide) (by first | assumption | omega | exact q_tin _ | exact q_bIn _) (by first | assumption | omega | exact q_tin _ | exact q_bIn _) (fun h117 => ?_) (fun h117 => ?_)
                    · refine q_iloadn C dX12_readsClause_129 rfl ?_
                      refine q_bipush C dX12_readsClause_130 (by decide) ?_
                      refine q_icmp_ne C 142 dX12_readsClause_132 (by decide) (by first | assumption | omega | exact q_tin _ | exact q_bIn _) (by first | assumption | omega | exact q_tin _ | exact q_bIn _) (fun h132 => ?_) (fun h132 => ?_)
                      · refine q_aloadn C dX12_readsClause_142 rfl ?_
                        refine cw_RX12_138 C (by decide) (m_X12_readsHouse l g _ hT.at hL (by omega) hR (hX.d (mRd_at _ _)) (by omega)) dX12_readsClause_143 (Nat.le_of_ble_eq_true rfl) (fun r N1 hz hp => ?_)
                        obtain ⟨rfl, hb⟩ := hp
                        show qV l g X _ _ _ (qI _ :: [])
                        refine q_zret C' dX12_readsClause_146 (by first | omega | exact q_b01 _ | simp) ?_
                        first | (exfalso; omega) | (have e9 : pCl t L a R = pFin t L (pHouseB t L (a + 1) R) := (by unfold pCl pBody; rw [if_neg (by omega), if_neg (by omega), if_neg (by omega), if_neg (by omega)]); rw [e9]; exact ⟨rfl, mBd_at hb⟩)
                      · refine q_aloadn C dX12_readsClause_135 rfl ?_
                        refine cw_RX12_135 C (by decide) (m_X12_readsComer l g _ hT.at hL (by omega) hR (hX.d (mRd_at _ _)) (by omega)) dX12_readsClause_136 (Nat.le_of_ble_eq_true rfl) (fun r N1 hz hp => ?_)
                        obtain ⟨rfl, hb⟩ := hp
                        show qV l g X _ _ _ (qI _ :: [])
                        refine q_goto C (tgt := 146) dX12_readsClause_139 (by decide) ?_
                        refine q_zret C' dX12_readsClause_146 (by first | omega | exact q_b01 _ | simp) ?_
                        first | (exfalso; omega) | (have e9 : pCl t L a R = pFin t L (pComerB t L (a + 1) R) := (by unfold pCl pBody; rw [if_neg (by omega), if_neg (by omega), if_neg (by omega), if_pos (by omega)]); rw [e9]; exact ⟨rfl, mBd_at hb⟩)
                    · refine q_aloadn C dX12_readsClause_120 rfl ?_
                      refine q_iconst C dX12_readsClause_121 ?_
                      refine q_iloadn C dX12_readsClause_122 rfl ?_
                      refine cv_RX12_108 C (by decide) (m_X12_fails l g _ (by omega) (by omega)) dX12_readsClause_123 (Nat.le_of_ble_eq_true rfl) (fun r123 => ?_)
                      refine q_pop C dX12_readsClause_126 rfl ?_
                      refine q_iconst C dX12_readsClause_127 ?_
                      refine q_zret C' dX12_readsClause_128 (by first | omega | exact q_b01 _ | simp) ?_
                      first | (exfalso; omega) | (have e9 : pCl t L a R = (3, a, R) := (by unfold pCl; rw [if_neg (by omega), if_pos (by omega)]); rw [e9]; exact ⟨congrArg some (q_bF (show ¬ (3 : Int) = 0 by decide)).symm, mBd_no (by decide) (((mRf.rf.f (by decide)).f (by decide)).f (by decide)) q_upO ((q_upK (by decide)).trans q_upO)⟩)
                · refine q_aloadn C dX12_readsClause_96 rfl ?_
                  refine gf_RX12_125 C dX12_readsClause_97 (fun r97 => ?_)
                  try simp only [q_rd, q_rdS, ↓reduceIte, if_true, if_false, eq_self, Nat.reduceEqDiff, Int.reduceEq, Int.reduceNeg, reduceCtorEq] at r97 ⊢
                  rw [x7] at r97 ⊢
                  refine q_bipush C dX12_readsClause_100 (by decide) ?_
                  refine q_icmp_eq C 120 dX12_readsClause_102 (by decide) (by first | assumption | omega | exact q_tin _ | exact q_bIn _) (by first | assumption | omega | exact q_tin _ | exact q_bIn _) (fun h102 => ?_) (fun h102 => ?_)
                  · refine q_aloadn C dX12_readsClause_120 rfl ?_
                    refine q_iconst C dX12_readsClause_121 ?_
                    refine q_iloadn C dX12_readsClause_122 rfl ?_
                    refine cv_RX12_108 C (by decide) (m_X12_fails l g _ (by omega) (by omega)) dX12_readsClause_123 (Nat.le_of_ble_eq_true rfl) (fun r123 => ?_)
                    refine q_pop C dX12_readsClause_126 rfl ?_
                    refine q_iconst C dX12_readsClause_127 ?_
                    refine q_zret C' dX12_readsClause_128 (by first | omega | exact q_b01 _ | simp) ?_
                    first | (exfalso; omega) | (have e9 : pCl t L a R = (3, a, R) := (by unfold pCl; rw [if_neg (by omega), if_pos (by omega)]); rw [e9]; exact ⟨congrArg some (q_bF (show ¬ (3 : Int) = 0 by decide)).symm, mBd_no (by decide) (((mRf.rf.f (by decide)).f (by decide)).f (by decide)) q_upO ((q_upK (by decide)).trans q_upO)⟩)
                  · refine q_iloadn C dX12_readsClause_105 rfl ?_
                    refine q_bipush C dX12_readsClause_106 (by decide) ?_
                    refine q_icmp_ne C 129 dX12_readsClause_108 (by decide) (by first | assumption | omega | exact q_tin _ | exact q_bIn _) (by first | assumption | omega | exact q_tin _ | exact q_bIn _) (fun h108 => ?_) (fun h108 => ?_)
                    · refine q_iloadn C dX12_readsClause_129 rfl ?_
                      refine q_bipush C dX12_readsClause_130 (by decide) ?_
                      refine q_icmp_ne C 142 dX12_readsClause_132 (by decide) (by first | assumption | omega | exact q_tin _ | exact q_bIn _) (by first | assumption | omega | exact q_tin _ | exact q_bIn _) (fun h132 => ?_) (fun h132 => ?_)
                      · refine q_aloadn C dX12_readsClause_142 rfl ?_
                        refine cw_RX12_138 C (by decide) (m_X12_readsHouse l g _ hT.at hL (by omega) hR (hX.d (mRd_at _ _)) (by omega)) dX12_readsClause_143 (Nat.le_of_ble_eq_true rfl) (fun r N1 hz hp => ?_)
                        obtain ⟨rfl, hb⟩ := hp
                        show qV l g X _ _ _ (qI _ :: [])
                        refine q_zret C' dX12_readsClause_146 (by first | omega | exact q_b01 _ | simp) ?_
                        first | (exfalso; omega) | (have e9 : pCl t L a R = pFin t L (pHouseB t L (a + 1) R) := (by unfold pCl pBody; rw [if_neg (by omega), if_neg (by omega), if_neg (by omega), if_neg (by omega)]); rw [e9]; exact ⟨rfl, mBd_at hb⟩)
                      · refine q_aloadn C dX12_readsClause_135 rfl ?_
                        refine cw_RX12_135 C (by decide) (m_X12_readsComer l g _ hT.at hL (by omega) hR (hX.d (mRd_at _ _)) (by omega)) dX12_readsClause_136 (Nat.le_of_ble_eq_true rfl) (fun r N1 hz hp => ?_)
                        obtain ⟨rfl, hb⟩ := hp
                        show qV l g X _ _ _ (qI _ :: [])
                        refine q_goto C (tgt := 146) dX12_readsClause_139 (by decide) ?_
                        refine q_zret C' dX12_readsClause_146 (by first | omega | exact q_b01 _ | simp) ?_
                        first | (exfalso; omega) | (have e9 : pCl t L a R = pFin t L (pComerB t L (a + 1) R) := (by unfold pCl pBody; rw [if_neg (by omega), if_neg (by omega), if_neg (by omega), if_pos (by omega)]); rw [e9]; exact ⟨rfl, mBd_at hb⟩)
                    · refine q_aloadn C dX12_readsClause_111 rfl ?_
                      refine gf_RX12_128 C dX12_readsClause_112 (fun r112 => ?_)
                      try simp only [q_rd, q_rdS, ↓reduceIte, if_true, if_false, eq_self, Nat.reduceEqDiff, Int.reduceEq, Int.reduceNeg, reduceCtorEq] at r112 ⊢
                      rw [x8] at r112 ⊢
                      refine q_bipush C dX12_readsClause_115 (by decide) ?_
                      refine q_icmp_ne C 129 dX12_readsClause_117 (by decide) (by first | assumption | omega | exact q_tin _ | exact q_bIn _) (by first | assumption | omega | exact q_tin _ | exact q_bIn _) (fun h117 => ?_) (fun h117 => ?_)
                      · refine q_iloadn C dX12_readsClause_129 rfl ?_
                        refine q_bipush C dX12_readsClause_130 (by decide) ?_
                        refine q_icmp_ne C 142 dX12_readsClause_132 (by decide) (by first | assumption | omega | exact q_tin _ | exact q_bIn _) (by first | assumption | omega | exact q_tin _ | exact q_bIn _) (fun h132 => ?_) (fun h132 => ?_)
                        · refine q_aloadn C dX12_readsClause_142 rfl ?_
                          refine cw_RX12_138 C (by decide) (m_X12_readsHouse l g _ hT.at hL (by omega) hR (hX.d (mRd_at _ _)) (by omega)) dX12_readsClause_143 (Nat.le_of_ble_eq_true rfl) (fun r N1 hz hp => ?_)
                          obtain ⟨rfl, hb⟩ := hp
                          show qV l g X _ _ _ (qI _ :: [])
                          refine q_zret C' dX12_readsClause_146 (by first | omega | exact q_b01 _ | simp) ?_
                          first | (exfalso; omega) | (have e9 : pCl t L a R = pFin t L (pHouseB t L (a + 1) R) := (by unfold pCl pBody; rw [if_neg (by omega), if_neg (by omega), if_neg (by omega), if_neg (by omega)]); rw [e9]; exact ⟨rfl, mBd_at hb⟩)
                        · refine q_aloadn C dX12_readsClause_135 rfl ?_
                          refine cw_RX12_135 C (by decide) (m_X12_readsComer l g _ hT.at hL (by omega) hR (hX.d (mRd_at _ _)) (by omega)) dX12_readsClause_136 (Nat.le_of_ble_eq_true rfl) (fun r N1 hz hp => ?_)
                          obtain ⟨rfl, hb⟩ := hp
                          show qV l g X _ _ _ (qI _ :: [])
                          refine q_goto C (tgt := 146) dX12_readsClause_139 (by decide) ?_
                          refine q_zret C' dX12_readsClause_146 (by first | omega | exact q_b01 _ | simp) ?_
                          first | (exfalso; omega) | (have e9 : pCl t L a R = pFin t L (pComerB t L (a + 1) R) := (by unfold pCl pBody; rw [if_neg (by omega), if_neg (by omega), if_neg (by omega), if_pos (by omega)]); rw [e9]; exact ⟨rfl, mBd_at hb⟩)
                      · refine q_aloadn C dX12_readsClause_120 rfl ?_
                        refine q_iconst C dX12_readsClause_121 ?_
                        refine q_iloadn C dX12_readsClause_122 rfl ?_
                        refine cv_RX12_108 C (by decide) (m_X12_fails l g _ (by omega) (by omega)) dX12_readsClause_123 (Nat.le_of_ble_eq_true rfl) (fun r123 => ?_)
                        refine q_pop C dX12_readsClause_126 rfl ?_
                        refine q_iconst C dX12_readsClause_127 ?_
                        refine q_zret C' dX12_readsClause_128 (by first | omega | exact q_b01 _ | simp) ?_
                        first | (exfalso; omega) | (have e9 : pCl t L a R = (3, a, R) := (by unfold pCl; rw [if_neg (by omega), if_pos (by omega)]); rw [e9]; exact ⟨congrArg some (q_bF (show ¬ (3 : Int) = 0 by decide)).symm, mBd_no (by decide) (((mRf.rf.f (by decide)).f (by decide)).f (by decide)) q_upO ((q_upK (by decide)).trans q_upO)⟩)
            · refine q_aloadn C dX12_readsClause_75 rfl ?_
              refine q_iconst C dX12_readsClause_76 ?_
              refine q_iloadn C dX12_readsClause_77 rfl ?_
              refine cv_RX12_108 C (by decide) (m_X12_fails l g _ (by omega) (by omega)) dX12_readsClause_78 (Nat.le_of_ble_eq_true rfl) (fun r78 => ?_)
              refine q_pop C dX12_readsClause_81 rfl ?_
              refine q_iconst C dX12_readsClause_82 ?_
              refine q_zret C' dX12_readsClause_83 (by first | omega | exact q_b01 _ | simp) ?_
              have e9 : pCl t L a R = (1, a, R) := (by unfold pCl; rw [if_pos (by omega)])
              rw [e9]
              exact ⟨congrArg some (q_bF (show ¬ (1 : Int) = 0 by decide)).symm, mBd_no (by decide) (((mRf.rf.f (by decide)).f (by decide)).f (by decide)) q_upO ((q_upK (by decide)).trans q_upO)⟩
        · refine q_iloadn C dX12_readsClause_51 rfl ?_
          refine q_bipush C dX12_readsClause_52 (by decide) ?_
          refine q_icmp_ne C 61 dX12_readsClause_54 (by decide) (by first | assumption | omega | exact q_tin _ | exact q_bIn _) (by first | assumption | omega | exact q_tin _ | exact q_bIn _) (fun h54 => ?_) (fun h54 => ?_)
          · refine q_iconst C dX12_readsClause_61 ?_
            refine q_istoren C dX12_readsClause_62 hn (by decide) rfl ?_
            refine q_iloadn C dX12_readsClause_63 rfl ?_
            refine q_if_eq C 75 dX12_readsClause_64 (by decide) (by first | assumption | omega | exact q_tin _ | exact q_bIn _) (fun h64 => ?_) (fun h64 => ?_)
            · refine q_aloadn C dX12_readsClause_75 rfl ?_
              refine q_iconst C dX12_readsClause_76 ?_
              refine q_iloadn C dX12_readsClause_77 rfl ?_
              refine cv_RX12_108 C (by decide) (m_X12_fails l g _ (by omega) (by omega)) dX12_readsClause_78 (Nat.le_of_ble_eq_true rfl) (fun r78 => ?_)
              refine q_pop C dX12_readsClause_81 rfl ?_
              refine q_iconst C dX12_readsClause_82 ?_
              refine q_zret C' dX12_readsClause_83 (by first | omega | exact q_b01 _ | simp) ?_
              have e9 : pCl t L a R = (1, a, R) := (by unfold pCl; rw [if_pos (by omega)])
              rw [e9]
              exact ⟨congrArg some (q_bF (show ¬ (1 : Int) = 0 by decide)).symm, mBd_no (by decide) (((mRf.rf.f (by decide)).f (by decide)).f (by decide)) q_upO ((q_upK (by decide)).trans q_upO)⟩
            · exact absurd rfl h64
          · refine q_iconst C dX12_readsClause_57 ?_
            refine q_goto C (tgt := 62) dX12_readsClause_58 (by decide) ?_
            refine q_istoren C dX12_readsClause_62 hn (by decide) rfl ?_
            refine q_iloadn C dX12_readsClause_63 rfl ?_
            refine q_if_eq C 75 dX12_readsClause_64 (by decide) (by first | assumption | omega | exact q_tin _ | exact q_bIn _) (fun h64 => ?_) (fun h64 => ?_)
            · exact absurd h64 (by decide)
            · refine q_aloadn C dX12_readsClause_67 rfl ?_
              refine gf_RX12_118 C dX12_readsClause_68 (fun r68 => ?_)
              try simp only [q_rd, q_rdS, ↓reduceIte, if_true, if_false, eq_self, Nat.reduceEqDiff, Int.reduceEq, Int.reduceNeg, reduceCtorEq] at r68 ⊢
              rw [x6] at r68 ⊢
              refine q_iconst C dX12_readsClause_71 ?_
              refine q_icmp_ne C 84 dX12_readsClause_72 (by decide) (by first | assumption | omega | exact q_tin _ | exact q_bIn _) (by first | assumption | omega | exact q_tin _ | exact q_bIn _) (fun h72 => ?_) (fun h72 => ?_)
              · refine q_iloadn C dX12_readsClause_84 rfl ?_
                refine q_bipush C dX12_readsClause_85 (by decide) ?_
                refine q_icmp_eq C 120 dX12_readsClause_87 (by decide) (by first | assumption | omega | exact q_tin _ | exact q_bIn _) (by first | assumption | omega | exact q_tin _ | exact q_bIn _) (fun h87 => ?_) (fun h87 => ?_)
                · refine q_aloadn C dX12_readsClause_120 rfl ?_
                  refine q_iconst C dX12_readsClause_121 ?_
                  refine q_iloadn C dX12_readsClause_122 rfl ?_
                  refine cv_RX12_108 C (by decide) (m_X12_fails l g _ (by omega) (by omega)) dX12_readsClause_123 (Nat.le_of_ble_eq_true rfl) (fun r123 => ?_)
                  refine q_pop C dX12_readsClause_126 rfl ?_
                  refine q_iconst C dX12_readsClause_127 ?_
                  refine q_zret C' dX12_readsClause_128 (by first | omega | exact q_b01 _ | simp) ?_
                  first | (exfalso; omega) | (have e9 : pCl t L a R = (3, a, R) := (by unfold pCl; rw [if_neg (by omega), if_pos (by omega)]); rw [e9]; exact ⟨congrArg some (q_bF (show ¬ (3 : Int) = 0 by decide)).symm, mBd_no (by decide) (((mRf.rf.f (by decide)).f (by decide)).f (by decide)) q_upO ((q_upK (by decide)).trans q_upO)⟩)
                · refine q_iloadn C dX12_readsClause_90 rfl ?_
                  refine q_bipush C dX12_readsClause_91 (by decide) ?_
                  refine q_icmp_ne C 105 dX12_readsClause_93 (by decide) (by first | assumption | omega | exact q_tin _ | exact q_bIn _) (by first | assumption | omega | exact q_tin _ | exact q_bIn _) (fun h93 => ?_) (fun h93 => ?_)
                  · refine q_iloadn C dX12_readsClause_105 rfl ?_
                    refine q_bipush C dX12_readsClause_106 (by decide) ?_
                    refine q_icmp_ne C 129 dX12_readsClause_108 (by decide) (by first | assumption | omega | exact q_tin _ | exact q_bIn _) (by first | assumption | omega | exact q_tin _ | exact q_bIn _) (fun h108 => ?_) (fun h108 => ?_)
                    · refine q_iloadn C dX12_readsClause_129 rfl ?_
                      refine q_bipush C dX12_readsClause_130 (by decide) ?_
                      refine q_icmp_ne C 142 dX12_readsClause_132 (by decide) (by first | assumption | omega | exact q_tin _ | exact q_bIn _) (by first | assumption | omega | exact q_tin _ | exact q_bIn _) (fun h132 => ?_) (fun h132 => ?_)
                      · refine q_aloadn C dX12_readsClause_142 rfl ?_
                        refine cw_RX12_138 C (by decide) (m_X12_readsHouse l g _ hT.at hL (by omega) hR (hX.d (mRd_at _ _)) (by omega)) dX12_readsClause_143 (Nat.le_of_ble_eq_true rfl) (fun r N1 hz hp => ?_)
                        obtain ⟨rfl, hb⟩ := hp
                        show qV l g X _ _ _ (qI _ :: [])
                        refine q_zret C' dX12_readsClause_146 (by first | omega | exact q_b01 _ | simp) ?_
                        first | (exfalso; omega) | (have e9 : pCl t L a R = pFin t L (pHouseB t L (a + 1) R) := (by unfold pCl pBody; rw [if_neg (by omega), if_neg (by omega), if_neg (by omega), if_neg (by omega)]); rw [e9]; exact ⟨rfl, mBd_at hb⟩)
                      · refine q_aloadn C dX12_readsClause_135 rfl ?_
                        refine cw_RX12_135 C (by decide) (m_X12_readsComer l g _ hT.at hL (by omega) hR (hX.d (mRd_at _ _)) (by omega)) dX12_readsClause_136 (Nat.le_of_ble_eq_true rfl) (fun r N1 hz hp => ?_)
                        obtain ⟨rfl, hb⟩ := hp
                        show qV l g X _ _ _ (qI _ :: [])
                        refine q_goto C (tgt := 146) dX12_readsClause_139 (by decide) ?_
                        refine q_zret C' dX12_readsClause_146 (by first | omega | exact q_b01 _ | simp) ?_
                        first | (exfalso; omega) | (have e9 : pCl t L a R = pFin t L (pComerB t L (a + 1) R) := (by unfold pCl pBody; rw [if_neg (by omega), if_neg (by omega), if_neg (by omega), if_pos (by omega)]); rw [e9]; exact ⟨rfl, mBd_at hb⟩)
                    · refine q_aloadn C dX12_readsClause_111 rfl ?_
                      refine gf_RX12_128 C dX12_readsClause_112 (fun r112 => ?_)
                      try simp only [q_rd, q_rdS, ↓reduceIte, if_true, if_false, eq_self, Nat.reduceEqDiff, Int.reduceEq, Int.reduceNeg, reduceCtorEq] at r112 ⊢
                      rw [x8] at r112 ⊢
                      refine q_bipush C dX12_readsClause_115 (by decide) ?_
                      refine q_icmp_ne C 129 dX12_readsClause_117 (by decide) (by first | assumption | omega | exact q_tin _ | exact q_bIn _) (by first | assumption | omega | exact q_tin _ | exact q_bIn _) (fun h117 => ?_) (fun h117 => ?_)
                      · refine q_iloadn C dX12_readsClause_129 rfl ?_
                        refine q_bipush C dX12_readsClause_130 (by decide) ?_
                        refine q_icmp_ne C 142 dX12_readsClause_132 (by decide) (by first | assumption | omega | exact q_tin _ | exact q_bIn _) (by first | assumption | omega | exact q_tin _ | exact q_bIn _) (fun h132 => ?_) (fun h132 => ?_)
                        · refine q_aloadn C dX12_readsClause_142 rfl ?_
                          refine cw_RX12_138 C (by decide) (m_X12_readsHouse l g _ hT.at hL (by omega) hR (hX.d (mRd_at _ _)) (by omega)) dX12_readsClause_143 (Nat.le_of_ble_eq_true rfl) (fun r N1 hz hp => ?_)
                          obtain ⟨rfl, hb⟩ := hp
                          show qV l g X _ _ _ (qI _ :: [])
                          refine q_zret C' dX12_readsClause_146 (by first | omega | exact q_b01 _ | simp) ?_
                          first | (exfalso; omega) | (have e9 : pCl t L a R = pFin t L (pHouseB t L (a + 1) R) := (by unfold pCl pBody; rw [if_neg (by omega), if_neg (by omega), if_neg (by omega), if_neg (by omega)]); rw [e9]; exact ⟨rfl, mBd_at hb⟩)
                        · refine q_aloadn C dX12_readsClause_135 rfl ?_
                          refine cw_RX12_135 C (by decide) (m_X12_readsComer l g _ hT.at hL (by omega) hR (hX.d (mRd_at _ _)) (by omega)) dX12_readsClause_136 (Nat.le_of_ble_eq_true rfl) (fun r N1 hz hp => ?_)
                          obtain ⟨rfl, hb⟩ := hp
                          show qV l g X _ _ _ (qI _ :: [])
                          refine q_goto C (tgt := 146) dX12_readsClause_139 (by decide) ?_
                          refine q_zret C' dX12_readsClause_146 (by first | omega | exact q_b01 _ | simp) ?_
                          first | (exfalso; omega) | (have e9 : pCl t L a R = pFin t L (pComerB t L (a + 1) R) := (by unfold pCl pBody; rw [if_neg (by omega), if_neg (by omega), if_neg (by omega), if_pos (by omega)]); rw [e9]; exact ⟨rfl, mBd_at hb⟩)
                      · refine q_aloadn C dX12_readsClause_120 rfl ?_
                        refine q_iconst C dX12_readsClause_121 ?_
                        refine q_iloadn C dX12_readsClause_122 rfl ?_
                        refine cv_RX12_108 C (by decide) (m_X12_fails l g _ (by omega) (by omega)) dX12_readsClause_123 (Nat.le_of_ble_eq_true rfl) (fun r123 => ?_)
                        refine q_pop C dX12_readsClause_126 rfl ?_
                        refine q_iconst C dX12_readsClause_127 ?_
                        refine q_zret C' dX12_readsClause_128 (by first | omega | exact q_b01 _ | simp) ?_
                        first | (exfalso; omega) | (have e9 : pCl t L a R = (3, a, R) := (by unfold pCl; rw [if_neg (by omega), if_pos (by omega)]); rw [e9]; exact ⟨congrArg some (q_bF (show ¬ (3 : Int) = 0 by decide)).symm, mBd_no (by decide) (((mRf.rf.f (by decide)).f (by decide)).f (by decide)) q_upO ((q_upK (by decide)).trans q_upO)⟩)
                  · refine q_aloadn C dX12_readsClause_96 rfl ?_
                    refine gf_RX12_125 C dX12_readsClause_97 (fun r97 => ?_)
                    try simp only [q_rd, q_rdS, ↓reduceIte, if_true, if_false, eq_self, Nat.reduceEqDiff, Int.reduceEq, Int.reduceNeg, reduceCtorEq] at r97 ⊢
                    rw [x7] at r97 ⊢
                    refine q_bipush C dX12_readsClause_100 (by decide) ?_
                    refine q_icmp_eq C 120 dX12_readsClause_102 (by decide) (by first | assumption | omega | exact q_tin _ | exact q_bIn _) (by first | assumption | omega | exact q_tin _ | exact q_bIn _) (fun h102 => ?_) (fun h102 => ?_)
                    · refine q_aloadn C dX12_readsClause_120 rfl ?_
                      refine q_iconst C dX12_readsClause_121 ?_
                      refine q_iloadn C dX12_readsClause_122 rfl ?_
                      refine cv_RX12_108 C (by decide) (m_X12_fails l g _ (by omega) (by omega)) dX12_readsClause_123 (Nat.le_of_ble_eq_true rfl) (fun r123 => ?_)
                      refine q_pop C dX12_readsClause_126 rfl ?_
                      refine q_iconst C dX12_readsClause_127 ?_
                      refine q_zret C' dX12_readsClause_128 (by first | omega | exact q_b01 _ | simp) ?_
                      first | (exfalso; omega) | (have e9 : pCl t L a R = (3, a, R) := (by unfold pCl; rw [if_neg (by omega), if_pos (by omega)]); rw [e9]; exact ⟨congrArg some (q_bF (show ¬ (3 : Int) = 0 by decide)).symm, mBd_no (by decide) (((mRf.rf.f (by decide)).f (by decide)).f (by decide)) q_upO ((q_upK (by decide)).trans q_upO)⟩)
                    · refine q_iloadn C dX12_readsClause_105 rfl ?_
                      refine q_bipush C dX12_readsClause_106 (by decide) ?_
                      refine q_icmp_ne C 129 dX12_readsClause_108 (by decide) (by first | assumption | omega | exact q_tin _ | exact q_bIn _) (by first | assumption | omega | exact q_tin _ | exact q_bIn _) (fun h108 => ?_) (fun h108 => ?_)
                      · refine q_iloadn C dX12_readsClause_129 rfl ?_
                        refine q_bipush C dX12_readsClause_130 (by decide) ?_
                        refine q_icmp_ne C 142 dX12_readsClause_132 (by decide) (by first | assumption | omega | exact q_tin _ | exact q_bIn _) (by first | assumption | omega | exact q_tin _ | exact q_bIn _) (fun h132 => ?_) (fun h132 => ?_)
                        · refine q_aloadn C dX12_readsClause_142 rfl ?_
                          refine cw_RX12_138 C (by decide) (m_X12_readsHouse l g _ hT.at hL (by omega) hR (hX.d (mRd_at _ _)) (by omega)) dX12_readsClause_143 (Nat.le_of_ble_eq_true rfl) (fun r N1 hz hp => ?_)
                          obtain ⟨rfl, hb⟩ := hp
                          show qV l g X _ _ _ (qI _ :: [])
                          refine q_zret C' dX12_readsClause_146 (by first | omega | exact q_b01 _ | simp) ?_
                          first | (exfalso; omega) | (have e9 : pCl t L a R = pFin t L (pHouseB t L (a + 1) R) := (by unfold pCl pBody; rw [if_neg (by omega), if_neg (by omega), if_neg (by omega), if_neg (by omega)]); rw [e9]; exact ⟨rfl, mBd_at hb⟩)
                        · refine q_aloadn C dX12_readsClause_135 rfl ?_
                          refine cw_RX12_135 C (by decide) (m_X12_readsComer l g _ hT.at hL (by omega) hR (hX.d (mRd_at _ _)) (by omega)) dX12_readsClause_136 (Nat.le_of_ble_eq_true rfl) (fun r N1 hz hp => ?_)
                          obtain ⟨rfl, hb⟩ := hp
                          show qV l g X _ _ _ (qI _ :: [])
                          refine q_goto C (tgt := 146) dX12_readsClause_139 (by decide) ?_
                          refine q_zret C' dX12_readsClause_146 (by first | omega | exact q_b01 _ | simp) ?_
                          first | (exfalso; omega) | (have e9 : pCl t L a R = pFin t L (pComerB t L (a + 1) R) := (by unfold pCl pBody; rw [if_neg (by omega), if_neg (by omega), if_neg (by omega), if_pos (by omega)]); rw [e9]; exact ⟨rfl, mBd_at hb⟩)
                      · refine q_aloadn C dX12_readsClause_111 rfl ?_
                        refine gf_RX12_128 C dX12_readsClause_112 (fun r112 => ?_)
                        try simp only [q_rd, q_rdS, ↓reduceIte, if_true, if_false, eq_self, Nat.reduceEqDiff, Int.reduceEq, Int.reduceNeg, reduceCtorEq] at r112 ⊢
                        rw [x8] at r112 ⊢
                        refine q_bipush C dX12_readsClause_115 (by decide) ?_
                        refine q_icmp_ne C 129 dX12_readsClause_117 (by decide) (by first | assumption | omega | exact q_tin _ | exact q_bIn _) (by first | assumption | omega | exact q_tin _ | exact q_bIn _) (fun h117 => ?_) (fun h117 => ?_)
                        · refine q_iloadn C dX12_readsClause_129 rfl ?_
                          refine q_bipush C dX12_readsClause_130 (by decide) ?_
                          refine q_icmp_ne C 142 dX12_readsClause_132 (by decide) (by first | assumption | omega | exact q_tin _ | exact q_bIn _) (by first | assumption | omega | exact q_tin _ | exact q_bIn _) (fun h132 => ?_) (fun h132 => ?_)
                          · refine q_aloadn C dX12_readsClause_142 rfl ?_
                            refine cw_RX12_138 C (by decide) (m_X12_readsHouse l g _ hT.at hL (by omega) hR (hX.d (mRd_at _ _)) (by omega)) dX12_readsClause_143 (Nat.le_of_ble_eq_true rfl) (fun r N1 hz hp => ?_)
                            obtain ⟨rfl, hb⟩ := hp
                            show qV l g X _ _ _ (qI _ :: [])
                            refine q_zret C' dX12_readsClause_146 (by first | omega | exact q_b01 _ | simp) ?_
                            first | (exfalso; omega) | (have e9 : pCl t L a R = pFin t L (pHouseB t L (a + 1) R) := (by unfold pCl pBody; rw [if_neg (by omega), if_neg (by omega), if_neg (by omega), if_neg (by omega)]); rw [e9]; exact ⟨rfl, mBd_at hb⟩)
                          · refine q_aloadn C dX12_readsClause_135 rfl ?_
                            refine cw_RX12_135 C (by decide) (m_X12_readsComer l g _ hT.at hL (by omega) hR (hX.d (mRd_at _ _)) (by omega)) dX12_readsClause_136 (Nat.le_of_ble_eq_true rfl) (fun r N1 hz hp => ?_)
                            obtain ⟨rfl, hb⟩ := hp
                            show qV l g X _ _ _ (qI _ :: [])
                            refine q_goto C (tgt := 146) dX12_readsClause_139 (by decide) ?_
                            refine q_zret C' dX12_readsClause_146 (by first | omega | exact q_b01 _ | simp) ?_
                            first | (exfalso; omega) | (have e9 : pCl t L a R = pFin t L (pComerB t L (a + 1) R) := (by unfold pCl pBody; rw [if_neg (by omega), if_neg (by omega), if_neg (by omega), if_pos (by omega)]); rw [e9]; exact ⟨rfl, mBd_at hb⟩)
                        · refine q_aloadn C dX12_readsClause_120 rfl ?_
                          refine q_iconst C dX12_readsClause_121 ?_
                          refine q_iloadn C dX12_readsClause_122 rfl ?_
                          refine cv_RX12_108 C (by decide) (m_X12_fails l g _ (by omega) (by omega)) dX12_readsClause_123 (Nat.le_of_ble_eq_true rfl) (fun r123 => ?_)
                          refine q_pop C dX12_readsClause_126 rfl ?_
                          refine q_iconst C dX12_readsClause_127 ?_
                          refine q_zret C' dX12_readsClause_128 (by first | omega | exact q_b01 _ | simp) ?_
                          first | (exfalso; omega) | (have e9 : pCl t L a R = (3, a, R) := (by unfold pCl; rw [if_neg (by omega), if_pos (by omega)]); rw [e9]; exact ⟨congrArg some (q_bF (show ¬ (3 : Int) = 0 by decide)).symm, mBd_no (by decide) (((mRf.rf.f (by decide)).f (by decide)).f (by decide)) q_upO ((q_upK (by decide)).trans q_upO)⟩)
              · refine q_aloadn C dX12_readsClause_75 rfl ?_
                refine q_iconst C dX12_readsClause_76 ?_
                refine q_iloadn C dX12_readsClause_77 rfl ?_
                refine cv_RX12_108 C (by decide) (m_X12_fails l g _ (by omega) (by omega)) dX12_readsClause_78 (Nat.le_of_ble_eq_true rfl) (fun r78 => ?_)
                refine q_pop C dX12_readsClause_81 rfl ?_
                refine q_iconst C dX12_readsClause_82 ?_
                refine q_zret C' dX12_readsClause_83 (by first | omega | exact q_b01 _ | simp) ?_
                have e9 : pCl t L a R = (1, a, R) := (by unfold pCl; rw [if_pos (by omega)])
                rw [e9]
                exact ⟨congrArg some (q_bF (show ¬ (1 : Int) = 0 by decide)).symm, mBd_no (by decide) (((mRf.rf.f (by decide)).f (by decide)).f (by decide)) q_upO ((q_upK (by decide)).trans q_upO)⟩
    · refine q_aloadn C dX12_readsClause_34 rfl ?_
      refine cw_RX12_131 C (by decide) (m_X12_readsHead l g _ hT.at hL (by omega) hR (hX.d (mRd_at _ _)) (by omega)) dX12_readsClause_35 (Nat.le_of_ble_eq_true rfl) (fun r N1 hz hp => ?_)
      obtain ⟨rfl, hb⟩ := hp
      show qV l g X _ _ _ (qI _ :: [])
      refine q_zret C' dX12_readsClause_38 (by first | omega | exact q_b01 _ | simp) ?_
      have e9 : pCl t L a R = pFin t L (pHeadB t L (a + 1) R) := (by unfold pCl pBody; rw [if_neg (by omega), if_neg (by omega), if_pos (by omega)])
      rw [e9]
      exact ⟨rfl, mBd_at hb⟩
theorem mRs_h (t : Int → Int) (L : Int) : pRes t L = pAll t L 241 0 rInit := rfl
def mRs0 (M : qMem) : qMem := qUp (qUp (qUp (qUp M 35 0 2 0) 35 0 6 (-1)) 35 0 7 0) 35 0 8 0
theorem mRs0_f (M : qMem) : mRf M (mRs0 M) := (((mRf.rf.f (by decide)).f (by decide)).f (by decide)).f (by decide)
theorem mRs0_2 (M : qMem) : mRs0 M 35 0 2 = 0 := (q_upK (by decide)).trans ((q_upK (by decide)).trans ((q_upK (by decide)).trans q_upO))
theorem mRs0_X (M : qMem) : mX (mRs0 M) rInit := by
  refine ⟨(q_upK (by decide)).trans ((q_upK (by decide)).trans q_upO), (q_upK (by decide)).trans q_upO, q_upO, fun c a1 a2 => ?_, fun c a1 a2 => ?_, fun c a1 a2 => ?_⟩
  · have : c < 0 := a2
    omega
  · have : c < 0 := a2
    omega
  · have : c < 8 * 0 := a2
    omega
def mRsI (t : Int → Int) (L : Int) (N : qMem) (i go : Int) (R : sRd) : Prop := (go = 1 ∧ mX N R ∧ rB R ∧ (0 ≤ N 35 0 2 ∧ N 35 0 2 ≤ L) ∧ i ≤ N 35 0 2 ∧ pRes t L = pAll t L (241 - i).toNat (N 35 0 2) R) ∨ (go = 0 ∧ (pRes t L).1 ≠ 0 ∧ N 35 0 2 = (pRes t L).2.1 ∧ N 35 0 4 = (pRes t L).1)
theorem mRs_s {t : Int → Int} {L : Int} {N K N2 : qMem} {R : sRd} {i s : Int} (hi : 0 ≤ i ∧ i ≤ 240) (hs : s = pSk t L (N 35 0 2)) (h0 : 0 ≤ N 35 0 2) (hlt : s < L) (sk : N 35 0 2 ≤ s) (g3 : rB R) (g5 : i ≤ N 35 0 2) (g6 : pRes t L = pAll t L (241 - i).toNat (N 35 0 2) R) (hb : mBd K N2 (pCl t L s R)) : mRsI t L N2 (i + 1) (qB ((pCl t L s R).1 = 0)) (pCl t L s R).2.2 := by
  have hp : pRes t L = if (pCl t L s R).1 = 0 then pAll t L (241 - (i + 1)).toNat (pCl t L s R).2.1 (pCl t L s R).2.2 else pCl t L s R := by
    rw [g6, show (241 - i).toNat = (241 - (i + 1)).toNat + 1 by omega, pAll, ← hs, if_pos hlt]
  by_cases n1 : (pCl t L s R).1 = 0
  · left
    rw [if_pos n1] at hp
    have hB := pCl_B (show 0 ≤ s by omega) hlt g3 n1
    rw [hb.2.1]
    exact ⟨q_bT n1, hb.2.2.2 n1, hB.1, by omega, by omega, hp⟩
  · right
    rw [if_neg n1] at hp
    rw [hp]
    exact ⟨q_bF n1, n1, hb.2.1, hb.2.2.1 n1⟩
theorem dX12_readsSeason_0 : decode cX12_readsSeason 0 = .ok (.aload_n 0, 1) := by decide +kernel
theorem dX12_readsSeason_1 : decode cX12_readsSeason 1 = .ok (.iconst 0, 1) := by decide +kernel
theorem dX12_readsSeason_2 : decode cX12_readsSeason 2 = .ok (.putfield 94, 3) := by decide +kernel
theorem dX12_readsSeason_5 : decode cX12_readsSeason 5 = .ok (.aload_n 0, 1) := by decide +kernel
theorem dX12_readsSeason_6 : decode cX12_readsSeason 6 = .ok (.iconst (-1), 1) := by decide +kernel
theorem dX12_readsSeason_7 : decode cX12_readsSeason 7 = .ok (.putfield 118, 3) := by decide +kernel
theorem dX12_readsSeason_10 : decode cX12_readsSeason 10 = .ok (.aload_n 0, 1) := by decide +kernel
theorem dX12_readsSeason_11 : decode cX12_readsSeason 11 = .ok (.iconst 0, 1) := by decide +kernel
theorem dX12_readsSeason_12 : decode cX12_readsSeason 12 = .ok (.putfield 125, 3) := by decide +kernel
theorem dX12_readsSeason_15 : decode cX12_readsSeason 15 = .ok (.aload_n 0, 1) := by decide +kernel
theorem dX12_readsSeason_16 : decode cX12_readsSeason 16 = .ok (.iconst 0, 1) := by decide +kernel
theorem dX12_readsSeason_17 : decode cX12_readsSeason 17 = .ok (.putfield 128, 3) := by decide +kernel
theorem dX12_readsSeason_20 : decode cX12_readsSeason 20 = .ok (.iconst 1, 1) := by decide +kernel
theorem dX12_readsSeason_21 : decode cX12_readsSeason 21 = .ok (.istore_n 1, 1) := by decide +kernel
theorem dX12_readsSeason_22 : decode cX12_readsSeason 22 = .ok (.iload_n 1, 1) := by decide +kernel
theorem dX12_readsSeason_23 : decode cX12_readsSeason 23 = .ok (.ifCond .eq 19, 3) := by decide +kernel
theorem dX12_readsSeason_26 : decode cX12_readsSeason 26 = .ok (.aload_n 0, 1) := by decide +kernel
theorem dX12_readsSeason_27 : decode cX12_readsSeason 27 = .ok (.invokevirtual 104, 3) := by decide +kernel
theorem dX12_readsSeason_30 : decode cX12_readsSeason 30 = .ok (.iconst (-1), 1) := by decide +kernel
theorem dX12_readsSeason_31 : decode cX12_readsSeason 31 = .ok (.if_icmp .eq 11, 3) := by decide +kernel
theorem dX12_readsSeason_34 : decode cX12_readsSeason 34 = .ok (.aload_n 0, 1) := by decide +kernel
theorem dX12_readsSeason_35 : decode cX12_readsSeason 35 = .ok (.invokevirtual 141, 3) := by decide +kernel
theorem dX12_readsSeason_38 : decode cX12_readsSeason 38 = .ok (.istore_n 1, 1) := by decide +kernel
theorem dX12_readsSeason_39 : decode cX12_readsSeason 39 = .ok (.goto (-17), 3) := by decide +kernel
theorem dX12_readsSeason_42 : decode cX12_readsSeason 42 = .ok (.iload_n 1, 1) := by decide +kernel
theorem dX12_readsSeason_43 : decode cX12_readsSeason 43 = .ok (.ireturn, 1) := by decide +kernel
set_option maxRecDepth 4000 in
set_option maxHeartbeats 4000000 in
theorem m_X12_readsSeason (l : Launch) (g : qGm) (M : qMem) {t : Int → Int} {L a : Int} (hT : mT M t L a) (hL : 0 ≤ L ∧ L ≤ 240) (ht : ∀ k, 0 ≤ k → k < L → 0 ≤ t k) : qOk l g 6 yX12_readsSeason cX12_readsSeason 2 (some .boolean) [qR g 35 0] M (fun r N => r = some (qB ((pRes t L).1 = 0)) ∧ mBd M N (pRes t L) ∧ ((pRes t L).1 = 0 → rB (pRes t L).2.2)) := by
  refine q_ok (by decide +kernel) (Nat.le_of_ble_eq_true rfl) (fun X C' hn => ?_)
  have C := C'.1
  refine q_aloadn C dX12_readsSeason_0 rfl ?_
  refine q_iconst C dX12_readsSeason_1 ?_
  refine pf_RX12_94 C (by first | assumption | omega | exact q_tin _ | exact q_bIn _) dX12_readsSeason_2 ?_
  refine q_aloadn C dX12_readsSeason_5 rfl ?_
  refine q_iconst C dX12_readsSeason_6 ?_
  refine pf_RX12_118 C (by first | assumption | omega | exact q_tin _ | exact q_bIn _) dX12_readsSeason_7 ?_
  refine q_aloadn C dX12_readsSeason_10 rfl ?_
  refine q_iconst C dX12_readsSeason_11 ?_
  refine pf_RX12_125 C (by first | assumption | omega | exact q_tin _ | exact q_bIn _) dX12_readsSeason_12 ?_
  refine q_aloadn C dX12_readsSeason_15 rfl ?_
  refine q_iconst C dX12_readsSeason_16 ?_
  refine pf_RX12_128 C (by first | assumption | omega | exact q_tin _ | exact q_bIn _) dX12_readsSeason_17 ?_
  refine q_iconst C dX12_readsSeason_20 ?_
  refine q_istoren C dX12_readsSeason_21 hn (by decide) rfl ?_
  have L22 : ∀ (n22 : Nat) (i : Int) (go : Int) (R : sRd) (N : qMem), 242 - i < (n22 : Int) → (0 ≤ i ∧ i ≤ 241) → (mRf M N) → (mRsI t L N i go R) → qV l g X N 22 [(0, qR g 35 0), (1, qI go)] [] := by
    intro n22
    induction n22 with
    | zero => intro i go R N hm22 i0 kf kI; exfalso; first | omega | (simp at *; omega)
    | succ n22 ih22 =>
      intro i go R N hm22 i0 kf kI
      have tN : mT N t L (N 35 0 2) := ⟨(kf.1 41 0 (by omega) (by omega)).trans hT.1, (kf.2 0 (by decide) (by decide) (by decide) (by decide)).trans hT.2.1, rfl⟩
      have gq : go = 0 ∨ go = 1 := kI.elim (fun q => Or.inr q.1) (fun q => Or.inl q.1)
      refine q_iloadn C dX12_readsSeason_22 rfl ?_
      refine q_if_eq C 42 dX12_readsSeason_23 (by decide) (by first | assumption | omega | exact q_tin _ | exact q_bIn _) (fun h23 => ?_) (fun h23 => ?_)
      · refine q_iloadn C dX12_readsSeason_42 rfl ?_
        refine q_zret C' dX12_readsSeason_43 (by first | omega | exact q_b01 _ | simp) ?_
        obtain ⟨g1, g2, g3, g4⟩ := kI.resolve_left (fun q => by omega)
        exact ⟨congrArg some (by rw [q_bF g2]; exact g1), ⟨kf, g3, fun _ => g4, fun q => absurd q g2⟩, fun q => absurd q g2⟩
      · obtain ⟨g1, g2, g3, g4, g5, g6⟩ := kI.resolve_right (fun q => h23 q.1)
        refine q_aloadn C dX12_readsSeason_26 rfl ?_
        refine cv_RX12_104 C (by decide) (m_X12_nextLetter l g _ tN hL g4) dX12_readsSeason_27 (Nat.le_of_ble_eq_true rfl) (fun r27 => ?_)
        obtain ⟨s, hs⟩ : ∃ s, s = pSk t L (N 35 0 2) := ⟨_, rfl⟩
        rw [← hs] at r27 ⊢
        have sk := pSk_in (t := t) g4.1 g4.2
        rw [← hs] at sk
        refine q_iconst C dX12_readsSeason_30 ?_
        refine q_icmp_eq C 42 dX12_readsSeason_31 (by decide) (by first | assumption | omega | exact q_tin _ | exact q_bIn _) (by first | assumption | omega | exact q_tin _ | exact q_bIn _) (fun h31 => ?_) (fun h31 => ?_)
        · refine q_iloadn C dX12_readsSeason_42 rfl ?_
          refine q_zret C' dX12_readsSeason_43 (by first | omega | exact q_b01 _ | simp) ?_
          have hsL : ¬ s < L := fun q => by
            have e1 := ht s (by omega) q
            rw [pLt_lt q] at h31
            omega
          have e9 : pRes t L = (0, s, R) := by rw [g6, show (241 - i).toNat = (240 - i).toNat + 1 by omega, pAll, ← hs, if_neg hsL]
          rw [e9]
          exact ⟨congrArg some (by rw [g1]; exact (q_bT rfl).symm), ⟨kf.f (by decide), q_upO, fun q => absurd rfl q, fun _ => g2.d (mRd_at _ _)⟩, fun _ => g3⟩
        · have hlt : s < L := Int.not_le.mp (fun q => h31 (by unfold pLt; rw [if_neg (by omega)]))
          have hks : pSk t L s = s := by rw [hs]; exact pSk_id g4.1 g4.2
          refine q_aloadn C dX12_readsSeason_34 rfl ?_
          refine cw_RX12_141 C (by decide) (m_X12_readsClause l g _ tN.at hL ⟨by omega, hlt⟩ hks g3 (g2.d (mRd_at _ _))) dX12_readsSeason_35 (Nat.le_of_ble_eq_true rfl) (fun r N1 hz hp => ?_)
          obtain ⟨rfl, hb⟩ := hp
          show qV l g X _ _ _ (qI _ :: [])
          refine q_istoren C dX12_readsSeason_38 hn (by decide) rfl ?_
          refine q_goto C (tgt := 22) dX12_readsSeason_39 (by decide) ?_
          exact q_ls (by exact ⟨rfl, rfl, trivial⟩) (ih22 (i + 1) _ _ _ (by omega) (by omega) (by exact (kf.f (by decide)).tr hb.1) (by exact mRs_s (by omega) hs g4.1 hlt sk.1 g3 g5 g6 hb))
  exact q_ls (by exact ⟨rfl, rfl, trivial⟩) (L22 1000 0 1 rInit _ (by omega) (by omega) (by exact mRs0_f M) (by exact Or.inl ⟨rfl, mRs0_X M, rInit_B, by show 0 ≤ mRs0 M 35 0 2 ∧ mRs0 M 35 0 2 ≤ L; rw [mRs0_2]; omega, by show 0 ≤ mRs0 M 35 0 2; rw [mRs0_2]; omega, by show pRes t L = pAll t L 241 (mRs0 M 35 0 2) rInit; rw [mRs0_2]; rfl⟩))
