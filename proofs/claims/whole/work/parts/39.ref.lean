theorem dX12_clear_0 : decode cX12_clear 0 = .ok (.iload_n 1, 1) := by decide +kernel
theorem dX12_clear_1 : decode cX12_clear 1 = .ok (.iconst 0, 1) := by decide +kernel
theorem dX12_clear_2 : decode cX12_clear 2 = .ok (.bipush 7, 2) := by decide +kernel
theorem dX12_clear_4 : decode cX12_clear 4 = .ok (.invokestatic 85, 3) := by decide +kernel
theorem dX12_clear_7 : decode cX12_clear 7 = .ok (.ifCond .eq 12, 3) := by decide +kernel
theorem dX12_clear_10 : decode cX12_clear 10 = .ok (.iload_n 2, 1) := by decide +kernel
theorem dX12_clear_11 : decode cX12_clear 11 = .ok (.iconst 0, 1) := by decide +kernel
theorem dX12_clear_12 : decode cX12_clear 12 = .ok (.iconst 1, 1) := by decide +kernel
theorem dX12_clear_13 : decode cX12_clear 13 = .ok (.invokestatic 85, 3) := by decide +kernel
theorem dX12_clear_16 : decode cX12_clear 16 = .ok (.ifCond .ne 6, 3) := by decide +kernel
theorem dX12_clear_19 : decode cX12_clear 19 = .ok (.ldc 89, 2) := by decide +kernel
theorem dX12_clear_21 : decode cX12_clear 21 = .ok (.ireturn, 1) := by decide +kernel
theorem dX12_clear_22 : decode cX12_clear 22 = .ok (.aload_n 0, 1) := by decide +kernel
theorem dX12_clear_23 : decode cX12_clear 23 = .ok (.invokevirtual 189, 3) := by decide +kernel
theorem dX12_clear_26 : decode cX12_clear 26 = .ok (.ifCond .ne 6, 3) := by decide +kernel
theorem dX12_clear_29 : decode cX12_clear 29 = .ok (.ldc 224, 2) := by decide +kernel
theorem dX12_clear_31 : decode cX12_clear 31 = .ok (.ireturn, 1) := by decide +kernel
theorem dX12_clear_32 : decode cX12_clear 32 = .ok (.iconst 0, 1) := by decide +kernel
theorem dX12_clear_33 : decode cX12_clear 33 = .ok (.istore_n 3, 1) := by decide +kernel
theorem dX12_clear_34 : decode cX12_clear 34 = .ok (.iconst (-1), 1) := by decide +kernel
theorem dX12_clear_35 : decode cX12_clear 35 = .ok (.istore 4, 2) := by decide +kernel
theorem dX12_clear_37 : decode cX12_clear 37 = .ok (.bipush 47, 2) := by decide +kernel
theorem dX12_clear_39 : decode cX12_clear 39 = .ok (.istore 5, 2) := by decide +kernel
theorem dX12_clear_41 : decode cX12_clear 41 = .ok (.iload 5, 2) := by decide +kernel
theorem dX12_clear_43 : decode cX12_clear 43 = .ok (.ifCond .lt 61, 3) := by decide +kernel
theorem dX12_clear_46 : decode cX12_clear 46 = .ok (.aload_n 0, 1) := by decide +kernel
theorem dX12_clear_47 : decode cX12_clear 47 = .ok (.iload 5, 2) := by decide +kernel
theorem dX12_clear_49 : decode cX12_clear 49 = .ok (.invokevirtual 175, 3) := by decide +kernel
theorem dX12_clear_52 : decode cX12_clear 52 = .ok (.ifCond .eq 16, 3) := by decide +kernel
theorem dX12_clear_55 : decode cX12_clear 55 = .ok (.iload 5, 2) := by decide +kernel
theorem dX12_clear_57 : decode cX12_clear 57 = .ok (.invokestatic 172, 3) := by decide +kernel
theorem dX12_clear_60 : decode cX12_clear 60 = .ok (.iload_n 1, 1) := by decide +kernel
theorem dX12_clear_61 : decode cX12_clear 61 = .ok (.if_icmp .ne 7, 3) := by decide +kernel
theorem dX12_clear_64 : decode cX12_clear 64 = .ok (.iconst 1, 1) := by decide +kernel
theorem dX12_clear_65 : decode cX12_clear 65 = .ok (.goto 4, 3) := by decide +kernel
theorem dX12_clear_68 : decode cX12_clear 68 = .ok (.iconst 0, 1) := by decide +kernel
theorem dX12_clear_69 : decode cX12_clear 69 = .ok (.istore 6, 2) := by decide +kernel
theorem dX12_clear_71 : decode cX12_clear 71 = .ok (.iload_n 3, 1) := by decide +kernel
theorem dX12_clear_72 : decode cX12_clear 72 = .ok (.iload 6, 2) := by decide +kernel
theorem dX12_clear_74 : decode cX12_clear 74 = .ok (.ifCond .eq 7, 3) := by decide +kernel
theorem dX12_clear_77 : decode cX12_clear 77 = .ok (.iconst 1, 1) := by decide +kernel
theorem dX12_clear_78 : decode cX12_clear 78 = .ok (.goto 4, 3) := by decide +kernel
theorem dX12_clear_81 : decode cX12_clear 81 = .ok (.iconst 0, 1) := by decide +kernel
theorem dX12_clear_82 : decode cX12_clear 82 = .ok (.iadd, 1) := by decide +kernel
theorem dX12_clear_83 : decode cX12_clear 83 = .ok (.istore_n 3, 1) := by decide +kernel
theorem dX12_clear_84 : decode cX12_clear 84 = .ok (.iload 6, 2) := by decide +kernel
theorem dX12_clear_86 : decode cX12_clear 86 = .ok (.ifCond .eq 8, 3) := by decide +kernel
theorem dX12_clear_89 : decode cX12_clear 89 = .ok (.iload 5, 2) := by decide +kernel
theorem dX12_clear_91 : decode cX12_clear 91 = .ok (.goto 5, 3) := by decide +kernel
theorem dX12_clear_94 : decode cX12_clear 94 = .ok (.iload 4, 2) := by decide +kernel
theorem dX12_clear_96 : decode cX12_clear 96 = .ok (.istore 4, 2) := by decide +kernel
theorem dX12_clear_98 : decode cX12_clear 98 = .ok (.iinc 5 (-1), 3) := by decide +kernel
theorem dX12_clear_101 : decode cX12_clear 101 = .ok (.goto (-60), 3) := by decide +kernel
theorem dX12_clear_104 : decode cX12_clear 104 = .ok (.iload_n 2, 1) := by decide +kernel
theorem dX12_clear_105 : decode cX12_clear 105 = .ok (.ifCond .ne 7, 3) := by decide +kernel
theorem dX12_clear_108 : decode cX12_clear 108 = .ok (.iload_n 3, 1) := by decide +kernel
theorem dX12_clear_109 : decode cX12_clear 109 = .ok (.goto 5, 3) := by decide +kernel
theorem dX12_clear_112 : decode cX12_clear 112 = .ok (.iload 4, 2) := by decide +kernel
theorem dX12_clear_114 : decode cX12_clear 114 = .ok (.ireturn, 1) := by decide +kernel
set_option maxRecDepth 4000 in
set_option maxHeartbeats 4000000 in
theorem m_X12_clear (l : Launch) (g : qGm) (M : qMem) {sd : sSD} (hs : sRS sd) (hS : mS M sd) {k : Int} (hkq : qIn k) {w : Int} (hwq : qIn w) : qOk l g 3 yX12_clear cX12_clear 7 (some .int) [qR g 35 0, qI k, qI w] M (qEv (some (sClear sd k w)) M) := by
  refine q_ok (by decide +kernel) (Nat.le_of_ble_eq_true rfl) (fun X C' hn => ?_)
  have C := C'.1
  have km := hs.2.1
  have kn := hs.2.2.1
  have hmn := hs.1
  have w0 := hS.1
  have w1 := hS.2.1
  have w2 := hS.2.2.1
  refine q_iloadn C dX12_clear_0 rfl ?_
  refine q_iconst C dX12_clear_1 ?_
  refine q_bipush C dX12_clear_2 (by decide) ?_
  refine cv_RX12_85 C (by decide) (m_X12_in l g _ (by omega) (by omega) (by omega)) dX12_clear_4 (Nat.le_of_ble_eq_true rfl) (fun r4 => ?_)
  refine q_ifeqB C 19 dX12_clear_7 (by decide) (fun h7 => ?_) (fun h7 => ?_)
  · refine q_ldc C (z := -1000000002) q_ci_RX12_89 (by decide) dX12_clear_19 ?_
    refine q_iret C' dX12_clear_21 (by first | assumption | omega | exact q_tin _ | exact q_bIn _) ?_
    refine ⟨congrArg some ?_, rfl⟩
    unfold sClear
    rw [if_neg (by omega)]
  · refine q_iloadn C dX12_clear_10 rfl ?_
    refine q_iconst C dX12_clear_11 ?_
    refine q_iconst C dX12_clear_12 ?_
    refine cv_RX12_85 C (by decide) (m_X12_in l g _ (by omega) (by omega) (by omega)) dX12_clear_13 (Nat.le_of_ble_eq_true rfl) (fun r13 => ?_)
    refine q_ifneB C 22 dX12_clear_16 (by decide) (fun h16 => ?_) (fun h16 => ?_)
    · refine q_aloadn C dX12_clear_22 rfl ?_
      refine cv_RX12_189 C (by decide) (m_X12_isSeason l g _ hs hS) dX12_clear_23 (Nat.le_of_ble_eq_true rfl) (fun r23 => ?_)
      refine q_ifneB C 32 dX12_clear_26 (by decide) (fun h26 => ?_) (fun h26 => ?_)
      · refine q_iconst C dX12_clear_32 ?_
        refine q_istoren C dX12_clear_33 hn (by decide) rfl ?_
        refine q_iconst C dX12_clear_34 ?_
        refine q_istore C dX12_clear_35 hn (by decide) rfl ?_
        refine q_bipush C dX12_clear_37 (by decide) ?_
        refine q_istore C dX12_clear_39 hn (by decide) rfl ?_
        have L41 : ∀ (n41 : Nat) (n : Int) (q : Int) (i : Int), i + 1 < (n41 : Int) → (-1 ≤ i ∧ i ≤ 47) → (n = sSum (fun j => qB (sSaid (sd 0 0) j ∧ sMean j = k)) 48 - sSum (fun j => qB (sSaid (sd 0 0) j ∧ sMean j = k)) (i + 1)) → (0 ≤ n ∧ n ≤ 47 - i) → (q = sFr (fun j => decide (sSaid (sd 0 0) j ∧ sMean j = k)) 48 (i + 1)) → (-1 ≤ q ∧ q ≤ 47) → qV l g X M 41 [(0, qR g 35 0), (1, qI k), (2, qI w), (3, qI n), (4, qI q), (5, qI i)] [] := by
          intro n41
          induction n41 with
          | zero => intro n q i hm41 i0 ik ikb iq iqb; exfalso; first | omega | (simp at *; omega)
          | succ n41 ih41 =>
            intro n q i hm41 i0 ik ikb iq iqb
            have fs := fun z : 0 ≤ i => sSum_s (fun j => qB (sSaid (sd 0 0) j ∧ sMean j = k)) z
            refine q_iload C dX12_clear_41 rfl ?_
            refine q_if_lt C 104 dX12_clear_43 (by decide) (by first | assumption | omega | exact q_tin _ | exact q_bIn _) (fun h43 => ?_) (fun h43 => ?_)
            · refine q_iloadn C dX12_clear_104 rfl ?_
              refine q_if_ne C 112 dX12_clear_105 (by decide) (by first | assumption | omega | exact q_tin _ | exact q_bIn _) (fun h105 => ?_) (fun h105 => ?_)
              · refine q_iload C dX12_clear_112 rfl ?_
                refine q_iret C' dX12_clear_114 (by first | assumption | omega | exact q_tin _ | exact q_bIn _) ?_
                have e9 : i = -1 := (by omega)
                rw [e9] at ik iq
                rw [show (-1 : Int) + 1 = 0 by omega] at ik iq
                rw [sSum_0] at ik
                refine ⟨congrArg some ?_, rfl⟩
                unfold sClear
                first | (rw [if_pos (by omega), if_neg (by omega), if_pos (by omega)]; omega) | (rw [if_pos (by omega), if_neg (by omega), if_neg (by omega)]; exact iq)
              · refine q_iloadn C dX12_clear_108 rfl ?_
                refine q_goto C (tgt := 114) dX12_clear_109 (by decide) ?_
                refine q_iret C' dX12_clear_114 (by first | assumption | omega | exact q_tin _ | exact q_bIn _) ?_
                have e9 : i = -1 := (by omega)
                rw [e9] at ik iq
                rw [show (-1 : Int) + 1 = 0 by omega] at ik iq
                rw [sSum_0] at ik
                refine ⟨congrArg some ?_, rfl⟩
                unfold sClear
                first | (rw [if_pos (by omega), if_neg (by omega), if_pos (by omega)]; omega) | (rw [if_pos (by omega), if_neg (by omega), if_neg (by omega)]; exact iq)
            · refine q_aloadn C dX12_clear_46 rfl ?_
              refine q_iload C dX12_clear_47 rfl ?_
              refine cv_RX12_175 C (by decide) (m_X12_isSaid l g _ hs hS (by omega) (by omega)) dX12_clear_49 (Nat.le_of_ble_eq_true rfl) (fun r49 => ?_)
              refine q_ifeqB C 68 dX12_clear_52 (by decide) (fun h52 => ?_) (fun h52 => ?_)
              · refine q_iconst C dX12_clear_68 ?_
                refine q_istore C dX12_clear_69 hn (by decide) rfl ?_
                refine q_iloadn C dX12_clear_71 rfl ?_
                refine q_iload C dX12_clear_72 rfl ?_
                refine q_if_eq C 81 dX12_clear_74 (by decide) (by first | assumption | omega | exact q_tin _ | exact q_bIn _) (fun h74 => ?_) (fun h74 => ?_)
                · refine q_iconst C dX12_clear_81 ?_
                  refine q_iadd C dX12_clear_82 ?_
                  refine q_istoren C dX12_clear_83 hn (by decide) rfl ?_
                  refine q_iload C dX12_clear_84 rfl ?_
                  refine q_if_eq C 94 dX12_clear_86 (by decide) (by first | assumption | omega | exact q_tin _ | exact q_bIn _) (fun h86 => ?_) (fun h86 => ?_)
                  · refine q_iload C dX12_clear_94 rfl ?_
                    refine q_istore C dX12_clear_96 hn (by decide) rfl ?_
                    refine q_iinc C dX12_clear_98 rfl hn (by decide) rfl ?_
                    refine q_goto C (tgt := 41) dX12_clear_101 (by decide) ?_
                    exact q_ls (by exact ⟨rfl, rfl, rfl, rfl, rfl, rfl, trivial⟩) (ih41 _ _ _ (by omega) (by omega) (by have e := fs (by omega); rw [show i + -1 + 1 = i by omega]; first | (exfalso; omega) | (rw [q_bT ⟨h52, by omega⟩] at e; omega) | (rw [q_bF (fun z => h52 z.1)] at e; omega) | (rw [q_bF (fun z => absurd z.2 (by omega))] at e; omega) | (exfalso; omega)) (by omega) (by rw [show i + -1 + 1 = i by omega, sFr_s _ (by omega)]; first | (exfalso; omega) | (rw [if_pos (decide_eq_true ⟨h52, by omega⟩)]; done) | (rw [if_neg (fun e => h52 (of_decide_eq_true e).1)]; exact iq) | (rw [if_neg (fun e => absurd (of_decide_eq_true e).2 (by omega))]; exact iq) | (exfalso; omega)) (by omega))
                  · refine q_iload C dX12_clear_89 rfl ?_
                    refine q_goto C (tgt := 96) dX12_clear_91 (by decide) ?_
                    refine q_istore C dX12_clear_96 hn (by decide) rfl ?_
                    refine q_iinc C dX12_clear_98 rfl hn (by decide) rfl ?_
                    refine q_goto C (tgt := 41) dX12_clear_101 (by decide) ?_
                    exact q_ls (by exact ⟨rfl, rfl, rfl, rfl, rfl, rfl, trivial⟩) (ih41 _ _ _ (by omega) (by omega) (by have e := fs (by omega); rw [show i + -1 + 1 = i by omega]; first | (exfalso; omega) | (rw [q_bT ⟨h52, by omega⟩] at e; omega) | (rw [q_bF (fun z => h52 z.1)] at e; omega) | (rw [q_bF (fun z => absurd z.2 (by omega))] at e; omega) | (exfalso; omega)) (by omega) (by rw [show i + -1 + 1 = i by omega, sFr_s _ (by omega)]; first | (exfalso; omega) | (rw [if_pos (decide_eq_true ⟨h52, by omega⟩)]; done) | (rw [if_neg (fun e => h52 (of_decide_eq_true e).1)]; exact iq) | (rw [if_neg (fun e => absurd (of_decide_eq_true e).2 (by omega))]; exact iq) | (exfalso; omega)) (by omega))
                · refine q_iconst C dX12_clear_77 ?_
                  refine q_goto C (tgt := 82) dX12_clear_78 (by decide) ?_
                  refine q_iadd C dX12_clear_82 ?_
                  refine q_istoren C dX12_clear_83 hn (by decide) rfl ?_
                  refine q_iload C dX12_clear_84 rfl ?_
                  refine q_if_eq C 94 dX12_clear_86 (by decide) (by first | assumption | omega | exact q_tin _ | exact q_bIn _) (fun h86 => ?_) (fun h86 => ?_)
                  · refine q_iload C dX12_clear_94 rfl ?_
                    refine q_istore C dX12_clear_96 hn (by decide) rfl ?_
                    refine q_iinc C dX12_clear_98 rfl hn (by decide) rfl ?_
                    refine q_goto C (tgt := 41) dX12_clear_101 (by decide) ?_
                    exact q_ls (by exact ⟨rfl, rfl, rfl, rfl, rfl, rfl, trivial⟩) (ih41 _ _ _ (by omega) (by omega) (by have e := fs (by omega); rw [show i + -1 + 1 = i by omega]; first | (exfalso; omega) | (rw [q_bT ⟨h52, by omega⟩] at e; omega) | (rw [q_bF (fun z => h52 z.1)] at e; omega) | (rw [q_bF (fun z => absurd z.2 (by omega))] at e; omega) | (exfalso; omega)) (by omega) (by rw [show i + -1 + 1 = i by omega, sFr_s _ (by omega)]; first | (exfalso; omega) | (rw [if_pos (decide_eq_true ⟨h52, by omega⟩)]; done) | (rw [if_neg (fun e => h52 (of_decide_eq_true e).1)]; exact iq) | (rw [if_neg (fun e => absurd (of_decide_eq_true e).2 (by omega))]; exact iq) | (exfalso; omega)) (by omega))
                  · refine q_iload C dX12_clear_89 rfl ?_
                    refine q_goto C (tgt := 96) dX12_clear_91 (by decide) ?_
                    refine q_istore C dX12_clear_96 hn (by decide) rfl ?_
                    refine q_iinc C dX12_clear_98 rfl hn (by decide) rfl ?_
                    refine q_goto C (tgt := 41) dX12_clear_101 (by decide) ?_
                    exact q_ls (by exact ⟨rfl, rfl, rfl, rfl, rfl, rfl, trivial⟩) (ih41 _ _ _ (by omega) (by omega) (by have e := fs (by omega); rw [show i + -1 + 1 = i by omega]; first | (exfalso; omega) | (rw [q_bT ⟨h52, by omega⟩] at e; omega) | (rw [q_bF (fun z => h52 z.1)] at e; omega) | (rw [q_bF (fun z => absurd z.2 (by omega))] at e; omega) | (exfalso; omega)) (by omega) (by rw [show i + -1 + 1 = i by omega, sFr_s _ (by omega)]; first | (exfalso; omega) | (rw [if_pos (decide_eq_true ⟨h52, by omega⟩)]; done) | (rw [if_neg (fun e => h52 (of_decide_eq_true e).1)]; exact iq) | (rw [if_neg (fun e => absurd (of_decide_eq_true e).2 (by omega))]; exact iq) | (exfalso; omega)) (by omega))
              · refine q_iload C dX12_clear_55 rfl ?_
                refine cv_RX12_172 C (by decide) (m_X12_meaning l g _ (by omega)) dX12_clear_57 (Nat.le_of_ble_eq_true rfl) (fun r57 => ?_)
                refine q_iloadn C dX12_clear_60 rfl ?_
                refine q_icmp_ne C 68 dX12_clear_61 (by decide) (by first | assumption | omega | exact q_tin _ | exact q_bIn _) (by first | assumption | omega | exact q_tin _ | exact q_bIn _) (fun h61 => ?_) (fun h61 => ?_)
                · refine q_iconst C dX12_clear_68 ?_
                  refine q_istore C dX12_clear_69 hn (by decide) rfl ?_
                  refine q_iloadn C dX12_clear_71 rfl ?_
                  refine q_iload C dX12_clear_72 rfl ?_
                  refine q_if_eq C 81 dX12_clear_74 (by decide) (by first | assumption | omega | exact q_tin _ | exact q_bIn _) (fun h74 => ?_) (fun h74 => ?_)
                  · refine q_iconst C dX12_clear_81 ?_
                    refine q_iadd C dX12_clear_82 ?_
                    refine q_istoren C dX12_clear_83 hn (by decide) rfl ?_
                    refine q_iload C dX12_clear_84 rfl ?_
                    refine q_if_eq C 94 dX12_clear_86 (by decide) (by first | assumption | omega | exact q_tin _ | exact q_bIn _) (fun h86 => ?_) (fun h86 => ?_)
                    · refine q_iload C dX12_clear_94 rfl ?_
                      refine q_istore C dX12_clear_96 hn (by decide) rfl ?_
                      refine q_iinc C dX12_clear_98 rfl hn (by decide) rfl ?_
                      refine q_goto C (tgt := 41) dX12_clear_101 (by decide) ?_
                      exact q_ls (by exact ⟨rfl, rfl, rfl, rfl, rfl, rfl, trivial⟩) (ih41 _ _ _ (by omega) (by omega) (by have e := fs (by omega); rw [show i + -1 + 1 = i by omega]; first | (exfalso; omega) | (rw [q_bT ⟨h52, by omega⟩] at e; omega) | (rw [q_bF (fun z => h52 z.1)] at e; omega) | (rw [q_bF (fun z => absurd z.2 (by omega))] at e; omega) | (exfalso; omega)) (by omega) (by rw [show i + -1 + 1 = i by omega, sFr_s _ (by omega)]; first | (exfalso; omega) | (rw [if_pos (decide_eq_true ⟨h52, by omega⟩)]; done) | (rw [if_neg (fun e => h52 (of_decide_eq_true e).1)]; exact iq) | (rw [if_neg (fun e => absurd (of_decide_eq_true e).2 (by omega))]; exact iq) | (exfalso; omega)) (by omega))
                    · refine q_iload C dX12_clear_89 rfl ?_
                      refine q_goto C (tgt := 96) dX12_clear_91 (by decide) ?_
                      refine q_istore C dX12_clear_96 hn (by decide) rfl ?_
                      refine q_iinc C dX12_clear_98 rfl hn (by decide) rfl ?_
                      refine q_goto C (tgt := 41) dX12_clear_101 (by decide) ?_
                      exact q_ls (by exact ⟨rfl, rfl, rfl, rfl, rfl, rfl, trivial⟩) (ih41 _ _ _ (by omega) (by omega) (by have e := fs (by omega); rw [show i + -1 + 1 = i by omega]; first | (exfalso; omega) | (rw [q_bT ⟨h52, by omega⟩] at e; omega) | (rw [q_bF (fun z => h52 z.1)] at e; omega) | (rw [q_bF (fun z => absurd z.2 (by omega))] at e; omega) | (exfalso; omega)) (by omega) (by rw [show i + -1 + 1 = i by omega, sFr_s _ (by omega)]; first | (exfalso; omega) | (rw [if_pos (decide_eq_true ⟨h52, by omega⟩)]; done) | (rw [if_neg (fun e => h52 (of_decide_eq_true e).1)]; exact iq) | (rw [if_neg (fun e => absurd (of_decide_eq_true e).2 (by omega))]; exact iq) | (exfalso; omega)) (by omega))
                  · refine q_iconst C dX12_clear_77 ?_
                    refine q_goto C (tgt := 82) dX12_clear_78 (by decide) ?_
                    refine q_iadd C dX12_clear_82 ?_
                    refine q_istoren C dX12_clear_83 hn (by decide) rfl ?_
                    refine q_iload C dX12_clear_84 rfl ?_
                    refine q_if_eq C 94 dX12_clear_86 (by decide) (by first | assumption | omega | exact q_tin _ | exact q_bIn _) (fun h86 => ?_) (fun h86 => ?_)
                    · refine q_iload C dX12_clear_94 rfl ?_
                      refine q_istore C dX12_clear_96 hn (by decide) rfl ?_
                      refine q_iinc C dX12_clear_98 rfl hn (by decide) rfl ?_
                      refine q_goto C (tgt := 41) dX12_clear_101 (by decide) ?_
                      exact q_ls (by exact ⟨rfl, rfl, rfl, rfl, rfl, rfl, trivial⟩) (ih41 _ _ _ (by omega) (by omega) (by have e := fs (by omega); rw [show i + -1 + 1 = i by omega]; first | (exfalso; omega) | (rw [q_bT ⟨h52, by omega⟩] at e; omega) | (rw [q_bF (fun z => h52 z.1)] at e; omega) | (rw [q_bF (fun z => absurd z.2 (by omega))] at e; omega) | (exfalso; omega)) (by omega) (by rw [show i + -1 + 1 = i by omega, sFr_s _ (by omega)]; first | (exfalso; omega) | (rw [if_pos (decide_eq_true ⟨h52, by omega⟩)]; done) | (rw [if_neg (fun e => h52 (of_decide_eq_true e).1)]; exact iq) | (rw [if_neg (fun e => absurd (of_decide_eq_true e).2 (by omega))]; exact iq) | (exfalso; omega)) (by omega))
                    · refine q_iload C dX12_clear_89 rfl ?_
                      refine q_goto C (tgt := 96) dX12_clear_91 (by decide) ?_
                      refine q_istore C dX12_clear_96 hn (by decide) rfl ?_
                      refine q_iinc C dX12_clear_98 rfl hn (by decide) rfl ?_
                      refine q_goto C (tgt := 41) dX12_clear_101 (by decide) ?_
                      exact q_ls (by exact ⟨rfl, rfl, rfl, rfl, rfl, rfl, trivial⟩) (ih41 _ _ _ (by omega) (by omega) (by have e := fs (by omega); rw [show i + -1 + 1 = i by omega]; first | (exfalso; omega) | (rw [q_bT ⟨h52, by omega⟩] at e; omega) | (rw [q_bF (fun z => h52 z.1)] at e; omega) | (rw [q_bF (fun z => absurd z.2 (by omega))] at e; omega) | (exfalso; omega)) (by omega) (by rw [show i + -1 + 1 = i by omega, sFr_s _ (by omega)]; first | (exfalso; omega) | (rw [if_pos (decide_eq_true ⟨h52, by omega⟩)]; done) | (rw [if_neg (fun e => h52 (of_decide_eq_true e).1)]; exact iq) | (rw [if_neg (fun e => absurd (of_decide_eq_true e).2 (by omega))]; exact iq) | (exfalso; omega)) (by omega))
                · refine q_iconst C dX12_clear_64 ?_
                  refine q_goto C (tgt := 69) dX12_clear_65 (by decide) ?_
                  refine q_istore C dX12_clear_69 hn (by decide) rfl ?_
                  refine q_iloadn C dX12_clear_71 rfl ?_
                  refine q_iload C dX12_clear_72 rfl ?_
                  refine q_if_eq C 81 dX12_clear_74 (by decide) (by first | assumption | omega | exact q_tin _ | exact q_bIn _) (fun h74 => ?_) (fun h74 => ?_)
                  · refine q_iconst C dX12_clear_81 ?_
                    refine q_iadd C dX12_clear_82 ?_
                    refine q_istoren C dX12_clear_83 hn (by decide) rfl ?_
                    refine q_iload C dX12_clear_84 rfl ?_
                    refine q_if_eq C 94 dX12_clear_86 (by decide) (by first | assumption | omega | exact q_tin _ | exact q_bIn _) (fun h86 => ?_) (fun h86 => ?_)
                    · refine q_iload C dX12_clear_94 rfl ?_
                      refine q_istore C dX12_clear_96 hn (by decide) rfl ?_
                      refine q_iinc C dX12_clear_98 rfl hn (by decide) rfl ?_
                      refine q_goto C (tgt := 41) dX12_clear_101 (by decide) ?_
                      exact q_ls (by exact ⟨rfl, rfl, rfl, rfl, rfl, rfl, trivial⟩) (ih41 _ _ _ (by omega) (by omega) (by have e := fs (by omega); rw [show i + -1 + 1 = i by omega]; first | (exfalso; omega) | (rw [q_bT ⟨h52, by omega⟩] at e; omega) | (rw [q_bF (fun z => h52 z.1)] at e; omega) | (rw [q_bF (fun z => absurd z.2 (by omega))] at e; omega) | (exfalso; omega)) (by omega) (by rw [show i + -1 + 1 = i by omega, sFr_s _ (by omega)]; first | (exfalso; omega) | (rw [if_pos (decide_eq_true ⟨h52, by omega⟩)]; done) | (rw [if_neg (fun e => h52 (of_decide_eq_true e).1)]; exact iq) | (rw [if_neg (fun e => absurd (of_decide_eq_true e).2 (by omega))]; exact iq) | (exfalso; omega)) (by omega))
                    · refine q_iload C dX12_clear_89 rfl ?_
                      refine q_goto C (tgt := 96) dX12_clear_91 (by decide) ?_
                      refine q_istore C dX12_clear_96 hn (by decide) rfl ?_
                      refine q_iinc C dX12_clear_98 rfl hn (by decide) rfl ?_
                      refine q_goto C (tgt := 41) dX12_clear_101 (by decide) ?_
                      exact q_ls (by exact ⟨rfl, rfl, rfl, rfl, rfl, rfl, trivial⟩) (ih41 _ _ _ (by omega) (by omega) (by have e := fs (by omega); rw [show i + -1 + 1 = i by omega]; first | (exfalso; omega) | (rw [q_bT ⟨h52, by omega⟩] at e; omega) | (rw [q_bF (fun z => h52 z.1)] at e; omega) | (rw [q_bF (fun z => absurd z.2 (by omega))] at e; omega) | (exfalso; omega)) (by omega) (by rw [show i + -1 + 1 = i by omega, sFr_s _ (by omega)]; first | (exfalso; omega) | (rw [if_pos (decide_eq_true ⟨h52, by omega⟩)]; done) | (rw [if_neg (fun e => h52 (of_decide_eq_true e).1)]; exact iq) | (rw [if_neg (fun e => absurd (of_decide_eq_true e).2 (by omega))]; exact iq) | (exfalso; omega)) (by omega))
                  · refine q_iconst C dX12_clear_77 ?_
                    refine q_goto C (tgt := 82) dX12_clear_78 (by decide) ?_
                    refine q_iadd C dX12_clear_82 ?_
                    refine q_istoren C dX12_clear_83 hn (by decide) rfl ?_
                    refine q_iload C dX12_clear_84 rfl ?_
                    refine q_if_eq C 94 dX12_clear_86 (by decide) (by first | assumption | omega | exact q_tin _ | exact q_bIn _) (fun h86 => ?_) (fun h86 => ?_)
                    · refine q_iload C dX12_clear_94 rfl ?_
                      refine q_istore C dX12_clear_96 hn (by decide) rfl ?_
                      refine q_iinc C dX12_clear_98 rfl hn (by decide) rfl ?_
                      refine q_goto C (tgt := 41) dX12_clear_101 (by decide) ?_
                      exact q_ls (by exact ⟨rfl, rfl, rfl, rfl, rfl, rfl, trivial⟩) (ih41 _ _ _ (by omega) (by omega) (by have e := fs (by omega); rw [show i + -1 + 1 = i by omega]; first | (exfalso; omega) | (rw [q_bT ⟨h52, by omega⟩] at e; omega) | (rw [q_bF (fun z => h52 z.1)] at e; omega) | (rw [q_bF (fun z => absurd z.2 (by omega))] at e; omega) | (exfalso; omega)) (by omega) (by rw [show i + -1 + 1 = i by omega, sFr_s _ (by omega)]; first | (exfalso; omega) | (rw [if_pos (decide_eq_true ⟨h52, by omega⟩)]; done) | (rw [if_neg (fun e => h52 (of_decide_eq_true e).1)]; exact iq) | (rw [if_neg (fun e => absurd (of_decide_eq_true e).2 (by omega))]; exact iq) | (exfalso; omega)) (by omega))
                    · refine q_iload C dX12_clear_89 rfl ?_
                      refine q_goto C (tgt := 96) dX12_clear_91 (by decide) ?_
                      refine q_istore C dX12_clear_96 hn (by decide) rfl ?_
                      refine q_iinc C dX12_clear_98 rfl hn (by decide) rfl ?_
                      refine q_goto C (tgt := 41) dX12_clear_101 (by decide) ?_
                      exact q_ls (by exact ⟨rfl, rfl, rfl, rfl, rfl, rfl, trivial⟩) (ih41 _ _ _ (by omega) (by omega) (by have e := fs (by omega); rw [show i + -1 + 1 = i by omega]; first | (exfalso; omega) | (rw [q_bT ⟨h52, by omega⟩] at e; omega) | (rw [q_bF (fun z => h52 z.1)] at e; omega) | (rw [q_bF (fun z => absurd z.2 (by omega))] at e; omega) | (exfalso; omega)) (by omega) (by rw [show i + -1 + 1 = i by omega, sFr_s _ (by omega)]; first | (exfalso; omega) | (rw [if_pos (decide_eq_true ⟨h52, by omega⟩)]; done) | (rw [if_neg (fun e => h52 (of_decide_eq_true e).1)]; exact iq) | (rw [if_neg (fun e => absurd (of_decide_eq_true e).2 (by omega))]; exact iq) | (exfalso; omega)) (by omega))
        exact q_ls (by exact ⟨rfl, rfl, rfl, rfl, rfl, rfl, trivial⟩) (L41 1000 _ _ _ (by omega) (by omega) (by rw [show (47 : Int) + 1 = 48 by omega]; omega) (by omega) (by rw [show (47 : Int) + 1 = 48 by omega, sFr_e]) (by omega))
      · refine q_ldc C (z := -1000000003) q_ci_RX12_224 (by decide) dX12_clear_29 ?_
        refine q_iret C' dX12_clear_31 (by first | assumption | omega | exact q_tin _ | exact q_bIn _) ?_
        refine ⟨congrArg some ?_, rfl⟩
        unfold sClear
        rw [if_pos (by omega), if_pos (by omega)]
    · refine q_ldc C (z := -1000000002) q_ci_RX12_89 (by decide) dX12_clear_19 ?_
      refine q_iret C' dX12_clear_21 (by first | assumption | omega | exact q_tin _ | exact q_bIn _) ?_
      refine ⟨congrArg some ?_, rfl⟩
      unfold sClear
      rw [if_neg (by omega)]
theorem dX12_letInBy_0 : decode cX12_letInBy 0 = .ok (.iconst 0, 1) := by decide +kernel
theorem dX12_letInBy_1 : decode cX12_letInBy 1 = .ok (.istore_n 3, 1) := by decide +kernel
theorem dX12_letInBy_2 : decode cX12_letInBy 2 = .ok (.iconst 0, 1) := by decide +kernel
theorem dX12_letInBy_3 : decode cX12_letInBy 3 = .ok (.istore 4, 2) := by decide +kernel
theorem dX12_letInBy_5 : decode cX12_letInBy 5 = .ok (.iload 4, 2) := by decide +kernel
theorem dX12_letInBy_7 : decode cX12_letInBy 7 = .ok (.aload_n 0, 1) := by decide +kernel
theorem dX12_letInBy_8 : decode cX12_letInBy 8 = .ok (.getfield 150, 3) := by decide +kernel
theorem dX12_letInBy_11 : decode cX12_letInBy 11 = .ok (.if_icmp .ge 31, 3) := by decide +kernel
theorem dX12_letInBy_14 : decode cX12_letInBy 14 = .ok (.iload_n 3, 1) := by decide +kernel
theorem dX12_letInBy_15 : decode cX12_letInBy 15 = .ok (.aload_n 0, 1) := by decide +kernel
theorem dX12_letInBy_16 : decode cX12_letInBy 16 = .ok (.iload_n 1, 1) := by decide +kernel
theorem dX12_letInBy_17 : decode cX12_letInBy 17 = .ok (.iload 4, 2) := by decide +kernel
theorem dX12_letInBy_19 : decode cX12_letInBy 19 = .ok (.iload_n 2, 1) := by decide +kernel
theorem dX12_letInBy_20 : decode cX12_letInBy 20 = .ok (.invokevirtual 228, 3) := by decide +kernel
theorem dX12_letInBy_23 : decode cX12_letInBy 23 = .ok (.ifCond .le 10, 3) := by decide +kernel
theorem dX12_letInBy_26 : decode cX12_letInBy 26 = .ok (.iconst 1, 1) := by decide +kernel
theorem dX12_letInBy_27 : decode cX12_letInBy 27 = .ok (.iload 4, 2) := by decide +kernel
theorem dX12_letInBy_29 : decode cX12_letInBy 29 = .ok (.ishl, 1) := by decide +kernel
theorem dX12_letInBy_30 : decode cX12_letInBy 30 = .ok (.goto 4, 3) := by decide +kernel
theorem dX12_letInBy_33 : decode cX12_letInBy 33 = .ok (.iconst 0, 1) := by decide +kernel
theorem dX12_letInBy_34 : decode cX12_letInBy 34 = .ok (.ior, 1) := by decide +kernel
theorem dX12_letInBy_35 : decode cX12_letInBy 35 = .ok (.istore_n 3, 1) := by decide +kernel
theorem dX12_letInBy_36 : decode cX12_letInBy 36 = .ok (.iinc 4 1, 3) := by decide +kernel
theorem dX12_letInBy_39 : decode cX12_letInBy 39 = .ok (.goto (-34), 3) := by decide +kernel
theorem dX12_letInBy_42 : decode cX12_letInBy 42 = .ok (.iload_n 3, 1) := by decide +kernel
theorem dX12_letInBy_43 : decode cX12_letInBy 43 = .ok (.ireturn, 1) := by decide +kernel
set_option maxRecDepth 4000 in
set_option maxHeartbeats 4000000 in
theorem m_X12_letInBy (l : Launch) (g : qGm) (M : qMem) {sd : sSD} (hs : sRS sd) (hS : mS M sd) (hv : sRR (sd 4 0) (sd 5 0) (M 61 0)) {c : Int} (hc : 0 ≤ c ∧ c < sd 4 0) {a : Int} (ha : 0 ≤ a ∧ a < 48) : qOk l g 6 yX12_letInBy cX12_letInBy 5 (some .int) [qR g 35 0, qI c, qI a] M (qEv (some (sOpen sd (M 61 0) c a)) M) := by
  refine q_ok (by decide +kernel) (Nat.le_of_ble_eq_true rfl) (fun X C' hn => ?_)
  have C := C'.1
  have km := hs.2.1
  have kn := hs.2.2.1
  have hmn := hs.1
  have w0 := hS.1
  have w1 := hS.2.1
  have w2 := hS.2.2.1
  refine q_iconst C dX12_letInBy_0 ?_
  refine q_istoren C dX12_letInBy_1 hn (by decide) rfl ?_
  refine q_iconst C dX12_letInBy_2 ?_
  refine q_istore C dX12_letInBy_3 hn (by decide) rfl ?_
  have L5 : ∀ (n5 : Nat) (s : Int) (i : Int), sd 5 0 - i < (n5 : Int) → (0 ≤ i) → (i ≤ sd 5 0) → (s = sOr (fun h => if sAns sd (M 61 0) c h a ≠ 0 then qShl 1 h else 0) i) → qV l g X M 5 [(0, qR g 35 0), (1, qI c), (2, qI a), (3, qI s), (4, qI i)] [] := by
    intro n5
    induction n5 with
    | zero => intro s i hm5 i0 i1 ie; exfalso; first | omega | (simp at *; omega)
    | succ n5 ih5 =>
      intro s i hm5 i0 i1 ie
      have an := sAns_in sd (M 61 0) c i a
      refine q_iload C dX12_letInBy_5 rfl ?_
      refine q_aloadn C dX12_letInBy_7 rfl ?_
      refine gf_RX12_150 C dX12_letInBy_8 (fun r8 => ?_)
      refine q_icmp_ge C 42 dX12_letInBy_11 (by decide) (by first | assumption | omega | exact q_tin _ | exact q_bIn _) (by first | assumption | omega | exact q_tin _ | exact q_bIn _) (fun h11 => ?_) (fun h11 => ?_)
      · refine q_iloadn C dX12_letInBy_42 rfl ?_
        refine q_iret C' dX12_letInBy_43 (by rw [ie]; exact sOr_in _ _) ?_
        refine ⟨congrArg some ?_, rfl⟩
        have e9 : i = sd 5 0 := (by omega)
        rw [ie, e9]
        rfl
      · refine q_iloadn C dX12_letInBy_14 rfl ?_
        refine q_aloadn C dX12_letInBy_15 rfl ?_
        refine q_iloadn C dX12_letInBy_16 rfl ?_
        refine q_iload C dX12_letInBy_17 rfl ?_
        refine q_iloadn C dX12_letInBy_19 rfl ?_
        refine cv_RX12_228 C (by decide) (m_X12_answer l g _ hs hS hv (by omega) (by omega) (by omega)) dX12_letInBy_20 (Nat.le_of_ble_eq_true rfl) (fun r20 => ?_)
        refine q_if_le C 33 dX12_letInBy_23 (by decide) (by first | assumption | omega | exact q_tin _ | exact q_bIn _) (fun h23 => ?_) (fun h23 => ?_)
        · refine q_iconst C dX12_letInBy_33 ?_
          refine q_ior C dX12_letInBy_34 ?_
          refine q_istoren C dX12_letInBy_35 hn (by decide) rfl ?_
          refine q_iinc C dX12_letInBy_36 rfl hn (by decide) rfl ?_
          refine q_goto C (tgt := 5) dX12_letInBy_39 (by decide) ?_
          exact q_ls (by exact ⟨rfl, rfl, rfl, rfl, rfl, trivial⟩) (ih5 _ _ (by omega) (by omega) (by omega) (by rw [sOr_s _ i0, ← ie]; first | (rw [if_pos (by omega)]; done) | (rw [if_neg (by omega)]; done)))
        · refine q_iconst C dX12_letInBy_26 ?_
          refine q_iload C dX12_letInBy_27 rfl ?_
          refine q_ishl C dX12_letInBy_29 ?_
          refine q_goto C (tgt := 34) dX12_letInBy_30 (by decide) ?_
          refine q_ior C dX12_letInBy_34 ?_
          refine q_istoren C dX12_letInBy_35 hn (by decide) rfl ?_
          refine q_iinc C dX12_letInBy_36 rfl hn (by decide) rfl ?_
          refine q_goto C (tgt := 5) dX12_letInBy_39 (by decide) ?_
          exact q_ls (by exact ⟨rfl, rfl, rfl, rfl, rfl, trivial⟩) (ih5 _ _ (by omega) (by omega) (by omega) (by rw [sOr_s _ i0, ← ie]; first | (rw [if_pos (by omega)]; done) | (rw [if_neg (by omega)]; done)))
  exact q_ls (by exact ⟨rfl, rfl, rfl, rfl, rfl, trivial⟩) (L5 1000 _ _ (by omega) (by omega) (by omega) (by rfl))
theorem dX12_letIn_0 : decode cX12_letIn 0 = .ok (.aload_n 0, 1) := by decide +kernel
theorem dX12_letIn_1 : decode cX12_letIn 1 = .ok (.iload_n 1, 1) := by decide +kernel
theorem dX12_letIn_2 : decode cX12_letIn 2 = .ok (.invokevirtual 162, 3) := by decide +kernel
theorem dX12_letIn_5 : decode cX12_letIn 5 = .ok (.ifCond .ne 8, 3) := by decide +kernel
theorem dX12_letIn_8 : decode cX12_letIn 8 = .ok (.ldc 214, 2) := by decide +kernel
theorem dX12_letIn_10 : decode cX12_letIn 10 = .ok (.goto 21, 3) := by decide +kernel
theorem dX12_letIn_13 : decode cX12_letIn 13 = .ok (.iload_n 2, 1) := by decide +kernel
theorem dX12_letIn_14 : decode cX12_letIn 14 = .ok (.invokestatic 221, 3) := by decide +kernel
theorem dX12_letIn_17 : decode cX12_letIn 17 = .ok (.ifCond .ne 8, 3) := by decide +kernel
theorem dX12_letIn_20 : decode cX12_letIn 20 = .ok (.ldc 89, 2) := by decide +kernel
theorem dX12_letIn_22 : decode cX12_letIn 22 = .ok (.goto 9, 3) := by decide +kernel
theorem dX12_letIn_25 : decode cX12_letIn 25 = .ok (.aload_n 0, 1) := by decide +kernel
theorem dX12_letIn_26 : decode cX12_letIn 26 = .ok (.iload_n 1, 1) := by decide +kernel
theorem dX12_letIn_27 : decode cX12_letIn 27 = .ok (.iload_n 2, 1) := by decide +kernel
theorem dX12_letIn_28 : decode cX12_letIn 28 = .ok (.invokevirtual 278, 3) := by decide +kernel
theorem dX12_letIn_31 : decode cX12_letIn 31 = .ok (.ireturn, 1) := by decide +kernel
set_option maxRecDepth 4000 in
set_option maxHeartbeats 4000000 in
theorem m_X12_letIn (l : Launch) (g : qGm) (M : qMem) {sd : sSD} (hs : sRS sd) (hS : mS M sd) (hv : sRR (sd 4 0) (sd 5 0) (M 61 0)) {c : Int} (hcq : qIn c) {a : Int} (haq : qIn a) : qOk l g 7 yX12_letIn cX12_letIn 3 (some .int) [qR g 35 0, qI c, qI a] M (qEv (some (sLetIn sd (M 61 0) c a)) M) := by
  refine q_ok (by decide +kernel) (Nat.le_of_ble_eq_true rfl) (fun X C' hn => ?_)
  have C := C'.1
  have km := hs.2.1
  have kn := hs.2.2.1
  have hmn := hs.1
  have w0 := hS.1
  have w1 := hS.2.1
  have w2 := hS.2.2.1
  refine q_aloadn C dX12_letIn_0 rfl ?_
  refine q_iloadn C dX12_letIn_1 rfl ?_
  refine cv_RX12_162 C (by decide) (m_X12_isComer l g _ hs hS hcq) dX12_letIn_2 (Nat.le_of_ble_eq_true rfl) (fun r2 => ?_)
  refine q_ifneB C 13 dX12_letIn_5 (by decide) (fun h5 => ?_) (fun h5 => ?_)
  · refine q_iloadn C dX12_letIn_13 rfl ?_
    refine cv_RX12_221 C (by decide) (m_X12_isSign l g _ haq) dX12_letIn_14 (Nat.le_of_ble_eq_true rfl) (fun r14 => ?_)
    refine q_ifneB C 25 dX12_letIn_17 (by decide) (fun h17 => ?_) (fun h17 => ?_)
    · refine q_aloadn C dX12_letIn_25 rfl ?_
      refine q_iloadn C dX12_letIn_26 rfl ?_
      refine q_iloadn C dX12_letIn_27 rfl ?_
      refine cv_RX12_278 C (by decide) (m_X12_letInBy l g _ hs hS hv (by omega) (by omega)) dX12_letIn_28 (Nat.le_of_ble_eq_true rfl) (fun r28 => ?_)
      refine q_iret C' dX12_letIn_31 (by first | assumption | omega | exact q_tin _ | exact q_bIn _) ?_
      refine ⟨congrArg some ?_, rfl⟩
      unfold sLetIn
      first | (rw [if_neg (by omega)]; done) | (rw [if_pos (by omega), if_neg (by omega)]; done) | (rw [if_pos (by omega), if_pos (by omega)]; done) | (rw [if_pos (by omega), if_pos (by omega), if_pos (by omega)]; done) | (rw [if_pos (by omega), if_pos (by omega), if_neg (by omega)]; done) | (rw [if_pos (by omega), if_neg (by omega), if_pos (by omega)]; done) | (rw [if_pos (by omega), if_neg (by omega), if_neg (by omega)]; done) | (rw [if_pos (by omega)]; done)
    · refine q_ldc C (z := -1000000002) q_ci_RX12_89 (by decide) dX12_letIn_20 ?_
      refine q_goto C (tgt := 31) dX12_letIn_22 (by decide) ?_
      refine q_iret C' dX12_letIn_31 (by first | assumption | omega | exact q_tin _ | exact q_bIn _) ?_
      refine ⟨congrArg some ?_, rfl⟩
      unfold sLetIn
      first | (rw [if_neg (by omega)]; done) | (rw [if_pos (by omega), if_neg (by omega)]; done) | (rw [if_pos (by omega), if_pos (by omega)]; done) | (rw [if_pos (by omega), if_pos (by omega), if_pos (by omega)]; done) | (rw [if_pos (by omega), if_pos (by omega), if_neg (by omega)]; done) | (rw [if_pos (by omega), if_neg (by omega), if_pos (by omega)]; done) | (rw [if_pos (by omega), if_neg (by omega), if_neg (by omega)]; done) | (rw [if_pos (by omega)]; done)
  · refine q_ldc C (z := -1000000001) q_ci_RX12_214 (by decide) dX12_letIn_8 ?_
    refine q_goto C (tgt := 31) dX12_letIn_10 (by decide) ?_
    refine q_iret C' dX12_letIn_31 (by first | assumption | omega | exact q_tin _ | exact q_bIn _) ?_
    refine ⟨congrArg some ?_, rfl⟩
    unfold sLetIn
    first | (rw [if_neg (by omega)]; done) | (rw [if_pos (by omega), if_neg (by omega)]; done) | (rw [if_pos (by omega), if_pos (by omega)]; done) | (rw [if_pos (by omega), if_pos (by omega), if_pos (by omega)]; done) | (rw [if_pos (by omega), if_pos (by omega), if_neg (by omega)]; done) | (rw [if_pos (by omega), if_neg (by omega), if_pos (by omega)]; done) | (rw [if_pos (by omega), if_neg (by omega), if_neg (by omega)]; done) | (rw [if_pos (by omega)]; done)
theorem dX12_round_0 : decode cX12_round 0 = .ok (.aload_n 0, 1) := by decide +kernel
theorem dX12_round_1 : decode cX12_round 1 = .ok (.iload_n 1, 1) := by decide +kernel
theorem dX12_round_2 : decode cX12_round 2 = .ok (.invokevirtual 162, 3) := by decide +kernel
theorem dX12_round_5 : decode cX12_round 5 = .ok (.ifCond .ne 6, 3) := by decide +kernel
theorem dX12_round_8 : decode cX12_round 8 = .ok (.ldc 214, 2) := by decide +kernel
theorem dX12_round_10 : decode cX12_round 10 = .ok (.ireturn, 1) := by decide +kernel
theorem dX12_round_11 : decode cX12_round 11 = .ok (.iload_n 2, 1) := by decide +kernel
theorem dX12_round_12 : decode cX12_round 12 = .ok (.iconst 0, 1) := by decide +kernel
theorem dX12_round_13 : decode cX12_round 13 = .ok (.iconst 1, 1) := by decide +kernel
theorem dX12_round_14 : decode cX12_round 14 = .ok (.invokestatic 85, 3) := by decide +kernel
theorem dX12_round_17 : decode cX12_round 17 = .ok (.ifCond .ne 6, 3) := by decide +kernel
theorem dX12_round_20 : decode cX12_round 20 = .ok (.ldc 89, 2) := by decide +kernel
theorem dX12_round_22 : decode cX12_round 22 = .ok (.ireturn, 1) := by decide +kernel
theorem dX12_round_23 : decode cX12_round 23 = .ok (.iconst (-1), 1) := by decide +kernel
theorem dX12_round_24 : decode cX12_round 24 = .ok (.istore_n 3, 1) := by decide +kernel
theorem dX12_round_25 : decode cX12_round 25 = .ok (.iconst (-1), 1) := by decide +kernel
theorem dX12_round_26 : decode cX12_round 26 = .ok (.istore 4, 2) := by decide +kernel
theorem dX12_round_28 : decode cX12_round 28 = .ok (.iconst 0, 1) := by decide +kernel
theorem dX12_round_29 : decode cX12_round 29 = .ok (.istore 5, 2) := by decide +kernel
theorem dX12_round_31 : decode cX12_round 31 = .ok (.iload 5, 2) := by decide +kernel
theorem dX12_round_33 : decode cX12_round 33 = .ok (.bipush 48, 2) := by decide +kernel
theorem dX12_round_35 : decode cX12_round 35 = .ok (.if_icmp .ge 51, 3) := by decide +kernel
theorem dX12_round_38 : decode cX12_round 38 = .ok (.aload_n 0, 1) := by decide +kernel
theorem dX12_round_39 : decode cX12_round 39 = .ok (.iload_n 1, 1) := by decide +kernel
theorem dX12_round_40 : decode cX12_round 40 = .ok (.iload 5, 2) := by decide +kernel
theorem dX12_round_42 : decode cX12_round 42 = .ok (.invokevirtual 278, 3) := by decide +kernel
theorem dX12_round_45 : decode cX12_round 45 = .ok (.invokestatic 266, 3) := by decide +kernel
theorem dX12_round_48 : decode cX12_round 48 = .ok (.istore 6, 2) := by decide +kernel
theorem dX12_round_50 : decode cX12_round 50 = .ok (.iload 6, 2) := by decide +kernel
theorem dX12_round_52 : decode cX12_round 52 = .ok (.iload 4, 2) := by decide +kernel
theorem dX12_round_54 : decode cX12_round 54 = .ok (.if_icmp .le 8, 3) := by decide +kernel
theorem dX12_round_57 : decode cX12_round 57 = .ok (.iload 5, 2) := by decide +kernel
theorem dX12_round_59 : decode cX12_round 59 = .ok (.goto 4, 3) := by decide +kernel
theorem dX12_round_62 : decode cX12_round 62 = .ok (.iload_n 3, 1) := by decide +kernel
theorem dX12_round_63 : decode cX12_round 63 = .ok (.istore_n 3, 1) := by decide +kernel
theorem dX12_round_64 : decode cX12_round 64 = .ok (.iload 6, 2) := by decide +kernel
theorem dX12_round_66 : decode cX12_round 66 = .ok (.iload 4, 2) := by decide +kernel
theorem dX12_round_68 : decode cX12_round 68 = .ok (.if_icmp .le 8, 3) := by decide +kernel
theorem dX12_round_71 : decode cX12_round 71 = .ok (.iload 6, 2) := by decide +kernel
theorem dX12_round_73 : decode cX12_round 73 = .ok (.goto 5, 3) := by decide +kernel
theorem dX12_round_76 : decode cX12_round 76 = .ok (.iload 4, 2) := by decide +kernel
theorem dX12_round_78 : decode cX12_round 78 = .ok (.istore 4, 2) := by decide +kernel
theorem dX12_round_80 : decode cX12_round 80 = .ok (.iinc 5 1, 3) := by decide +kernel
theorem dX12_round_83 : decode cX12_round 83 = .ok (.goto (-52), 3) := by decide +kernel
theorem dX12_round_86 : decode cX12_round 86 = .ok (.iload_n 2, 1) := by decide +kernel
theorem dX12_round_87 : decode cX12_round 87 = .ok (.ifCond .ne 8, 3) := by decide +kernel
theorem dX12_round_90 : decode cX12_round 90 = .ok (.iload 4, 2) := by decide +kernel
theorem dX12_round_92 : decode cX12_round 92 = .ok (.goto 4, 3) := by decide +kernel
theorem dX12_round_95 : decode cX12_round 95 = .ok (.iload_n 3, 1) := by decide +kernel
theorem dX12_round_96 : decode cX12_round 96 = .ok (.ireturn, 1) := by decide +kernel
set_option maxRecDepth 4000 in
set_option maxHeartbeats 4000000 in
theorem m_X12_round (l : Launch) (g : qGm) (M : qMem) {sd : sSD} (hs : sRS sd) (hS : mS M sd) (hv : sRR (sd 4 0) (sd 5 0) (M 61 0)) {c : Int} (hcq : qIn c) {w : Int} (hwq : qIn w) : qOk l g 7 yX12_round cX12_round 7 (some .int) [qR g 35 0, qI c, qI w] M (qEv (some (sRound sd (M 61 0) c w)) M) := by
  refine q_ok (by decide +kernel) (Nat.le_of_ble_eq_true rfl) (fun X C' hn => ?_)
  have C := C'.1
  have km := hs.2.1
  have kn := hs.2.2.1
  have hmn := hs.1
  have w0 := hS.1
  have w1 := hS.2.1
  have w2 := hS.2.2.1
  refine q_aloadn C dX12_round_0 rfl ?_
  refine q_iloadn C dX12_round_1 rfl ?_
  refine cv_RX12_162 C (by decide) (m_X12_isComer l g _ hs hS hcq) dX12_round_2 (Nat.le_of_ble_eq_true rfl) (fun r2 => ?_)
  refine q_ifneB C 11 dX12_round_5 (by decide) (fun h5 => ?_) (fun h5 => ?_)
  · refine q_iloadn C dX12_round_11 rfl ?_
    refine q_iconst C dX12_round_12 ?_
    refine q_iconst C dX12_round_13 ?_
    refine cv_RX12_85 C (by decide) (m_X12_in l g _ (by omega) (by omega) (by omega)) dX12_round_14 (Nat.le_of_ble_eq_true rfl) (fun r14 => ?_)
    refine q_ifneB C 23 dX12_round_17 (by decide) (fun h17 => ?_) (fun h17 => ?_)
    · refine q_iconst C dX12_round_23 ?_
      refine q_istoren C dX12_round_24 hn (by decide) rfl ?_
      refine q_iconst C dX12_round_25 ?_
      refine q_istore C dX12_round_26 hn (by decide) rfl ?_
      refine q_iconst C dX12_round_28 ?_
      refine q_istore C dX12_round_29 hn (by decide) rfl ?_
      have L31 : ∀ (n31 : Nat) (b : Int) (x : Int) (i : Int), 48 - i < (n31 : Int) → (0 ≤ i) → (i ≤ 48) → (sAm (fun k => sPop (sOpen sd (M 61 0) c k)) (-1) (-1) i = (b, x)) → (-1 ≤ b ∧ b ≤ 47 ∧ -1 ≤ x ∧ x ≤ 6) → qV l g X M 31 [(0, qR g 35 0), (1, qI c), (2, qI w), (3, qI b), (4, qI x), (5, qI i)] [] := by
        intro n31
        induction n31 with
        | zero => intro b x i hm31 i0 i1 ie ib; exfalso; first | omega | (simp at *; omega)
        | succ n31 ih31 =>
          intro b x i hm31 i0 i1 ie ib
          have pb := q_popIn (sOpen_in hs (M 61 0) c i).1 (sOpen_in hs (M 61 0) c i).2
          refine q_iload C dX12_round_31 rfl ?_
          refine q_bipush C dX12_round_33 (by decide) ?_
          refine q_icmp_ge C 86 dX12_round_35 (by decide) (by first | assumption | omega | exact q_tin _ | exact q_bIn _) (by first | assumption | omega | exact q_tin _ | exact q_bIn _) (fun h35 => ?_) (fun h35 => ?_)
          · refine q_iloadn C dX12_round_86 rfl ?_
            refine q_if_ne C 95 dX12_round_87 (by decide) (by first | assumption | omega | exact q_tin _ | exact q_bIn _) (fun h87 => ?_) (fun h87 => ?_)
            · refine q_iloadn C dX12_round_95 rfl ?_
              refine q_iret C' dX12_round_96 (by first | assumption | omega | exact q_tin _ | exact q_bIn _) ?_
              have e9 : i = 48 := (by omega)
              rw [e9] at ie
              refine ⟨congrArg some ?_, rfl⟩
              unfold sRound
              rw [ie]
              first | (rw [if_neg (by omega)]; done) | (rw [if_pos (by omega), if_neg (by omega)]; done) | (rw [if_pos (by omega), if_pos (by omega)]; done) | (rw [if_pos (by omega), if_pos (by omega), if_pos (by omega)]; done) | (rw [if_pos (by omega), if_pos (by omega), if_neg (by omega)]; done) | (rw [if_pos (by omega), if_neg (by omega), if_pos (by omega)]; done) | (rw [if_pos (by omega), if_neg (by omega), if_neg (by omega)]; done) | (rw [if_pos (by omega)]; done)
            · refine q_iload C dX12_round_90 rfl ?_
              refine q_goto C (tgt := 96) dX12_round_92 (by decide) ?_
              refine q_iret C' dX12_round_96 (by first | assumption | omega | exact q_tin _ | exact q_bIn _) ?_
              have e9 : i = 48 := (by omega)
              rw [e9] at ie
              refine ⟨congrArg some ?_, rfl⟩
              unfold sRound
              rw [ie]
              first | (rw [if_neg (by omega)]; done) | (rw [if_pos (by omega), if_neg (by omega)]; done) | (rw [if_pos (by omega), if_pos (by omega)]; done) | (rw [if_pos (by omega), if_pos (by omega), if_pos (by omega)]; done) | (rw [if_pos (by omega), if_pos (by omega), if_neg (by omega)]; done) | (rw [if_pos (by omega), if_neg (by omega), if_pos (by omega)]; done) | (rw [if_pos (by omega), if_neg (by omega), if_neg (by omega)]; done) | (rw [if_pos (by omega)]; done)
          · refine q_aloadn C dX12_round_38 rfl ?_
            refine q_iloadn C dX12_round_39 rfl ?_
            refine q_iload C dX12_round_40 rfl ?_
            refine cv_RX12_278 C (by decide) (m_X12_letInBy l g _ hs hS hv (by omega) (by omega)) dX12_round_42 (Nat.le_of_ble_eq_true rfl) (fun r42 => ?_)
            refine cv_RX12_266 C (by decide) (m_X12_bits l g _ (sOpen_in hs (M 61 0) c _)) dX12_round_45 (Nat.le_of_ble_eq_true rfl) (fun r45 => ?_)
            refine q_istore C dX12_round_48 hn (by decide) rfl ?_
            refine q_iload C dX12_round_50 rfl ?_
            refine q_iload C dX12_round_52 rfl ?_
            refine q_icmp_le C 62 dX12_round_54 (by decide) (by first | assumption | omega | exact q_tin _ | exact q_bIn _) (by first | assumption | omega | exact q_tin _ | exact q_bIn _) (fun h54 => ?_) (fun h54 => ?_)
            · refine q_iloadn C dX12_round_62 rfl ?_
              refine q_istoren C dX12_round_63 hn (by decide) rfl ?_
              refine q_iload C dX12_round_64 rfl ?_
              refine q_iload C dX12_round_66 rfl ?_
              refine q_icmp_le C 76 dX12_round_68 (by decide) (by first | assumption | omega | exact q_tin _ | exact q_bIn _) (by first | assumption | omega | exact q_tin _ | exact q_bIn _) (fun h68 => ?_) (fun h68 => ?_)
              · refine q_iload C dX12_round_76 rfl ?_
                refine q_istore C dX12_round_78 hn (by decide) rfl ?_
                refine q_iinc C dX12_round_80 rfl hn (by decide) rfl ?_
                refine q_goto C (tgt := 31) dX12_round_83 (by decide) ?_
                exact q_ls (by exact ⟨rfl, rfl, rfl, rfl, rfl, rfl, trivial⟩) (ih31 _ _ _ (by omega) (by omega) (by omega) (by first | exact (sAm_st i0 ie).1 (by omega) | exact (sAm_st i0 ie).2 (by omega) | (exfalso; omega)) (by omega))
              · refine q_iload C dX12_round_71 rfl ?_
                refine q_goto C (tgt := 78) dX12_round_73 (by decide) ?_
                refine q_istore C dX12_round_78 hn (by decide) rfl ?_
                refine q_iinc C dX12_round_80 rfl hn (by decide) rfl ?_
                refine q_goto C (tgt := 31) dX12_round_83 (by decide) ?_
                exact q_ls (by exact ⟨rfl, rfl, rfl, rfl, rfl, rfl, trivial⟩) (ih31 _ _ _ (by omega) (by omega) (by omega) (by first | exact (sAm_st i0 ie).1 (by omega) | exact (sAm_st i0 ie).2 (by omega) | (exfalso; omega)) (by omega))
            · refine q_iload C dX12_round_57 rfl ?_
              refine q_goto C (tgt := 63) dX12_round_59 (by decide) ?_
              refine q_istoren C dX12_round_63 hn (by decide) rfl ?_
              refine q_iload C dX12_round_64 rfl ?_
              refine q_iload C dX12_round_66 rfl ?_
              refine q_icmp_le C 76 dX12_round_68 (by decide) (by first | assumption | omega | exact q_tin _ | exact q_bIn _) (by first | assumption | omega | exact q_tin _ | exact q_bIn _) (fun h68 => ?_) (fun h68 => ?_)
              · refine q_iload C dX12_round_76 rfl ?_
                refine q_istore C dX12_round_78 hn (by decide) rfl ?_
                refine q_iinc C dX12_round_80 rfl hn (by decide) rfl ?_
                refine q_goto C (tgt := 31) dX12_round_83 (by decide) ?_
                exact q_ls (by exact ⟨rfl, rfl, rfl, rfl, rfl, rfl, trivial⟩) (ih31 _ _ _ (by omega) (by omega) (by omega) (by first | exact (sAm_st i0 ie).1 (by omega) | exact (sAm_st i0 ie).2 (by omega) | (exfalso; omega)) (by omega))
              · refine q_iload C dX12_round_71 rfl ?_
                refine q_goto C (tgt := 78) dX12_round_73 (by decide) ?_
                refine q_istore C dX12_round_78 hn (by decide) rfl ?_
                refine q_iinc C dX12_round_80 rfl hn (by decide) rfl ?_
                refine q_goto C (tgt := 31) dX12_round_83 (by decide) ?_
                exact q_ls (by exact ⟨rfl, rfl, rfl, rfl, rfl, rfl, trivial⟩) (ih31 _ _ _ (by omega) (by omega) (by omega) (by first | exact (sAm_st i0 ie).1 (by omega) | exact (sAm_st i0 ie).2 (by omega) | (exfalso; omega)) (by omega))
      exact q_ls (by exact ⟨rfl, rfl, rfl, rfl, rfl, rfl, trivial⟩) (L31 1000 _ _ _ (by omega) (by omega) (by omega) (by rfl) (by omega))
    · refine q_ldc C (z := -1000000002) q_ci_RX12_89 (by decide) dX12_round_20 ?_
      refine q_iret C' dX12_round_22 (by first | assumption | omega | exact q_tin _ | exact q_bIn _) ?_
      refine ⟨congrArg some ?_, rfl⟩
      unfold sRound
      first | (rw [if_neg (by omega)]; done) | (rw [if_pos (by omega), if_neg (by omega)]; done) | (rw [if_pos (by omega), if_pos (by omega)]; done) | (rw [if_pos (by omega), if_pos (by omega), if_pos (by omega)]; done) | (rw [if_pos (by omega), if_pos (by omega), if_neg (by omega)]; done) | (rw [if_pos (by omega), if_neg (by omega), if_pos (by omega)]; done) | (rw [if_pos (by omega), if_neg (by omega), if_neg (by omega)]; done) | (rw [if_pos (by omega)]; done)
  · refine q_ldc C (z := -1000000001) q_ci_RX12_214 (by decide) dX12_round_8 ?_
    refine q_iret C' dX12_round_10 (by first | assumption | omega | exact q_tin _ | exact q_bIn _) ?_
    refine ⟨congrArg some ?_, rfl⟩
    unfold sRound
    first | (rw [if_neg (by omega)]; done) | (rw [if_pos (by omega), if_neg (by omega)]; done) | (rw [if_pos (by omega), if_pos (by omega)]; done) | (rw [if_pos (by omega), if_pos (by omega), if_pos (by omega)]; done) | (rw [if_pos (by omega), if_pos (by omega), if_neg (by omega)]; done) | (rw [if_pos (by omega), if_neg (by omega), if_pos (by omega)]; done) | (rw [if_pos (by omega), if_neg (by omega), if_neg (by omega)]; done) | (rw [if_pos (by omega)]; done)
theorem dX12_suitsOf_0 : decode cX12_suitsOf 0 = .ok (.iconst (-1), 1) := by decide +kernel
theorem dX12_suitsOf_1 : decode cX12_suitsOf 1 = .ok (.istore_n 3, 1) := by decide +kernel
theorem dX12_suitsOf_2 : decode cX12_suitsOf 2 = .ok (.iconst 0, 1) := by decide +kernel
theorem dX12_suitsOf_3 : decode cX12_suitsOf 3 = .ok (.istore 4, 2) := by decide +kernel
theorem dX12_suitsOf_5 : decode cX12_suitsOf 5 = .ok (.iload 4, 2) := by decide +kernel
theorem dX12_suitsOf_7 : decode cX12_suitsOf 7 = .ok (.bipush 48, 2) := by decide +kernel
theorem dX12_suitsOf_9 : decode cX12_suitsOf 9 = .ok (.if_icmp .ge 46, 3) := by decide +kernel
theorem dX12_suitsOf_12 : decode cX12_suitsOf 12 = .ok (.aload_n 0, 1) := by decide +kernel
theorem dX12_suitsOf_13 : decode cX12_suitsOf 13 = .ok (.iload_n 1, 1) := by decide +kernel
theorem dX12_suitsOf_14 : decode cX12_suitsOf 14 = .ok (.iload 4, 2) := by decide +kernel
theorem dX12_suitsOf_16 : decode cX12_suitsOf 16 = .ok (.invokevirtual 272, 3) := by decide +kernel
theorem dX12_suitsOf_19 : decode cX12_suitsOf 19 = .ok (.ifCond .eq 14, 3) := by decide +kernel
theorem dX12_suitsOf_22 : decode cX12_suitsOf 22 = .ok (.aload_n 0, 1) := by decide +kernel
theorem dX12_suitsOf_23 : decode cX12_suitsOf 23 = .ok (.iload_n 1, 1) := by decide +kernel
theorem dX12_suitsOf_24 : decode cX12_suitsOf 24 = .ok (.iload_n 2, 1) := by decide +kernel
theorem dX12_suitsOf_25 : decode cX12_suitsOf 25 = .ok (.iload 4, 2) := by decide +kernel
theorem dX12_suitsOf_27 : decode cX12_suitsOf 27 = .ok (.invokevirtual 182, 3) := by decide +kernel
theorem dX12_suitsOf_30 : decode cX12_suitsOf 30 = .ok (.goto 4, 3) := by decide +kernel
theorem dX12_suitsOf_33 : decode cX12_suitsOf 33 = .ok (.iconst (-1), 1) := by decide +kernel
theorem dX12_suitsOf_34 : decode cX12_suitsOf 34 = .ok (.istore 5, 2) := by decide +kernel
theorem dX12_suitsOf_36 : decode cX12_suitsOf 36 = .ok (.iload 5, 2) := by decide +kernel
theorem dX12_suitsOf_38 : decode cX12_suitsOf 38 = .ok (.iload_n 3, 1) := by decide +kernel
theorem dX12_suitsOf_39 : decode cX12_suitsOf 39 = .ok (.if_icmp .le 8, 3) := by decide +kernel
theorem dX12_suitsOf_42 : decode cX12_suitsOf 42 = .ok (.iload 5, 2) := by decide +kernel
theorem dX12_suitsOf_44 : decode cX12_suitsOf 44 = .ok (.goto 4, 3) := by decide +kernel
theorem dX12_suitsOf_47 : decode cX12_suitsOf 47 = .ok (.iload_n 3, 1) := by decide +kernel
theorem dX12_suitsOf_48 : decode cX12_suitsOf 48 = .ok (.istore_n 3, 1) := by decide +kernel
theorem dX12_suitsOf_49 : decode cX12_suitsOf 49 = .ok (.iinc 4 1, 3) := by decide +kernel
theorem dX12_suitsOf_52 : decode cX12_suitsOf 52 = .ok (.goto (-47), 3) := by decide +kernel
theorem dX12_suitsOf_55 : decode cX12_suitsOf 55 = .ok (.iload_n 3, 1) := by decide +kernel
theorem dX12_suitsOf_56 : decode cX12_suitsOf 56 = .ok (.ireturn, 1) := by decide +kernel
set_option maxRecDepth 4000 in
set_option maxHeartbeats 4000000 in
theorem m_X12_suitsOf (l : Launch) (g : qGm) (M : qMem) {sd : sSD} (hs : sRS sd) (hS : mS M sd) (hv : sRR (sd 4 0) (sd 5 0) (M 61 0)) {c : Int} (hc : 0 ≤ c ∧ c < sd 4 0) {h : Int} (hh : 0 ≤ h ∧ h < sd 5 0) : qOk l g 5 yX12_suitsOf cX12_suitsOf 6 (some .int) [qR g 35 0, qI c, qI h] M (qEv (some (sSuit sd (M 61 0) c h)) M) := by
  refine q_ok (by decide +kernel) (Nat.le_of_ble_eq_true rfl) (fun X C' hn => ?_)
  have C := C'.1
  have km := hs.2.1
  have kn := hs.2.2.1
  have hmn := hs.1
  have w0 := hS.1
  have w1 := hS.2.1
  have w2 := hS.2.2.1
  refine q_iconst C dX12_suitsOf_0 ?_
  refine q_istoren C dX12_suitsOf_1 hn (by decide) rfl ?_
  refine q_iconst C dX12_suitsOf_2 ?_
  refine q_istore C dX12_suitsOf_3 hn (by decide) rfl ?_
  have L5 : ∀ (n5 : Nat) (x : Int) (i : Int), 48 - i < (n5 : Int) → (0 ≤ i) → (i ≤ 48) → (x = sMx (fun k => if sSaid (sd 0 0) k ∧ sMean k = M 61 0 (8 + c) then sHeard sd (M 61 0) c h k else -1) (-1) i) → (-1 ≤ x ∧ x ≤ 45) → qV l g X M 5 [(0, qR g 35 0), (1, qI c), (2, qI h), (3, qI x), (4, qI i)] [] := by
    intro n5
    induction n5 with
    | zero => intro x i hm5 i0 i1 ie ib; exfalso; first | omega | (simp at *; omega)
    | succ n5 ih5 =>
      intro x i hm5 i0 i1 ie ib
      have hb := fun z : i < 48 => sHeard_in hs hv hc hh ⟨i0, z⟩
      refine q_iload C dX12_suitsOf_5 rfl ?_
      refine q_bipush C dX12_suitsOf_7 (by decide) ?_
      refine q_icmp_ge C 55 dX12_suitsOf_9 (by decide) (by first | assumption | omega | exact q_tin _ | exact q_bIn _) (by first | assumption | omega | exact q_tin _ | exact q_bIn _) (fun h9 => ?_) (fun h9 => ?_)
      · refine q_iloadn C dX12_suitsOf_55 rfl ?_
        refine q_iret C' dX12_suitsOf_56 (by first | assumption | omega | exact q_tin _ | exact q_bIn _) ?_
        refine ⟨congrArg some ?_, rfl⟩
        have e9 : i = 48 := (by omega)
        rw [ie, e9]
        rfl
      · refine q_aloadn C dX12_suitsOf_12 rfl ?_
        refine q_iloadn C dX12_suitsOf_13 rfl ?_
        refine q_iload C dX12_suitsOf_14 rfl ?_
        refine cv_RX12_272 C (by decide) (m_X12_isHonest l g _ hs hS hv (by omega) (by omega)) dX12_suitsOf_16 (Nat.le_of_ble_eq_true rfl) (fun r16 => ?_)
        refine q_ifeqB C 33 dX12_suitsOf_19 (by decide) (fun h19 => ?_) (fun h19 => ?_)
        · refine q_iconst C dX12_suitsOf_33 ?_
          refine q_istore C dX12_suitsOf_34 hn (by decide) rfl ?_
          refine q_iload C dX12_suitsOf_36 rfl ?_
          refine q_iloadn C dX12_suitsOf_38 rfl ?_
          refine q_icmp_le C 47 dX12_suitsOf_39 (by decide) (by first | assumption | omega | exact q_tin _ | exact q_bIn _) (by first | assumption | omega | exact q_tin _ | exact q_bIn _) (fun h39 => ?_) (fun h39 => ?_)
          · refine q_iloadn C dX12_suitsOf_47 rfl ?_
            refine q_istoren C dX12_suitsOf_48 hn (by decide) rfl ?_
            refine q_iinc C dX12_suitsOf_49 rfl hn (by decide) rfl ?_
            refine q_goto C (tgt := 5) dX12_suitsOf_52 (by decide) ?_
            exact q_ls (by exact ⟨rfl, rfl, rfl, rfl, rfl, trivial⟩) (ih5 _ _ (by omega) (by omega) (by omega) (by rw [sMx_s _ _ i0, ← ie]; (first | rw [if_pos h19] | rw [if_neg h19]); unfold sMax; first | (rw [if_pos (by omega)]; done) | (rw [if_neg (by omega)]; done)) (by have := hb (by omega); omega))
          · refine q_iload C dX12_suitsOf_42 rfl ?_
            refine q_goto C (tgt := 48) dX12_suitsOf_44 (by decide) ?_
            refine q_istoren C dX12_suitsOf_48 hn (by decide) rfl ?_
            refine q_iinc C dX12_suitsOf_49 rfl hn (by decide) rfl ?_
            refine q_goto C (tgt := 5) dX12_suitsOf_52 (by decide) ?_
            exact q_ls (by exact ⟨rfl, rfl, rfl, rfl, rfl, trivial⟩) (ih5 _ _ (by omega) (by omega) (by omega) (by rw [sMx_s _ _ i0, ← ie]; (first | rw [if_pos h19] | rw [if_neg h19]); unfold sMax; first | (rw [if_pos (by omega)]; done) | (rw [if_neg (by omega)]; done)) (by have := hb (by omega); omega))
        · refine q_aloadn C dX12_suitsOf_22 rfl ?_
          refine q_iloadn C dX12_suitsOf_23 rfl ?_
          refine q_iloadn C dX12_suitsOf_24 rfl ?_
          refine q_iload C dX12_suitsOf_25 rfl ?_
          refine cv_RX12_182 C (by decide) (m_X12_heard l g _ hs hS hv (by omega) (by omega) (by omega)) dX12_suitsOf_27 (Nat.le_of_ble_eq_true rfl) (fun r27 => ?_)
          refine q_goto C (tgt := 34) dX12_suitsOf_30 (by decide) ?_
          refine q_istore C dX12_suitsOf_34 hn (by decide) rfl ?_
          refine q_iload C dX12_suitsOf_36 rfl ?_
          refine q_iloadn C dX12_suitsOf_38 rfl ?_
          refine q_icmp_le C 47 dX12_suitsOf_39 (by decide) (by first | assumption | omega | exact q_tin _ | exact q_bIn _) (by first | assumption | omega | exact q_tin _ | exact q_bIn _) (fun h39 => ?_) (fun h39 => ?_)
          · refine q_iloadn C dX12_suitsOf_47 rfl ?_
            refine q_istoren C dX12_suitsOf_48 hn (by decide) rfl ?_
            refine q_iinc C dX12_suitsOf_49 rfl hn (by decide) rfl ?_
            refine q_goto C (tgt := 5) dX12_suitsOf_52 (by decide) ?_
            exact q_ls (by exact ⟨rfl, rfl, rfl, rfl, rfl, trivial⟩) (ih5 _ _ (by omega) (by omega) (by omega) (by rw [sMx_s _ _ i0, ← ie]; (first | rw [if_pos h19] | rw [if_neg h19]); unfold sMax; first | (rw [if_pos (by omega)]; done) | (rw [if_neg (by omega)]; done)) (by have := hb (by omega); omega))
          · refine q_iload C dX12_suitsOf_42 rfl ?_
            refine q_goto C (tgt := 48) dX12_suitsOf_44 (by decide) ?_
            refine q_istoren C dX12_suitsOf_48 hn (by decide) rfl ?_
            refine q_iinc C dX12_suitsOf_49 rfl hn (by decide) rfl ?_
            refine q_goto C (tgt := 5) dX12_suitsOf_52 (by decide) ?_
            exact q_ls (by exact ⟨rfl, rfl, rfl, rfl, rfl, trivial⟩) (ih5 _ _ (by omega) (by omega) (by omega) (by rw [sMx_s _ _ i0, ← ie]; (first | rw [if_pos h19] | rw [if_neg h19]); unfold sMax; first | (rw [if_pos (by omega)]; done) | (rw [if_neg (by omega)]; done)) (by have := hb (by omega); omega))
  exact q_ls (by exact ⟨rfl, rfl, rfl, rfl, rfl, trivial⟩) (L5 1000 _ _ (by omega) (by omega) (by omega) (by rfl) (by omega))
theorem dX12_suits_0 : decode cX12_suits 0 = .ok (.aload_n 0, 1) := by decide +kernel
theorem dX12_suits_1 : decode cX12_suits 1 = .ok (.iload_n 1, 1) := by decide +kernel
theorem dX12_suits_2 : decode cX12_suits 2 = .ok (.iload_n 2, 1) := by decide +kernel
theorem dX12_suits_3 : decode cX12_suits 3 = .ok (.invokevirtual 218, 3) := by decide +kernel
theorem dX12_suits_6 : decode cX12_suits 6 = .ok (.ifCond .eq 12, 3) := by decide +kernel
theorem dX12_suits_9 : decode cX12_suits 9 = .ok (.aload_n 0, 1) := by decide +kernel
theorem dX12_suits_10 : decode cX12_suits 10 = .ok (.iload_n 1, 1) := by decide +kernel
theorem dX12_suits_11 : decode cX12_suits 11 = .ok (.iload_n 2, 1) := by decide +kernel
theorem dX12_suits_12 : decode cX12_suits 12 = .ok (.invokevirtual 204, 3) := by decide +kernel
theorem dX12_suits_15 : decode cX12_suits 15 = .ok (.goto 5, 3) := by decide +kernel
theorem dX12_suits_18 : decode cX12_suits 18 = .ok (.ldc 214, 2) := by decide +kernel
theorem dX12_suits_20 : decode cX12_suits 20 = .ok (.ireturn, 1) := by decide +kernel
set_option maxRecDepth 4000 in
set_option maxHeartbeats 4000000 in
theorem m_X12_suits (l : Launch) (g : qGm) (M : qMem) {sd : sSD} (hs : sRS sd) (hS : mS M sd) (hv : sRR (sd 4 0) (sd 5 0) (M 61 0)) {c : Int} (hcq : qIn c) {h : Int} (hhq : qIn h) : qOk l g 6 yX12_suits cX12_suits 3 (some .int) [qR g 35 0, qI c, qI h] M (qEv (some (sSuits sd (M 61 0) c h)) M) := by
  refine q_ok (by decide +kernel) (Nat.le_of_ble_eq_true rfl) (fun X C' hn => ?_)
  have C := C'.1
  have km := hs.2.1
  have kn := hs.2.2.1
  have hmn := hs.1
  have w0 := hS.1
  have w1 := hS.2.1
  have w2 := hS.2.2.1
  refine q_aloadn C dX12_suits_0 rfl ?_
  refine q_iloadn C dX12_suits_1 rfl ?_
  refine q_iloadn C dX12_suits_2 rfl ?_
  refine cv_RX12_218 C (by decide) (m_X12_areBoth l g _ hs hS hcq hhq) dX12_suits_3 (Nat.le_of_ble_eq_true rfl) (fun r3 => ?_)
  refine q_ifeqB C 18 dX12_suits_6 (by decide) (fun h6 => ?_) (fun h6 => ?_)
  · refine q_ldc C (z := -1000000001) q_ci_RX12_214 (by decide) dX12_suits_18 ?_
    refine q_iret C' dX12_suits_20 (by first | assumption | omega | exact q_tin _ | exact q_bIn _) ?_
    refine ⟨congrArg some ?_, rfl⟩
    unfold sSuits
    first | (rw [if_neg (by omega)]; done) | (rw [if_pos (by omega)]; done)
  · refine q_aloadn C dX12_suits_9 rfl ?_
    refine q_iloadn C dX12_suits_10 rfl ?_
    refine q_iloadn C dX12_suits_11 rfl ?_
    refine cv_RX12_204 C (by decide) (m_X12_suitsOf l g _ hs hS hv (by omega) (by omega)) dX12_suits_12 (Nat.le_of_ble_eq_true rfl) (fun r12 => ?_)
    refine q_goto C (tgt := 20) dX12_suits_15 (by decide) ?_
    refine q_iret C' dX12_suits_20 (by first | assumption | omega | exact q_tin _ | exact q_bIn _) ?_
    refine ⟨congrArg some ?_, rfl⟩
    unfold sSuits
    first | (rw [if_neg (by omega)]; done) | (rw [if_pos (by omega)]; done)
theorem dX12_dry_0 : decode cX12_dry 0 = .ok (.iload_n 1, 1) := by decide +kernel
theorem dX12_dry_1 : decode cX12_dry 1 = .ok (.iconst 0, 1) := by decide +kernel
theorem dX12_dry_2 : decode cX12_dry 2 = .ok (.bipush 60, 2) := by decide +kernel
theorem dX12_dry_4 : decode cX12_dry 4 = .ok (.invokestatic 85, 3) := by decide +kernel
theorem dX12_dry_7 : decode cX12_dry 7 = .ok (.ifCond .eq 13, 3) := by decide +kernel
theorem dX12_dry_10 : decode cX12_dry 10 = .ok (.iload_n 2, 1) := by decide +kernel
theorem dX12_dry_11 : decode cX12_dry 11 = .ok (.iconst 0, 1) := by decide +kernel
theorem dX12_dry_12 : decode cX12_dry 12 = .ok (.bipush 100, 2) := by decide +kernel
theorem dX12_dry_14 : decode cX12_dry 14 = .ok (.invokestatic 85, 3) := by decide +kernel
theorem dX12_dry_17 : decode cX12_dry 17 = .ok (.ifCond .ne 6, 3) := by decide +kernel
theorem dX12_dry_20 : decode cX12_dry 20 = .ok (.ldc 89, 2) := by decide +kernel
theorem dX12_dry_22 : decode cX12_dry 22 = .ok (.ireturn, 1) := by decide +kernel
theorem dX12_dry_23 : decode cX12_dry 23 = .ok (.ldc2_w 281, 3) := by decide +kernel
theorem dX12_dry_26 : decode cX12_dry 26 = .ok (.lstore_n 3, 1) := by decide +kernel
theorem dX12_dry_27 : decode cX12_dry 27 = .ok (.iconst 0, 1) := by decide +kernel
theorem dX12_dry_28 : decode cX12_dry 28 = .ok (.istore 5, 2) := by decide +kernel
theorem dX12_dry_30 : decode cX12_dry 30 = .ok (.iload 5, 2) := by decide +kernel
theorem dX12_dry_32 : decode cX12_dry 32 = .ok (.iload_n 1, 1) := by decide +kernel
theorem dX12_dry_33 : decode cX12_dry 33 = .ok (.if_icmp .ge 18, 3) := by decide +kernel
theorem dX12_dry_36 : decode cX12_dry 36 = .ok (.lload_n 3, 1) := by decide +kernel
theorem dX12_dry_37 : decode cX12_dry 37 = .ok (.iload_n 2, 1) := by decide +kernel
theorem dX12_dry_38 : decode cX12_dry 38 = .ok (.i2l, 1) := by decide +kernel
theorem dX12_dry_39 : decode cX12_dry 39 = .ok (.lmul, 1) := by decide +kernel
theorem dX12_dry_40 : decode cX12_dry 40 = .ok (.ldc2_w 283, 3) := by decide +kernel
theorem dX12_dry_43 : decode cX12_dry 43 = .ok (.ldiv, 1) := by decide +kernel
theorem dX12_dry_44 : decode cX12_dry 44 = .ok (.lstore_n 3, 1) := by decide +kernel
theorem dX12_dry_45 : decode cX12_dry 45 = .ok (.iinc 5 1, 3) := by decide +kernel
theorem dX12_dry_48 : decode cX12_dry 48 = .ok (.goto (-18), 3) := by decide +kernel
theorem dX12_dry_51 : decode cX12_dry 51 = .ok (.lload_n 3, 1) := by decide +kernel
theorem dX12_dry_52 : decode cX12_dry 52 = .ok (.l2i, 1) := by decide +kernel
theorem dX12_dry_53 : decode cX12_dry 53 = .ok (.ireturn, 1) := by decide +kernel
set_option maxRecDepth 4000 in
set_option maxHeartbeats 4000000 in
theorem m_X12_dry (l : Launch) (g : qGm) (M : qMem) {n : Int} (hnq : qIn n) {q : Int} (hqq : qIn q) : qOk l g 2 yX12_dry cX12_dry 6 (some .int) [qR g 35 0, qI n, qI q] M (qEv (some (sDry n q)) M) := by
  refine q_ok (by decide +kernel) (Nat.le_of_ble_eq_true rfl) (fun X C' hn => ?_)
  have C := C'.1
  refine q_iloadn C dX12_dry_0 rfl ?_
  refine q_iconst C dX12_dry_1 ?_
  refine q_bipush C dX12_dry_2 (by decide) ?_
  refine cv_RX12_85 C (by decide) (m_X12_in l g _ (by omega) (by omega) (by omega)) dX12_dry_4 (Nat.le_of_ble_eq_true rfl) (fun r4 => ?_)
  refine q_ifeqB C 20 dX12_dry_7 (by decide) (fun h7 => ?_) (fun h7 => ?_)
  · refine q_ldc C (z := -1000000002) q_ci_RX12_89 (by decide) dX12_dry_20 ?_
    refine q_iret C' dX12_dry_22 (by first | assumption | omega | exact q_tin _ | exact q_bIn _) ?_
    refine ⟨congrArg some ?_, rfl⟩
    unfold sDry
    first | (rw [if_neg (by omega)]; done) | (have e9 : i = n := (by omega); rw [if_pos (by omega), hx, e9])
  · refine q_iloadn C dX12_dry_10 rfl ?_
    refine q_iconst C dX12_dry_11 ?_
    refine q_bipush C dX12_dry_12 (by decide) ?_
    refine cv_RX12_85 C (by decide) (m_X12_in l g _ (by omega) (by omega) (by omega)) dX12_dry_14 (Nat.le_of_ble_eq_true rfl) (fun r14 => ?_)
    refine q_ifneB C 23 dX12_dry_17 (by decide) (fun h17 => ?_) (fun h17 => ?_)
    · refine q_ldc2 C (z := 1000000000) q_cl_RX12_281 (by decide) dX12_dry_23 ?_
      refine q_lstore3 C dX12_dry_26 hn (by decide) (ls' := [(0, qR g 35 0), (1, qI n), (2, qI q)]) (by exact ⟨rfl, rfl, rfl, trivial⟩) rfl ?_
      refine q_iconst C dX12_dry_27 ?_
      refine q_istore C dX12_dry_28 hn (by decide) rfl ?_
      have L30 : ∀ (n30 : Nat) (x : Int) (i : Int), n - i < (n30 : Int) → (0 ≤ i) → (i ≤ n) → (x = sDryN q i.toNat) → (n ≤ 60 ∧ 0 ≤ q ∧ q ≤ 100) → qV l g X M 30 [(0, qR g 35 0), (1, qI n), (2, qI q), (3, qJ x), (5, qI i)] [] := by
        intro n30
        induction n30 with
        | zero => intro x i hm30 i0 i1 hx hn60; exfalso; first | omega | (simp at *; omega)
        | succ n30 ih30 =>
          intro x i hm30 i0 i1 hx hn60
          have hb := sDryN_in hn60.2 i.toNat
          rw [← hx] at hb
          have hp1 : 0 ≤ x * q := Int.mul_nonneg hb.1 hn60.2.1
          have hp2 : x * q ≤ 1000000000 * 100 := Int.mul_le_mul hb.2 hn60.2.2 hn60.2.1 (by omega)
          refine q_iload C dX12_dry_30 rfl ?_
          refine q_iloadn C dX12_dry_32 rfl ?_
          refine q_icmp_ge C 51 dX12_dry_33 (by decide) (by first | assumption | omega | exact q_tin _ | exact q_bIn _) (by first | assumption | omega | exact q_tin _ | exact q_bIn _) (fun h33 => ?_) (fun h33 => ?_)
          · refine q_lloadn C dX12_dry_51 rfl ?_
            refine q_l2i C dX12_dry_52 ?_
            refine q_iret C' dX12_dry_53 (by first | assumption | omega | exact q_tin _ | exact q_bIn _) ?_
            refine ⟨congrArg some ?_, rfl⟩
            unfold sDry
            first | (rw [if_neg (by omega)]; done) | (have e9 : i = n := (by omega); rw [if_pos (by omega), hx, e9])
          · refine q_lloadn C dX12_dry_36 rfl ?_
            refine q_iloadn C dX12_dry_37 rfl ?_
            refine q_i2l C (by first | assumption | omega | exact q_tin _ | exact q_bIn _) dX12_dry_38 ?_
            refine q_lmul C dX12_dry_39 ?_
            refine q_ldc2 C (z := 100) q_cl_RX12_283 (by decide) dX12_dry_40 ?_
            refine q_ldiv C dX12_dry_43 (by omega) (by omega) (by omega) (by omega) ?_
            refine q_lstore3 C dX12_dry_44 hn (by decide) (ls' := [(0, qR g 35 0), (1, qI n), (2, qI q), (5, qI i)]) (by exact ⟨rfl, rfl, rfl, rfl, trivial⟩) rfl ?_
            refine q_iinc C dX12_dry_45 rfl hn (by decide) rfl ?_
            refine q_goto C (tgt := 30) dX12_dry_48 (by decide) ?_
            exact q_ls (by exact ⟨rfl, rfl, rfl, rfl, rfl, trivial⟩) (ih30 _ _ (by omega) (by omega) (by omega) (by rw [show (i + 1).toNat = i.toNat + 1 by omega, sDryN, ← hx]) (by omega))
      exact q_ls (by exact ⟨rfl, rfl, rfl, rfl, rfl, trivial⟩) (L30 1000 _ _ (by omega) (by omega) (by omega) (by rfl) (by omega))
    · refine q_ldc C (z := -1000000002) q_ci_RX12_89 (by decide) dX12_dry_20 ?_
      refine q_iret C' dX12_dry_22 (by first | assumption | omega | exact q_tin _ | exact q_bIn _) ?_
      refine ⟨congrArg some ?_, rfl⟩
      unfold sDry
      first | (rw [if_neg (by omega)]; done) | (have e9 : i = n := (by omega); rw [if_pos (by omega), hx, e9])
theorem dX12_partOf_0 : decode cX12_partOf 0 = .ok (.iload_n 1, 1) := by decide +kernel
theorem dX12_partOf_1 : decode cX12_partOf 1 = .ok (.iconst 4, 1) := by decide +kernel
theorem dX12_partOf_2 : decode cX12_partOf 2 = .ok (.if_icmp .ne 10, 3) := by decide +kernel
theorem dX12_partOf_5 : decode cX12_partOf 5 = .ok (.iload_n 0, 1) := by decide +kernel
theorem dX12_partOf_6 : decode cX12_partOf 6 = .ok (.bipush 16, 2) := by decide +kernel
theorem dX12_partOf_8 : decode cX12_partOf 8 = .ok (.idiv, 1) := by decide +kernel
theorem dX12_partOf_9 : decode cX12_partOf 9 = .ok (.goto 8, 3) := by decide +kernel
theorem dX12_partOf_12 : decode cX12_partOf 12 = .ok (.iload_n 0, 1) := by decide +kernel
theorem dX12_partOf_13 : decode cX12_partOf 13 = .ok (.iload_n 1, 1) := by decide +kernel
theorem dX12_partOf_14 : decode cX12_partOf 14 = .ok (.ishr, 1) := by decide +kernel
theorem dX12_partOf_15 : decode cX12_partOf 15 = .ok (.iconst 1, 1) := by decide +kernel
theorem dX12_partOf_16 : decode cX12_partOf 16 = .ok (.iand, 1) := by decide +kernel
theorem dX12_partOf_17 : decode cX12_partOf 17 = .ok (.ireturn, 1) := by decide +kernel
set_option maxRecDepth 4000 in
set_option maxHeartbeats 4000000 in
theorem m_X12_partOf (l : Launch) (g : qGm) (M : qMem) {a : Int} (ha : 0 ≤ a ∧ a < 48) {p : Int} (hp : 0 ≤ p ∧ p < 5) : qOk l g 1 yX12_partOf cX12_partOf 2 (some .int) [qI a, qI p] M (qEv (some (sPart a p)) M) := by
  refine q_ok (by decide +kernel) (Nat.le_of_ble_eq_true rfl) (fun X C' hn => ?_)
  have C := C'.1
  have e := q_has (s := a) (k := p) ha.1 (by omega) hp.1 (by omega)
  refine q_iloadn C dX12_partOf_0 rfl ?_
  refine q_iconst C dX12_partOf_1 ?_
  refine q_icmp_ne C 12 dX12_partOf_2 (by decide) (by first | assumption | omega | exact q_tin _ | exact q_bIn _) (by first | assumption | omega | exact q_tin _ | exact q_bIn _) (fun h2 => ?_) (fun h2 => ?_)
  · refine q_iloadn C dX12_partOf_12 rfl ?_
    refine q_iloadn C dX12_partOf_13 rfl ?_
    refine q_ishr C dX12_partOf_14 ?_
    refine q_iconst C dX12_partOf_15 ?_
    refine q_iand C dX12_partOf_16 ?_
    refine q_iret C' dX12_partOf_17 (by first | omega | exact q_tin _) ?_
    refine ⟨congrArg some ?_, rfl⟩
    unfold sPart
    first | (rw [if_pos (by omega)]; done) | (rw [if_neg (by omega)]; exact e)
  · refine q_iloadn C dX12_partOf_5 rfl ?_
    refine q_bipush C dX12_partOf_6 (by decide) ?_
    refine q_idiv C dX12_partOf_8 (by omega) (by omega) (by omega) (by omega) ?_
    refine q_goto C (tgt := 17) dX12_partOf_9 (by decide) ?_
    refine q_iret C' dX12_partOf_17 (by first | omega | exact q_tin _) ?_
    refine ⟨congrArg some ?_, rfl⟩
    unfold sPart
    first | (rw [if_pos (by omega)]; done) | (rw [if_neg (by omega)]; exact e)
theorem dX12_couldBeSo_0 : decode cX12_couldBeSo 0 = .ok (.aload_n 0, 1) := by decide +kernel
theorem dX12_couldBeSo_1 : decode cX12_couldBeSo 1 = .ok (.iload_n 1, 1) := by decide +kernel
theorem dX12_couldBeSo_2 : decode cX12_couldBeSo 2 = .ok (.invokevirtual 175, 3) := by decide +kernel
theorem dX12_couldBeSo_5 : decode cX12_couldBeSo 5 = .ok (.istore_n 2, 1) := by decide +kernel
theorem dX12_couldBeSo_6 : decode cX12_couldBeSo 6 = .ok (.iconst 0, 1) := by decide +kernel
theorem dX12_couldBeSo_7 : decode cX12_couldBeSo 7 = .ok (.istore_n 3, 1) := by decide +kernel
theorem dX12_couldBeSo_8 : decode cX12_couldBeSo 8 = .ok (.iload_n 3, 1) := by decide +kernel
theorem dX12_couldBeSo_9 : decode cX12_couldBeSo 9 = .ok (.aload_n 0, 1) := by decide +kernel
theorem dX12_couldBeSo_10 : decode cX12_couldBeSo 10 = .ok (.getfield 156, 3) := by decide +kernel
theorem dX12_couldBeSo_13 : decode cX12_couldBeSo 13 = .ok (.if_icmp .ge 38, 3) := by decide +kernel
theorem dX12_couldBeSo_16 : decode cX12_couldBeSo 16 = .ok (.iload_n 2, 1) := by decide +kernel
theorem dX12_couldBeSo_17 : decode cX12_couldBeSo 17 = .ok (.ifCond .eq 26, 3) := by decide +kernel
theorem dX12_couldBeSo_20 : decode cX12_couldBeSo 20 = .ok (.iload_n 1, 1) := by decide +kernel
theorem dX12_couldBeSo_21 : decode cX12_couldBeSo 21 = .ok (.aload_n 0, 1) := by decide +kernel
theorem dX12_couldBeSo_22 : decode cX12_couldBeSo 22 = .ok (.getfield 62, 3) := by decide +kernel
theorem dX12_couldBeSo_25 : decode cX12_couldBeSo 25 = .ok (.iload_n 3, 1) := by decide +kernel
theorem dX12_couldBeSo_26 : decode cX12_couldBeSo 26 = .ok (.iaload, 1) := by decide +kernel
theorem dX12_couldBeSo_27 : decode cX12_couldBeSo 27 = .ok (.invokestatic 285, 3) := by decide +kernel
theorem dX12_couldBeSo_30 : decode cX12_couldBeSo 30 = .ok (.aload_n 0, 1) := by decide +kernel
theorem dX12_couldBeSo_31 : decode cX12_couldBeSo 31 = .ok (.getfield 65, 3) := by decide +kernel
theorem dX12_couldBeSo_34 : decode cX12_couldBeSo 34 = .ok (.iload_n 3, 1) := by decide +kernel
theorem dX12_couldBeSo_35 : decode cX12_couldBeSo 35 = .ok (.iaload, 1) := by decide +kernel
theorem dX12_couldBeSo_36 : decode cX12_couldBeSo 36 = .ok (.if_icmp .ne 7, 3) := by decide +kernel
theorem dX12_couldBeSo_39 : decode cX12_couldBeSo 39 = .ok (.iconst 1, 1) := by decide +kernel
theorem dX12_couldBeSo_40 : decode cX12_couldBeSo 40 = .ok (.goto 4, 3) := by decide +kernel
theorem dX12_couldBeSo_43 : decode cX12_couldBeSo 43 = .ok (.iconst 0, 1) := by decide +kernel
theorem dX12_couldBeSo_44 : decode cX12_couldBeSo 44 = .ok (.istore_n 2, 1) := by decide +kernel
theorem dX12_couldBeSo_45 : decode cX12_couldBeSo 45 = .ok (.iinc 3 1, 3) := by decide +kernel
theorem dX12_couldBeSo_48 : decode cX12_couldBeSo 48 = .ok (.goto (-40), 3) := by decide +kernel
theorem dX12_couldBeSo_51 : decode cX12_couldBeSo 51 = .ok (.iload_n 2, 1) := by decide +kernel
theorem dX12_couldBeSo_52 : decode cX12_couldBeSo 52 = .ok (.ireturn, 1) := by decide +kernel
set_option maxRecDepth 4000 in
set_option maxHeartbeats 4000000 in
theorem m_X12_couldBeSo (l : Launch) (g : qGm) (M : qMem) {sd : sSD} (hs : sRS sd) (hS : mS M sd) (hsn : 0 ≤ M 35 0 29 ∧ M 35 0 29 ≤ 6) (hsb : ∀ i, 0 ≤ i → i < M 35 0 29 → 0 ≤ M 70 0 i ∧ M 70 0 i < 5) (hon : 0 ≤ sd 0 0) {a : Int} (ha : 0 ≤ a ∧ a < 48) : qOk l g 3 yX12_couldBeSo cX12_couldBeSo 4 (some .boolean) [qR g 35 0, qI a] M (qEv (some (qB (sFits (M 35 0 29) (M 70 0) (M 71 0) (sd 0 0) a = true))) M) := by
  refine q_ok (by decide +kernel) (Nat.le_of_ble_eq_true rfl) (fun X C' hn => ?_)
  have C := C'.1
  have km := hs.2.1
  have kn := hs.2.2.1
  have hmn := hs.1
  have w0 := hS.1
  have w1 := hS.2.1
  have w2 := hS.2.2.1
  refine q_aloadn C dX12_couldBeSo_0 rfl ?_
  refine q_iloadn C dX12_couldBeSo_1 rfl ?_
  refine cv_RX12_175 C (by decide) (m_X12_isSaid l g _ hs hS (by omega) (by omega)) dX12_couldBeSo_2 (Nat.le_of_ble_eq_true rfl) (fun r2 => ?_)
  refine q_istoren C dX12_couldBeSo_5 hn (by decide) rfl ?_
  refine q_iconst C dX12_couldBeSo_6 ?_
  refine q_istoren C dX12_couldBeSo_7 hn (by decide) rfl ?_
  have L8 : ∀ (n8 : Nat) (s : Int) (i : Int), M 35 0 29 - i < (n8 : Int) → (0 ≤ i) → (i ≤ M 35 0 29) → (s = qB (sSaid (sd 0 0) a ∧ sAll (fun i => decide (sPart a (M 70 0 i) = M 71 0 i)) i = true)) → (0 ≤ s ∧ s ≤ 1) → qV l g X M 8 [(0, qR g 35 0), (1, qI a), (2, qI s), (3, qI i)] [] := by
    intro n8
    induction n8 with
    | zero => intro s i hm8 i0 i1 ie ib; exfalso; first | omega | (simp at *; omega)
    | succ n8 ih8 =>
      intro s i hm8 i0 i1 ie ib
      refine q_iloadn C dX12_couldBeSo_8 rfl ?_
      refine q_aloadn C dX12_couldBeSo_9 rfl ?_
      refine gf_RX12_156 C dX12_couldBeSo_10 (fun r10 => ?_)
      refine q_icmp_ge C 51 dX12_couldBeSo_13 (by decide) (by first | assumption | omega | exact q_tin _ | exact q_bIn _) (by first | assumption | omega | exact q_tin _ | exact q_bIn _) (fun h13 => ?_) (fun h13 => ?_)
      · refine q_iloadn C dX12_couldBeSo_51 rfl ?_
        refine q_zret C' dX12_couldBeSo_52 (by first | omega | exact q_b01 _ | simp) ?_
        refine ⟨congrArg some ?_, rfl⟩
        have e9 : i = M 35 0 29 := (by omega)
        rw [ie, e9]
        unfold sFits
        refine q_bIff ?_
        rw [Bool.and_eq_true, decide_eq_true_iff]
        exact ⟨fun z => ⟨z.2, z.1⟩, fun z => ⟨z.2, z.1⟩⟩
      · refine q_iloadn C dX12_couldBeSo_16 rfl ?_
        refine q_if_eq C 43 dX12_couldBeSo_17 (by decide) (by first | assumption | omega | exact q_tin _ | exact q_bIn _) (fun h17 => ?_) (fun h17 => ?_)
        · refine q_iconst C dX12_couldBeSo_43 ?_
          refine q_istoren C dX12_couldBeSo_44 hn (by decide) rfl ?_
          refine q_iinc C dX12_couldBeSo_45 rfl hn (by decide) rfl ?_
          refine q_goto C (tgt := 8) dX12_couldBeSo_48 (by decide) ?_
          exact q_ls (by exact ⟨rfl, rfl, rfl, rfl, trivial⟩) (ih8 _ _ (by omega) (by omega) (by omega) (by first | exact (cbSt i0 ie).1 (by omega) | exact (cbSt i0 ie).2.1 (by omega) (decide_eq_true (by omega)) | exact (cbSt i0 ie).2.2 (by omega) (fun z => absurd (of_decide_eq_true z) (by omega))) (by omega))
        · refine q_iloadn C dX12_couldBeSo_20 rfl ?_
          refine q_aloadn C dX12_couldBeSo_21 rfl ?_
          refine gf_RX12_62 C dX12_couldBeSo_22 ?_
          refine q_iloadn C dX12_couldBeSo_25 rfl ?_
          refine q_iald C (by first | assumption | decide | omega) rfl dX12_couldBeSo_26 (by omega) (by omega) (by decide) (fun r26 => ?_)
          refine cv_RX12_285 C (by decide) (m_X12_partOf l g _ (by omega) (hsb _ (by omega) (by omega))) dX12_couldBeSo_27 (Nat.le_of_ble_eq_true rfl) (fun r27 => ?_)
          refine q_aloadn C dX12_couldBeSo_30 rfl ?_
          refine gf_RX12_65 C dX12_couldBeSo_31 ?_
          refine q_iloadn C dX12_couldBeSo_34 rfl ?_
          refine q_iald C (by first | assumption | decide | omega) rfl dX12_couldBeSo_35 (by omega) (by omega) (by decide) (fun r35 => ?_)
          refine q_icmp_ne C 43 dX12_couldBeSo_36 (by decide) (by first | assumption | omega | exact q_tin _ | exact q_bIn _) (by first | assumption | omega | exact q_tin _ | exact q_bIn _) (fun h36 => ?_) (fun h36 => ?_)
          · refine q_iconst C dX12_couldBeSo_43 ?_
            refine q_istoren C dX12_couldBeSo_44 hn (by decide) rfl ?_
            refine q_iinc C dX12_couldBeSo_45 rfl hn (by decide) rfl ?_
            refine q_goto C (tgt := 8) dX12_couldBeSo_48 (by decide) ?_
            exact q_ls (by exact ⟨rfl, rfl, rfl, rfl, trivial⟩) (ih8 _ _ (by omega) (by omega) (by omega) (by first | exact (cbSt i0 ie).1 (by omega) | exact (cbSt i0 ie).2.1 (by omega) (decide_eq_true (by omega)) | exact (cbSt i0 ie).2.2 (by omega) (fun z => absurd (of_decide_eq_true z) (by omega))) (by omega))
          · refine q_iconst C dX12_couldBeSo_39 ?_
            refine q_goto C (tgt := 44) dX12_couldBeSo_40 (by decide) ?_
            refine q_istoren C dX12_couldBeSo_44 hn (by decide) rfl ?_
            refine q_iinc C dX12_couldBeSo_45 rfl hn (by decide) rfl ?_
            refine q_goto C (tgt := 8) dX12_couldBeSo_48 (by decide) ?_
            exact q_ls (by exact ⟨rfl, rfl, rfl, rfl, trivial⟩) (ih8 _ _ (by omega) (by omega) (by omega) (by first | exact (cbSt i0 ie).1 (by omega) | exact (cbSt i0 ie).2.1 (by omega) (decide_eq_true (by omega)) | exact (cbSt i0 ie).2.2 (by omega) (fun z => absurd (of_decide_eq_true z) (by omega))) (by omega))
  exact q_ls (by exact ⟨rfl, rfl, rfl, rfl, trivial⟩) (L8 1000 _ _ (by omega) (by omega) (by omega) (by exact q_bIff ⟨fun z => ⟨z, rfl⟩, fun z => z.1⟩) (by have := q_b01 (sSaid (sd 0 0) a); omega))
theorem dX12_couldBe_0 : decode cX12_couldBe 0 = .ok (.iload_n 1, 1) := by decide +kernel
theorem dX12_couldBe_1 : decode cX12_couldBe 1 = .ok (.iconst 0, 1) := by decide +kernel
theorem dX12_couldBe_2 : decode cX12_couldBe 2 = .ok (.iconst 2, 1) := by decide +kernel
theorem dX12_couldBe_3 : decode cX12_couldBe 3 = .ok (.invokestatic 85, 3) := by decide +kernel
theorem dX12_couldBe_6 : decode cX12_couldBe 6 = .ok (.ifCond .ne 6, 3) := by decide +kernel
theorem dX12_couldBe_9 : decode cX12_couldBe 9 = .ok (.ldc 89, 2) := by decide +kernel
theorem dX12_couldBe_11 : decode cX12_couldBe 11 = .ok (.ireturn, 1) := by decide +kernel
theorem dX12_couldBe_12 : decode cX12_couldBe 12 = .ok (.aload_n 0, 1) := by decide +kernel
theorem dX12_couldBe_13 : decode cX12_couldBe 13 = .ok (.invokevirtual 189, 3) := by decide +kernel
theorem dX12_couldBe_16 : decode cX12_couldBe 16 = .ok (.ifCond .ne 6, 3) := by decide +kernel
theorem dX12_couldBe_19 : decode cX12_couldBe 19 = .ok (.ldc 224, 2) := by decide +kernel
theorem dX12_couldBe_21 : decode cX12_couldBe 21 = .ok (.ireturn, 1) := by decide +kernel
theorem dX12_couldBe_22 : decode cX12_couldBe 22 = .ok (.iconst 0, 1) := by decide +kernel
theorem dX12_couldBe_23 : decode cX12_couldBe 23 = .ok (.istore_n 2, 1) := by decide +kernel
theorem dX12_couldBe_24 : decode cX12_couldBe 24 = .ok (.iconst (-1), 1) := by decide +kernel
theorem dX12_couldBe_25 : decode cX12_couldBe 25 = .ok (.istore_n 3, 1) := by decide +kernel
theorem dX12_couldBe_26 : decode cX12_couldBe 26 = .ok (.iconst 0, 1) := by decide +kernel
theorem dX12_couldBe_27 : decode cX12_couldBe 27 = .ok (.istore 4, 2) := by decide +kernel
theorem dX12_couldBe_29 : decode cX12_couldBe 29 = .ok (.bipush 47, 2) := by decide +kernel
theorem dX12_couldBe_31 : decode cX12_couldBe 31 = .ok (.istore 5, 2) := by decide +kernel
theorem dX12_couldBe_33 : decode cX12_couldBe 33 = .ok (.iload 5, 2) := by decide +kernel
theorem dX12_couldBe_35 : decode cX12_couldBe 35 = .ok (.ifCond .lt 36, 3) := by decide +kernel
theorem dX12_couldBe_38 : decode cX12_couldBe 38 = .ok (.aload_n 0, 1) := by decide +kernel
theorem dX12_couldBe_39 : decode cX12_couldBe 39 = .ok (.iload 5, 2) := by decide +kernel
theorem dX12_couldBe_41 : decode cX12_couldBe 41 = .ok (.invokevirtual 288, 3) := by decide +kernel
theorem dX12_couldBe_44 : decode cX12_couldBe 44 = .ok (.ifCond .eq 21, 3) := by decide +kernel
theorem dX12_couldBe_47 : decode cX12_couldBe 47 = .ok (.iinc 2 1, 3) := by decide +kernel
theorem dX12_couldBe_50 : decode cX12_couldBe 50 = .ok (.iload 5, 2) := by decide +kernel
theorem dX12_couldBe_52 : decode cX12_couldBe 52 = .ok (.istore_n 3, 1) := by decide +kernel
theorem dX12_couldBe_53 : decode cX12_couldBe 53 = .ok (.iload 4, 2) := by decide +kernel
theorem dX12_couldBe_55 : decode cX12_couldBe 55 = .ok (.iconst 1, 1) := by decide +kernel
theorem dX12_couldBe_56 : decode cX12_couldBe 56 = .ok (.iload 5, 2) := by decide +kernel
theorem dX12_couldBe_58 : decode cX12_couldBe 58 = .ok (.invokestatic 172, 3) := by decide +kernel
theorem dX12_couldBe_61 : decode cX12_couldBe 61 = .ok (.ishl, 1) := by decide +kernel
theorem dX12_couldBe_62 : decode cX12_couldBe 62 = .ok (.ior, 1) := by decide +kernel
theorem dX12_couldBe_63 : decode cX12_couldBe 63 = .ok (.istore 4, 2) := by decide +kernel
theorem dX12_couldBe_65 : decode cX12_couldBe 65 = .ok (.iinc 5 (-1), 3) := by decide +kernel
theorem dX12_couldBe_68 : decode cX12_couldBe 68 = .ok (.goto (-35), 3) := by decide +kernel
theorem dX12_couldBe_71 : decode cX12_couldBe 71 = .ok (.iload_n 1, 1) := by decide +kernel
theorem dX12_couldBe_72 : decode cX12_couldBe 72 = .ok (.ifCond .ne 7, 3) := by decide +kernel
theorem dX12_couldBe_75 : decode cX12_couldBe 75 = .ok (.iload_n 2, 1) := by decide +kernel
theorem dX12_couldBe_76 : decode cX12_couldBe 76 = .ok (.goto 14, 3) := by decide +kernel
theorem dX12_couldBe_79 : decode cX12_couldBe 79 = .ok (.iload_n 1, 1) := by decide +kernel
theorem dX12_couldBe_80 : decode cX12_couldBe 80 = .ok (.iconst 1, 1) := by decide +kernel
theorem dX12_couldBe_81 : decode cX12_couldBe 81 = .ok (.if_icmp .ne 7, 3) := by decide +kernel
theorem dX12_couldBe_84 : decode cX12_couldBe 84 = .ok (.iload_n 3, 1) := by decide +kernel
theorem dX12_couldBe_85 : decode cX12_couldBe 85 = .ok (.goto 5, 3) := by decide +kernel
theorem dX12_couldBe_88 : decode cX12_couldBe 88 = .ok (.iload 4, 2) := by decide +kernel
theorem dX12_couldBe_90 : decode cX12_couldBe 90 = .ok (.ireturn, 1) := by decide +kernel
set_option maxRecDepth 4000 in
set_option maxHeartbeats 4000000 in
theorem m_X12_couldBe (l : Launch) (g : qGm) (M : qMem) {sd : sSD} (hs : sRS sd) (hS : mS M sd) (hsn : 0 ≤ M 35 0 29 ∧ M 35 0 29 ≤ 6) (hsb : ∀ i, 0 ≤ i → i < M 35 0 29 → 0 ≤ M 70 0 i ∧ M 70 0 i < 5) {w : Int} (hwq : qIn w) : qOk l g 4 yX12_couldBe cX12_couldBe 6 (some .int) [qR g 35 0, qI w] M (qEv (some (sCould (sd 0 0) (M 35 0 29) (M 70 0) (M 71 0) w)) M) := by
  refine q_ok (by decide +kernel) (Nat.le_of_ble_eq_true rfl) (fun X C' hn => ?_)
  have C := C'.1
  have km := hs.2.1
  have kn := hs.2.2.1
  have hmn := hs.1
  have w0 := hS.1
  have w1 := hS.2.1
  have w2 := hS.2.2.1
  refine q_iloadn C dX12_couldBe_0 rfl ?_
  refine q_iconst C dX12_couldBe_1 ?_
  refine q_iconst C dX12_couldBe_2 ?_
  refine cv_RX12_85 C (by decide) (m_X12_in l g _ (by omega) (by omega) (by omega)) dX12_couldBe_3 (Nat.le_of_ble_eq_true rfl) (fun r3 => ?_)
  refine q_ifneB C 12 dX12_couldBe_6 (by decide) (fun h6 => ?_) (fun h6 => ?_)
  · refine q_aloadn C dX12_couldBe_12 rfl ?_
    refine cv_RX12_189 C (by decide) (m_X12_isSeason l g _ hs hS) dX12_couldBe_13 (Nat.le_of_ble_eq_true rfl) (fun r13 => ?_)
    refine q_ifneB C 22 dX12_couldBe_16 (by decide) (fun h16 => ?_) (fun h16 => ?_)
    · refine q_iconst C dX12_couldBe_22 ?_
      refine q_istoren C dX12_couldBe_23 hn (by decide) rfl ?_
      refine q_iconst C dX12_couldBe_24 ?_
      refine q_istoren C dX12_couldBe_25 hn (by decide) rfl ?_
      refine q_iconst C dX12_couldBe_26 ?_
      refine q_istore C dX12_couldBe_27 hn (by decide) rfl ?_
      refine q_bipush C dX12_couldBe_29 (by decide) ?_
      refine q_istore C dX12_couldBe_31 hn (by decide) rfl ?_
      have L33 : ∀ (n33 : Nat) (n : Int) (q : Int) (s : Int) (i : Int), i + 1 < (n33 : Int) → (-1 ≤ i ∧ i ≤ 47) → (n = sSum (fun k => qB (sFits (M 35 0 29) (M 70 0) (M 71 0) (sd 0 0) k = true)) 48 - sSum (fun k => qB (sFits (M 35 0 29) (M 70 0) (M 71 0) (sd 0 0) k = true)) (i + 1)) → (0 ≤ n ∧ n ≤ 47 - i) → (q = sFr (fun k => sFits (M 35 0 29) (M 70 0) (M 71 0) (sd 0 0) k) 48 (i + 1)) → (-1 ≤ q ∧ q ≤ 47) → (qOr (sOr (fun k => if sFits (M 35 0 29) (M 70 0) (M 71 0) (sd 0 0) k = true then qShl 1 (sMean k) else 0) (i + 1)) s = sOr (fun k => if sFits (M 35 0 29) (M 70 0) (M 71 0) (sd 0 0) k = true then qShl 1 (sMean k) else 0) 48) → (qIn s) → qV l g X M 33 [(0, qR g 35 0), (1, qI w), (2, qI n), (3, qI q), (4, qI s), (5, qI i)] [] := by
        intro n33
        induction n33 with
        | zero => intro n q s i hm33 i0 ik ikb iq iqb io isb; exfalso; first | omega | (simp at *; omega)
        | succ n33 ih33 =>
          intro n q s i hm33 i0 ik ikb iq iqb io isb
          have fs := fun z : 0 ≤ i => sSum_s (fun k => qB (sFits (M 35 0 29) (M 70 0) (M 71 0) (sd 0 0) k = true)) z
          have fo := fun z : 0 ≤ i => sOr_s (fun k => if sFits (M 35 0 29) (M 70 0) (M 71 0) (sd 0 0) k = true then qShl 1 (sMean k) else 0) z
          refine q_iload C dX12_couldBe_33 rfl ?_
          refine q_if_lt C 71 dX12_couldBe_35 (by decide) (by first | assumption | omega | exact q_tin _ | exact q_bIn _) (fun h35 => ?_) (fun h35 => ?_)
          · refine q_iloadn C dX12_couldBe_71 rfl ?_
            refine q_if_ne C 79 dX12_couldBe_72 (by decide) (by first | assumption | omega | exact q_tin _ | exact q_bIn _) (fun h72 => ?_) (fun h72 => ?_)
            · refine q_iloadn C dX12_couldBe_79 rfl ?_
              refine q_iconst C dX12_couldBe_80 ?_
              refine q_icmp_ne C 88 dX12_couldBe_81 (by decide) (by first | assumption | omega | exact q_tin _ | exact q_bIn _) (by first | assumption | omega | exact q_tin _ | exact q_bIn _) (fun h81 => ?_) (fun h81 => ?_)
              · refine q_iload C dX12_couldBe_88 rfl ?_
                refine q_iret C' dX12_couldBe_90 (by first | assumption | omega | exact q_tin _ | exact q_bIn _) ?_
                have e9 : i = -1 := (by omega)
                rw [e9] at ik iq io
                rw [show (-1 : Int) + 1 = 0 by omega] at ik iq io
                rw [sSum_0] at ik
                rw [sOr_0, q_orC, q_or0 isb] at io
                refine ⟨congrArg some ?_, rfl⟩
                unfold sCould
                first | (rw [if_pos (by omega), if_neg (by omega), if_pos (by omega)]; omega) | (rw [if_pos (by omega), if_neg (by omega), if_neg (by omega), if_pos (by omega)]; exact iq) | (rw [if_pos (by omega), if_neg (by omega), if_neg (by omega), if_neg (by omega)]; exact io)
              · refine q_iloadn C dX12_couldBe_84 rfl ?_
                refine q_goto C (tgt := 90) dX12_couldBe_85 (by decide) ?_
                refine q_iret C' dX12_couldBe_90 (by first | assumption | omega | exact q_tin _ | exact q_bIn _) ?_
                have e9 : i = -1 := (by omega)
                rw [e9] at ik iq io
                rw [show (-1 : Int) + 1 = 0 by omega] at ik iq io
                rw [sSum_0] at ik
                rw [sOr_0, q_orC, q_or0 isb] at io
                refine ⟨congrArg some ?_, rfl⟩
                unfold sCould
                first | (rw [if_pos (by omega), if_neg (by omega), if_pos (by omega)]; omega) | (rw [if_pos (by omega), if_neg (by omega), if_neg (by omega), if_pos (by omega)]; exact iq) | (rw [if_pos (by omega), if_neg (by omega), if_neg (by omega), if_neg (by omega)]; exact io)
            · refine q_iloadn C dX12_couldBe_75 rfl ?_
              refine q_goto C (tgt := 90) dX12_couldBe_76 (by decide) ?_
              refine q_iret C' dX12_couldBe_90 (by first | assumption | omega | exact q_tin _ | exact q_bIn _) ?_
              have e9 : i = -1 := (by omega)
              rw [e9] at ik iq io
              rw [show (-1 : Int) + 1 = 0 by omega] at ik iq io
              rw [sSum_0] at ik
              rw [sOr_0, q_orC, q_or0 isb] at io
              refine ⟨congrArg some ?_, rfl⟩
              unfold sCould
              first | (rw [if_pos (by omega), if_neg (by omega), if_pos (by omega)]; omega) | (rw [if_pos (by omega), if_neg (by omega), if_neg (by omega), if_pos (by omega)]; exact iq) | (rw [if_pos (by omega), if_neg (by omega), if_neg (by omega), if_neg (by omega)]; exact io)
          · refine q_aloadn C dX12_couldBe_38 rfl ?_
            refine q_iload C dX12_couldBe_39 rfl ?_
            refine cv_RX12_288 C (by decide) (m_X12_couldBeSo l g _ hs hS hsn hsb (by omega) (by omega)) dX12_couldBe_41 (Nat.le_of_ble_eq_true rfl) (fun r41 => ?_)
            refine q_ifeqB C 65 dX12_couldBe_44 (by decide) (fun h44 => ?_) (fun h44 => ?_)
            · refine q_iinc C dX12_couldBe_65 rfl hn (by decide) rfl ?_
              refine q_goto C (tgt := 33) dX12_couldBe_68 (by decide) ?_
              exact q_ls (by exact ⟨rfl, rfl, rfl, rfl, rfl, rfl, trivial⟩) (ih33 _ _ _ _ (by omega) (by omega) (by have e := fs (by omega); rw [show i + -1 + 1 = i by omega]; first | (rw [q_bT h44] at e; omega) | (rw [q_bF h44] at e; omega)) (by omega) (by rw [show i + -1 + 1 = i by omega, sFr_s _ (by omega)]; first | (rw [if_pos h44]; done) | (rw [if_neg h44]; exact iq)) (by omega) (by have e := fo (by omega); rw [show i + -1 + 1 = i by omega]; first | (rw [if_pos h44] at e; rw [← io, e, q_orA, q_orC s]; done) | (rw [if_neg h44, q_or0 (sOr_in _ _)] at e; rw [← io, e]; done)) (by first | assumption | exact q_tin _))
            · refine q_iinc C dX12_couldBe_47 rfl hn (by decide) rfl ?_
              refine q_iload C dX12_couldBe_50 rfl ?_
              refine q_istoren C dX12_couldBe_52 hn (by decide) rfl ?_
              refine q_iload C dX12_couldBe_53 rfl ?_
              refine q_iconst C dX12_couldBe_55 ?_
              refine q_iload C dX12_couldBe_56 rfl ?_
              refine cv_RX12_172 C (by decide) (m_X12_meaning l g _ (by omega)) dX12_couldBe_58 (Nat.le_of_ble_eq_true rfl) (fun r58 => ?_)
              refine q_ishl C dX12_couldBe_61 ?_
              refine q_ior C dX12_couldBe_62 ?_
              refine q_istore C dX12_couldBe_63 hn (by decide) rfl ?_
              refine q_iinc C dX12_couldBe_65 rfl hn (by decide) rfl ?_
              refine q_goto C (tgt := 33) dX12_couldBe_68 (by decide) ?_
              exact q_ls (by exact ⟨rfl, rfl, rfl, rfl, rfl, rfl, trivial⟩) (ih33 _ _ _ _ (by omega) (by omega) (by have e := fs (by omega); rw [show i + -1 + 1 = i by omega]; first | (rw [q_bT h44] at e; omega) | (rw [q_bF h44] at e; omega)) (by omega) (by rw [show i + -1 + 1 = i by omega, sFr_s _ (by omega)]; first | (rw [if_pos h44]; done) | (rw [if_neg h44]; exact iq)) (by omega) (by have e := fo (by omega); rw [show i + -1 + 1 = i by omega]; first | (rw [if_pos h44] at e; rw [← io, e, q_orA, q_orC s]; done) | (rw [if_neg h44, q_or0 (sOr_in _ _)] at e; rw [← io, e]; done)) (by first | assumption | exact q_tin _))
      exact q_ls (by exact ⟨rfl, rfl, rfl, rfl, rfl, rfl, trivial⟩) (L33 1000 _ _ _ _ (by omega) (by omega) (by rw [show (47 : Int) + 1 = 48 by omega]; omega) (by omega) (by rw [show (47 : Int) + 1 = 48 by omega, sFr_e]) (by omega) (by rw [show (47 : Int) + 1 = 48 by omega, q_or0 (sOr_in _ _)]) (by omega))
    · refine q_ldc C (z := -1000000003) q_ci_RX12_224 (by decide) dX12_couldBe_19 ?_
      refine q_iret C' dX12_couldBe_21 (by first | assumption | omega | exact q_tin _ | exact q_bIn _) ?_
      refine ⟨congrArg some ?_, rfl⟩
      unfold sCould
      rw [if_pos (by omega), if_pos (by omega)]
  · refine q_ldc C (z := -1000000002) q_ci_RX12_89 (by decide) dX12_couldBe_9 ?_
    refine q_iret C' dX12_couldBe_11 (by first | assumption | omega | exact q_tin _ | exact q_bIn _) ?_
    refine ⟨congrArg some ?_, rfl⟩
    unfold sCould
    rw [if_neg (by omega)]
