theorem dX12_signs_0 : decode cX12_signs 0 = .ok (.aload_n 0, 1) := by decide +kernel
theorem dX12_signs_1 : decode cX12_signs 1 = .ok (.iload_n 1, 1) := by decide +kernel
theorem dX12_signs_2 : decode cX12_signs 2 = .ok (.iload_n 2, 1) := by decide +kernel
theorem dX12_signs_3 : decode cX12_signs 3 = .ok (.invokevirtual 218, 3) := by decide +kernel
theorem dX12_signs_6 : decode cX12_signs 6 = .ok (.ifCond .ne 6, 3) := by decide +kernel
theorem dX12_signs_9 : decode cX12_signs 9 = .ok (.ldc 214, 2) := by decide +kernel
theorem dX12_signs_11 : decode cX12_signs 11 = .ok (.ireturn, 1) := by decide +kernel
theorem dX12_signs_12 : decode cX12_signs 12 = .ok (.iload_n 3, 1) := by decide +kernel
theorem dX12_signs_13 : decode cX12_signs 13 = .ok (.iconst 0, 1) := by decide +kernel
theorem dX12_signs_14 : decode cX12_signs 14 = .ok (.iconst 2, 1) := by decide +kernel
theorem dX12_signs_15 : decode cX12_signs 15 = .ok (.invokestatic 85, 3) := by decide +kernel
theorem dX12_signs_18 : decode cX12_signs 18 = .ok (.ifCond .ne 6, 3) := by decide +kernel
theorem dX12_signs_21 : decode cX12_signs 21 = .ok (.ldc 89, 2) := by decide +kernel
theorem dX12_signs_23 : decode cX12_signs 23 = .ok (.ireturn, 1) := by decide +kernel
theorem dX12_signs_24 : decode cX12_signs 24 = .ok (.iconst 0, 1) := by decide +kernel
theorem dX12_signs_25 : decode cX12_signs 25 = .ok (.istore 4, 2) := by decide +kernel
theorem dX12_signs_27 : decode cX12_signs 27 = .ok (.iconst (-1), 1) := by decide +kernel
theorem dX12_signs_28 : decode cX12_signs 28 = .ok (.istore 5, 2) := by decide +kernel
theorem dX12_signs_30 : decode cX12_signs 30 = .ok (.iconst (-1), 1) := by decide +kernel
theorem dX12_signs_31 : decode cX12_signs 31 = .ok (.istore 6, 2) := by decide +kernel
theorem dX12_signs_33 : decode cX12_signs 33 = .ok (.bipush 47, 2) := by decide +kernel
theorem dX12_signs_35 : decode cX12_signs 35 = .ok (.istore 7, 2) := by decide +kernel
theorem dX12_signs_37 : decode cX12_signs 37 = .ok (.iload 7, 2) := by decide +kernel
theorem dX12_signs_39 : decode cX12_signs 39 = .ok (.ifCond .lt 70, 3) := by decide +kernel
theorem dX12_signs_42 : decode cX12_signs 42 = .ok (.aload_n 0, 1) := by decide +kernel
theorem dX12_signs_43 : decode cX12_signs 43 = .ok (.iload_n 1, 1) := by decide +kernel
theorem dX12_signs_44 : decode cX12_signs 44 = .ok (.iload_n 2, 1) := by decide +kernel
theorem dX12_signs_45 : decode cX12_signs 45 = .ok (.iload 7, 2) := by decide +kernel
theorem dX12_signs_47 : decode cX12_signs 47 = .ok (.invokevirtual 228, 3) := by decide +kernel
theorem dX12_signs_50 : decode cX12_signs 50 = .ok (.ifCond .le 53, 3) := by decide +kernel
theorem dX12_signs_53 : decode cX12_signs 53 = .ok (.iinc 4 1, 3) := by decide +kernel
theorem dX12_signs_56 : decode cX12_signs 56 = .ok (.iload 5, 2) := by decide +kernel
theorem dX12_signs_58 : decode cX12_signs 58 = .ok (.iconst (-1), 1) := by decide +kernel
theorem dX12_signs_59 : decode cX12_signs 59 = .ok (.if_icmp .eq 16, 3) := by decide +kernel
theorem dX12_signs_62 : decode cX12_signs 62 = .ok (.iload 7, 2) := by decide +kernel
theorem dX12_signs_64 : decode cX12_signs 64 = .ok (.invokestatic 269, 3) := by decide +kernel
theorem dX12_signs_67 : decode cX12_signs 67 = .ok (.iload 5, 2) := by decide +kernel
theorem dX12_signs_69 : decode cX12_signs 69 = .ok (.invokestatic 269, 3) := by decide +kernel
theorem dX12_signs_72 : decode cX12_signs 72 = .ok (.if_icmp .gt 8, 3) := by decide +kernel
theorem dX12_signs_75 : decode cX12_signs 75 = .ok (.iload 7, 2) := by decide +kernel
theorem dX12_signs_77 : decode cX12_signs 77 = .ok (.goto 5, 3) := by decide +kernel
theorem dX12_signs_80 : decode cX12_signs 80 = .ok (.iload 5, 2) := by decide +kernel
theorem dX12_signs_82 : decode cX12_signs 82 = .ok (.istore 5, 2) := by decide +kernel
theorem dX12_signs_84 : decode cX12_signs 84 = .ok (.aload_n 0, 1) := by decide +kernel
theorem dX12_signs_85 : decode cX12_signs 85 = .ok (.iload_n 1, 1) := by decide +kernel
theorem dX12_signs_86 : decode cX12_signs 86 = .ok (.iload 7, 2) := by decide +kernel
theorem dX12_signs_88 : decode cX12_signs 88 = .ok (.invokevirtual 272, 3) := by decide +kernel
theorem dX12_signs_91 : decode cX12_signs 91 = .ok (.ifCond .eq 8, 3) := by decide +kernel
theorem dX12_signs_94 : decode cX12_signs 94 = .ok (.iload 7, 2) := by decide +kernel
theorem dX12_signs_96 : decode cX12_signs 96 = .ok (.goto 5, 3) := by decide +kernel
theorem dX12_signs_99 : decode cX12_signs 99 = .ok (.iload 6, 2) := by decide +kernel
theorem dX12_signs_101 : decode cX12_signs 101 = .ok (.istore 6, 2) := by decide +kernel
theorem dX12_signs_103 : decode cX12_signs 103 = .ok (.iinc 7 (-1), 3) := by decide +kernel
theorem dX12_signs_106 : decode cX12_signs 106 = .ok (.goto (-69), 3) := by decide +kernel
theorem dX12_signs_109 : decode cX12_signs 109 = .ok (.iload_n 3, 1) := by decide +kernel
theorem dX12_signs_110 : decode cX12_signs 110 = .ok (.ifCond .ne 8, 3) := by decide +kernel
theorem dX12_signs_113 : decode cX12_signs 113 = .ok (.iload 4, 2) := by decide +kernel
theorem dX12_signs_115 : decode cX12_signs 115 = .ok (.goto 15, 3) := by decide +kernel
theorem dX12_signs_118 : decode cX12_signs 118 = .ok (.iload_n 3, 1) := by decide +kernel
theorem dX12_signs_119 : decode cX12_signs 119 = .ok (.iconst 1, 1) := by decide +kernel
theorem dX12_signs_120 : decode cX12_signs 120 = .ok (.if_icmp .ne 8, 3) := by decide +kernel
theorem dX12_signs_123 : decode cX12_signs 123 = .ok (.iload 5, 2) := by decide +kernel
theorem dX12_signs_125 : decode cX12_signs 125 = .ok (.goto 5, 3) := by decide +kernel
theorem dX12_signs_128 : decode cX12_signs 128 = .ok (.iload 6, 2) := by decide +kernel
theorem dX12_signs_130 : decode cX12_signs 130 = .ok (.ireturn, 1) := by decide +kernel
set_option maxRecDepth 4000 in
set_option maxHeartbeats 4000000 in
theorem m_X12_signs (l : Launch) (g : qGm) (M : qMem) {sd : sSD} (hs : sRS sd) (hS : mS M sd) (hv : sRR (sd 4 0) (sd 5 0) (M 61 0)) {c : Int} (hcq : qIn c) {h : Int} (hhq : qIn h) {w : Int} (hwq : qIn w) : qOk l g 6 yX12_signs cX12_signs 8 (some .int) [qR g 35 0, qI c, qI h, qI w] M (qEv (some (sSigns sd (M 61 0) c h w)) M) := by
  refine q_ok (by decide +kernel) (Nat.le_of_ble_eq_true rfl) (fun X C' hn => ?_)
  have C := C'.1
  have km := hs.2.1
  have kn := hs.2.2.1
  have hmn := hs.1
  have w0 := hS.1
  have w1 := hS.2.1
  have w2 := hS.2.2.1
  refine q_aloadn C dX12_signs_0 rfl ?_
  refine q_iloadn C dX12_signs_1 rfl ?_
  refine q_iloadn C dX12_signs_2 rfl ?_
  refine cv_RX12_218 C (by decide) (m_X12_areBoth l g _ hs hS hcq hhq) dX12_signs_3 (Nat.le_of_ble_eq_true rfl) (fun r3 => ?_)
  refine q_ifneB C 12 dX12_signs_6 (by decide) (fun h6 => ?_) (fun h6 => ?_)
  · refine q_iloadn C dX12_signs_12 rfl ?_
    refine q_iconst C dX12_signs_13 ?_
    refine q_iconst C dX12_signs_14 ?_
    refine cv_RX12_85 C (by decide) (m_X12_in l g _ (by omega) (by omega) (by omega)) dX12_signs_15 (Nat.le_of_ble_eq_true rfl) (fun r15 => ?_)
    refine q_ifneB C 24 dX12_signs_18 (by decide) (fun h18 => ?_) (fun h18 => ?_)
    · refine q_iconst C dX12_signs_24 ?_
      refine q_istore C dX12_signs_25 hn (by decide) rfl ?_
      refine q_iconst C dX12_signs_27 ?_
      refine q_istore C dX12_signs_28 hn (by decide) rfl ?_
      refine q_iconst C dX12_signs_30 ?_
      refine q_istore C dX12_signs_31 hn (by decide) rfl ?_
      refine q_bipush C dX12_signs_33 (by decide) ?_
      refine q_istore C dX12_signs_35 hn (by decide) rfl ?_
      have L37 : ∀ (n37 : Nat) (k : Int) (p : Int) (q : Int) (i : Int), i + 1 < (n37 : Int) → (-1 ≤ i ∧ i ≤ 47) → (k = sSum (fun k => qB (sAns sd (M 61 0) c h k ≠ 0)) 48 - sSum (fun k => qB (sAns sd (M 61 0) c h k ≠ 0)) (i + 1)) → (0 ≤ k ∧ k ≤ 47 - i) → (q = sFr (fun k => decide ((sSaid (sd 0 0) k ∧ sMean k = M 61 0 (8 + c)) ∧ sAns sd (M 61 0) c h k ≠ 0)) 48 (i + 1)) → (-1 ≤ q ∧ q ≤ 47) → (plInv (fun k => sPl sd (M 61 0) c h k) i p) → (p = -1 ∨ (i < p ∧ p ≤ 47)) → qV l g X M 37 [(0, qR g 35 0), (1, qI c), (2, qI h), (3, qI w), (4, qI k), (5, qI p), (6, qI q), (7, qI i)] [] := by
        intro n37
        induction n37 with
        | zero => intro k p q i hm37 i0 ik ikb iq iqb ip ipb; exfalso; first | omega | (simp at *; omega)
        | succ n37 ih37 =>
          intro k p q i hm37 i0 ik ikb iq iqb ip ipb
          have fs := fun z : 0 ≤ i => sSum_s (fun k => qB (sAns sd (M 61 0) c h k ≠ 0)) z
          have fz := q_bz (sAns sd (M 61 0) c h i ≠ 0)
          have an := sAns_in sd (M 61 0) c h i
          have ps := fun z : 0 ≤ i => plSt ip ⟨z, i0.2⟩
          have pi := sParts_in i
          have pp := sParts_in p
          have fi : sAns sd (M 61 0) c h i ≠ 0 ∧ sPl sd (M 61 0) c h i = - sParts i ∨ sAns sd (M 61 0) c h i = 0 ∧ sPl sd (M 61 0) c h i = -100 := by unfold sPl; by_cases z : sAns sd (M 61 0) c h i = 0 <;> simp [z]
          have fp : p = -1 ∨ sPl sd (M 61 0) c h p = - sParts p := by
            rcases ip with ⟨z, -⟩ | ⟨-, z, -⟩
            · exact Or.inl z
            · refine Or.inr ?_
              have z2 : -50 < sPl sd (M 61 0) c h p := z
              revert z2; unfold sPl; split <;> omega
          refine q_iload C dX12_signs_37 rfl ?_
          refine q_if_lt C 109 dX12_signs_39 (by decide) (by first | assumption | omega | exact q_tin _ | exact q_bIn _) (fun h39 => ?_) (fun h39 => ?_)
          · refine q_iloadn C dX12_signs_109 rfl ?_
            refine q_if_ne C 118 dX12_signs_110 (by decide) (by first | assumption | omega | exact q_tin _ | exact q_bIn _) (fun h110 => ?_) (fun h110 => ?_)
            · refine q_iloadn C dX12_signs_118 rfl ?_
              refine q_iconst C dX12_signs_119 ?_
              refine q_icmp_ne C 128 dX12_signs_120 (by decide) (by first | assumption | omega | exact q_tin _ | exact q_bIn _) (by first | assumption | omega | exact q_tin _ | exact q_bIn _) (fun h120 => ?_) (fun h120 => ?_)
              · refine q_iload C dX12_signs_128 rfl ?_
                refine q_iret C' dX12_signs_130 (by first | assumption | omega | exact q_tin _ | exact q_bIn _) ?_
                have e9 : i = -1 := (by omega)
                rw [e9] at ik iq ip
                rw [show (-1 : Int) + 1 = 0 by omega] at ik iq
                rw [sSum_0] at ik
                have e8 := plEnd ip
                refine ⟨congrArg some ?_, rfl⟩
                unfold sSigns
                first | (rw [if_pos (by omega), if_pos (by omega)]; omega) | (rw [if_pos (by omega), if_neg (by omega), if_pos (by omega)]; exact e8) | (rw [if_pos (by omega), if_neg (by omega), if_neg (by omega), if_pos (by omega)]; exact iq)
              · refine q_iload C dX12_signs_123 rfl ?_
                refine q_goto C (tgt := 130) dX12_signs_125 (by decide) ?_
                refine q_iret C' dX12_signs_130 (by first | assumption | omega | exact q_tin _ | exact q_bIn _) ?_
                have e9 : i = -1 := (by omega)
                rw [e9] at ik iq ip
                rw [show (-1 : Int) + 1 = 0 by omega] at ik iq
                rw [sSum_0] at ik
                have e8 := plEnd ip
                refine ⟨congrArg some ?_, rfl⟩
                unfold sSigns
                first | (rw [if_pos (by omega), if_pos (by omega)]; omega) | (rw [if_pos (by omega), if_neg (by omega), if_pos (by omega)]; exact e8) | (rw [if_pos (by omega), if_neg (by omega), if_neg (by omega), if_pos (by omega)]; exact iq)
            · refine q_iload C dX12_signs_113 rfl ?_
              refine q_goto C (tgt := 130) dX12_signs_115 (by decide) ?_
              refine q_iret C' dX12_signs_130 (by first | assumption | omega | exact q_tin _ | exact q_bIn _) ?_
              have e9 : i = -1 := (by omega)
              rw [e9] at ik iq ip
              rw [show (-1 : Int) + 1 = 0 by omega] at ik iq
              rw [sSum_0] at ik
              have e8 := plEnd ip
              refine ⟨congrArg some ?_, rfl⟩
              unfold sSigns
              first | (rw [if_pos (by omega), if_pos (by omega)]; omega) | (rw [if_pos (by omega), if_neg (by omega), if_pos (by omega)]; exact e8) | (rw [if_pos (by omega), if_neg (by omega), if_neg (by omega), if_pos (by omega)]; exact iq)
          · refine q_aloadn C dX12_signs_42 rfl ?_
            refine q_iloadn C dX12_signs_43 rfl ?_
            refine q_iloadn C dX12_signs_44 rfl ?_
            refine q_iload C dX12_signs_45 rfl ?_
            refine cv_RX12_228 C (by decide) (m_X12_answer l g _ hs hS hv (by omega) (by omega) (by omega)) dX12_signs_47 (Nat.le_of_ble_eq_true rfl) (fun r47 => ?_)
            refine q_if_le C 103 dX12_signs_50 (by decide) (by first | assumption | omega | exact q_tin _ | exact q_bIn _) (fun h50 => ?_) (fun h50 => ?_)
            · refine q_iinc C dX12_signs_103 rfl hn (by decide) rfl ?_
              refine q_goto C (tgt := 37) dX12_signs_106 (by decide) ?_
              exact q_ls (by exact ⟨rfl, rfl, rfl, rfl, rfl, rfl, rfl, rfl, trivial⟩) (ih37 _ _ _ _ (by omega) (by omega) (by have := fs (by omega); rw [show i + -1 + 1 = i by omega]; omega) (by omega) (by rw [show i + -1 + 1 = i by omega, sFr_s _ (by omega)]; first | (rw [if_pos (decide_eq_true ⟨h91, by omega⟩)]; done) | (rw [if_neg (fun e => h91 (of_decide_eq_true e).1)]; exact iq) | (rw [if_neg (fun e => (of_decide_eq_true e).2 (by omega))]; exact iq)) (by omega) (by first | exact (ps (by omega)).1 (by omega) | exact (ps (by omega)).2.1 (by omega) (by omega) | exact (ps (by omega)).2.2 (by omega) (by omega) | (exfalso; omega)) (by omega))
            · refine q_iinc C dX12_signs_53 rfl hn (by decide) rfl ?_
              refine q_iload C dX12_signs_56 rfl ?_
              refine q_iconst C dX12_signs_58 ?_
              refine q_icmp_eq C 75 dX12_signs_59 (by decide) (by first | assumption | omega | exact q_tin _ | exact q_bIn _) (by first | assumption | omega | exact q_tin _ | exact q_bIn _) (fun h59 => ?_) (fun h59 => ?_)
              · refine q_iload C dX12_signs_75 rfl ?_
                refine q_goto C (tgt := 82) dX12_signs_77 (by decide) ?_
                refine q_istore C dX12_signs_82 hn (by decide) rfl ?_
                refine q_aloadn C dX12_signs_84 rfl ?_
                refine q_iloadn C dX12_signs_85 rfl ?_
                refine q_iload C dX12_signs_86 rfl ?_
                refine cv_RX12_272 C (by decide) (m_X12_isHonest l g _ hs hS hv (by omega) (by omega)) dX12_signs_88 (Nat.le_of_ble_eq_true rfl) (fun r88 => ?_)
                refine q_ifeqB C 99 dX12_signs_91 (by decide) (fun h91 => ?_) (fun h91 => ?_)
                · refine q_iload C dX12_signs_99 rfl ?_
                  refine q_istore C dX12_signs_101 hn (by decide) rfl ?_
                  refine q_iinc C dX12_signs_103 rfl hn (by decide) rfl ?_
                  refine q_goto C (tgt := 37) dX12_signs_106 (by decide) ?_
                  exact q_ls (by exact ⟨rfl, rfl, rfl, rfl, rfl, rfl, rfl, rfl, trivial⟩) (ih37 _ _ _ _ (by omega) (by omega) (by have := fs (by omega); rw [show i + -1 + 1 = i by omega]; omega) (by omega) (by rw [show i + -1 + 1 = i by omega, sFr_s _ (by omega)]; first | (rw [if_pos (decide_eq_true ⟨h91, by omega⟩)]; done) | (rw [if_neg (fun e => h91 (of_decide_eq_true e).1)]; exact iq) | (rw [if_neg (fun e => (of_decide_eq_true e).2 (by omega))]; exact iq)) (by omega) (by first | exact (ps (by omega)).1 (by omega) | exact (ps (by omega)).2.1 (by omega) (by omega) | exact (ps (by omega)).2.2 (by omega) (by omega) | (exfalso; omega)) (by omega))
                · refine q_iload C dX12_signs_94 rfl ?_
                  refine q_goto C (tgt := 101) dX12_signs_96 (by decide) ?_
                  refine q_istore C dX12_signs_101 hn (by decide) rfl ?_
                  refine q_iinc C dX12_signs_103 rfl hn (by decide) rfl ?_
                  refine q_goto C (tgt := 37) dX12_signs_106 (by decide) ?_
                  exact q_ls (by exact ⟨rfl, rfl, rfl, rfl, rfl, rfl, rfl, rfl, trivial⟩) (ih37 _ _ _ _ (by omega) (by omega) (by have := fs (by omega); rw [show i + -1 + 1 = i by omega]; omega) (by omega) (by rw [show i + -1 + 1 = i by omega, sFr_s _ (by omega)]; first | (rw [if_pos (decide_eq_true ⟨h91, by omega⟩)]; done) | (rw [if_neg (fun e => h91 (of_decide_eq_true e).1)]; exact iq) | (rw [if_neg (fun e => (of_decide_eq_true e).2 (by omega))]; exact iq)) (by omega) (by first | exact (ps (by omega)).1 (by omega) | exact (ps (by omega)).2.1 (by omega) (by omega) | exact (ps (by omega)).2.2 (by omega) (by omega) | (exfalso; omega)) (by omega))
              · refine q_iload C dX12_signs_62 rfl ?_
                refine cv_RX12_269 C (by decide) (m_X12_partsOf l g _ (by omega)) dX12_signs_64 (Nat.le_of_ble_eq_true rfl) (fun r64 => ?_)
                refine q_iload C dX12_signs_67 rfl ?_
                refine cv_RX12_269 C (by decide) (m_X12_partsOf l g _ (by omega)) dX12_signs_69 (Nat.le_of_ble_eq_true rfl) (fun r69 => ?_)
                refine q_icmp_gt C 80 dX12_signs_72 (by decide) (by first | assumption | omega | exact q_tin _ | exact q_bIn _) (by first | assumption | omega | exact q_tin _ | exact q_bIn _) (fun h72 => ?_) (fun h72 => ?_)
                · refine q_iload C dX12_signs_80 rfl ?_
                  refine q_istore C dX12_signs_82 hn (by decide) rfl ?_
                  refine q_aloadn C dX12_signs_84 rfl ?_
                  refine q_iloadn C dX12_signs_85 rfl ?_
                  refine q_iload C dX12_signs_86 rfl ?_
                  refine cv_RX12_272 C (by decide) (m_X12_isHonest l g _ hs hS hv (by omega) (by omega)) dX12_signs_88 (Nat.le_of_ble_eq_true rfl) (fun r88 => ?_)
                  refine q_ifeqB C 99 dX12_signs_91 (by decide) (fun h91 => ?_) (fun h91 => ?_)
                  · refine q_iload C dX12_signs_99 rfl ?_
                    refine q_istore C dX12_signs_101 hn (by decide) rfl ?_
                    refine q_iinc C dX12_signs_103 rfl hn (by decide) rfl ?_
                    refine q_goto C (tgt := 37) dX12_signs_106 (by decide) ?_
                    exact q_ls (by exact ⟨rfl, rfl, rfl, rfl, rfl, rfl, rfl, rfl, trivial⟩) (ih37 _ _ _ _ (by omega) (by omega) (by have := fs (by omega); rw [show i + -1 + 1 = i by omega]; omega) (by omega) (by rw [show i + -1 + 1 = i by omega, sFr_s _ (by omega)]; first | (rw [if_pos (decide_eq_true ⟨h91, by omega⟩)]; done) | (rw [if_neg (fun e => h91 (of_decide_eq_true e).1)]; exact iq) | (rw [if_neg (fun e => (of_decide_eq_true e).2 (by omega))]; exact iq)) (by omega) (by first | exact (ps (by omega)).1 (by omega) | exact (ps (by omega)).2.1 (by omega) (by omega) | exact (ps (by omega)).2.2 (by omega) (by omega) | (exfalso; omega)) (by omega))
                  · refine q_iload C dX12_signs_94 rfl ?_
                    refine q_goto C (tgt := 101) dX12_signs_96 (by decide) ?_
                    refine q_istore C dX12_signs_101 hn (by decide) rfl ?_
                    refine q_iinc C dX12_signs_103 rfl hn (by decide) rfl ?_
                    refine q_goto C (tgt := 37) dX12_signs_106 (by decide) ?_
                    exact q_ls (by exact ⟨rfl, rfl, rfl, rfl, rfl, rfl, rfl, rfl, trivial⟩) (ih37 _ _ _ _ (by omega) (by omega) (by have := fs (by omega); rw [show i + -1 + 1 = i by omega]; omega) (by omega) (by rw [show i + -1 + 1 = i by omega, sFr_s _ (by omega)]; first | (rw [if_pos (decide_eq_true ⟨h91, by omega⟩)]; done) | (rw [if_neg (fun e => h91 (of_decide_eq_true e).1)]; exact iq) | (rw [if_neg (fun e => (of_decide_eq_true e).2 (by omega))]; exact iq)) (by omega) (by first | exact (ps (by omega)).1 (by omega) | exact (ps (by omega)).2.1 (by omega) (by omega) | exact (ps (by omega)).2.2 (by omega) (by omega) | (exfalso; omega)) (by omega))
                · refine q_iload C dX12_signs_75 rfl ?_
                  refine q_goto C (tgt := 82) dX12_signs_77 (by decide) ?_
                  refine q_istore C dX12_signs_82 hn (by decide) rfl ?_
                  refine q_aloadn C dX12_signs_84 rfl ?_
                  refine q_iloadn C dX12_signs_85 rfl ?_
                  refine q_iload C dX12_signs_86 rfl ?_
                  refine cv_RX12_272 C (by decide) (m_X12_isHonest l g _ hs hS hv (by omega) (by omega)) dX12_signs_88 (Nat.le_of_ble_eq_true rfl) (fun r88 => ?_)
                  refine q_ifeqB C 99 dX12_signs_91 (by decide) (fun h91 => ?_) (fun h91 => ?_)
                  · refine q_iload C dX12_signs_99 rfl ?_
                    refine q_istore C dX12_signs_101 hn (by decide) rfl ?_
                    refine q_iinc C dX12_signs_103 rfl hn (by decide) rfl ?_
                    refine q_goto C (tgt := 37) dX12_signs_106 (by decide) ?_
                    exact q_ls (by exact ⟨rfl, rfl, rfl, rfl, rfl, rfl, rfl, rfl, trivial⟩) (ih37 _ _ _ _ (by omega) (by omega) (by have := fs (by omega); rw [show i + -1 + 1 = i by omega]; omega) (by omega) (by rw [show i + -1 + 1 = i by omega, sFr_s _ (by omega)]; first | (rw [if_pos (decide_eq_true ⟨h91, by omega⟩)]; done) | (rw [if_neg (fun e => h91 (of_decide_eq_true e).1)]; exact iq) | (rw [if_neg (fun e => (of_decide_eq_true e).2 (by omega))]; exact iq)) (by omega) (by first | exact (ps (by omega)).1 (by omega) | exact (ps (by omega)).2.1 (by omega) (by omega) | exact (ps (by omega)).2.2 (by omega) (by omega) | (exfalso; omega)) (by omega))
                  · refine q_iload C dX12_signs_94 rfl ?_
                    refine q_goto C (tgt := 101) dX12_signs_96 (by decide) ?_
                    refine q_istore C dX12_signs_101 hn (by decide) rfl ?_
                    refine q_iinc C dX12_signs_103 rfl hn (by decide) rfl ?_
                    refine q_goto C (tgt := 37) dX12_signs_106 (by decide) ?_
                    exact q_ls (by exact ⟨rfl, rfl, rfl, rfl, rfl, rfl, rfl, rfl, trivial⟩) (ih37 _ _ _ _ (by omega) (by omega) (by have := fs (by omega); rw [show i + -1 + 1 = i by omega]; omega) (by omega) (by rw [show i + -1 + 1 = i by omega, sFr_s _ (by omega)]; first | (rw [if_pos (decide_eq_true ⟨h91, by omega⟩)]; done) | (rw [if_neg (fun e => h91 (of_decide_eq_true e).1)]; exact iq) | (rw [if_neg (fun e => (of_decide_eq_true e).2 (by omega))]; exact iq)) (by omega) (by first | exact (ps (by omega)).1 (by omega) | exact (ps (by omega)).2.1 (by omega) (by omega) | exact (ps (by omega)).2.2 (by omega) (by omega) | (exfalso; omega)) (by omega))
      exact q_ls (by exact ⟨rfl, rfl, rfl, rfl, rfl, rfl, rfl, rfl, trivial⟩) (L37 1000 _ _ _ _ (by omega) (by omega) (by rw [show (47 : Int) + 1 = 48 by omega]; omega) (by omega) (by rw [show (47 : Int) + 1 = 48 by omega, sFr_e]) (by omega) (by exact Or.inl ⟨rfl, fun j a b => by omega⟩) (by omega))
    · refine q_ldc C (z := -1000000002) q_ci_RX12_89 (by decide) dX12_signs_21 ?_
      refine q_iret C' dX12_signs_23 (by first | assumption | omega | exact q_tin _ | exact q_bIn _) ?_
      refine ⟨congrArg some ?_, rfl⟩
      unfold sSigns
      rw [if_pos (by omega), if_neg (by omega), if_neg (by omega), if_neg (by omega)]
  · refine q_ldc C (z := -1000000001) q_ci_RX12_214 (by decide) dX12_signs_9 ?_
    refine q_iret C' dX12_signs_11 (by first | assumption | omega | exact q_tin _ | exact q_bIn _) ?_
    refine ⟨congrArg some ?_, rfl⟩
    unfold sSigns
    rw [if_neg (by omega)]
