theorem dX12_prize_0 : decode cX12_prize 0 = .ok (.aload_n 0, 1) := by decide +kernel
theorem dX12_prize_1 : decode cX12_prize 1 = .ok (.iload_n 1, 1) := by decide +kernel
theorem dX12_prize_2 : decode cX12_prize 2 = .ok (.invokevirtual 165, 3) := by decide +kernel
theorem dX12_prize_5 : decode cX12_prize 5 = .ok (.ifCond .ne 8, 3) := by decide +kernel
theorem dX12_prize_8 : decode cX12_prize 8 = .ok (.ldc 214, 2) := by decide +kernel
theorem dX12_prize_10 : decode cX12_prize 10 = .ok (.goto 29, 3) := by decide +kernel
theorem dX12_prize_13 : decode cX12_prize 13 = .ok (.iload_n 2, 1) := by decide +kernel
theorem dX12_prize_14 : decode cX12_prize 14 = .ok (.iconst 0, 1) := by decide +kernel
theorem dX12_prize_15 : decode cX12_prize 15 = .ok (.bipush 7, 2) := by decide +kernel
theorem dX12_prize_17 : decode cX12_prize 17 = .ok (.invokestatic 85, 3) := by decide +kernel
theorem dX12_prize_20 : decode cX12_prize 20 = .ok (.ifCond .ne 8, 3) := by decide +kernel
theorem dX12_prize_23 : decode cX12_prize 23 = .ok (.ldc 89, 2) := by decide +kernel
theorem dX12_prize_25 : decode cX12_prize 25 = .ok (.goto 14, 3) := by decide +kernel
theorem dX12_prize_28 : decode cX12_prize 28 = .ok (.aload_n 0, 1) := by decide +kernel
theorem dX12_prize_29 : decode cX12_prize 29 = .ok (.getfield 44, 3) := by decide +kernel
theorem dX12_prize_32 : decode cX12_prize 32 = .ok (.bipush 8, 2) := by decide +kernel
theorem dX12_prize_34 : decode cX12_prize 34 = .ok (.iload_n 1, 1) := by decide +kernel
theorem dX12_prize_35 : decode cX12_prize 35 = .ok (.imul, 1) := by decide +kernel
theorem dX12_prize_36 : decode cX12_prize 36 = .ok (.iload_n 2, 1) := by decide +kernel
theorem dX12_prize_37 : decode cX12_prize 37 = .ok (.iadd, 1) := by decide +kernel
theorem dX12_prize_38 : decode cX12_prize 38 = .ok (.iaload, 1) := by decide +kernel
theorem dX12_prize_39 : decode cX12_prize 39 = .ok (.ireturn, 1) := by decide +kernel
set_option maxRecDepth 4000 in
set_option maxHeartbeats 4000000 in
theorem m_X12_prize (l : Launch) (g : qGm) (M : qMem) {sd : sSD} (hs : sRS sd) (hS : mS M sd) {h : Int} (hhq : qIn h) {k : Int} (hkq : qIn k) : qOk l g 3 yX12_prize cX12_prize 3 (some .int) [qR g 35 0, qI h, qI k] M (qEv (some (sPrize sd h k)) M) := by
  refine q_ok (by decide +kernel) (Nat.le_of_ble_eq_true rfl) (fun X C' hn => ?_)
  have C := C'.1
  have km := hs.2.1
  have kn := hs.2.2.1
  have hmn := hs.1
  have w0 := hS.1
  have w1 := hS.2.1
  have w2 := hS.2.2.1
  have e5 := fun q : (0 ≤ h ∧ h < sd 5 0) ∧ (0 ≤ k ∧ k ≤ 7) => hS.2.2.2.2.2 (8 * h + k) (by omega) (by omega)
  refine q_aloadn C dX12_prize_0 rfl ?_
  refine q_iloadn C dX12_prize_1 rfl ?_
  refine cv_RX12_165 C (by decide) (m_X12_isHouse l g _ hs hS hhq) dX12_prize_2 (Nat.le_of_ble_eq_true rfl) (fun r2 => ?_)
  refine q_ifneB C 13 dX12_prize_5 (by decide) (fun h5 => ?_) (fun h5 => ?_)
  · refine q_iloadn C dX12_prize_13 rfl ?_
    refine q_iconst C dX12_prize_14 ?_
    refine q_bipush C dX12_prize_15 (by decide) ?_
    refine cv_RX12_85 C (by decide) (m_X12_in l g _ (by omega) (by omega) (by omega)) dX12_prize_17 (Nat.le_of_ble_eq_true rfl) (fun r17 => ?_)
    refine q_ifneB C 28 dX12_prize_20 (by decide) (fun h20 => ?_) (fun h20 => ?_)
    · refine q_aloadn C dX12_prize_28 rfl ?_
      refine gf_RX12_44 C dX12_prize_29 ?_
      refine q_bipush C dX12_prize_32 (by decide) ?_
      refine q_iloadn C dX12_prize_34 rfl ?_
      refine q_imul C dX12_prize_35 ?_
      refine q_iloadn C dX12_prize_36 rfl ?_
      refine q_iadd C dX12_prize_37 ?_
      refine q_iald C (by first | assumption | decide | omega) rfl dX12_prize_38 (by omega) (by omega) (by decide) (fun r38 => ?_)
      refine q_iret C' dX12_prize_39 (by first | assumption | omega | exact q_tin _ | exact q_bIn _) ?_
      refine ⟨congrArg some ?_, rfl⟩
      unfold sPrize
      first | (rw [if_neg (by omega)]; done) | (rw [if_pos (by omega), if_neg (by omega)]; done) | (rw [if_pos (by omega), if_pos (by omega)]; exact e5 (by omega))
    · refine q_ldc C (z := -1000000002) q_ci_RX12_89 (by decide) dX12_prize_23 ?_
      refine q_goto C (tgt := 39) dX12_prize_25 (by decide) ?_
      refine q_iret C' dX12_prize_39 (by first | assumption | omega | exact q_tin _ | exact q_bIn _) ?_
      refine ⟨congrArg some ?_, rfl⟩
      unfold sPrize
      first | (rw [if_neg (by omega)]; done) | (rw [if_pos (by omega), if_neg (by omega)]; done) | (rw [if_pos (by omega), if_pos (by omega)]; exact e5 (by omega))
  · refine q_ldc C (z := -1000000001) q_ci_RX12_214 (by decide) dX12_prize_8 ?_
    refine q_goto C (tgt := 39) dX12_prize_10 (by decide) ?_
    refine q_iret C' dX12_prize_39 (by first | assumption | omega | exact q_tin _ | exact q_bIn _) ?_
    refine ⟨congrArg some ?_, rfl⟩
    unfold sPrize
    first | (rw [if_neg (by omega)]; done) | (rw [if_pos (by omega), if_neg (by omega)]; done) | (rw [if_pos (by omega), if_pos (by omega)]; exact e5 (by omega))
theorem dX12_calls_0 : decode cX12_calls 0 = .ok (.aload_n 0, 1) := by decide +kernel
theorem dX12_calls_1 : decode cX12_calls 1 = .ok (.iload_n 1, 1) := by decide +kernel
theorem dX12_calls_2 : decode cX12_calls 2 = .ok (.iload_n 2, 1) := by decide +kernel
theorem dX12_calls_3 : decode cX12_calls 3 = .ok (.invokevirtual 218, 3) := by decide +kernel
theorem dX12_calls_6 : decode cX12_calls 6 = .ok (.ifCond .eq 20, 3) := by decide +kernel
theorem dX12_calls_9 : decode cX12_calls 9 = .ok (.aload_n 0, 1) := by decide +kernel
theorem dX12_calls_10 : decode cX12_calls 10 = .ok (.getfield 47, 3) := by decide +kernel
theorem dX12_calls_13 : decode cX12_calls 13 = .ok (.bipush 20, 2) := by decide +kernel
theorem dX12_calls_15 : decode cX12_calls 15 = .ok (.bipush 6, 2) := by decide +kernel
theorem dX12_calls_17 : decode cX12_calls 17 = .ok (.iload_n 1, 1) := by decide +kernel
theorem dX12_calls_18 : decode cX12_calls 18 = .ok (.imul, 1) := by decide +kernel
theorem dX12_calls_19 : decode cX12_calls 19 = .ok (.iadd, 1) := by decide +kernel
theorem dX12_calls_20 : decode cX12_calls 20 = .ok (.iload_n 2, 1) := by decide +kernel
theorem dX12_calls_21 : decode cX12_calls 21 = .ok (.iadd, 1) := by decide +kernel
theorem dX12_calls_22 : decode cX12_calls 22 = .ok (.iaload, 1) := by decide +kernel
theorem dX12_calls_23 : decode cX12_calls 23 = .ok (.goto 5, 3) := by decide +kernel
theorem dX12_calls_26 : decode cX12_calls 26 = .ok (.ldc 214, 2) := by decide +kernel
theorem dX12_calls_28 : decode cX12_calls 28 = .ok (.ireturn, 1) := by decide +kernel
set_option maxRecDepth 4000 in
set_option maxHeartbeats 4000000 in
theorem m_X12_calls (l : Launch) (g : qGm) (M : qMem) {sd : sSD} (hs : sRS sd) (hS : mS M sd) {c : Int} (hcq : qIn c) {h : Int} (hhq : qIn h) : qOk l g 4 yX12_calls cX12_calls 3 (some .int) [qR g 35 0, qI c, qI h] M (qEv (some (sCalls sd (M 61 0) c h)) M) := by
  refine q_ok (by decide +kernel) (Nat.le_of_ble_eq_true rfl) (fun X C' hn => ?_)
  have C := C'.1
  have km := hs.2.1
  have kn := hs.2.2.1
  have hmn := hs.1
  have w0 := hS.1
  have w1 := hS.2.1
  have w2 := hS.2.2.1
  refine q_aloadn C dX12_calls_0 rfl ?_
  refine q_iloadn C dX12_calls_1 rfl ?_
  refine q_iloadn C dX12_calls_2 rfl ?_
  refine cv_RX12_218 C (by decide) (m_X12_areBoth l g _ hs hS hcq hhq) dX12_calls_3 (Nat.le_of_ble_eq_true rfl) (fun r3 => ?_)
  refine q_ifeqB C 26 dX12_calls_6 (by decide) (fun h6 => ?_) (fun h6 => ?_)
  · refine q_ldc C (z := -1000000001) q_ci_RX12_214 (by decide) dX12_calls_26 ?_
    refine q_iret C' dX12_calls_28 (by first | assumption | omega | exact q_tin _ | exact q_bIn _) ?_
    refine ⟨congrArg some ?_, rfl⟩
    unfold sCalls
    first | (rw [if_neg (by omega)]; done) | (rw [if_pos (by omega)]; exact congrArg (M 61 0) (by omega))
  · refine q_aloadn C dX12_calls_9 rfl ?_
    refine gf_RX12_47 C dX12_calls_10 ?_
    refine q_bipush C dX12_calls_13 (by decide) ?_
    refine q_bipush C dX12_calls_15 (by decide) ?_
    refine q_iloadn C dX12_calls_17 rfl ?_
    refine q_imul C dX12_calls_18 ?_
    refine q_iadd C dX12_calls_19 ?_
    refine q_iloadn C dX12_calls_20 rfl ?_
    refine q_iadd C dX12_calls_21 ?_
    refine q_iald C (by first | assumption | decide | omega) rfl dX12_calls_22 (by omega) (by omega) (by decide) (fun r22 => ?_)
    refine q_goto C (tgt := 28) dX12_calls_23 (by decide) ?_
    refine q_iret C' dX12_calls_28 (by first | assumption | omega | exact q_tin _ | exact q_bIn _) ?_
    refine ⟨congrArg some ?_, rfl⟩
    unfold sCalls
    first | (rw [if_neg (by omega)]; done) | (rw [if_pos (by omega)]; exact congrArg (M 61 0) (by omega))
theorem dX12_sign_0 : decode cX12_sign 0 = .ok (.iload_n 1, 1) := by decide +kernel
theorem dX12_sign_1 : decode cX12_sign 1 = .ok (.invokestatic 221, 3) := by decide +kernel
theorem dX12_sign_4 : decode cX12_sign 4 = .ok (.ifCond .eq 12, 3) := by decide +kernel
theorem dX12_sign_7 : decode cX12_sign 7 = .ok (.iload_n 2, 1) := by decide +kernel
theorem dX12_sign_8 : decode cX12_sign 8 = .ok (.iconst 0, 1) := by decide +kernel
theorem dX12_sign_9 : decode cX12_sign 9 = .ok (.iconst 1, 1) := by decide +kernel
theorem dX12_sign_10 : decode cX12_sign 10 = .ok (.invokestatic 85, 3) := by decide +kernel
theorem dX12_sign_13 : decode cX12_sign 13 = .ok (.ifCond .ne 8, 3) := by decide +kernel
theorem dX12_sign_16 : decode cX12_sign 16 = .ok (.ldc 89, 2) := by decide +kernel
theorem dX12_sign_18 : decode cX12_sign 18 = .ok (.goto 39, 3) := by decide +kernel
theorem dX12_sign_21 : decode cX12_sign 21 = .ok (.aload_n 0, 1) := by decide +kernel
theorem dX12_sign_22 : decode cX12_sign 22 = .ok (.invokevirtual 189, 3) := by decide +kernel
theorem dX12_sign_25 : decode cX12_sign 25 = .ok (.ifCond .ne 8, 3) := by decide +kernel
theorem dX12_sign_28 : decode cX12_sign 28 = .ok (.ldc 224, 2) := by decide +kernel
theorem dX12_sign_30 : decode cX12_sign 30 = .ok (.goto 27, 3) := by decide +kernel
theorem dX12_sign_33 : decode cX12_sign 33 = .ok (.iload_n 2, 1) := by decide +kernel
theorem dX12_sign_34 : decode cX12_sign 34 = .ok (.ifCond .ne 10, 3) := by decide +kernel
theorem dX12_sign_37 : decode cX12_sign 37 = .ok (.iload_n 1, 1) := by decide +kernel
theorem dX12_sign_38 : decode cX12_sign 38 = .ok (.invokestatic 172, 3) := by decide +kernel
theorem dX12_sign_41 : decode cX12_sign 41 = .ok (.goto 16, 3) := by decide +kernel
theorem dX12_sign_44 : decode cX12_sign 44 = .ok (.aload_n 0, 1) := by decide +kernel
theorem dX12_sign_45 : decode cX12_sign 45 = .ok (.iload_n 1, 1) := by decide +kernel
theorem dX12_sign_46 : decode cX12_sign 46 = .ok (.invokevirtual 175, 3) := by decide +kernel
theorem dX12_sign_49 : decode cX12_sign 49 = .ok (.ifCond .eq 7, 3) := by decide +kernel
theorem dX12_sign_52 : decode cX12_sign 52 = .ok (.iconst 1, 1) := by decide +kernel
theorem dX12_sign_53 : decode cX12_sign 53 = .ok (.goto 4, 3) := by decide +kernel
theorem dX12_sign_56 : decode cX12_sign 56 = .ok (.iconst 0, 1) := by decide +kernel
theorem dX12_sign_57 : decode cX12_sign 57 = .ok (.ireturn, 1) := by decide +kernel
set_option maxRecDepth 4000 in
set_option maxHeartbeats 4000000 in
theorem m_X12_sign (l : Launch) (g : qGm) (M : qMem) {sd : sSD} (hs : sRS sd) (hS : mS M sd) {a : Int} (haq : qIn a) {w : Int} (hwq : qIn w) : qOk l g 3 yX12_sign cX12_sign 3 (some .int) [qR g 35 0, qI a, qI w] M (qEv (some (sSign sd a w)) M) := by
  refine q_ok (by decide +kernel) (Nat.le_of_ble_eq_true rfl) (fun X C' hn => ?_)
  have C := C'.1
  have km := hs.2.1
  have kn := hs.2.2.1
  have hmn := hs.1
  have w0 := hS.1
  have w1 := hS.2.1
  have w2 := hS.2.2.1
  refine q_iloadn C dX12_sign_0 rfl ?_
  refine cv_RX12_221 C (by decide) (m_X12_isSign l g _ haq) dX12_sign_1 (Nat.le_of_ble_eq_true rfl) (fun r1 => ?_)
  refine q_ifeqB C 16 dX12_sign_4 (by decide) (fun h4 => ?_) (fun h4 => ?_)
  · refine q_ldc C (z := -1000000002) q_ci_RX12_89 (by decide) dX12_sign_16 ?_
    refine q_goto C (tgt := 57) dX12_sign_18 (by decide) ?_
    refine q_iret C' dX12_sign_57 (by first | assumption | omega | exact q_tin _ | exact q_bIn _) ?_
    refine ⟨congrArg some ?_, rfl⟩
    unfold sSign
    first | (rw [if_neg (by omega)]; done) | (rw [if_pos (by omega), if_neg (by omega)]; done) | (rw [if_pos (by omega), if_pos (by omega)]; done) | (rw [if_pos (by omega), if_pos (by omega), if_pos (by omega)]; done) | (rw [if_pos (by omega), if_pos (by omega), if_neg (by omega)]; done) | (rw [if_pos (by omega), if_neg (by omega), if_pos (by omega)]; done) | (rw [if_pos (by omega), if_neg (by omega), if_neg (by omega)]; done) | (rw [if_pos (by omega)]; done)
  · refine q_iloadn C dX12_sign_7 rfl ?_
    refine q_iconst C dX12_sign_8 ?_
    refine q_iconst C dX12_sign_9 ?_
    refine cv_RX12_85 C (by decide) (m_X12_in l g _ (by omega) (by omega) (by omega)) dX12_sign_10 (Nat.le_of_ble_eq_true rfl) (fun r10 => ?_)
    refine q_ifneB C 21 dX12_sign_13 (by decide) (fun h13 => ?_) (fun h13 => ?_)
    · refine q_aloadn C dX12_sign_21 rfl ?_
      refine cv_RX12_189 C (by decide) (m_X12_isSeason l g _ hs hS) dX12_sign_22 (Nat.le_of_ble_eq_true rfl) (fun r22 => ?_)
      refine q_ifneB C 33 dX12_sign_25 (by decide) (fun h25 => ?_) (fun h25 => ?_)
      · refine q_iloadn C dX12_sign_33 rfl ?_
        refine q_if_ne C 44 dX12_sign_34 (by decide) (by first | assumption | omega | exact q_tin _ | exact q_bIn _) (fun h34 => ?_) (fun h34 => ?_)
        · refine q_aloadn C dX12_sign_44 rfl ?_
          refine q_iloadn C dX12_sign_45 rfl ?_
          refine cv_RX12_175 C (by decide) (m_X12_isSaid l g _ hs hS (by omega) (by omega)) dX12_sign_46 (Nat.le_of_ble_eq_true rfl) (fun r46 => ?_)
          refine q_tB_eq C 56 57 dX12_sign_49 dX12_sign_52 dX12_sign_53 dX12_sign_56 (by decide) (by decide) rfl ?_
          refine q_iret C' dX12_sign_57 (by first | assumption | omega | exact q_tin _ | exact q_bIn _) ?_
          refine ⟨congrArg some ?_, rfl⟩
          unfold sSign
          first | (rw [if_neg (by omega)]; done) | (rw [if_pos (by omega), if_neg (by omega)]; done) | (rw [if_pos (by omega), if_pos (by omega)]; done) | (rw [if_pos (by omega), if_pos (by omega), if_pos (by omega)]; done) | (rw [if_pos (by omega), if_pos (by omega), if_neg (by omega)]; done) | (rw [if_pos (by omega), if_neg (by omega), if_pos (by omega)]; done) | (rw [if_pos (by omega), if_neg (by omega), if_neg (by omega)]; done) | (rw [if_pos (by omega)]; done)
        · refine q_iloadn C dX12_sign_37 rfl ?_
          refine cv_RX12_172 C (by decide) (m_X12_meaning l g _ (by omega)) dX12_sign_38 (Nat.le_of_ble_eq_true rfl) (fun r38 => ?_)
          refine q_goto C (tgt := 57) dX12_sign_41 (by decide) ?_
          refine q_iret C' dX12_sign_57 (by first | assumption | omega | exact q_tin _ | exact q_bIn _) ?_
          refine ⟨congrArg some ?_, rfl⟩
          unfold sSign
          first | (rw [if_neg (by omega)]; done) | (rw [if_pos (by omega), if_neg (by omega)]; done) | (rw [if_pos (by omega), if_pos (by omega)]; done) | (rw [if_pos (by omega), if_pos (by omega), if_pos (by omega)]; done) | (rw [if_pos (by omega), if_pos (by omega), if_neg (by omega)]; done) | (rw [if_pos (by omega), if_neg (by omega), if_pos (by omega)]; done) | (rw [if_pos (by omega), if_neg (by omega), if_neg (by omega)]; done) | (rw [if_pos (by omega)]; done)
      · refine q_ldc C (z := -1000000003) q_ci_RX12_224 (by decide) dX12_sign_28 ?_
        refine q_goto C (tgt := 57) dX12_sign_30 (by decide) ?_
        refine q_iret C' dX12_sign_57 (by first | assumption | omega | exact q_tin _ | exact q_bIn _) ?_
        refine ⟨congrArg some ?_, rfl⟩
        unfold sSign
        first | (rw [if_neg (by omega)]; done) | (rw [if_pos (by omega), if_neg (by omega)]; done) | (rw [if_pos (by omega), if_pos (by omega)]; done) | (rw [if_pos (by omega), if_pos (by omega), if_pos (by omega)]; done) | (rw [if_pos (by omega), if_pos (by omega), if_neg (by omega)]; done) | (rw [if_pos (by omega), if_neg (by omega), if_pos (by omega)]; done) | (rw [if_pos (by omega), if_neg (by omega), if_neg (by omega)]; done) | (rw [if_pos (by omega)]; done)
    · refine q_ldc C (z := -1000000002) q_ci_RX12_89 (by decide) dX12_sign_16 ?_
      refine q_goto C (tgt := 57) dX12_sign_18 (by decide) ?_
      refine q_iret C' dX12_sign_57 (by first | assumption | omega | exact q_tin _ | exact q_bIn _) ?_
      refine ⟨congrArg some ?_, rfl⟩
      unfold sSign
      first | (rw [if_neg (by omega)]; done) | (rw [if_pos (by omega), if_neg (by omega)]; done) | (rw [if_pos (by omega), if_pos (by omega)]; done) | (rw [if_pos (by omega), if_pos (by omega), if_pos (by omega)]; done) | (rw [if_pos (by omega), if_pos (by omega), if_neg (by omega)]; done) | (rw [if_pos (by omega), if_neg (by omega), if_pos (by omega)]; done) | (rw [if_pos (by omega), if_neg (by omega), if_neg (by omega)]; done) | (rw [if_pos (by omega)]; done)
theorem dX12_logged_0 : decode cX12_logged 0 = .ok (.iload_n 2, 1) := by decide +kernel
theorem dX12_logged_1 : decode cX12_logged 1 = .ok (.iconst 0, 1) := by decide +kernel
theorem dX12_logged_2 : decode cX12_logged 2 = .ok (.iconst 4, 1) := by decide +kernel
theorem dX12_logged_3 : decode cX12_logged 3 = .ok (.invokestatic 85, 3) := by decide +kernel
theorem dX12_logged_6 : decode cX12_logged 6 = .ok (.ifCond .ne 8, 3) := by decide +kernel
theorem dX12_logged_9 : decode cX12_logged 9 = .ok (.ldc 89, 2) := by decide +kernel
theorem dX12_logged_11 : decode cX12_logged 11 = .ok (.goto 37, 3) := by decide +kernel
theorem dX12_logged_14 : decode cX12_logged 14 = .ok (.iload_n 1, 1) := by decide +kernel
theorem dX12_logged_15 : decode cX12_logged 15 = .ok (.iconst 0, 1) := by decide +kernel
theorem dX12_logged_16 : decode cX12_logged 16 = .ok (.aload_n 0, 1) := by decide +kernel
theorem dX12_logged_17 : decode cX12_logged 17 = .ok (.getfield 47, 3) := by decide +kernel
theorem dX12_logged_20 : decode cX12_logged 20 = .ok (.bipush 98, 2) := by decide +kernel
theorem dX12_logged_22 : decode cX12_logged 22 = .ok (.iaload, 1) := by decide +kernel
theorem dX12_logged_23 : decode cX12_logged 23 = .ok (.iconst 1, 1) := by decide +kernel
theorem dX12_logged_24 : decode cX12_logged 24 = .ok (.isub, 1) := by decide +kernel
theorem dX12_logged_25 : decode cX12_logged 25 = .ok (.invokestatic 85, 3) := by decide +kernel
theorem dX12_logged_28 : decode cX12_logged 28 = .ok (.ifCond .eq 19, 3) := by decide +kernel
theorem dX12_logged_31 : decode cX12_logged 31 = .ok (.aload_n 0, 1) := by decide +kernel
theorem dX12_logged_32 : decode cX12_logged 32 = .ok (.getfield 47, 3) := by decide +kernel
theorem dX12_logged_35 : decode cX12_logged 35 = .ok (.bipush 99, 2) := by decide +kernel
theorem dX12_logged_37 : decode cX12_logged 37 = .ok (.iconst 5, 1) := by decide +kernel
theorem dX12_logged_38 : decode cX12_logged 38 = .ok (.iload_n 1, 1) := by decide +kernel
theorem dX12_logged_39 : decode cX12_logged 39 = .ok (.imul, 1) := by decide +kernel
theorem dX12_logged_40 : decode cX12_logged 40 = .ok (.iadd, 1) := by decide +kernel
theorem dX12_logged_41 : decode cX12_logged 41 = .ok (.iload_n 2, 1) := by decide +kernel
theorem dX12_logged_42 : decode cX12_logged 42 = .ok (.iadd, 1) := by decide +kernel
theorem dX12_logged_43 : decode cX12_logged 43 = .ok (.iaload, 1) := by decide +kernel
theorem dX12_logged_44 : decode cX12_logged 44 = .ok (.goto 4, 3) := by decide +kernel
theorem dX12_logged_47 : decode cX12_logged 47 = .ok (.iconst (-1), 1) := by decide +kernel
theorem dX12_logged_48 : decode cX12_logged 48 = .ok (.ireturn, 1) := by decide +kernel
set_option maxRecDepth 4000 in
set_option maxHeartbeats 4000000 in
theorem m_X12_logged (l : Launch) (g : qGm) (M : qMem) {sd : sSD} (hs : sRS sd) (hS : mS M sd) (hv : sRR (sd 4 0) (sd 5 0) (M 61 0)) {i : Int} (hiq : qIn i) {w : Int} (hwq : qIn w) : qOk l g 2 yX12_logged cX12_logged 3 (some .int) [qR g 35 0, qI i, qI w] M (qEv (some (sLogged (M 61 0) i w)) M) := by
  refine q_ok (by decide +kernel) (Nat.le_of_ble_eq_true rfl) (fun X C' hn => ?_)
  have C := C'.1
  have km := hs.2.1
  have kn := hs.2.2.1
  have hmn := hs.1
  have w0 := hS.1
  have w1 := hS.2.1
  have w2 := hS.2.2.1
  have vl := hv.2.2.2.2.2
  refine q_iloadn C dX12_logged_0 rfl ?_
  refine q_iconst C dX12_logged_1 ?_
  refine q_iconst C dX12_logged_2 ?_
  refine cv_RX12_85 C (by decide) (m_X12_in l g _ (by omega) (by omega) (by omega)) dX12_logged_3 (Nat.le_of_ble_eq_true rfl) (fun r3 => ?_)
  refine q_ifneB C 14 dX12_logged_6 (by decide) (fun h6 => ?_) (fun h6 => ?_)
  · refine q_iloadn C dX12_logged_14 rfl ?_
    refine q_iconst C dX12_logged_15 ?_
    refine q_aloadn C dX12_logged_16 rfl ?_
    refine gf_RX12_47 C dX12_logged_17 ?_
    refine q_bipush C dX12_logged_20 (by decide) ?_
    refine q_iald C (by first | assumption | decide | omega) rfl dX12_logged_22 (by omega) (by omega) (by decide) (fun r22 => ?_)
    refine q_iconst C dX12_logged_23 ?_
    refine q_isub C dX12_logged_24 ?_
    refine cv_RX12_85 C (by decide) (m_X12_in l g _ (by omega) (by omega) (by omega)) dX12_logged_25 (Nat.le_of_ble_eq_true rfl) (fun r25 => ?_)
    refine q_ifeqB C 47 dX12_logged_28 (by decide) (fun h28 => ?_) (fun h28 => ?_)
    · refine q_iconst C dX12_logged_47 ?_
      refine q_iret C' dX12_logged_48 (by first | assumption | omega | exact q_tin _ | exact q_bIn _) ?_
      refine ⟨congrArg some ?_, rfl⟩
      unfold sLogged
      first | (rw [if_neg (by omega)]; done) | (rw [if_pos (by omega), if_neg (by omega)]; done) | (rw [if_pos (by omega), if_pos (by omega)]; exact congrArg (M 61 0) (by omega))
    · refine q_aloadn C dX12_logged_31 rfl ?_
      refine gf_RX12_47 C dX12_logged_32 ?_
      refine q_bipush C dX12_logged_35 (by decide) ?_
      refine q_iconst C dX12_logged_37 ?_
      refine q_iloadn C dX12_logged_38 rfl ?_
      refine q_imul C dX12_logged_39 ?_
      refine q_iadd C dX12_logged_40 ?_
      refine q_iloadn C dX12_logged_41 rfl ?_
      refine q_iadd C dX12_logged_42 ?_
      refine q_iald C (by first | assumption | decide | omega) rfl dX12_logged_43 (by omega) (by omega) (by decide) (fun r43 => ?_)
      refine q_goto C (tgt := 48) dX12_logged_44 (by decide) ?_
      refine q_iret C' dX12_logged_48 (by first | assumption | omega | exact q_tin _ | exact q_bIn _) ?_
      refine ⟨congrArg some ?_, rfl⟩
      unfold sLogged
      first | (rw [if_neg (by omega)]; done) | (rw [if_pos (by omega), if_neg (by omega)]; done) | (rw [if_pos (by omega), if_pos (by omega)]; exact congrArg (M 61 0) (by omega))
  · refine q_ldc C (z := -1000000002) q_ci_RX12_89 (by decide) dX12_logged_9 ?_
    refine q_goto C (tgt := 48) dX12_logged_11 (by decide) ?_
    refine q_iret C' dX12_logged_48 (by first | assumption | omega | exact q_tin _ | exact q_bIn _) ?_
    refine ⟨congrArg some ?_, rfl⟩
    unfold sLogged
    first | (rw [if_neg (by omega)]; done) | (rw [if_pos (by omega), if_neg (by omega)]; done) | (rw [if_pos (by omega), if_pos (by omega)]; exact congrArg (M 61 0) (by omega))
theorem dX12_says_0 : decode cX12_says 0 = .ok (.aload_n 0, 1) := by decide +kernel
theorem dX12_says_1 : decode cX12_says 1 = .ok (.iload_n 1, 1) := by decide +kernel
theorem dX12_says_2 : decode cX12_says 2 = .ok (.iload_n 2, 1) := by decide +kernel
theorem dX12_says_3 : decode cX12_says 3 = .ok (.invokevirtual 218, 3) := by decide +kernel
theorem dX12_says_6 : decode cX12_says 6 = .ok (.ifCond .ne 8, 3) := by decide +kernel
theorem dX12_says_9 : decode cX12_says 9 = .ok (.ldc 214, 2) := by decide +kernel
theorem dX12_says_11 : decode cX12_says 11 = .ok (.goto 47, 3) := by decide +kernel
theorem dX12_says_14 : decode cX12_says 14 = .ok (.iload_n 3, 1) := by decide +kernel
theorem dX12_says_15 : decode cX12_says 15 = .ok (.invokestatic 221, 3) := by decide +kernel
theorem dX12_says_18 : decode cX12_says 18 = .ok (.ifCond .eq 13, 3) := by decide +kernel
theorem dX12_says_21 : decode cX12_says 21 = .ok (.iload 4, 2) := by decide +kernel
theorem dX12_says_23 : decode cX12_says 23 = .ok (.iconst 0, 1) := by decide +kernel
theorem dX12_says_24 : decode cX12_says 24 = .ok (.iconst 1, 1) := by decide +kernel
theorem dX12_says_25 : decode cX12_says 25 = .ok (.invokestatic 85, 3) := by decide +kernel
theorem dX12_says_28 : decode cX12_says 28 = .ok (.ifCond .ne 8, 3) := by decide +kernel
theorem dX12_says_31 : decode cX12_says 31 = .ok (.ldc 89, 2) := by decide +kernel
theorem dX12_says_33 : decode cX12_says 33 = .ok (.goto 25, 3) := by decide +kernel
theorem dX12_says_36 : decode cX12_says 36 = .ok (.iload 4, 2) := by decide +kernel
theorem dX12_says_38 : decode cX12_says 38 = .ok (.ifCond .ne 13, 3) := by decide +kernel
theorem dX12_says_41 : decode cX12_says 41 = .ok (.aload_n 0, 1) := by decide +kernel
theorem dX12_says_42 : decode cX12_says 42 = .ok (.iload_n 1, 1) := by decide +kernel
theorem dX12_says_43 : decode cX12_says 43 = .ok (.iload_n 2, 1) := by decide +kernel
theorem dX12_says_44 : decode cX12_says 44 = .ok (.iload_n 3, 1) := by decide +kernel
theorem dX12_says_45 : decode cX12_says 45 = .ok (.invokevirtual 182, 3) := by decide +kernel
theorem dX12_says_48 : decode cX12_says 48 = .ok (.goto 10, 3) := by decide +kernel
theorem dX12_says_51 : decode cX12_says 51 = .ok (.aload_n 0, 1) := by decide +kernel
theorem dX12_says_52 : decode cX12_says 52 = .ok (.iload_n 1, 1) := by decide +kernel
theorem dX12_says_53 : decode cX12_says 53 = .ok (.iload_n 2, 1) := by decide +kernel
theorem dX12_says_54 : decode cX12_says 54 = .ok (.iload_n 3, 1) := by decide +kernel
theorem dX12_says_55 : decode cX12_says 55 = .ok (.invokevirtual 228, 3) := by decide +kernel
theorem dX12_says_58 : decode cX12_says 58 = .ok (.ireturn, 1) := by decide +kernel
set_option maxRecDepth 4000 in
set_option maxHeartbeats 4000000 in
theorem m_X12_says (l : Launch) (g : qGm) (M : qMem) {sd : sSD} (hs : sRS sd) (hS : mS M sd) (hv : sRR (sd 4 0) (sd 5 0) (M 61 0)) {c : Int} (hcq : qIn c) {h : Int} (hhq : qIn h) {a : Int} (haq : qIn a) {w : Int} (hwq : qIn w) : qOk l g 6 yX12_says cX12_says 5 (some .int) [qR g 35 0, qI c, qI h, qI a, qI w] M (qEv (some (sSays sd (M 61 0) c h a w)) M) := by
  refine q_ok (by decide +kernel) (Nat.le_of_ble_eq_true rfl) (fun X C' hn => ?_)
  have C := C'.1
  have km := hs.2.1
  have kn := hs.2.2.1
  have hmn := hs.1
  have w0 := hS.1
  have w1 := hS.2.1
  have w2 := hS.2.2.1
  refine q_aloadn C dX12_says_0 rfl ?_
  refine q_iloadn C dX12_says_1 rfl ?_
  refine q_iloadn C dX12_says_2 rfl ?_
  refine cv_RX12_218 C (by decide) (m_X12_areBoth l g _ hs hS hcq hhq) dX12_says_3 (Nat.le_of_ble_eq_true rfl) (fun r3 => ?_)
  refine q_ifneB C 14 dX12_says_6 (by decide) (fun h6 => ?_) (fun h6 => ?_)
  · refine q_iloadn C dX12_says_14 rfl ?_
    refine cv_RX12_221 C (by decide) (m_X12_isSign l g _ haq) dX12_says_15 (Nat.le_of_ble_eq_true rfl) (fun r15 => ?_)
    refine q_ifeqB C 31 dX12_says_18 (by decide) (fun h18 => ?_) (fun h18 => ?_)
    · refine q_ldc C (z := -1000000002) q_ci_RX12_89 (by decide) dX12_says_31 ?_
      refine q_goto C (tgt := 58) dX12_says_33 (by decide) ?_
      refine q_iret C' dX12_says_58 (by first | assumption | omega | exact q_tin _ | exact q_bIn _) ?_
      refine ⟨congrArg some ?_, rfl⟩
      unfold sSays
      first | (rw [if_neg (by omega)]; done) | (rw [if_pos (by omega), if_neg (by omega)]; done) | (rw [if_pos (by omega), if_pos (by omega)]; done) | (rw [if_pos (by omega), if_pos (by omega), if_pos (by omega)]; done) | (rw [if_pos (by omega), if_pos (by omega), if_neg (by omega)]; done) | (rw [if_pos (by omega), if_neg (by omega), if_pos (by omega)]; done) | (rw [if_pos (by omega), if_neg (by omega), if_neg (by omega)]; done) | (rw [if_pos (by omega)]; done)
    · refine q_iload C dX12_says_21 rfl ?_
      refine q_iconst C dX12_says_23 ?_
      refine q_iconst C dX12_says_24 ?_
      refine cv_RX12_85 C (by decide) (m_X12_in l g _ (by omega) (by omega) (by omega)) dX12_says_25 (Nat.le_of_ble_eq_true rfl) (fun r25 => ?_)
      refine q_ifneB C 36 dX12_says_28 (by decide) (fun h28 => ?_) (fun h28 => ?_)
      · refine q_iload C dX12_says_36 rfl ?_
        refine q_if_ne C 51 dX12_says_38 (by decide) (by first | assumption | omega | exact q_tin _ | exact q_bIn _) (fun h38 => ?_) (fun h38 => ?_)
        · refine q_aloadn C dX12_says_51 rfl ?_
          refine q_iloadn C dX12_says_52 rfl ?_
          refine q_iloadn C dX12_says_53 rfl ?_
          refine q_iloadn C dX12_says_54 rfl ?_
          refine cv_RX12_228 C (by decide) (m_X12_answer l g _ hs hS hv (by omega) (by omega) (by omega)) dX12_says_55 (Nat.le_of_ble_eq_true rfl) (fun r55 => ?_)
          refine q_iret C' dX12_says_58 (by first | assumption | omega | exact q_tin _ | exact q_bIn _) ?_
          refine ⟨congrArg some ?_, rfl⟩
          unfold sSays
          first | (rw [if_neg (by omega)]; done) | (rw [if_pos (by omega), if_neg (by omega)]; done) | (rw [if_pos (by omega), if_pos (by omega)]; done) | (rw [if_pos (by omega), if_pos (by omega), if_pos (by omega)]; done) | (rw [if_pos (by omega), if_pos (by omega), if_neg (by omega)]; done) | (rw [if_pos (by omega), if_neg (by omega), if_pos (by omega)]; done) | (rw [if_pos (by omega), if_neg (by omega), if_neg (by omega)]; done) | (rw [if_pos (by omega)]; done)
        · refine q_aloadn C dX12_says_41 rfl ?_
          refine q_iloadn C dX12_says_42 rfl ?_
          refine q_iloadn C dX12_says_43 rfl ?_
          refine q_iloadn C dX12_says_44 rfl ?_
          refine cv_RX12_182 C (by decide) (m_X12_heard l g _ hs hS hv (by omega) (by omega) (by omega)) dX12_says_45 (Nat.le_of_ble_eq_true rfl) (fun r45 => ?_)
          refine q_goto C (tgt := 58) dX12_says_48 (by decide) ?_
          refine q_iret C' dX12_says_58 (by first | assumption | omega | exact q_tin _ | exact q_bIn _) ?_
          refine ⟨congrArg some ?_, rfl⟩
          unfold sSays
          first | (rw [if_neg (by omega)]; done) | (rw [if_pos (by omega), if_neg (by omega)]; done) | (rw [if_pos (by omega), if_pos (by omega)]; done) | (rw [if_pos (by omega), if_pos (by omega), if_pos (by omega)]; done) | (rw [if_pos (by omega), if_pos (by omega), if_neg (by omega)]; done) | (rw [if_pos (by omega), if_neg (by omega), if_pos (by omega)]; done) | (rw [if_pos (by omega), if_neg (by omega), if_neg (by omega)]; done) | (rw [if_pos (by omega)]; done)
      · refine q_ldc C (z := -1000000002) q_ci_RX12_89 (by decide) dX12_says_31 ?_
        refine q_goto C (tgt := 58) dX12_says_33 (by decide) ?_
        refine q_iret C' dX12_says_58 (by first | assumption | omega | exact q_tin _ | exact q_bIn _) ?_
        refine ⟨congrArg some ?_, rfl⟩
        unfold sSays
        first | (rw [if_neg (by omega)]; done) | (rw [if_pos (by omega), if_neg (by omega)]; done) | (rw [if_pos (by omega), if_pos (by omega)]; done) | (rw [if_pos (by omega), if_pos (by omega), if_pos (by omega)]; done) | (rw [if_pos (by omega), if_pos (by omega), if_neg (by omega)]; done) | (rw [if_pos (by omega), if_neg (by omega), if_pos (by omega)]; done) | (rw [if_pos (by omega), if_neg (by omega), if_neg (by omega)]; done) | (rw [if_pos (by omega)]; done)
  · refine q_ldc C (z := -1000000001) q_ci_RX12_214 (by decide) dX12_says_9 ?_
    refine q_goto C (tgt := 58) dX12_says_11 (by decide) ?_
    refine q_iret C' dX12_says_58 (by first | assumption | omega | exact q_tin _ | exact q_bIn _) ?_
    refine ⟨congrArg some ?_, rfl⟩
    unfold sSays
    first | (rw [if_neg (by omega)]; done) | (rw [if_pos (by omega), if_neg (by omega)]; done) | (rw [if_pos (by omega), if_pos (by omega)]; done) | (rw [if_pos (by omega), if_pos (by omega), if_pos (by omega)]; done) | (rw [if_pos (by omega), if_pos (by omega), if_neg (by omega)]; done) | (rw [if_pos (by omega), if_neg (by omega), if_pos (by omega)]; done) | (rw [if_pos (by omega), if_neg (by omega), if_neg (by omega)]; done) | (rw [if_pos (by omega)]; done)
theorem sParts_p {a : Int} (h0 : 0 ≤ a) (h1 : a < 48) : sPop (qAnd a 15) + qB (0 < a / 16) = sParts a ∧ 0 ≤ qAnd a 15 ∧ qAnd a 15 < 64 := q_fin (p := fun a => sPop (qAnd a 15) + qB (0 < a / 16) = sParts a ∧ 0 ≤ qAnd a 15 ∧ qAnd a 15 < 64) (N := 48) (by decide +kernel) h0 h1
theorem q_bz (p : Prop) [Decidable p] : (qB p = 0 ∧ ¬ p) ∨ (qB p = 1 ∧ p) := by
  by_cases h : p
  · exact Or.inr ⟨q_bT h, h⟩
  · exact Or.inl ⟨q_bF h, h⟩
def plInv (f : Int → Int) (i p : Int) : Prop := (p = -1 ∧ ∀ j, i < j → j < 48 → f j ≤ -50) ∨ ((i < p ∧ p < 48) ∧ -50 < f p ∧ (∀ j, i < j → j < p → f j < f p) ∧ (∀ j, p < j → j < 48 → f j ≤ f p))
theorem plSt {f : Int → Int} {i p : Int} (h : plInv f i p) (hi : 0 ≤ i ∧ i ≤ 47) : (f i ≤ -50 → plInv f (i + -1) p) ∧ (-50 < f i → (p = -1 ∨ f p ≤ f i) → plInv f (i + -1) i) ∧ (-50 < f i → ¬ (p = -1 ∨ f p ≤ f i) → plInv f (i + -1) p) := by
  refine ⟨fun q => ?_, fun q r => Or.inr ⟨by omega, q, fun j a b => by omega, fun j a b => ?_⟩, fun q r => ?_⟩
  · rcases h with ⟨h1, h2⟩ | ⟨h1, h2, h3, h4⟩
    · refine Or.inl ⟨h1, fun j a b => ?_⟩
      by_cases e : j = i
      · rw [e]; exact q
      · exact h2 j (by omega) b
    · refine Or.inr ⟨by omega, h2, fun j a b => ?_, h4⟩
      by_cases e : j = i
      · rw [e]; omega
      · exact h3 j (by omega) b
  · rcases h with ⟨h1, h2⟩ | ⟨h1, h2, h3, h4⟩
    · have := h2 j a b; omega
    · have hp : f p ≤ f i := r.resolve_left (by omega)
      by_cases e : j < p
      · have := h3 j a e; omega
      · by_cases e2 : j = p
        · rw [e2]; exact hp
        · have := h4 j (by omega) b; omega
  · rcases h with ⟨h1, h2⟩ | ⟨h1, h2, h3, h4⟩
    · exact absurd (Or.inl h1) r
    · refine Or.inr ⟨by omega, h2, fun j a b => ?_, h4⟩
      by_cases e : j = i
      · rw [e]
        by_cases e2 : f p ≤ f i
        · exact absurd (Or.inr e2) r
        · omega
      · exact h3 j (by omega) b
theorem plEnd {f : Int → Int} {p : Int} (h : plInv f (-1) p) : p = (sAm f (-1) (-50) 48).1 := by
  rcases h with ⟨h1, h2⟩ | ⟨h1, h2, h3, h4⟩
  · rw [sAm_non (by omega) (fun k a b => h2 k (by omega) b)]; exact h1
  · exact (sAm_first (by omega) h1.2 h2 (fun k a b => h3 k (by omega) b) h4).symm
theorem cbSt {p : Prop} [Decidable p] {Q : Int → Bool} {i s : Int} (hi : 0 ≤ i) (e : s = qB (p ∧ sAll Q i = true)) : (s = 0 → (0 : Int) = qB (p ∧ sAll Q (i + 1) = true)) ∧ (¬ s = 0 → Q i = true → (1 : Int) = qB (p ∧ sAll Q (i + 1) = true)) ∧ (¬ s = 0 → ¬ Q i = true → (0 : Int) = qB (p ∧ sAll Q (i + 1) = true)) := by
  rw [sAll_s _ hi]
  rcases q_bz (p ∧ sAll Q i = true) with ⟨a, b⟩ | ⟨a, b⟩
  · refine ⟨fun _ => (q_bF (fun q => b ⟨q.1, ?_⟩)).symm, fun h => absurd (e.trans a) h, fun h => absurd (e.trans a) h⟩
    have := q.2
    rw [Bool.and_eq_true] at this
    exact this.1
  · refine ⟨fun h => absurd (h.symm.trans (e.trans a)) (by decide), fun _ q => (q_bT ⟨b.1, ?_⟩).symm, fun _ q => (q_bF (fun r => q ?_)).symm⟩
    · first
        | (rw [Bool.and_eq_true]; exact ⟨b.2, q⟩)
        | (have w := r.2; rw [Bool.and_eq_true] at w; exact w.2)
    · first
        | (rw [Bool.and_eq_true]; exact ⟨b.2, q⟩)
        | (have w := r.2; rw [Bool.and_eq_true] at w; exact w.2)
theorem dX12_partsOf_0 : decode cX12_partsOf 0 = .ok (.iload_n 0, 1) := by decide +kernel
theorem dX12_partsOf_1 : decode cX12_partsOf 1 = .ok (.bipush 15, 2) := by decide +kernel
theorem dX12_partsOf_3 : decode cX12_partsOf 3 = .ok (.iand, 1) := by decide +kernel
theorem dX12_partsOf_4 : decode cX12_partsOf 4 = .ok (.invokestatic 266, 3) := by decide +kernel
theorem dX12_partsOf_7 : decode cX12_partsOf 7 = .ok (.iload_n 0, 1) := by decide +kernel
theorem dX12_partsOf_8 : decode cX12_partsOf 8 = .ok (.bipush 16, 2) := by decide +kernel
theorem dX12_partsOf_10 : decode cX12_partsOf 10 = .ok (.idiv, 1) := by decide +kernel
theorem dX12_partsOf_11 : decode cX12_partsOf 11 = .ok (.ifCond .le 7, 3) := by decide +kernel
theorem dX12_partsOf_14 : decode cX12_partsOf 14 = .ok (.iconst 1, 1) := by decide +kernel
theorem dX12_partsOf_15 : decode cX12_partsOf 15 = .ok (.goto 4, 3) := by decide +kernel
theorem dX12_partsOf_18 : decode cX12_partsOf 18 = .ok (.iconst 0, 1) := by decide +kernel
theorem dX12_partsOf_19 : decode cX12_partsOf 19 = .ok (.iadd, 1) := by decide +kernel
theorem dX12_partsOf_20 : decode cX12_partsOf 20 = .ok (.ireturn, 1) := by decide +kernel
set_option maxRecDepth 4000 in
set_option maxHeartbeats 4000000 in
theorem m_X12_partsOf (l : Launch) (g : qGm) (M : qMem) {a : Int} (ha : 0 ≤ a ∧ a < 48) : qOk l g 2 yX12_partsOf cX12_partsOf 1 (some .int) [qI a] M (qEv (some (sParts a)) M) := by
  refine q_ok (by decide +kernel) (Nat.le_of_ble_eq_true rfl) (fun X C' hn => ?_)
  have C := C'.1
  have e := sParts_p ha.1 ha.2
  have pb := sParts_in a
  have pz := q_bz (0 < a / 16)
  have pp := q_popIn e.2.1 e.2.2
  refine q_iloadn C dX12_partsOf_0 rfl ?_
  refine q_bipush C dX12_partsOf_1 (by decide) ?_
  refine q_iand C dX12_partsOf_3 ?_
  refine cv_RX12_266 C (by decide) (m_X12_bits l g _ e.2) dX12_partsOf_4 (Nat.le_of_ble_eq_true rfl) (fun r4 => ?_)
  refine q_iloadn C dX12_partsOf_7 rfl ?_
  refine q_bipush C dX12_partsOf_8 (by decide) ?_
  refine q_idiv C dX12_partsOf_10 (by omega) (by omega) (by omega) (by omega) ?_
  refine q_tZ_le C 18 19 dX12_partsOf_11 dX12_partsOf_14 dX12_partsOf_15 dX12_partsOf_18 (by decide) (by decide) rfl (by first | assumption | omega | exact q_tin _ | exact q_bIn _) ?_
  refine q_iadd C dX12_partsOf_19 ?_
  refine q_iret C' dX12_partsOf_20 (by first | assumption | omega | exact q_tin _ | exact q_bIn _) ?_
  refine ⟨congrArg some ?_, rfl⟩
  first | exact e.1 | omega
theorem dX12_isHonest_0 : decode cX12_isHonest 0 = .ok (.aload_n 0, 1) := by decide +kernel
theorem dX12_isHonest_1 : decode cX12_isHonest 1 = .ok (.iload_n 2, 1) := by decide +kernel
theorem dX12_isHonest_2 : decode cX12_isHonest 2 = .ok (.invokevirtual 175, 3) := by decide +kernel
theorem dX12_isHonest_5 : decode cX12_isHonest 5 = .ok (.ifCond .eq 23, 3) := by decide +kernel
theorem dX12_isHonest_8 : decode cX12_isHonest 8 = .ok (.iload_n 2, 1) := by decide +kernel
theorem dX12_isHonest_9 : decode cX12_isHonest 9 = .ok (.invokestatic 172, 3) := by decide +kernel
theorem dX12_isHonest_12 : decode cX12_isHonest 12 = .ok (.aload_n 0, 1) := by decide +kernel
theorem dX12_isHonest_13 : decode cX12_isHonest 13 = .ok (.getfield 47, 3) := by decide +kernel
theorem dX12_isHonest_16 : decode cX12_isHonest 16 = .ok (.bipush 8, 2) := by decide +kernel
theorem dX12_isHonest_18 : decode cX12_isHonest 18 = .ok (.iload_n 1, 1) := by decide +kernel
theorem dX12_isHonest_19 : decode cX12_isHonest 19 = .ok (.iadd, 1) := by decide +kernel
theorem dX12_isHonest_20 : decode cX12_isHonest 20 = .ok (.iaload, 1) := by decide +kernel
theorem dX12_isHonest_21 : decode cX12_isHonest 21 = .ok (.if_icmp .ne 7, 3) := by decide +kernel
theorem dX12_isHonest_24 : decode cX12_isHonest 24 = .ok (.iconst 1, 1) := by decide +kernel
theorem dX12_isHonest_25 : decode cX12_isHonest 25 = .ok (.goto 4, 3) := by decide +kernel
theorem dX12_isHonest_28 : decode cX12_isHonest 28 = .ok (.iconst 0, 1) := by decide +kernel
theorem dX12_isHonest_29 : decode cX12_isHonest 29 = .ok (.ireturn, 1) := by decide +kernel
set_option maxRecDepth 4000 in
set_option maxHeartbeats 4000000 in
theorem m_X12_isHonest (l : Launch) (g : qGm) (M : qMem) {sd : sSD} (hs : sRS sd) (hS : mS M sd) (hv : sRR (sd 4 0) (sd 5 0) (M 61 0)) {c : Int} (hc : 0 ≤ c ∧ c < sd 4 0) {a : Int} (ha : 0 ≤ a ∧ a < 48) : qOk l g 3 yX12_isHonest cX12_isHonest 3 (some .boolean) [qR g 35 0, qI c, qI a] M (qEv (some (qB (sSaid (sd 0 0) a ∧ sMean a = M 61 0 (8 + c)))) M) := by
  refine q_ok (by decide +kernel) (Nat.le_of_ble_eq_true rfl) (fun X C' hn => ?_)
  have C := C'.1
  have km := hs.2.1
  have kn := hs.2.2.1
  have hmn := hs.1
  have w0 := hS.1
  have w1 := hS.2.1
  have w2 := hS.2.2.1
  have hon := mS_on hs (Or.inl (show 0 < sd 4 0 by omega))
  have vb := (hv.2.2.2.1 c hc.1 hc.2).1
  have mb := sMean_in ha.1 ha.2
  refine q_aloadn C dX12_isHonest_0 rfl ?_
  refine q_iloadn C dX12_isHonest_1 rfl ?_
  refine cv_RX12_175 C (by decide) (m_X12_isSaid l g _ hs hS (by omega) (by omega)) dX12_isHonest_2 (Nat.le_of_ble_eq_true rfl) (fun r2 => ?_)
  refine q_ifeqB C 28 dX12_isHonest_5 (by decide) (fun h5 => ?_) (fun h5 => ?_)
  · refine q_iconst C dX12_isHonest_28 ?_
    refine q_zret C' dX12_isHonest_29 (by first | omega | exact q_b01 _ | simp) ?_
    refine ⟨congrArg some ?_, rfl⟩
    first | (rw [q_bT ⟨by assumption, by omega⟩]; done) | (rw [q_bF (fun q => absurd q.2 (by omega))]; done) | (rw [q_bF (fun q => absurd q.1 (by assumption))]; done)
  · refine q_iloadn C dX12_isHonest_8 rfl ?_
    refine cv_RX12_172 C (by decide) (m_X12_meaning l g _ (by omega)) dX12_isHonest_9 (Nat.le_of_ble_eq_true rfl) (fun r9 => ?_)
    refine q_aloadn C dX12_isHonest_12 rfl ?_
    refine gf_RX12_47 C dX12_isHonest_13 ?_
    refine q_bipush C dX12_isHonest_16 (by decide) ?_
    refine q_iloadn C dX12_isHonest_18 rfl ?_
    refine q_iadd C dX12_isHonest_19 ?_
    refine q_iald C (by first | assumption | decide | omega) rfl dX12_isHonest_20 (by omega) (by omega) (by decide) (fun r20 => ?_)
    refine q_icmp_ne C 28 dX12_isHonest_21 (by decide) (by first | assumption | omega | exact q_tin _ | exact q_bIn _) (by first | assumption | omega | exact q_tin _ | exact q_bIn _) (fun h21 => ?_) (fun h21 => ?_)
    · refine q_iconst C dX12_isHonest_28 ?_
      refine q_zret C' dX12_isHonest_29 (by first | omega | exact q_b01 _ | simp) ?_
      refine ⟨congrArg some ?_, rfl⟩
      first | (rw [q_bT ⟨by assumption, by omega⟩]; done) | (rw [q_bF (fun q => absurd q.2 (by omega))]; done) | (rw [q_bF (fun q => absurd q.1 (by assumption))]; done)
    · refine q_iconst C dX12_isHonest_24 ?_
      refine q_goto C (tgt := 29) dX12_isHonest_25 (by decide) ?_
      refine q_zret C' dX12_isHonest_29 (by first | omega | exact q_b01 _ | simp) ?_
      refine ⟨congrArg some ?_, rfl⟩
      first | (rw [q_bT ⟨by assumption, by omega⟩]; done) | (rw [q_bF (fun q => absurd q.2 (by omega))]; done) | (rw [q_bF (fun q => absurd q.1 (by assumption))]; done)
theorem dX12_mostHeard_0 : decode cX12_mostHeard 0 = .ok (.iconst 0, 1) := by decide +kernel
theorem dX12_mostHeard_1 : decode cX12_mostHeard 1 = .ok (.istore 4, 2) := by decide +kernel
theorem dX12_mostHeard_3 : decode cX12_mostHeard 3 = .ok (.iconst 0, 1) := by decide +kernel
theorem dX12_mostHeard_4 : decode cX12_mostHeard 4 = .ok (.istore 5, 2) := by decide +kernel
theorem dX12_mostHeard_6 : decode cX12_mostHeard 6 = .ok (.iload 5, 2) := by decide +kernel
theorem dX12_mostHeard_8 : decode cX12_mostHeard 8 = .ok (.bipush 48, 2) := by decide +kernel
theorem dX12_mostHeard_10 : decode cX12_mostHeard 10 = .ok (.if_icmp .ge 36, 3) := by decide +kernel
theorem dX12_mostHeard_13 : decode cX12_mostHeard 13 = .ok (.aload_n 0, 1) := by decide +kernel
theorem dX12_mostHeard_14 : decode cX12_mostHeard 14 = .ok (.iload_n 1, 1) := by decide +kernel
theorem dX12_mostHeard_15 : decode cX12_mostHeard 15 = .ok (.iload_n 2, 1) := by decide +kernel
theorem dX12_mostHeard_16 : decode cX12_mostHeard 16 = .ok (.iload 5, 2) := by decide +kernel
theorem dX12_mostHeard_18 : decode cX12_mostHeard 18 = .ok (.iload_n 3, 1) := by decide +kernel
theorem dX12_mostHeard_19 : decode cX12_mostHeard 19 = .ok (.invokevirtual 178, 3) := by decide +kernel
theorem dX12_mostHeard_22 : decode cX12_mostHeard 22 = .ok (.istore 6, 2) := by decide +kernel
theorem dX12_mostHeard_24 : decode cX12_mostHeard 24 = .ok (.iload 6, 2) := by decide +kernel
theorem dX12_mostHeard_26 : decode cX12_mostHeard 26 = .ok (.iload 4, 2) := by decide +kernel
theorem dX12_mostHeard_28 : decode cX12_mostHeard 28 = .ok (.if_icmp .le 8, 3) := by decide +kernel
theorem dX12_mostHeard_31 : decode cX12_mostHeard 31 = .ok (.iload 6, 2) := by decide +kernel
theorem dX12_mostHeard_33 : decode cX12_mostHeard 33 = .ok (.goto 5, 3) := by decide +kernel
theorem dX12_mostHeard_36 : decode cX12_mostHeard 36 = .ok (.iload 4, 2) := by decide +kernel
theorem dX12_mostHeard_38 : decode cX12_mostHeard 38 = .ok (.istore 4, 2) := by decide +kernel
theorem dX12_mostHeard_40 : decode cX12_mostHeard 40 = .ok (.iinc 5 1, 3) := by decide +kernel
theorem dX12_mostHeard_43 : decode cX12_mostHeard 43 = .ok (.goto (-37), 3) := by decide +kernel
theorem dX12_mostHeard_46 : decode cX12_mostHeard 46 = .ok (.iload 4, 2) := by decide +kernel
theorem dX12_mostHeard_48 : decode cX12_mostHeard 48 = .ok (.ireturn, 1) := by decide +kernel
set_option maxRecDepth 4000 in
set_option maxHeartbeats 4000000 in
theorem m_X12_mostHeard (l : Launch) (g : qGm) (M : qMem) {sd : sSD} (hs : sRS sd) (hS : mS M sd) (hv : sRR (sd 4 0) (sd 5 0) (M 61 0)) {c : Int} (hc : 0 ≤ c ∧ c < sd 4 0) {h : Int} (hh : 0 ≤ h ∧ h < sd 5 0) {s : Int} (hst : 0 ≤ s ∧ s ≤ 9) : qOk l g 4 yX12_mostHeard cX12_mostHeard 7 (some .int) [qR g 35 0, qI c, qI h, qI s] M (qEv (some (sMost sd c h (if sHas (M 61 0 (92 + c)) h then 0 else s))) M) := by
  refine q_ok (by decide +kernel) (Nat.le_of_ble_eq_true rfl) (fun X C' hn => ?_)
  have C := C'.1
  have km := hs.2.1
  have kn := hs.2.2.1
  have hmn := hs.1
  have w0 := hS.1
  have w1 := hS.2.1
  have w2 := hS.2.2.1
  refine q_iconst C dX12_mostHeard_0 ?_
  refine q_istore C dX12_mostHeard_1 hn (by decide) rfl ?_
  refine q_iconst C dX12_mostHeard_3 ?_
  refine q_istore C dX12_mostHeard_4 hn (by decide) rfl ?_
  have L6 : ∀ (n6 : Nat) (x : Int) (i : Int), 48 - i < (n6 : Int) → (0 ≤ i) → (i ≤ 48) → (x = sMx (fun k => sHr (sd 0 0) (sd 1 c) (if sHas (M 61 0 (92 + c)) h then 0 else s) (fun k => sd 3 (8 * h + k)) k) 0 i) → (0 ≤ x ∧ x ≤ 45) → qV l g X M 6 [(0, qR g 35 0), (1, qI c), (2, qI h), (3, qI s), (4, qI x), (5, qI i)] [] := by
    intro n6
    induction n6 with
    | zero => intro x i hm6 i0 i1 ie ib; exfalso; first | omega | (simp at *; omega)
    | succ n6 ih6 =>
      intro x i hm6 i0 i1 ie ib
      have hb := fun z : i < 48 => sHr_in (mn := sd 0 0) (w := sd 1 c) (s := if sHas (M 61 0 (92 + c)) h then 0 else s) (pr := fun k => sd 3 (8 * h + k)) i0 z (hs.2.2.2.1 c hc.1 hc.2) (by split <;> omega) (fun k a b => hs.2.2.2.2.2.1 (8 * h + k) (by omega) (by omega))
      refine q_iload C dX12_mostHeard_6 rfl ?_
      refine q_bipush C dX12_mostHeard_8 (by decide) ?_
      refine q_icmp_ge C 46 dX12_mostHeard_10 (by decide) (by first | assumption | omega | exact q_tin _ | exact q_bIn _) (by first | assumption | omega | exact q_tin _ | exact q_bIn _) (fun h10 => ?_) (fun h10 => ?_)
      · refine q_iload C dX12_mostHeard_46 rfl ?_
        refine q_iret C' dX12_mostHeard_48 (by first | assumption | omega | exact q_tin _ | exact q_bIn _) ?_
        refine ⟨congrArg some ?_, rfl⟩
        have e9 : i = 48 := (by omega)
        rw [ie, e9]
        rfl
      · refine q_aloadn C dX12_mostHeard_13 rfl ?_
        refine q_iloadn C dX12_mostHeard_14 rfl ?_
        refine q_iloadn C dX12_mostHeard_15 rfl ?_
        refine q_iload C dX12_mostHeard_16 rfl ?_
        refine q_iloadn C dX12_mostHeard_18 rfl ?_
        refine cv_RX12_178 C (by decide) (m_X12_hears l g _ hs hS hv (by omega) (by omega) (by omega) (by omega)) dX12_mostHeard_19 (Nat.le_of_ble_eq_true rfl) (fun r19 => ?_)
        refine q_istore C dX12_mostHeard_22 hn (by decide) rfl ?_
        refine q_iload C dX12_mostHeard_24 rfl ?_
        refine q_iload C dX12_mostHeard_26 rfl ?_
        refine q_icmp_le C 36 dX12_mostHeard_28 (by decide) (by first | assumption | omega | exact q_tin _ | exact q_bIn _) (by first | assumption | omega | exact q_tin _ | exact q_bIn _) (fun h28 => ?_) (fun h28 => ?_)
        · refine q_iload C dX12_mostHeard_36 rfl ?_
          refine q_istore C dX12_mostHeard_38 hn (by decide) rfl ?_
          refine q_iinc C dX12_mostHeard_40 rfl hn (by decide) rfl ?_
          refine q_goto C (tgt := 6) dX12_mostHeard_43 (by decide) ?_
          exact q_ls (by exact ⟨rfl, rfl, rfl, rfl, rfl, rfl, trivial⟩) (ih6 _ _ (by omega) (by omega) (by omega) (by rw [sMx_s _ _ i0, ← ie]; unfold sMax; first | (rw [if_pos (show x < sHr (sd 0 0) (sd 1 c) (if sHas (M 61 0 (92 + c)) h then 0 else s) (fun k => sd 3 (8 * h + k)) i by omega)]; done) | (rw [if_neg (show ¬ x < sHr (sd 0 0) (sd 1 c) (if sHas (M 61 0 (92 + c)) h then 0 else s) (fun k => sd 3 (8 * h + k)) i by omega)]; done)) (by have := hb (by omega); omega))
        · refine q_iload C dX12_mostHeard_31 rfl ?_
          refine q_goto C (tgt := 38) dX12_mostHeard_33 (by decide) ?_
          refine q_istore C dX12_mostHeard_38 hn (by decide) rfl ?_
          refine q_iinc C dX12_mostHeard_40 rfl hn (by decide) rfl ?_
          refine q_goto C (tgt := 6) dX12_mostHeard_43 (by decide) ?_
          exact q_ls (by exact ⟨rfl, rfl, rfl, rfl, rfl, rfl, trivial⟩) (ih6 _ _ (by omega) (by omega) (by omega) (by rw [sMx_s _ _ i0, ← ie]; unfold sMax; first | (rw [if_pos (show x < sHr (sd 0 0) (sd 1 c) (if sHas (M 61 0 (92 + c)) h then 0 else s) (fun k => sd 3 (8 * h + k)) i by omega)]; done) | (rw [if_neg (show ¬ x < sHr (sd 0 0) (sd 1 c) (if sHas (M 61 0 (92 + c)) h then 0 else s) (fun k => sd 3 (8 * h + k)) i by omega)]; done)) (by have := hb (by omega); omega))
  exact q_ls (by exact ⟨rfl, rfl, rfl, rfl, rfl, rfl, trivial⟩) (L6 1000 _ _ (by omega) (by omega) (by omega) (by rfl) (by omega))
theorem dX12_gains_0 : decode cX12_gains 0 = .ok (.aload_n 0, 1) := by decide +kernel
theorem dX12_gains_1 : decode cX12_gains 1 = .ok (.iload_n 1, 1) := by decide +kernel
theorem dX12_gains_2 : decode cX12_gains 2 = .ok (.iload_n 2, 1) := by decide +kernel
theorem dX12_gains_3 : decode cX12_gains 3 = .ok (.invokevirtual 218, 3) := by decide +kernel
theorem dX12_gains_6 : decode cX12_gains 6 = .ok (.ifCond .eq 29, 3) := by decide +kernel
theorem dX12_gains_9 : decode cX12_gains 9 = .ok (.aload_n 0, 1) := by decide +kernel
theorem dX12_gains_10 : decode cX12_gains 10 = .ok (.iload_n 1, 1) := by decide +kernel
theorem dX12_gains_11 : decode cX12_gains 11 = .ok (.iload_n 2, 1) := by decide +kernel
theorem dX12_gains_12 : decode cX12_gains 12 = .ok (.aload_n 0, 1) := by decide +kernel
theorem dX12_gains_13 : decode cX12_gains 13 = .ok (.getfield 47, 3) := by decide +kernel
theorem dX12_gains_16 : decode cX12_gains 16 = .ok (.bipush 14, 2) := by decide +kernel
theorem dX12_gains_18 : decode cX12_gains 18 = .ok (.iload_n 1, 1) := by decide +kernel
theorem dX12_gains_19 : decode cX12_gains 19 = .ok (.iadd, 1) := by decide +kernel
theorem dX12_gains_20 : decode cX12_gains 20 = .ok (.iaload, 1) := by decide +kernel
theorem dX12_gains_21 : decode cX12_gains 21 = .ok (.invokevirtual 275, 3) := by decide +kernel
theorem dX12_gains_24 : decode cX12_gains 24 = .ok (.aload_n 0, 1) := by decide +kernel
theorem dX12_gains_25 : decode cX12_gains 25 = .ok (.iload_n 1, 1) := by decide +kernel
theorem dX12_gains_26 : decode cX12_gains 26 = .ok (.iload_n 2, 1) := by decide +kernel
theorem dX12_gains_27 : decode cX12_gains 27 = .ok (.iconst 0, 1) := by decide +kernel
theorem dX12_gains_28 : decode cX12_gains 28 = .ok (.invokevirtual 275, 3) := by decide +kernel
theorem dX12_gains_31 : decode cX12_gains 31 = .ok (.isub, 1) := by decide +kernel
theorem dX12_gains_32 : decode cX12_gains 32 = .ok (.goto 5, 3) := by decide +kernel
theorem dX12_gains_35 : decode cX12_gains 35 = .ok (.ldc 214, 2) := by decide +kernel
theorem dX12_gains_37 : decode cX12_gains 37 = .ok (.ireturn, 1) := by decide +kernel
set_option maxRecDepth 4000 in
set_option maxHeartbeats 4000000 in
theorem m_X12_gains (l : Launch) (g : qGm) (M : qMem) {sd : sSD} (hs : sRS sd) (hS : mS M sd) (hv : sRR (sd 4 0) (sd 5 0) (M 61 0)) {c : Int} (hcq : qIn c) {h : Int} (hhq : qIn h) : qOk l g 5 yX12_gains cX12_gains 3 (some .int) [qR g 35 0, qI c, qI h] M (qEv (some (sGains sd (M 61 0) c h)) M) := by
  refine q_ok (by decide +kernel) (Nat.le_of_ble_eq_true rfl) (fun X C' hn => ?_)
  have C := C'.1
  have km := hs.2.1
  have kn := hs.2.2.1
  have hmn := hs.1
  have w0 := hS.1
  have w1 := hS.2.1
  have w2 := hS.2.2.1
  have vb := fun q : 0 ≤ c ∧ c < sd 4 0 => (hv.2.2.2.1 c q.1 q.2).2.1
  refine q_aloadn C dX12_gains_0 rfl ?_
  refine q_iloadn C dX12_gains_1 rfl ?_
  refine q_iloadn C dX12_gains_2 rfl ?_
  refine cv_RX12_218 C (by decide) (m_X12_areBoth l g _ hs hS hcq hhq) dX12_gains_3 (Nat.le_of_ble_eq_true rfl) (fun r3 => ?_)
  refine q_ifeqB C 35 dX12_gains_6 (by decide) (fun h6 => ?_) (fun h6 => ?_)
  · refine q_ldc C (z := -1000000001) q_ci_RX12_214 (by decide) dX12_gains_35 ?_
    refine q_iret C' dX12_gains_37 (by first | omega | (unfold sMost; have a1 := sMx_b (f := fun k => sHr (sd 0 0) (sd 1 c) (if sHas (M 61 0 (92 + c)) h then 0 else M 61 0 (14 + c)) (fun k => sd 3 (8 * h + k)) k) (b := 0) (n := 48) (B := 45) (by omega) (fun k a b => (sHr_in a b (hs.2.2.2.1 c (by omega) (by omega)) (by have := vb (by omega); split <;> omega) (fun k a b => hs.2.2.2.2.2.1 (8 * h + k) (by omega) (by omega))).2); have a2 := sMx_b (f := fun k => sHr (sd 0 0) (sd 1 c) (if sHas (M 61 0 (92 + c)) h then 0 else 0) (fun k => sd 3 (8 * h + k)) k) (b := 0) (n := 48) (B := 45) (by omega) (fun k a b => (sHr_in a b (hs.2.2.2.1 c (by omega) (by omega)) (by split <;> omega) (fun k a b => hs.2.2.2.2.2.1 (8 * h + k) (by omega) (by omega))).2); omega)) ?_
    refine ⟨congrArg some ?_, rfl⟩
    unfold sGains
    first | (rw [if_neg (show ¬ ((0 ≤ c ∧ c < sd 4 0) ∧ (0 ≤ h ∧ h < sd 5 0)) by omega)]; done) | (rw [if_pos (show (0 ≤ c ∧ c < sd 4 0) ∧ (0 ≤ h ∧ h < sd 5 0) by omega), ite_self (c := sHas (M 61 0 (92 + c)) h) (d := inferInstance) (0 : Int)]; done) | (rw [if_pos (show (0 ≤ c ∧ c < sd 4 0) ∧ (0 ≤ h ∧ h < sd 5 0) by omega)]; simp only [ite_self])
  · refine q_aloadn C dX12_gains_9 rfl ?_
    refine q_iloadn C dX12_gains_10 rfl ?_
    refine q_iloadn C dX12_gains_11 rfl ?_
    refine q_aloadn C dX12_gains_12 rfl ?_
    refine gf_RX12_47 C dX12_gains_13 ?_
    refine q_bipush C dX12_gains_16 (by decide) ?_
    refine q_iloadn C dX12_gains_18 rfl ?_
    refine q_iadd C dX12_gains_19 ?_
    refine q_iald C (by first | assumption | decide | omega) rfl dX12_gains_20 (by omega) (by omega) (by decide) (fun r20 => ?_)
    refine cv_RX12_275 C (by decide) (m_X12_mostHeard l g _ hs hS hv (by omega) (by omega) (by first | omega | exact vb (by omega))) dX12_gains_21 (Nat.le_of_ble_eq_true rfl) (fun r21 => ?_)
    refine q_aloadn C dX12_gains_24 rfl ?_
    refine q_iloadn C dX12_gains_25 rfl ?_
    refine q_iloadn C dX12_gains_26 rfl ?_
    refine q_iconst C dX12_gains_27 ?_
    refine cv_RX12_275 C (by decide) (m_X12_mostHeard l g _ hs hS hv (by omega) (by omega) (by first | omega | exact vb (by omega))) dX12_gains_28 (Nat.le_of_ble_eq_true rfl) (fun r28 => ?_)
    refine q_isub C dX12_gains_31 ?_
    refine q_goto C (tgt := 37) dX12_gains_32 (by decide) ?_
    refine q_iret C' dX12_gains_37 (by first | omega | (unfold sMost; have a1 := sMx_b (f := fun k => sHr (sd 0 0) (sd 1 c) (if sHas (M 61 0 (92 + c)) h then 0 else M 61 0 (14 + c)) (fun k => sd 3 (8 * h + k)) k) (b := 0) (n := 48) (B := 45) (by omega) (fun k a b => (sHr_in a b (hs.2.2.2.1 c (by omega) (by omega)) (by have := vb (by omega); split <;> omega) (fun k a b => hs.2.2.2.2.2.1 (8 * h + k) (by omega) (by omega))).2); have a2 := sMx_b (f := fun k => sHr (sd 0 0) (sd 1 c) (if sHas (M 61 0 (92 + c)) h then 0 else 0) (fun k => sd 3 (8 * h + k)) k) (b := 0) (n := 48) (B := 45) (by omega) (fun k a b => (sHr_in a b (hs.2.2.2.1 c (by omega) (by omega)) (by split <;> omega) (fun k a b => hs.2.2.2.2.2.1 (8 * h + k) (by omega) (by omega))).2); omega)) ?_
    refine ⟨congrArg some ?_, rfl⟩
    unfold sGains
    first | (rw [if_neg (show ¬ ((0 ≤ c ∧ c < sd 4 0) ∧ (0 ≤ h ∧ h < sd 5 0)) by omega)]; done) | (rw [if_pos (show (0 ≤ c ∧ c < sd 4 0) ∧ (0 ≤ h ∧ h < sd 5 0) by omega), ite_self (c := sHas (M 61 0 (92 + c)) h) (d := inferInstance) (0 : Int)]; done) | (rw [if_pos (show (0 ≤ c ∧ c < sd 4 0) ∧ (0 ≤ h ∧ h < sd 5 0) by omega)]; simp only [ite_self])
