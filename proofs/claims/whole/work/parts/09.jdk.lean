theorem dJ6_bitCount_0f7a4_0 : decode cJ6_bitCount_0f7a4 0 = .ok (.iload_n 0, 1) := by decide +kernel
theorem dJ6_bitCount_0f7a4_1 : decode cJ6_bitCount_0f7a4 1 = .ok (.iload_n 0, 1) := by decide +kernel
theorem dJ6_bitCount_0f7a4_2 : decode cJ6_bitCount_0f7a4 2 = .ok (.iconst 1, 1) := by decide +kernel
theorem dJ6_bitCount_0f7a4_3 : decode cJ6_bitCount_0f7a4 3 = .ok (.iushr, 1) := by decide +kernel
theorem dJ6_bitCount_0f7a4_4 : decode cJ6_bitCount_0f7a4 4 = .ok (.ldc_w 265, 3) := by decide +kernel
theorem dJ6_bitCount_0f7a4_7 : decode cJ6_bitCount_0f7a4 7 = .ok (.iand, 1) := by decide +kernel
theorem dJ6_bitCount_0f7a4_8 : decode cJ6_bitCount_0f7a4 8 = .ok (.isub, 1) := by decide +kernel
theorem dJ6_bitCount_0f7a4_9 : decode cJ6_bitCount_0f7a4 9 = .ok (.istore_n 0, 1) := by decide +kernel
theorem dJ6_bitCount_0f7a4_10 : decode cJ6_bitCount_0f7a4 10 = .ok (.iload_n 0, 1) := by decide +kernel
theorem dJ6_bitCount_0f7a4_11 : decode cJ6_bitCount_0f7a4 11 = .ok (.ldc_w 266, 3) := by decide +kernel
theorem dJ6_bitCount_0f7a4_14 : decode cJ6_bitCount_0f7a4 14 = .ok (.iand, 1) := by decide +kernel
theorem dJ6_bitCount_0f7a4_15 : decode cJ6_bitCount_0f7a4 15 = .ok (.iload_n 0, 1) := by decide +kernel
theorem dJ6_bitCount_0f7a4_16 : decode cJ6_bitCount_0f7a4 16 = .ok (.iconst 2, 1) := by decide +kernel
theorem dJ6_bitCount_0f7a4_17 : decode cJ6_bitCount_0f7a4 17 = .ok (.iushr, 1) := by decide +kernel
theorem dJ6_bitCount_0f7a4_18 : decode cJ6_bitCount_0f7a4 18 = .ok (.ldc_w 266, 3) := by decide +kernel
theorem dJ6_bitCount_0f7a4_21 : decode cJ6_bitCount_0f7a4 21 = .ok (.iand, 1) := by decide +kernel
theorem dJ6_bitCount_0f7a4_22 : decode cJ6_bitCount_0f7a4 22 = .ok (.iadd, 1) := by decide +kernel
theorem dJ6_bitCount_0f7a4_23 : decode cJ6_bitCount_0f7a4 23 = .ok (.istore_n 0, 1) := by decide +kernel
theorem dJ6_bitCount_0f7a4_24 : decode cJ6_bitCount_0f7a4 24 = .ok (.iload_n 0, 1) := by decide +kernel
theorem dJ6_bitCount_0f7a4_25 : decode cJ6_bitCount_0f7a4 25 = .ok (.iload_n 0, 1) := by decide +kernel
theorem dJ6_bitCount_0f7a4_26 : decode cJ6_bitCount_0f7a4 26 = .ok (.iconst 4, 1) := by decide +kernel
theorem dJ6_bitCount_0f7a4_27 : decode cJ6_bitCount_0f7a4 27 = .ok (.iushr, 1) := by decide +kernel
theorem dJ6_bitCount_0f7a4_28 : decode cJ6_bitCount_0f7a4 28 = .ok (.iadd, 1) := by decide +kernel
theorem dJ6_bitCount_0f7a4_29 : decode cJ6_bitCount_0f7a4 29 = .ok (.ldc_w 267, 3) := by decide +kernel
theorem dJ6_bitCount_0f7a4_32 : decode cJ6_bitCount_0f7a4 32 = .ok (.iand, 1) := by decide +kernel
theorem dJ6_bitCount_0f7a4_33 : decode cJ6_bitCount_0f7a4 33 = .ok (.istore_n 0, 1) := by decide +kernel
theorem dJ6_bitCount_0f7a4_34 : decode cJ6_bitCount_0f7a4 34 = .ok (.iload_n 0, 1) := by decide +kernel
theorem dJ6_bitCount_0f7a4_35 : decode cJ6_bitCount_0f7a4 35 = .ok (.iload_n 0, 1) := by decide +kernel
theorem dJ6_bitCount_0f7a4_36 : decode cJ6_bitCount_0f7a4 36 = .ok (.bipush 8, 2) := by decide +kernel
theorem dJ6_bitCount_0f7a4_38 : decode cJ6_bitCount_0f7a4 38 = .ok (.iushr, 1) := by decide +kernel
theorem dJ6_bitCount_0f7a4_39 : decode cJ6_bitCount_0f7a4 39 = .ok (.iadd, 1) := by decide +kernel
theorem dJ6_bitCount_0f7a4_40 : decode cJ6_bitCount_0f7a4 40 = .ok (.istore_n 0, 1) := by decide +kernel
theorem dJ6_bitCount_0f7a4_41 : decode cJ6_bitCount_0f7a4 41 = .ok (.iload_n 0, 1) := by decide +kernel
theorem dJ6_bitCount_0f7a4_42 : decode cJ6_bitCount_0f7a4 42 = .ok (.iload_n 0, 1) := by decide +kernel
theorem dJ6_bitCount_0f7a4_43 : decode cJ6_bitCount_0f7a4 43 = .ok (.bipush 16, 2) := by decide +kernel
theorem dJ6_bitCount_0f7a4_45 : decode cJ6_bitCount_0f7a4 45 = .ok (.iushr, 1) := by decide +kernel
theorem dJ6_bitCount_0f7a4_46 : decode cJ6_bitCount_0f7a4 46 = .ok (.iadd, 1) := by decide +kernel
theorem dJ6_bitCount_0f7a4_47 : decode cJ6_bitCount_0f7a4 47 = .ok (.istore_n 0, 1) := by decide +kernel
theorem dJ6_bitCount_0f7a4_48 : decode cJ6_bitCount_0f7a4 48 = .ok (.iload_n 0, 1) := by decide +kernel
theorem dJ6_bitCount_0f7a4_49 : decode cJ6_bitCount_0f7a4 49 = .ok (.bipush 63, 2) := by decide +kernel
theorem dJ6_bitCount_0f7a4_51 : decode cJ6_bitCount_0f7a4 51 = .ok (.iand, 1) := by decide +kernel
theorem dJ6_bitCount_0f7a4_52 : decode cJ6_bitCount_0f7a4 52 = .ok (.ireturn, 1) := by decide +kernel
set_option maxRecDepth 4000 in
set_option maxHeartbeats 4000000 in
theorem m_J6_bitCount_0f7a4 (l : Launch) (g : qGm) (M : qMem) {s : Int} (h0 : 0 ≤ s) (h1 : s < 64) : qOk l g 1 yJ6_bitCount_0f7a4 cJ6_bitCount_0f7a4 1 (some .int) [qI s] M (qEv (some (sPop s)) M) := by
  refine q_ok (by decide +kernel) (Nat.le_of_ble_eq_true rfl) (fun X C' hn => ?_)
  have C := C'.1
  refine q_iloadn C dJ6_bitCount_0f7a4_0 rfl ?_
  refine q_iloadn C dJ6_bitCount_0f7a4_1 rfl ?_
  refine q_iconst C dJ6_bitCount_0f7a4_2 ?_
  refine q_iushr C dJ6_bitCount_0f7a4_3 ?_
  refine q_ldcw C (z := 1431655765) q_ci_RJ6_265 (by decide) dJ6_bitCount_0f7a4_4 ?_
  refine q_iand C dJ6_bitCount_0f7a4_7 ?_
  refine q_isub C dJ6_bitCount_0f7a4_8 ?_
  refine q_istoren C dJ6_bitCount_0f7a4_9 hn (by decide) rfl ?_
  refine q_iloadn C dJ6_bitCount_0f7a4_10 rfl ?_
  refine q_ldcw C (z := 858993459) q_ci_RJ6_266 (by decide) dJ6_bitCount_0f7a4_11 ?_
  refine q_iand C dJ6_bitCount_0f7a4_14 ?_
  refine q_iloadn C dJ6_bitCount_0f7a4_15 rfl ?_
  refine q_iconst C dJ6_bitCount_0f7a4_16 ?_
  refine q_iushr C dJ6_bitCount_0f7a4_17 ?_
  refine q_ldcw C (z := 858993459) q_ci_RJ6_266 (by decide) dJ6_bitCount_0f7a4_18 ?_
  refine q_iand C dJ6_bitCount_0f7a4_21 ?_
  refine q_iadd C dJ6_bitCount_0f7a4_22 ?_
  refine q_istoren C dJ6_bitCount_0f7a4_23 hn (by decide) rfl ?_
  refine q_iloadn C dJ6_bitCount_0f7a4_24 rfl ?_
  refine q_iloadn C dJ6_bitCount_0f7a4_25 rfl ?_
  refine q_iconst C dJ6_bitCount_0f7a4_26 ?_
  refine q_iushr C dJ6_bitCount_0f7a4_27 ?_
  refine q_iadd C dJ6_bitCount_0f7a4_28 ?_
  refine q_ldcw C (z := 252645135) q_ci_RJ6_267 (by decide) dJ6_bitCount_0f7a4_29 ?_
  refine q_iand C dJ6_bitCount_0f7a4_32 ?_
  refine q_istoren C dJ6_bitCount_0f7a4_33 hn (by decide) rfl ?_
  refine q_iloadn C dJ6_bitCount_0f7a4_34 rfl ?_
  refine q_iloadn C dJ6_bitCount_0f7a4_35 rfl ?_
  refine q_bipush C dJ6_bitCount_0f7a4_36 (by decide) ?_
  refine q_iushr C dJ6_bitCount_0f7a4_38 ?_
  refine q_iadd C dJ6_bitCount_0f7a4_39 ?_
  refine q_istoren C dJ6_bitCount_0f7a4_40 hn (by decide) rfl ?_
  refine q_iloadn C dJ6_bitCount_0f7a4_41 rfl ?_
  refine q_iloadn C dJ6_bitCount_0f7a4_42 rfl ?_
  refine q_bipush C dJ6_bitCount_0f7a4_43 (by decide) ?_
  refine q_iushr C dJ6_bitCount_0f7a4_45 ?_
  refine q_iadd C dJ6_bitCount_0f7a4_46 ?_
  refine q_istoren C dJ6_bitCount_0f7a4_47 hn (by decide) rfl ?_
  refine q_iloadn C dJ6_bitCount_0f7a4_48 rfl ?_
  refine q_bipush C dJ6_bitCount_0f7a4_49 (by decide) ?_
  refine q_iand C dJ6_bitCount_0f7a4_51 ?_
  refine q_iret C' dJ6_bitCount_0f7a4_52 (by exact q_andIn _ _) ?_
  refine ⟨congrArg some ?_, rfl⟩
  obtain ⟨k, rfl⟩ := Int.eq_ofNat_of_zero_le h0
  have hk : k < 64 := by omega
  clear C C' hn h0 h1
  revert hk
  revert k
  decide +kernel
theorem dX1_isSign_0 : decode cX1_isSign 0 = .ok (.iload_n 0, 1) := by decide +kernel
theorem dX1_isSign_1 : decode cX1_isSign 1 = .ok (.ifCond .lt 13, 3) := by decide +kernel
theorem dX1_isSign_4 : decode cX1_isSign 4 = .ok (.iload_n 0, 1) := by decide +kernel
theorem dX1_isSign_5 : decode cX1_isSign 5 = .ok (.bipush 48, 2) := by decide +kernel
theorem dX1_isSign_7 : decode cX1_isSign 7 = .ok (.if_icmp .ge 7, 3) := by decide +kernel
theorem dX1_isSign_10 : decode cX1_isSign 10 = .ok (.iconst 1, 1) := by decide +kernel
theorem dX1_isSign_11 : decode cX1_isSign 11 = .ok (.goto 4, 3) := by decide +kernel
theorem dX1_isSign_14 : decode cX1_isSign 14 = .ok (.iconst 0, 1) := by decide +kernel
theorem dX1_isSign_15 : decode cX1_isSign 15 = .ok (.ireturn, 1) := by decide +kernel
set_option maxRecDepth 4000 in
set_option maxHeartbeats 4000000 in
theorem m_X1_isSign (l : Launch) (g : qGm) (M : qMem) {a : Int} (ha : qIn a) : qOk l g 1 yX1_isSign cX1_isSign 1 (some .boolean) [qI a] M (qEv (some (qB (0 ≤ a ∧ a < 48))) M) := by
  refine q_ok (by decide +kernel) (Nat.le_of_ble_eq_true rfl) (fun X C' hn => ?_)
  have C := C'.1
  refine q_iloadn C dX1_isSign_0 rfl ?_
  refine q_if_lt C 14 dX1_isSign_1 (by decide) (by first | assumption | omega | exact q_tin _ | exact q_bIn _) (fun h1 => ?_) (fun h1 => ?_)
  · refine q_iconst C dX1_isSign_14 ?_
    refine q_zret C' dX1_isSign_15 (by first | omega | exact q_b01 _ | simp) ?_
    refine ⟨?_, rfl⟩
    congr 1
    unfold qB
    split <;> omega
  · refine q_iloadn C dX1_isSign_4 rfl ?_
    refine q_bipush C dX1_isSign_5 (by decide) ?_
    refine q_icmp_ge C 14 dX1_isSign_7 (by decide) (by first | assumption | omega | exact q_tin _ | exact q_bIn _) (by first | assumption | omega | exact q_tin _ | exact q_bIn _) (fun h7 => ?_) (fun h7 => ?_)
    · refine q_iconst C dX1_isSign_14 ?_
      refine q_zret C' dX1_isSign_15 (by first | omega | exact q_b01 _ | simp) ?_
      refine ⟨?_, rfl⟩
      congr 1
      unfold qB
      split <;> omega
    · refine q_iconst C dX1_isSign_10 ?_
      refine q_goto C (tgt := 15) dX1_isSign_11 (by decide) ?_
      refine q_zret C' dX1_isSign_15 (by first | omega | exact q_b01 _ | simp) ?_
      refine ⟨?_, rfl⟩
      congr 1
      unfold qB
      split <;> omega
theorem dX1_partOf_0 : decode cX1_partOf 0 = .ok (.iload_n 1, 1) := by decide +kernel
theorem dX1_partOf_1 : decode cX1_partOf 1 = .ok (.iconst 4, 1) := by decide +kernel
theorem dX1_partOf_2 : decode cX1_partOf 2 = .ok (.if_icmp .ne 10, 3) := by decide +kernel
theorem dX1_partOf_5 : decode cX1_partOf 5 = .ok (.iload_n 0, 1) := by decide +kernel
theorem dX1_partOf_6 : decode cX1_partOf 6 = .ok (.bipush 16, 2) := by decide +kernel
theorem dX1_partOf_8 : decode cX1_partOf 8 = .ok (.idiv, 1) := by decide +kernel
theorem dX1_partOf_9 : decode cX1_partOf 9 = .ok (.goto 8, 3) := by decide +kernel
theorem dX1_partOf_12 : decode cX1_partOf 12 = .ok (.iload_n 0, 1) := by decide +kernel
theorem dX1_partOf_13 : decode cX1_partOf 13 = .ok (.iload_n 1, 1) := by decide +kernel
theorem dX1_partOf_14 : decode cX1_partOf 14 = .ok (.ishr, 1) := by decide +kernel
theorem dX1_partOf_15 : decode cX1_partOf 15 = .ok (.iconst 1, 1) := by decide +kernel
theorem dX1_partOf_16 : decode cX1_partOf 16 = .ok (.iand, 1) := by decide +kernel
theorem dX1_partOf_17 : decode cX1_partOf 17 = .ok (.ireturn, 1) := by decide +kernel
set_option maxRecDepth 4000 in
set_option maxHeartbeats 4000000 in
theorem m_X1_partOf (l : Launch) (g : qGm) (M : qMem) {a : Int} (ha : 0 ≤ a ∧ a < 48) {k : Int} (hk : 0 ≤ k ∧ k < 5) : qOk l g 1 yX1_partOf cX1_partOf 2 (some .int) [qI a, qI k] M (qEv (some (sPart a k)) M) := by
  refine q_ok (by decide +kernel) (Nat.le_of_ble_eq_true rfl) (fun X C' hn => ?_)
  have C := C'.1
  refine q_iloadn C dX1_partOf_0 rfl ?_
  refine q_iconst C dX1_partOf_1 ?_
  refine q_icmp_ne C 12 dX1_partOf_2 (by decide) (by first | assumption | omega | exact q_tin _ | exact q_bIn _) (by first | assumption | omega | exact q_tin _ | exact q_bIn _) (fun h2 => ?_) (fun h2 => ?_)
  · refine q_iloadn C dX1_partOf_12 rfl ?_
    refine q_iloadn C dX1_partOf_13 rfl ?_
    refine q_ishr C dX1_partOf_14 ?_
    refine q_iconst C dX1_partOf_15 ?_
    refine q_iand C dX1_partOf_16 ?_
    refine q_iret C' dX1_partOf_17 (by first | assumption | omega | exact q_tin _ | exact q_bIn _) ?_
    refine ⟨congrArg some ?_, rfl⟩
    unfold sPart
    split <;> first | rfl | (exfalso; omega) | (exact q_shr1 (by omega) (by omega) (by omega) (by omega))
  · refine q_iloadn C dX1_partOf_5 rfl ?_
    refine q_bipush C dX1_partOf_6 (by decide) ?_
    refine q_idiv C dX1_partOf_8 (by omega) (by omega) (by omega) (by omega) ?_
    refine q_goto C (tgt := 17) dX1_partOf_9 (by decide) ?_
    refine q_iret C' dX1_partOf_17 (by first | assumption | omega | exact q_tin _ | exact q_bIn _) ?_
    refine ⟨congrArg some ?_, rfl⟩
    unfold sPart
    split <;> first | rfl | (exfalso; omega) | (exact q_shr1 (by omega) (by omega) (by omega) (by omega))
theorem dX1_meaning_0 : decode cX1_meaning 0 = .ok (.iload_n 0, 1) := by decide +kernel
theorem dX1_meaning_1 : decode cX1_meaning 1 = .ok (.bipush 16, 2) := by decide +kernel
theorem dX1_meaning_3 : decode cX1_meaning 3 = .ok (.idiv, 1) := by decide +kernel
theorem dX1_meaning_4 : decode cX1_meaning 4 = .ok (.iconst 2, 1) := by decide +kernel
theorem dX1_meaning_5 : decode cX1_meaning 5 = .ok (.if_icmp .ne 6, 3) := by decide +kernel
theorem dX1_meaning_8 : decode cX1_meaning 8 = .ok (.bipush 7, 2) := by decide +kernel
theorem dX1_meaning_10 : decode cX1_meaning 10 = .ok (.ireturn, 1) := by decide +kernel
theorem dX1_meaning_11 : decode cX1_meaning 11 = .ok (.iload_n 0, 1) := by decide +kernel
theorem dX1_meaning_12 : decode cX1_meaning 12 = .ok (.iconst 4, 1) := by decide +kernel
theorem dX1_meaning_13 : decode cX1_meaning 13 = .ok (.iand, 1) := by decide +kernel
theorem dX1_meaning_14 : decode cX1_meaning 14 = .ok (.ifCond .eq 7, 3) := by decide +kernel
theorem dX1_meaning_17 : decode cX1_meaning 17 = .ok (.iconst 3, 1) := by decide +kernel
theorem dX1_meaning_18 : decode cX1_meaning 18 = .ok (.goto 4, 3) := by decide +kernel
theorem dX1_meaning_21 : decode cX1_meaning 21 = .ok (.iconst 0, 1) := by decide +kernel
theorem dX1_meaning_22 : decode cX1_meaning 22 = .ok (.istore_n 1, 1) := by decide +kernel
theorem dX1_meaning_23 : decode cX1_meaning 23 = .ok (.iload_n 0, 1) := by decide +kernel
theorem dX1_meaning_24 : decode cX1_meaning 24 = .ok (.bipush 8, 2) := by decide +kernel
theorem dX1_meaning_26 : decode cX1_meaning 26 = .ok (.iand, 1) := by decide +kernel
theorem dX1_meaning_27 : decode cX1_meaning 27 = .ok (.ifCond .eq 7, 3) := by decide +kernel
theorem dX1_meaning_30 : decode cX1_meaning 30 = .ok (.iconst 1, 1) := by decide +kernel
theorem dX1_meaning_31 : decode cX1_meaning 31 = .ok (.goto 4, 3) := by decide +kernel
theorem dX1_meaning_34 : decode cX1_meaning 34 = .ok (.iconst 0, 1) := by decide +kernel
theorem dX1_meaning_35 : decode cX1_meaning 35 = .ok (.istore_n 2, 1) := by decide +kernel
theorem dX1_meaning_36 : decode cX1_meaning 36 = .ok (.iload_n 0, 1) := by decide +kernel
theorem dX1_meaning_37 : decode cX1_meaning 37 = .ok (.iconst 1, 1) := by decide +kernel
theorem dX1_meaning_38 : decode cX1_meaning 38 = .ok (.iand, 1) := by decide +kernel
theorem dX1_meaning_39 : decode cX1_meaning 39 = .ok (.iload_n 0, 1) := by decide +kernel
theorem dX1_meaning_40 : decode cX1_meaning 40 = .ok (.iconst 2, 1) := by decide +kernel
theorem dX1_meaning_41 : decode cX1_meaning 41 = .ok (.iand, 1) := by decide +kernel
theorem dX1_meaning_42 : decode cX1_meaning 42 = .ok (.iconst 2, 1) := by decide +kernel
theorem dX1_meaning_43 : decode cX1_meaning 43 = .ok (.idiv, 1) := by decide +kernel
theorem dX1_meaning_44 : decode cX1_meaning 44 = .ok (.iadd, 1) := by decide +kernel
theorem dX1_meaning_45 : decode cX1_meaning 45 = .ok (.iload_n 1, 1) := by decide +kernel
theorem dX1_meaning_46 : decode cX1_meaning 46 = .ok (.iadd, 1) := by decide +kernel
theorem dX1_meaning_47 : decode cX1_meaning 47 = .ok (.iload_n 2, 1) := by decide +kernel
theorem dX1_meaning_48 : decode cX1_meaning 48 = .ok (.iadd, 1) := by decide +kernel
theorem dX1_meaning_49 : decode cX1_meaning 49 = .ok (.ireturn, 1) := by decide +kernel
set_option maxRecDepth 4000 in
set_option maxHeartbeats 4000000 in
theorem m_X1_meaning (l : Launch) (g : qGm) (M : qMem) {a : Int} (ha : 0 ≤ a ∧ a < 48) : qOk l g 1 yX1_meaning cX1_meaning 3 (some .int) [qI a] M (qEv (some (sMean a)) M) := by
  refine q_ok (by decide +kernel) (Nat.le_of_ble_eq_true rfl) (fun X C' hn => ?_)
  have C := C'.1
  have e1 := q_and1 ha.1 ha.2
  have e2 := q_and2 ha.1 ha.2
  have e4 := q_and4 ha.1 ha.2
  have e8 := q_and8 ha.1 ha.2
  refine q_iloadn C dX1_meaning_0 rfl ?_
  refine q_bipush C dX1_meaning_1 (by decide) ?_
  refine q_idiv C dX1_meaning_3 (by omega) (by omega) (by omega) (by omega) ?_
  refine q_iconst C dX1_meaning_4 ?_
  refine q_icmp_ne C 11 dX1_meaning_5 (by decide) (by first | assumption | omega | exact q_tin _ | exact q_bIn _) (by first | assumption | omega | exact q_tin _ | exact q_bIn _) (fun h5 => ?_) (fun h5 => ?_)
  · refine q_iloadn C dX1_meaning_11 rfl ?_
    refine q_iconst C dX1_meaning_12 ?_
    refine q_iand C dX1_meaning_13 ?_
    refine q_if_eq C 21 dX1_meaning_14 (by decide) (by first | assumption | omega | exact q_tin _ | exact q_bIn _) (fun h14 => ?_) (fun h14 => ?_)
    · refine q_iconst C dX1_meaning_21 ?_
      refine q_istoren C dX1_meaning_22 hn (by decide) rfl ?_
      refine q_iloadn C dX1_meaning_23 rfl ?_
      refine q_bipush C dX1_meaning_24 (by decide) ?_
      refine q_iand C dX1_meaning_26 ?_
      refine q_if_eq C 34 dX1_meaning_27 (by decide) (by first | assumption | omega | exact q_tin _ | exact q_bIn _) (fun h27 => ?_) (fun h27 => ?_)
      · refine q_iconst C dX1_meaning_34 ?_
        refine q_istoren C dX1_meaning_35 hn (by decide) rfl ?_
        refine q_iloadn C dX1_meaning_36 rfl ?_
        refine q_iconst C dX1_meaning_37 ?_
        refine q_iand C dX1_meaning_38 ?_
        refine q_iloadn C dX1_meaning_39 rfl ?_
        refine q_iconst C dX1_meaning_40 ?_
        refine q_iand C dX1_meaning_41 ?_
        refine q_iconst C dX1_meaning_42 ?_
        refine q_idiv C dX1_meaning_43 (by omega) (by omega) (by omega) (by omega) ?_
        refine q_iadd C dX1_meaning_44 ?_
        refine q_iloadn C dX1_meaning_45 rfl ?_
        refine q_iadd C dX1_meaning_46 ?_
        refine q_iloadn C dX1_meaning_47 rfl ?_
        refine q_iadd C dX1_meaning_48 ?_
        refine q_iret C' dX1_meaning_49 (by first | assumption | omega | exact q_tin _ | exact q_bIn _) ?_
        refine ⟨congrArg some ?_, rfl⟩
        unfold sMean
        split <;> omega
      · refine q_iconst C dX1_meaning_30 ?_
        refine q_goto C (tgt := 35) dX1_meaning_31 (by decide) ?_
        refine q_istoren C dX1_meaning_35 hn (by decide) rfl ?_
        refine q_iloadn C dX1_meaning_36 rfl ?_
        refine q_iconst C dX1_meaning_37 ?_
        refine q_iand C dX1_meaning_38 ?_
        refine q_iloadn C dX1_meaning_39 rfl ?_
        refine q_iconst C dX1_meaning_40 ?_
        refine q_iand C dX1_meaning_41 ?_
        refine q_iconst C dX1_meaning_42 ?_
        refine q_idiv C dX1_meaning_43 (by omega) (by omega) (by omega) (by omega) ?_
        refine q_iadd C dX1_meaning_44 ?_
        refine q_iloadn C dX1_meaning_45 rfl ?_
        refine q_iadd C dX1_meaning_46 ?_
        refine q_iloadn C dX1_meaning_47 rfl ?_
        refine q_iadd C dX1_meaning_48 ?_
        refine q_iret C' dX1_meaning_49 (by first | assumption | omega | exact q_tin _ | exact q_bIn _) ?_
        refine ⟨congrArg some ?_, rfl⟩
        unfold sMean
        split <;> omega
    · refine q_iconst C dX1_meaning_17 ?_
      refine q_goto C (tgt := 22) dX1_meaning_18 (by decide) ?_
      refine q_istoren C dX1_meaning_22 hn (by decide) rfl ?_
      refine q_iloadn C dX1_meaning_23 rfl ?_
      refine q_bipush C dX1_meaning_24 (by decide) ?_
      refine q_iand C dX1_meaning_26 ?_
      refine q_if_eq C 34 dX1_meaning_27 (by decide) (by first | assumption | omega | exact q_tin _ | exact q_bIn _) (fun h27 => ?_) (fun h27 => ?_)
      · refine q_iconst C dX1_meaning_34 ?_
        refine q_istoren C dX1_meaning_35 hn (by decide) rfl ?_
        refine q_iloadn C dX1_meaning_36 rfl ?_
        refine q_iconst C dX1_meaning_37 ?_
        refine q_iand C dX1_meaning_38 ?_
        refine q_iloadn C dX1_meaning_39 rfl ?_
        refine q_iconst C dX1_meaning_40 ?_
        refine q_iand C dX1_meaning_41 ?_
        refine q_iconst C dX1_meaning_42 ?_
        refine q_idiv C dX1_meaning_43 (by omega) (by omega) (by omega) (by omega) ?_
        refine q_iadd C dX1_meaning_44 ?_
        refine q_iloadn C dX1_meaning_45 rfl ?_
        refine q_iadd C dX1_meaning_46 ?_
        refine q_iloadn C dX1_meaning_47 rfl ?_
        refine q_iadd C dX1_meaning_48 ?_
        refine q_iret C' dX1_meaning_49 (by first | assumption | omega | exact q_tin _ | exact q_bIn _) ?_
        refine ⟨congrArg some ?_, rfl⟩
        unfold sMean
        split <;> omega
      · refine q_iconst C dX1_meaning_30 ?_
        refine q_goto C (tgt := 35) dX1_meaning_31 (by decide) ?_
        refine q_istoren C dX1_meaning_35 hn (by decide) rfl ?_
        refine q_iloadn C dX1_meaning_36 rfl ?_
        refine q_iconst C dX1_meaning_37 ?_
        refine q_iand C dX1_meaning_38 ?_
        refine q_iloadn C dX1_meaning_39 rfl ?_
        refine q_iconst C dX1_meaning_40 ?_
        refine q_iand C dX1_meaning_41 ?_
        refine q_iconst C dX1_meaning_42 ?_
        refine q_idiv C dX1_meaning_43 (by omega) (by omega) (by omega) (by omega) ?_
        refine q_iadd C dX1_meaning_44 ?_
        refine q_iloadn C dX1_meaning_45 rfl ?_
        refine q_iadd C dX1_meaning_46 ?_
        refine q_iloadn C dX1_meaning_47 rfl ?_
        refine q_iadd C dX1_meaning_48 ?_
        refine q_iret C' dX1_meaning_49 (by first | assumption | omega | exact q_tin _ | exact q_bIn _) ?_
        refine ⟨congrArg some ?_, rfl⟩
        unfold sMean
        split <;> omega
  · refine q_bipush C dX1_meaning_8 (by decide) ?_
    refine q_iret C' dX1_meaning_10 (by first | assumption | omega | exact q_tin _ | exact q_bIn _) ?_
    refine ⟨congrArg some ?_, rfl⟩
    unfold sMean
    split <;> omega
