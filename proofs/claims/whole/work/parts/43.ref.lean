theorem dX12_draw_0 : decode cX12_draw 0 = .ok (.aload_n 0, 1) := by decide +kernel
theorem dX12_draw_1 : decode cX12_draw 1 = .ok (.aload_n 0, 1) := by decide +kernel
theorem dX12_draw_2 : decode cX12_draw 2 = .ok (.getfield 251, 3) := by decide +kernel
theorem dX12_draw_5 : decode cX12_draw 5 = .ok (.ldc2_w 255, 3) := by decide +kernel
theorem dX12_draw_8 : decode cX12_draw 8 = .ok (.lmul, 1) := by decide +kernel
theorem dX12_draw_9 : decode cX12_draw 9 = .ok (.ldc2_w 257, 3) := by decide +kernel
theorem dX12_draw_12 : decode cX12_draw 12 = .ok (.ladd, 1) := by decide +kernel
theorem dX12_draw_13 : decode cX12_draw 13 = .ok (.ldc2_w 259, 3) := by decide +kernel
theorem dX12_draw_16 : decode cX12_draw 16 = .ok (.lrem, 1) := by decide +kernel
theorem dX12_draw_17 : decode cX12_draw 17 = .ok (.putfield 251, 3) := by decide +kernel
theorem dX12_draw_20 : decode cX12_draw 20 = .ok (.aload_n 0, 1) := by decide +kernel
theorem dX12_draw_21 : decode cX12_draw 21 = .ok (.getfield 251, 3) := by decide +kernel
theorem dX12_draw_24 : decode cX12_draw 24 = .ok (.ldc2_w 261, 3) := by decide +kernel
theorem dX12_draw_27 : decode cX12_draw 27 = .ok (.ldiv, 1) := by decide +kernel
theorem dX12_draw_28 : decode cX12_draw 28 = .ok (.iload_n 1, 1) := by decide +kernel
theorem dX12_draw_29 : decode cX12_draw 29 = .ok (.i2l, 1) := by decide +kernel
theorem dX12_draw_30 : decode cX12_draw 30 = .ok (.lrem, 1) := by decide +kernel
theorem dX12_draw_31 : decode cX12_draw 31 = .ok (.l2i, 1) := by decide +kernel
theorem dX12_draw_32 : decode cX12_draw 32 = .ok (.ireturn, 1) := by decide +kernel
set_option maxRecDepth 4000 in
set_option maxHeartbeats 4000000 in
theorem m_X12_draw (l : Launch) (g : qGm) (M : qMem) (h28 : 0 ≤ M 35 0 28 ∧ M 35 0 28 ≤ 2147483647) {k : Int} (hk : 1 ≤ k ∧ k ≤ 48) : qOk l g 1 yX12_draw cX12_draw 2 (some .int) [qR g 35 0, qI k] M (qEv (some (((M 35 0 28 * 1103515245 + 12345) % 2147483648) / 65536 % k)) (qUp M 35 0 28 ((M 35 0 28 * 1103515245 + 12345) % 2147483648))) := by
  refine q_ok (by decide +kernel) (Nat.le_of_ble_eq_true rfl) (fun X C' hn => ?_)
  have C := C'.1
  have b1 : 0 ≤ ((M 35 0 28 * 1103515245 + 12345) % 2147483648) ∧ ((M 35 0 28 * 1103515245 + 12345) % 2147483648) ≤ 2147483647 := by omega
  have b2 := Int.emod_nonneg (((M 35 0 28 * 1103515245 + 12345) % 2147483648) / 65536) (show k ≠ 0 by omega)
  have b3 := Int.emod_lt_of_pos (((M 35 0 28 * 1103515245 + 12345) % 2147483648) / 65536) (show 0 < k by omega)
  refine q_aloadn C dX12_draw_0 rfl ?_
  refine q_aloadn C dX12_draw_1 rfl ?_
  refine gf_RX12_251 C dX12_draw_2 (fun r2 => ?_)
  refine q_ldc2 C (z := 1103515245) q_cl_RX12_255 (by decide) dX12_draw_5 ?_
  refine q_lmul C dX12_draw_8 ?_
  refine q_ldc2 C (z := 12345) q_cl_RX12_257 (by decide) dX12_draw_9 ?_
  refine q_ladd C dX12_draw_12 ?_
  refine q_ldc2 C (z := 2147483648) q_cl_RX12_259 (by decide) dX12_draw_13 ?_
  refine q_lrem C dX12_draw_16 (by omega) (by omega) (by omega) (by omega) ?_
  refine pf_RX12_251 C (by first | assumption | omega | exact q_tin _ | exact q_bIn _) dX12_draw_17 ?_
  refine q_aloadn C dX12_draw_20 rfl ?_
  refine gf_RX12_251 C dX12_draw_21 (fun r21 => ?_)
  try simp only [q_rd, q_rdS, ↓reduceIte, if_true, if_false, eq_self, Nat.reduceEqDiff, Int.reduceEq, Int.reduceNeg, reduceCtorEq] at r21 ⊢
  refine q_ldc2 C (z := 65536) q_cl_RX12_261 (by decide) dX12_draw_24 ?_
  refine q_ldiv C dX12_draw_27 (by omega) (by omega) (by omega) (by omega) ?_
  refine q_iloadn C dX12_draw_28 rfl ?_
  refine q_i2l C (by first | assumption | omega | exact q_tin _ | exact q_bIn _) dX12_draw_29 ?_
  refine q_lrem C dX12_draw_30 (by omega) (by omega) (by omega) (by omega) ?_
  refine q_l2i C dX12_draw_31 ?_
  refine q_iret C' dX12_draw_32 (by first | assumption | omega | exact q_tin _ | exact q_bIn _) ?_
  exact ⟨rfl, rfl⟩
