set_option maxRecDepth 4000 in
set_option maxHeartbeats 4000000 in
theorem m_X12_drawZ (l : Launch) (g : qGm) (M : qMem) (hk : mK M) {k : Int} (hq : 1 ≤ k ∧ k ≤ 48) : qOk l g 1 yX12_draw cX12_draw 2 (some .int) [qR g 35 0, qI k] M (fun r N => r = some (zVal (zDraw (zM M)) k) ∧ zM N = zDraw (zM M) ∧ mDP M N ∧ mK N ∧ N 61 0 = M 61 0) := by
  refine q_ok (by decide +kernel) (Nat.le_of_ble_eq_true rfl) (fun X C' hn => ?_)
  have C := C'.1
  have b0 := hk.2.2
  have b1 : 0 ≤ ((M 35 0 28 * 1103515245 + 12345) % 2147483648) ∧ ((M 35 0 28 * 1103515245 + 12345) % 2147483648) ≤ 2147483647 := by omega
  have b2 := Int.emod_nonneg (((M 35 0 28 * 1103515245 + 12345) % 2147483648) / 65536) (show k ≠ 0 by omega)
  have b3 := Int.emod_lt_of_pos (((M 35 0 28 * 1103515245 + 12345) % 2147483648) / 65536) (show 0 < k by omega)
  refine q_aloadn C dX12_draw_0 rfl ?_
  refine q_aloadn C dX12_draw_1 rfl ?_
  refine gf_RX12_251 C dX12_draw_2 (fun r2 => ?_)
  refine q_ldc2 C (z := 1103515245) q_cl_RX12_255 (by decide) dX12_draw_5 ?_
  refine q_lmul C dX12_draw_8 ?_
  refine q_ldc2 C (z := 12345) q_cl_RX12_257 (by decide) dX12_draw_9 ?_
  refine q_ladd C dX12_draw_12 ?_
  refine q_ldc2 C (z := 2147483648) q_cl_RX12_259 (by decide) dX12_draw_13 ?_
  refine q_lrem C dX12_draw_16 (by omega) (by omega) (by omega) (by omega) ?_
  refine pf_RX12_251 C (by first | assumption | omega | exact q_tin _ | exact q_bIn _) dX12_draw_17 ?_
  refine q_aloadn C dX12_draw_20 rfl ?_
  refine gf_RX12_251 C dX12_draw_21 (fun r21 => ?_)
  try simp only [q_rd, q_rdS, ↓reduceIte, if_true, if_false, eq_self, Nat.reduceEqDiff, Int.reduceEq, Int.reduceNeg, reduceCtorEq] at r21 ⊢
  refine q_ldc2 C (z := 65536) q_cl_RX12_261 (by decide) dX12_draw_24 ?_
  refine q_ldiv C dX12_draw_27 (by omega) (by omega) (by omega) (by omega) ?_
  refine q_iloadn C dX12_draw_28 rfl ?_
  refine q_i2l C (by first | assumption | omega | exact q_tin _ | exact q_bIn _) dX12_draw_29 ?_
  refine q_lrem C dX12_draw_30 (by omega) (by omega) (by omega) (by omega) ?_
  refine q_l2i C dX12_draw_31 ?_
  refine q_iret C' dX12_draw_32 (by first | assumption | omega | exact q_tin _ | exact q_bIn _) ?_
  refine ⟨congrArg some ?_, mDraw_z M, mDraw_dp _ _, mDraw_k hk, mDraw_61 _ _⟩
  rw [← mDraw_z]
  unfold zVal zM
  simp [q_rd]
theorem mLbd2 {K N1 N2 N3 : qMem} {sd : sSD} {c h a : Int} (hp : 0 < sd 4 0 ∧ 0 < sd 5 0) (z1 : zM N1 = zDraw (zM K)) (z2 : zM N2 = zDraw (zM N1)) (z3 : zM N3 = zDraw (zM N2)) (r3 : N3 61 0 = K 61 0) (hc : c = zVal (zDraw (zM K)) (sd 4 0)) (hh : h = zVal (zDraw (zM N1)) (sd 5 0)) (ha : a = zVal (zDraw (zM N2)) 48) : zM (mVisit N3 sd c h a) = zLbd sd (zM K) := by
  rw [z2, z1] at ha z3
  rw [z1] at hh
  unfold mVisit zLbd
  rw [mRow_z, z3, r3, if_pos hp, ← hc, ← hh, ← ha]
  rfl
theorem zLs_2 (sd : sSD) (Z : sZ) : zLs sd Z 2 = zLbd sd (zLbd sd Z) := rfl
theorem vVisit_0 (sd : sSD) (v : Int → Int) {c h a : Int} (hc : 0 ≤ c) (hh : 0 ≤ h) : vVisit sd v c h a 0 = v 0 := by
  simp [vVisit, vEnter]
  split
  · unfold vWel; rw [if_neg (by omega), if_neg (by omega), if_neg (by omega), if_neg (by omega)]
  · rfl
