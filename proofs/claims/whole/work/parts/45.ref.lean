theorem mPard {M : qMem} {c h : Int} (hk : mK M) : zF (zM (qUp (qUp (qUp (mRem M) 61 0 (20 + (6 * c + h)) 0) 61 0 (56 + (6 * c + h)) 0) 61 0 (92 + c) (sDel (M 61 0 (92 + c)) h))) (zRow (zRem (zM M)) (vPard (M 61 0) c h)) ∧ mDP M (qUp (qUp (qUp (mRem M) 61 0 (20 + (6 * c + h)) 0) 61 0 (56 + (6 * c + h)) 0) 61 0 (92 + c) (sDel (M 61 0 (92 + c)) h)) := by
  obtain ⟨kr, dr⟩ := mRem_z hk.1 hk.2.1
  rw [q_upAsSet (mRem M), q_upSet, q_upSet, mRem_61, mRow_z]
  exact ⟨kr.row _, dr.tr (mRow_dp _ _)⟩
theorem mDraw_z (M : qMem) : zM (qUp M 35 0 28 ((M 35 0 28 * 1103515245 + 12345) % 2147483648)) = zDraw (zM M) := by
  funext a b c
  have e : zM M 2 0 2 = M 35 0 28 := by simp [zM]
  unfold zDraw zSeed
  rw [e]
  generalize (M 35 0 28 * 1103515245 + 12345) % 2147483648 = s
  unfold zM
  rw [q_upF (j' := 61) (by omega), q_upF (j' := 67) (by omega), q_upF (j' := 76) (by omega), q_upF (j' := 75) (by omega), q_upF (j' := 77) (by omega)]
  by_cases e2 : a = 2
  · subst e2
    simp [q_rd]
    by_cases c0 : c = 0
    · simp [c0]
    · by_cases c1 : c = 1
      · simp [c1]
      · by_cases c2 : c = 2
        · simp [c2]
        · simp [c0, c1, c2]
  · simp only [if_neg e2]
theorem mDraw_dp (M : qMem) (s : Int) : mDP M (qUp M 35 0 28 s) := ⟨fun j u q => q_upF (by omega), fun i _ _ q => by rw [q_rd]; simp [q]⟩
theorem mDraw_k {M : qMem} (h : mK M) : mK (qUp M 35 0 28 ((M 35 0 28 * 1103515245 + 12345) % 2147483648)) := by
  unfold mK at *
  simp [q_rd]
  omega
theorem mDraw_61 (M : qMem) (s : Int) : qUp M 35 0 28 s 61 0 = M 61 0 := q_upF (by omega)
theorem dX12_pardon_0 : decode cX12_pardon 0 = .ok (.aload_n 0, 1) := by decide +kernel
theorem dX12_pardon_1 : decode cX12_pardon 1 = .ok (.iload_n 1, 1) := by decide +kernel
theorem dX12_pardon_2 : decode cX12_pardon 2 = .ok (.iload_n 2, 1) := by decide +kernel
theorem dX12_pardon_3 : decode cX12_pardon 3 = .ok (.invokevirtual 218, 3) := by decide +kernel
theorem dX12_pardon_6 : decode cX12_pardon 6 = .ok (.ifCond .ne 6, 3) := by decide +kernel
theorem dX12_pardon_9 : decode cX12_pardon 9 = .ok (.ldc 214, 2) := by decide +kernel
theorem dX12_pardon_11 : decode cX12_pardon 11 = .ok (.ireturn, 1) := by decide +kernel
theorem dX12_pardon_12 : decode cX12_pardon 12 = .ok (.aload_n 0, 1) := by decide +kernel
theorem dX12_pardon_13 : decode cX12_pardon 13 = .ok (.getfield 47, 3) := by decide +kernel
theorem dX12_pardon_16 : decode cX12_pardon 16 = .ok (.bipush 92, 2) := by decide +kernel
theorem dX12_pardon_18 : decode cX12_pardon 18 = .ok (.iload_n 1, 1) := by decide +kernel
theorem dX12_pardon_19 : decode cX12_pardon 19 = .ok (.iadd, 1) := by decide +kernel
theorem dX12_pardon_20 : decode cX12_pardon 20 = .ok (.iaload, 1) := by decide +kernel
theorem dX12_pardon_21 : decode cX12_pardon 21 = .ok (.iload_n 2, 1) := by decide +kernel
theorem dX12_pardon_22 : decode cX12_pardon 22 = .ok (.invokestatic 168, 3) := by decide +kernel
theorem dX12_pardon_25 : decode cX12_pardon 25 = .ok (.ifCond .ne 6, 3) := by decide +kernel
theorem dX12_pardon_28 : decode cX12_pardon 28 = .ok (.ldc 224, 2) := by decide +kernel
theorem dX12_pardon_30 : decode cX12_pardon 30 = .ok (.ireturn, 1) := by decide +kernel
theorem dX12_pardon_31 : decode cX12_pardon 31 = .ok (.aload_n 0, 1) := by decide +kernel
theorem dX12_pardon_32 : decode cX12_pardon 32 = .ok (.bipush 20, 2) := by decide +kernel
theorem dX12_pardon_34 : decode cX12_pardon 34 = .ok (.bipush 6, 2) := by decide +kernel
theorem dX12_pardon_36 : decode cX12_pardon 36 = .ok (.iload_n 1, 1) := by decide +kernel
theorem dX12_pardon_37 : decode cX12_pardon 37 = .ok (.imul, 1) := by decide +kernel
theorem dX12_pardon_38 : decode cX12_pardon 38 = .ok (.iadd, 1) := by decide +kernel
theorem dX12_pardon_39 : decode cX12_pardon 39 = .ok (.iload_n 2, 1) := by decide +kernel
theorem dX12_pardon_40 : decode cX12_pardon 40 = .ok (.iadd, 1) := by decide +kernel
theorem dX12_pardon_41 : decode cX12_pardon 41 = .ok (.iconst 0, 1) := by decide +kernel
theorem dX12_pardon_42 : decode cX12_pardon 42 = .ok (.invokevirtual 248, 3) := by decide +kernel
theorem dX12_pardon_45 : decode cX12_pardon 45 = .ok (.istore_n 3, 1) := by decide +kernel
theorem dX12_pardon_46 : decode cX12_pardon 46 = .ok (.aload_n 0, 1) := by decide +kernel
theorem dX12_pardon_47 : decode cX12_pardon 47 = .ok (.getfield 47, 3) := by decide +kernel
theorem dX12_pardon_50 : decode cX12_pardon 50 = .ok (.bipush 56, 2) := by decide +kernel
theorem dX12_pardon_52 : decode cX12_pardon 52 = .ok (.bipush 6, 2) := by decide +kernel
theorem dX12_pardon_54 : decode cX12_pardon 54 = .ok (.iload_n 1, 1) := by decide +kernel
theorem dX12_pardon_55 : decode cX12_pardon 55 = .ok (.imul, 1) := by decide +kernel
theorem dX12_pardon_56 : decode cX12_pardon 56 = .ok (.iadd, 1) := by decide +kernel
theorem dX12_pardon_57 : decode cX12_pardon 57 = .ok (.iload_n 2, 1) := by decide +kernel
theorem dX12_pardon_58 : decode cX12_pardon 58 = .ok (.iadd, 1) := by decide +kernel
theorem dX12_pardon_59 : decode cX12_pardon 59 = .ok (.iconst 0, 1) := by decide +kernel
theorem dX12_pardon_60 : decode cX12_pardon 60 = .ok (.iastore, 1) := by decide +kernel
theorem dX12_pardon_61 : decode cX12_pardon 61 = .ok (.aload_n 0, 1) := by decide +kernel
theorem dX12_pardon_62 : decode cX12_pardon 62 = .ok (.getfield 47, 3) := by decide +kernel
theorem dX12_pardon_65 : decode cX12_pardon 65 = .ok (.bipush 92, 2) := by decide +kernel
theorem dX12_pardon_67 : decode cX12_pardon 67 = .ok (.iload_n 1, 1) := by decide +kernel
theorem dX12_pardon_68 : decode cX12_pardon 68 = .ok (.iadd, 1) := by decide +kernel
theorem dX12_pardon_69 : decode cX12_pardon 69 = .ok (.dup2, 1) := by decide +kernel
theorem dX12_pardon_70 : decode cX12_pardon 70 = .ok (.iaload, 1) := by decide +kernel
theorem dX12_pardon_71 : decode cX12_pardon 71 = .ok (.iconst 1, 1) := by decide +kernel
theorem dX12_pardon_72 : decode cX12_pardon 72 = .ok (.iload_n 2, 1) := by decide +kernel
theorem dX12_pardon_73 : decode cX12_pardon 73 = .ok (.ishl, 1) := by decide +kernel
theorem dX12_pardon_74 : decode cX12_pardon 74 = .ok (.iconst (-1), 1) := by decide +kernel
theorem dX12_pardon_75 : decode cX12_pardon 75 = .ok (.ixor, 1) := by decide +kernel
theorem dX12_pardon_76 : decode cX12_pardon 76 = .ok (.iand, 1) := by decide +kernel
theorem dX12_pardon_77 : decode cX12_pardon 77 = .ok (.iastore, 1) := by decide +kernel
theorem dX12_pardon_78 : decode cX12_pardon 78 = .ok (.iload_n 3, 1) := by decide +kernel
theorem dX12_pardon_79 : decode cX12_pardon 79 = .ok (.ireturn, 1) := by decide +kernel
set_option maxRecDepth 4000 in
set_option maxHeartbeats 4000000 in
theorem m_X12_pardon (l : Launch) (g : qGm) (M : qMem) {sd : sSD} (hs : sRS sd) (hS : mS M sd) (hv : sRR (sd 4 0) (sd 5 0) (M 61 0)) (hk : mK M) {c : Int} (hcq : qIn c) {h : Int} (hhq : qIn h) : qOk l g 4 yX12_pardon cX12_pardon 4 (some .int) [qR g 35 0, qI c, qI h] M (fun r N => mD M (dPard sd (zM M) c h) r N) := by
  refine q_ok (by decide +kernel) (Nat.le_of_ble_eq_true rfl) (fun X C' hn => ?_)
  have C := C'.1
  have km := hs.2.1
  have kn := hs.2.2.1
  have hmn := hs.1
  have w0 := hS.1
  have w1 := hS.2.1
  have w2 := hS.2.2.1
  obtain ⟨kr, dr⟩ := mRem_z hk.1 hk.2.1
  have e61 := mRem_61 M
  have vb := fun q : 0 ≤ c ∧ c < sd 4 0 => (hv.2.2.2.1 c q.1 q.2).2.2
  have e1 : 20 + 6 * c + h = 20 + (6 * c + h) := by omega
  have e2 : 56 + 6 * c + h = 56 + (6 * c + h) := by omega
  refine q_aloadn C dX12_pardon_0 rfl ?_
  refine q_iloadn C dX12_pardon_1 rfl ?_
  refine q_iloadn C dX12_pardon_2 rfl ?_
  refine cv_RX12_218 C (by decide) (m_X12_areBoth l g _ hs hS hcq hhq) dX12_pardon_3 (Nat.le_of_ble_eq_true rfl) (fun r3 => ?_)
  refine q_ifneB C 12 dX12_pardon_6 (by decide) (fun h6 => ?_) (fun h6 => ?_)
  · refine q_aloadn C dX12_pardon_12 rfl ?_
    refine gf_RX12_47 C dX12_pardon_13 ?_
    refine q_bipush C dX12_pardon_16 (by decide) ?_
    refine q_iloadn C dX12_pardon_18 rfl ?_
    refine q_iadd C dX12_pardon_19 ?_
    refine q_iald C (by first | assumption | decide | omega) rfl dX12_pardon_20 (by omega) (by omega) (by decide) (fun r20 => ?_)
    refine q_iloadn C dX12_pardon_21 rfl ?_
    refine cv_RX12_168 C (by decide) (m_X12_has l g _ (vb (by omega)) (by omega)) dX12_pardon_22 (Nat.le_of_ble_eq_true rfl) (fun r22 => ?_)
    refine q_ifneB C 31 dX12_pardon_25 (by decide) (fun h25 => ?_) (fun h25 => ?_)
    · refine q_aloadn C dX12_pardon_31 rfl ?_
      refine q_bipush C dX12_pardon_32 (by decide) ?_
      refine q_bipush C dX12_pardon_34 (by decide) ?_
      refine q_iloadn C dX12_pardon_36 rfl ?_
      refine q_imul C dX12_pardon_37 ?_
      refine q_iadd C dX12_pardon_38 ?_
      refine q_iloadn C dX12_pardon_39 rfl ?_
      refine q_iadd C dX12_pardon_40 ?_
      rw [e1]
      refine q_iconst C dX12_pardon_41 ?_
      refine cv_RX12_248 C (by decide) (m_X12_becomes l g _ hs hS hv hk (by omega) (by omega)) dX12_pardon_42 (Nat.le_of_ble_eq_true rfl) (fun r42 => ?_)
      refine q_istoren C dX12_pardon_45 hn (by decide) rfl ?_
      refine q_aloadn C dX12_pardon_46 rfl ?_
      refine gf_RX12_47 C dX12_pardon_47 ?_
      refine q_bipush C dX12_pardon_50 (by decide) ?_
      refine q_bipush C dX12_pardon_52 (by decide) ?_
      refine q_iloadn C dX12_pardon_54 rfl ?_
      refine q_imul C dX12_pardon_55 ?_
      refine q_iadd C dX12_pardon_56 ?_
      refine q_iloadn C dX12_pardon_57 rfl ?_
      refine q_iadd C dX12_pardon_58 ?_
      rw [e2]
      refine q_iconst C dX12_pardon_59 ?_
      refine q_iast C (by first | assumption | decide | omega) (fun _ => rfl) dX12_pardon_60 (by omega) (by omega) (by decide) (by first | assumption | omega | exact q_tin _ | exact q_bIn _) ?_
      refine q_aloadn C dX12_pardon_61 rfl ?_
      refine gf_RX12_47 C dX12_pardon_62 ?_
      refine q_bipush C dX12_pardon_65 (by decide) ?_
      refine q_iloadn C dX12_pardon_67 rfl ?_
      refine q_iadd C dX12_pardon_68 ?_
      refine q_dup2 C dX12_pardon_69 rfl rfl ?_
      have s1 : ¬ (92 + c = 56 + (6 * c + h)) := by omega
      have s2 : ¬ (92 + c = 20 + (6 * c + h)) := by omega
      refine q_iald C (by first | assumption | decide | omega) rfl dX12_pardon_70 (by omega) (by omega) (by decide) (fun r70 => ?_)
      try simp only [q_rd, q_rdS, ↓reduceIte, if_true, if_false, eq_self, Nat.reduceEqDiff, Int.reduceEq, Int.reduceNeg, reduceCtorEq, mRem_61, e1, e2] at r70 ⊢
      try simp only [if_neg s1, if_neg s2, mRem_61] at r70 ⊢
      refine q_iconst C dX12_pardon_71 ?_
      refine q_iloadn C dX12_pardon_72 rfl ?_
      refine q_ishl C dX12_pardon_73 ?_
      refine q_iconst C dX12_pardon_74 ?_
      refine q_ixor C dX12_pardon_75 ?_
      refine q_iand C dX12_pardon_76 ?_
      refine q_iast C (by first | assumption | decide | omega) (fun _ => rfl) dX12_pardon_77 (by omega) (by omega) (by decide) (by first | assumption | omega | exact q_tin _ | exact q_bIn _) ?_
      refine q_iloadn C dX12_pardon_78 rfl ?_
      refine q_iret C' dX12_pardon_79 (by first | assumption | omega | exact q_tin _ | exact q_bIn _) ?_
      obtain ⟨k4, d4⟩ := mPard (c := c) (h := h) hk
      refine ⟨congrArg some ?_, ?_, d4⟩ <;> unfold dPard <;> rw [if_pos (by omega), if_pos (show sHas (zM M 0 0 (92 + c)) h from h25)]
      · rfl
      · exact k4
    · refine q_ldc C (z := -1000000003) q_ci_RX12_224 (by decide) dX12_pardon_28 ?_
      refine q_iret C' dX12_pardon_30 (by first | assumption | omega | exact q_tin _ | exact q_bIn _) ?_
      refine ⟨congrArg some ?_, ?_, mDP.rf⟩ <;> unfold dPard <;> rw [if_pos (by omega), if_neg (show ¬ sHas (zM M 0 0 (92 + c)) h from h25)]
      exact zF.rf
  · refine q_ldc C (z := -1000000001) q_ci_RX12_214 (by decide) dX12_pardon_9 ?_
    refine q_iret C' dX12_pardon_11 (by first | assumption | omega | exact q_tin _ | exact q_bIn _) ?_
    refine ⟨congrArg some ?_, ?_, mDP.rf⟩ <;> unfold dPard <;> first | (rw [if_neg (by omega)]; done) | (rw [if_pos (by omega), if_neg (by omega)]; done) | (rw [if_neg (by omega)]; exact zF.rf) | (rw [if_pos (by omega), if_neg (by omega)]; exact zF.rf)
theorem sRR_visit {sd : sSD} (hs : sRS sd) {v : Int → Int} (hv : sRR (sd 4 0) (sd 5 0) v) {c h a : Int} (hc : 0 ≤ c ∧ c < sd 4 0) (hh : 0 ≤ h ∧ h < sd 5 0) : sRR (sd 4 0) (sd 5 0) (vVisit sd v c h a) := by
  unfold vVisit
  split
  · exact sRR_log (sRR_wel hv hs.2.1.2 hs.2.2.1.2 hc hh) hs.2.1.2 hs.2.2.1.2
  · exact sRR_log hv hs.2.1.2 hs.2.2.1.2
def zLs (sd : sSD) (Z : sZ) : Nat → sZ
  | 0 => Z
  | k + 1 => zLbd sd (zLs sd Z k)
theorem zLs_n {sd : sSD} (h : ¬ (0 < sd 4 0 ∧ 0 < sd 5 0)) (Z : sZ) (k : Nat) : zLs sd Z k = Z := by
  induction k with
  | zero => rfl
  | succ k ih => rw [zLs, ih, zLbd, if_neg h]
theorem mLbd {K : qMem} {sd : sSD} {c h a : Int} {s1 s2 s3 : Int} (hp : 0 < sd 4 0 ∧ 0 < sd 5 0) (e1 : s1 = (K 35 0 28 * 1103515245 + 12345) % 2147483648) (e2 : s2 = (s1 * 1103515245 + 12345) % 2147483648) (e3 : s3 = (s2 * 1103515245 + 12345) % 2147483648) (hc : c = s1 / 65536 % sd 4 0) (hh : h = s2 / 65536 % sd 5 0) (ha : a = s3 / 65536 % 48) : zM (mVisit (qUp (qUp (qUp K 35 0 28 s1) 35 0 28 s2) 35 0 28 s3) sd c h a) = zLbd sd (zM K) := by
  have d1 : zM (qUp K 35 0 28 s1) = zDraw (zM K) := by rw [e1]; exact mDraw_z K
  have d2 : zM (qUp (qUp K 35 0 28 s1) 35 0 28 s2) = zDraw (zDraw (zM K)) := by
    rw [← d1, ← mDraw_z, e2]
    simp [q_rd]
  have d3 : zM (qUp (qUp (qUp K 35 0 28 s1) 35 0 28 s2) 35 0 28 s3) = zDraw (zDraw (zDraw (zM K))) := by
    rw [← d2, ← mDraw_z, e3]
    simp [q_rd]
  have v1 : zVal (zDraw (zM K)) (sd 4 0) = c := by rw [← d1, hc]; unfold zVal zM; simp [q_rd]
  have v2 : zVal (zDraw (zDraw (zM K))) (sd 5 0) = h := by rw [← d2, hh]; unfold zVal zM; simp [q_rd]
  have v3 : zVal (zDraw (zDraw (zDraw (zM K)))) 48 = a := by rw [← d3, ha]; unfold zVal zM; simp [q_rd]
  unfold mVisit zLbd
  rw [mRow_z, d3, mDraw_61, mDraw_61, mDraw_61, if_pos hp, v1, v2, v3]
  rfl
