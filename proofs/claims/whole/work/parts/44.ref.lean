def mK (M : qMem) : Prop := (0 ≤ M 35 0 26 ∧ M 35 0 26 < 30) ∧ (0 ≤ M 35 0 25 ∧ M 35 0 25 ≤ 30) ∧ (0 ≤ M 35 0 28 ∧ M 35 0 28 ≤ 2147483647)
def mD (M : qMem) (d : Int × sZ) (r : Option Int) (N : qMem) : Prop := r = some d.1 ∧ zF (zM N) d.2 ∧ mDP M N
theorem mRem_61 (M : qMem) : mRem M 61 0 = M 61 0 := by unfold mRem mUn; rw [q_upF (by omega), q_upF (by omega), q_setF (by omega)]
theorem mRem_k {M : qMem} (h : mK M) : mK (mRem M) := by
  have a1 : mRem M 35 0 26 = (M 35 0 26 + 1) % 30 := by unfold mRem; simp [q_rd]
  have a2 : mRem M 35 0 25 = M 35 0 25 + (if M 35 0 25 < 30 then 1 else 0) := by unfold mRem; simp [q_rd]
  have a3 : mRem M 35 0 28 = M 35 0 28 := by unfold mRem mUn; simp [q_rd, q_rdS]
  unfold mK at *
  rw [a1, a2, a3]
  refine ⟨by omega, ?_, h.2.2⟩
  split <;> omega
theorem mRow_k {M : qMem} {f : Int → Int} (h : mK M) : mK (qSet M 61 0 f) := by
  unfold mK at *
  rw [mRow_fr (by omega)]
  exact h
theorem mSet_z {M : qMem} {p z : Int} (hk : mK M) : zF (zM (qUp (mRem M) 61 0 p z)) (zRow (zRem (zM M)) (vSet (M 61 0) p z)) ∧ mDP M (qUp (mRem M) 61 0 p z) := by
  obtain ⟨kr, dr⟩ := mRem_z hk.1 hk.2.1
  rw [q_upAsSet, mRem_61, mRow_z]
  exact ⟨kr.row _, dr.tr (mRow_dp _ _)⟩
theorem dX12_visit_0 : decode cX12_visit 0 = .ok (.aload_n 0, 1) := by decide +kernel
theorem dX12_visit_1 : decode cX12_visit 1 = .ok (.iload_n 1, 1) := by decide +kernel
theorem dX12_visit_2 : decode cX12_visit 2 = .ok (.iload_n 2, 1) := by decide +kernel
theorem dX12_visit_3 : decode cX12_visit 3 = .ok (.invokevirtual 218, 3) := by decide +kernel
theorem dX12_visit_6 : decode cX12_visit 6 = .ok (.ifCond .ne 6, 3) := by decide +kernel
theorem dX12_visit_9 : decode cX12_visit 9 = .ok (.ldc 214, 2) := by decide +kernel
theorem dX12_visit_11 : decode cX12_visit 11 = .ok (.ireturn, 1) := by decide +kernel
theorem dX12_visit_12 : decode cX12_visit 12 = .ok (.iload_n 3, 1) := by decide +kernel
theorem dX12_visit_13 : decode cX12_visit 13 = .ok (.invokestatic 221, 3) := by decide +kernel
theorem dX12_visit_16 : decode cX12_visit 16 = .ok (.ifCond .ne 6, 3) := by decide +kernel
theorem dX12_visit_19 : decode cX12_visit 19 = .ok (.ldc 89, 2) := by decide +kernel
theorem dX12_visit_21 : decode cX12_visit 21 = .ok (.ireturn, 1) := by decide +kernel
theorem dX12_visit_22 : decode cX12_visit 22 = .ok (.aload_n 0, 1) := by decide +kernel
theorem dX12_visit_23 : decode cX12_visit 23 = .ok (.invokevirtual 235, 3) := by decide +kernel
theorem dX12_visit_26 : decode cX12_visit 26 = .ok (.aload_n 0, 1) := by decide +kernel
theorem dX12_visit_27 : decode cX12_visit 27 = .ok (.iload_n 1, 1) := by decide +kernel
theorem dX12_visit_28 : decode cX12_visit 28 = .ok (.iload_n 2, 1) := by decide +kernel
theorem dX12_visit_29 : decode cX12_visit 29 = .ok (.iload_n 3, 1) := by decide +kernel
theorem dX12_visit_30 : decode cX12_visit 30 = .ok (.invokevirtual 238, 3) := by decide +kernel
theorem dX12_visit_33 : decode cX12_visit 33 = .ok (.ireturn, 1) := by decide +kernel
set_option maxRecDepth 4000 in
set_option maxHeartbeats 4000000 in
theorem m_X12_visit (l : Launch) (g : qGm) (M : qMem) {sd : sSD} (hs : sRS sd) (hS : mS M sd) (hv : sRR (sd 4 0) (sd 5 0) (M 61 0)) (hk : mK M) {c : Int} (hcq : qIn c) {h : Int} (hhq : qIn h) {a : Int} (haq : qIn a) : qOk l g 7 yX12_visit cX12_visit 4 (some .int) [qR g 35 0, qI c, qI h, qI a] M (fun r N => mD M (dVisit sd (zM M) c h a) r N) := by
  refine q_ok (by decide +kernel) (Nat.le_of_ble_eq_true rfl) (fun X C' hn => ?_)
  have C := C'.1
  have km := hs.2.1
  have kn := hs.2.2.1
  have hmn := hs.1
  have w0 := hS.1
  have w1 := hS.2.1
  have w2 := hS.2.2.1
  obtain ⟨kr, dr⟩ := mRem_z hk.1 hk.2.1
  have e61 := mRem_61 M
  refine q_aloadn C dX12_visit_0 rfl ?_
  refine q_iloadn C dX12_visit_1 rfl ?_
  refine q_iloadn C dX12_visit_2 rfl ?_
  refine cv_RX12_218 C (by decide) (m_X12_areBoth l g _ hs hS hcq hhq) dX12_visit_3 (Nat.le_of_ble_eq_true rfl) (fun r3 => ?_)
  refine q_ifneB C 12 dX12_visit_6 (by decide) (fun h6 => ?_) (fun h6 => ?_)
  · refine q_iloadn C dX12_visit_12 rfl ?_
    refine cv_RX12_221 C (by decide) (m_X12_isSign l g _ haq) dX12_visit_13 (Nat.le_of_ble_eq_true rfl) (fun r13 => ?_)
    refine q_ifneB C 22 dX12_visit_16 (by decide) (fun h16 => ?_) (fun h16 => ?_)
    · refine q_aloadn C dX12_visit_22 rfl ?_
      refine cv_RX12_235 C (by decide) (m_X12_remember l g _ hk.1 hk.2.1) dX12_visit_23 (Nat.le_of_ble_eq_true rfl) ?_
      refine q_aloadn C dX12_visit_26 rfl ?_
      refine q_iloadn C dX12_visit_27 rfl ?_
      refine q_iloadn C dX12_visit_28 rfl ?_
      refine q_iloadn C dX12_visit_29 rfl ?_
      refine cv_RX12_238 C (by decide) (m_X12_visits l g _ hs (dr.mS hS) (by rw [e61]; exact hv) (by omega) (by omega) (by omega)) dX12_visit_30 (Nat.le_of_ble_eq_true rfl) (fun r30 => ?_)
      refine q_iret C' dX12_visit_33 (by first | assumption | omega | exact q_tin _ | exact q_bIn _) ?_
      refine ⟨congrArg some ?_, ?_, ?_⟩
      · unfold dVisit; rw [if_pos (by omega), if_pos (by omega), e61]; rfl
      · unfold dVisit mVisit; rw [if_pos (by omega), if_pos (by omega), e61, mRow_z]; exact kr.row _
      · exact dr.tr (mRow_dp _ _)
    · refine q_ldc C (z := -1000000002) q_ci_RX12_89 (by decide) dX12_visit_19 ?_
      refine q_iret C' dX12_visit_21 (by first | assumption | omega | exact q_tin _ | exact q_bIn _) ?_
      refine ⟨congrArg some ?_, ?_, mDP.rf⟩ <;> unfold dVisit <;> first | (rw [if_neg (by omega)]; done) | (rw [if_pos (by omega), if_neg (by omega)]; done) | (rw [if_neg (by omega)]; exact zF.rf) | (rw [if_pos (by omega), if_neg (by omega)]; exact zF.rf)
  · refine q_ldc C (z := -1000000001) q_ci_RX12_214 (by decide) dX12_visit_9 ?_
    refine q_iret C' dX12_visit_11 (by first | assumption | omega | exact q_tin _ | exact q_bIn _) ?_
    refine ⟨congrArg some ?_, ?_, mDP.rf⟩ <;> unfold dVisit <;> first | (rw [if_neg (by omega)]; done) | (rw [if_pos (by omega), if_neg (by omega)]; done) | (rw [if_neg (by omega)]; exact zF.rf) | (rw [if_pos (by omega), if_neg (by omega)]; exact zF.rf)
theorem dX12_becomes_0 : decode cX12_becomes 0 = .ok (.aload_n 0, 1) := by decide +kernel
theorem dX12_becomes_1 : decode cX12_becomes 1 = .ok (.invokevirtual 235, 3) := by decide +kernel
theorem dX12_becomes_4 : decode cX12_becomes 4 = .ok (.aload_n 0, 1) := by decide +kernel
theorem dX12_becomes_5 : decode cX12_becomes 5 = .ok (.getfield 47, 3) := by decide +kernel
theorem dX12_becomes_8 : decode cX12_becomes 8 = .ok (.iload_n 1, 1) := by decide +kernel
theorem dX12_becomes_9 : decode cX12_becomes 9 = .ok (.iaload, 1) := by decide +kernel
theorem dX12_becomes_10 : decode cX12_becomes 10 = .ok (.istore_n 3, 1) := by decide +kernel
theorem dX12_becomes_11 : decode cX12_becomes 11 = .ok (.aload_n 0, 1) := by decide +kernel
theorem dX12_becomes_12 : decode cX12_becomes 12 = .ok (.getfield 47, 3) := by decide +kernel
theorem dX12_becomes_15 : decode cX12_becomes 15 = .ok (.iload_n 1, 1) := by decide +kernel
theorem dX12_becomes_16 : decode cX12_becomes 16 = .ok (.iload_n 2, 1) := by decide +kernel
theorem dX12_becomes_17 : decode cX12_becomes 17 = .ok (.iastore, 1) := by decide +kernel
theorem dX12_becomes_18 : decode cX12_becomes 18 = .ok (.iload_n 3, 1) := by decide +kernel
theorem dX12_becomes_19 : decode cX12_becomes 19 = .ok (.ireturn, 1) := by decide +kernel
set_option maxRecDepth 4000 in
set_option maxHeartbeats 4000000 in
theorem m_X12_becomes (l : Launch) (g : qGm) (M : qMem) {sd : sSD} (hs : sRS sd) (hS : mS M sd) (hv : sRR (sd 4 0) (sd 5 0) (M 61 0)) (hk : mK M) {p : Int} (hp : 0 ≤ p ∧ p < 199) {z : Int} (hz : qIn z) : qOk l g 2 yX12_becomes cX12_becomes 4 (some .int) [qR g 35 0, qI p, qI z] M (qEv (some (M 61 0 p)) (qUp (mRem M) 61 0 p z)) := by
  refine q_ok (by decide +kernel) (Nat.le_of_ble_eq_true rfl) (fun X C' hn => ?_)
  have C := C'.1
  obtain ⟨kr, dr⟩ := mRem_z hk.1 hk.2.1
  have e61 := mRem_61 M
  refine q_aloadn C dX12_becomes_0 rfl ?_
  refine cv_RX12_235 C (by decide) (m_X12_remember l g _ hk.1 hk.2.1) dX12_becomes_1 (Nat.le_of_ble_eq_true rfl) ?_
  refine q_aloadn C dX12_becomes_4 rfl ?_
  refine gf_RX12_47 C dX12_becomes_5 ?_
  refine q_iloadn C dX12_becomes_8 rfl ?_
  refine q_iald C (by first | assumption | decide | omega) rfl dX12_becomes_9 (by omega) (by omega) (by decide) (fun r9 => ?_)
  try simp only [q_rd, q_rdS, ↓reduceIte, if_true, if_false, eq_self, Nat.reduceEqDiff, Int.reduceEq, Int.reduceNeg, reduceCtorEq, mRem_61] at r9 ⊢
  refine q_istoren C dX12_becomes_10 hn (by decide) rfl ?_
  refine q_aloadn C dX12_becomes_11 rfl ?_
  refine gf_RX12_47 C dX12_becomes_12 ?_
  refine q_iloadn C dX12_becomes_15 rfl ?_
  refine q_iloadn C dX12_becomes_16 rfl ?_
  refine q_iast C (by first | assumption | decide | omega) (fun _ => rfl) dX12_becomes_17 (by omega) (by omega) (by decide) (by first | assumption | omega | exact q_tin _ | exact q_bIn _) ?_
  refine q_iloadn C dX12_becomes_18 rfl ?_
  refine q_iret C' dX12_becomes_19 (by first | assumption | omega | exact q_tin _ | exact q_bIn _) ?_
  refine ⟨congrArg some ?_, rfl⟩
  first | rfl | (rw [mRem_61]; done)
theorem dX12_mean_0 : decode cX12_mean 0 = .ok (.aload_n 0, 1) := by decide +kernel
theorem dX12_mean_1 : decode cX12_mean 1 = .ok (.iload_n 1, 1) := by decide +kernel
theorem dX12_mean_2 : decode cX12_mean 2 = .ok (.invokevirtual 162, 3) := by decide +kernel
theorem dX12_mean_5 : decode cX12_mean 5 = .ok (.ifCond .ne 8, 3) := by decide +kernel
theorem dX12_mean_8 : decode cX12_mean 8 = .ok (.ldc 214, 2) := by decide +kernel
theorem dX12_mean_10 : decode cX12_mean 10 = .ok (.goto 27, 3) := by decide +kernel
theorem dX12_mean_13 : decode cX12_mean 13 = .ok (.iload_n 2, 1) := by decide +kernel
theorem dX12_mean_14 : decode cX12_mean 14 = .ok (.iconst 0, 1) := by decide +kernel
theorem dX12_mean_15 : decode cX12_mean 15 = .ok (.bipush 7, 2) := by decide +kernel
theorem dX12_mean_17 : decode cX12_mean 17 = .ok (.invokestatic 85, 3) := by decide +kernel
theorem dX12_mean_20 : decode cX12_mean 20 = .ok (.ifCond .ne 8, 3) := by decide +kernel
theorem dX12_mean_23 : decode cX12_mean 23 = .ok (.ldc 89, 2) := by decide +kernel
theorem dX12_mean_25 : decode cX12_mean 25 = .ok (.goto 12, 3) := by decide +kernel
theorem dX12_mean_28 : decode cX12_mean 28 = .ok (.aload_n 0, 1) := by decide +kernel
theorem dX12_mean_29 : decode cX12_mean 29 = .ok (.bipush 8, 2) := by decide +kernel
theorem dX12_mean_31 : decode cX12_mean 31 = .ok (.iload_n 1, 1) := by decide +kernel
theorem dX12_mean_32 : decode cX12_mean 32 = .ok (.iadd, 1) := by decide +kernel
theorem dX12_mean_33 : decode cX12_mean 33 = .ok (.iload_n 2, 1) := by decide +kernel
theorem dX12_mean_34 : decode cX12_mean 34 = .ok (.invokevirtual 248, 3) := by decide +kernel
theorem dX12_mean_37 : decode cX12_mean 37 = .ok (.ireturn, 1) := by decide +kernel
set_option maxRecDepth 4000 in
set_option maxHeartbeats 4000000 in
theorem m_X12_mean (l : Launch) (g : qGm) (M : qMem) {sd : sSD} (hs : sRS sd) (hS : mS M sd) (hv : sRR (sd 4 0) (sd 5 0) (M 61 0)) (hk : mK M) {c : Int} (hcq : qIn c) {z : Int} (hzq : qIn z) : qOk l g 3 yX12_mean cX12_mean 3 (some .int) [qR g 35 0, qI c, qI z] M (fun r N => mD M (dMean sd (zM M) c z) r N) := by
  refine q_ok (by decide +kernel) (Nat.le_of_ble_eq_true rfl) (fun X C' hn => ?_)
  have C := C'.1
  have km := hs.2.1
  have kn := hs.2.2.1
  have hmn := hs.1
  have w0 := hS.1
  have w1 := hS.2.1
  have w2 := hS.2.2.1
  refine q_aloadn C dX12_mean_0 rfl ?_
  refine q_iloadn C dX12_mean_1 rfl ?_
  refine cv_RX12_162 C (by decide) (m_X12_isComer l g _ hs hS hcq) dX12_mean_2 (Nat.le_of_ble_eq_true rfl) (fun r2 => ?_)
  refine q_ifneB C 13 dX12_mean_5 (by decide) (fun h5 => ?_) (fun h5 => ?_)
  · refine q_iloadn C dX12_mean_13 rfl ?_
    refine q_iconst C dX12_mean_14 ?_
    refine q_bipush C dX12_mean_15 (by decide) ?_
    refine cv_RX12_85 C (by decide) (m_X12_in l g _ (by omega) (by omega) (by omega)) dX12_mean_17 (Nat.le_of_ble_eq_true rfl) (fun r17 => ?_)
    refine q_ifneB C 28 dX12_mean_20 (by decide) (fun h20 => ?_) (fun h20 => ?_)
    · refine q_aloadn C dX12_mean_28 rfl ?_
      refine q_bipush C dX12_mean_29 (by decide) ?_
      refine q_iloadn C dX12_mean_31 rfl ?_
      refine q_iadd C dX12_mean_32 ?_
      refine q_iloadn C dX12_mean_33 rfl ?_
      refine cv_RX12_248 C (by decide) (m_X12_becomes l g _ hs hS hv hk (by omega) (by omega)) dX12_mean_34 (Nat.le_of_ble_eq_true rfl) (fun r34 => ?_)
      refine q_iret C' dX12_mean_37 (by first | assumption | omega | exact q_tin _ | exact q_bIn _) ?_
      first | (obtain ⟨k4, d4⟩ := mSet_z (p := 8 + c) (z := z) hk; refine ⟨congrArg some ?_, ?_, d4⟩; (unfold dMean; rw [if_pos (by omega), if_pos (by omega)]; rfl); (unfold dMean; rw [if_pos (by omega), if_pos (by omega)]; exact k4)) | (refine ⟨congrArg some ?_, ?_, mDP.rf⟩ <;> unfold dMean <;> first | (rw [if_neg (by omega)]; done) | (rw [if_pos (by omega), if_neg (by omega)]; done) | (rw [if_neg (by omega)]; exact zF.rf) | (rw [if_pos (by omega), if_neg (by omega)]; exact zF.rf))
    · refine q_ldc C (z := -1000000002) q_ci_RX12_89 (by decide) dX12_mean_23 ?_
      refine q_goto C (tgt := 37) dX12_mean_25 (by decide) ?_
      refine q_iret C' dX12_mean_37 (by first | assumption | omega | exact q_tin _ | exact q_bIn _) ?_
      first | (obtain ⟨k4, d4⟩ := mSet_z (p := 8 + c) (z := z) hk; refine ⟨congrArg some ?_, ?_, d4⟩; (unfold dMean; rw [if_pos (by omega), if_pos (by omega)]; rfl); (unfold dMean; rw [if_pos (by omega), if_pos (by omega)]; exact k4)) | (refine ⟨congrArg some ?_, ?_, mDP.rf⟩ <;> unfold dMean <;> first | (rw [if_neg (by omega)]; done) | (rw [if_pos (by omega), if_neg (by omega)]; done) | (rw [if_neg (by omega)]; exact zF.rf) | (rw [if_pos (by omega), if_neg (by omega)]; exact zF.rf))
  · refine q_ldc C (z := -1000000001) q_ci_RX12_214 (by decide) dX12_mean_8 ?_
    refine q_goto C (tgt := 37) dX12_mean_10 (by decide) ?_
    refine q_iret C' dX12_mean_37 (by first | assumption | omega | exact q_tin _ | exact q_bIn _) ?_
    first | (obtain ⟨k4, d4⟩ := mSet_z (p := 8 + c) (z := z) hk; refine ⟨congrArg some ?_, ?_, d4⟩; (unfold dMean; rw [if_pos (by omega), if_pos (by omega)]; rfl); (unfold dMean; rw [if_pos (by omega), if_pos (by omega)]; exact k4)) | (refine ⟨congrArg some ?_, ?_, mDP.rf⟩ <;> unfold dMean <;> first | (rw [if_neg (by omega)]; done) | (rw [if_pos (by omega), if_neg (by omega)]; done) | (rw [if_neg (by omega)]; exact zF.rf) | (rw [if_pos (by omega), if_neg (by omega)]; exact zF.rf))
theorem dX12_stuff_0 : decode cX12_stuff 0 = .ok (.aload_n 0, 1) := by decide +kernel
theorem dX12_stuff_1 : decode cX12_stuff 1 = .ok (.iload_n 1, 1) := by decide +kernel
theorem dX12_stuff_2 : decode cX12_stuff 2 = .ok (.invokevirtual 162, 3) := by decide +kernel
theorem dX12_stuff_5 : decode cX12_stuff 5 = .ok (.ifCond .ne 8, 3) := by decide +kernel
theorem dX12_stuff_8 : decode cX12_stuff 8 = .ok (.ldc 214, 2) := by decide +kernel
theorem dX12_stuff_10 : decode cX12_stuff 10 = .ok (.goto 27, 3) := by decide +kernel
theorem dX12_stuff_13 : decode cX12_stuff 13 = .ok (.iload_n 2, 1) := by decide +kernel
theorem dX12_stuff_14 : decode cX12_stuff 14 = .ok (.iconst 0, 1) := by decide +kernel
theorem dX12_stuff_15 : decode cX12_stuff 15 = .ok (.bipush 9, 2) := by decide +kernel
theorem dX12_stuff_17 : decode cX12_stuff 17 = .ok (.invokestatic 85, 3) := by decide +kernel
theorem dX12_stuff_20 : decode cX12_stuff 20 = .ok (.ifCond .ne 8, 3) := by decide +kernel
theorem dX12_stuff_23 : decode cX12_stuff 23 = .ok (.ldc 89, 2) := by decide +kernel
theorem dX12_stuff_25 : decode cX12_stuff 25 = .ok (.goto 12, 3) := by decide +kernel
theorem dX12_stuff_28 : decode cX12_stuff 28 = .ok (.aload_n 0, 1) := by decide +kernel
theorem dX12_stuff_29 : decode cX12_stuff 29 = .ok (.bipush 14, 2) := by decide +kernel
theorem dX12_stuff_31 : decode cX12_stuff 31 = .ok (.iload_n 1, 1) := by decide +kernel
theorem dX12_stuff_32 : decode cX12_stuff 32 = .ok (.iadd, 1) := by decide +kernel
theorem dX12_stuff_33 : decode cX12_stuff 33 = .ok (.iload_n 2, 1) := by decide +kernel
theorem dX12_stuff_34 : decode cX12_stuff 34 = .ok (.invokevirtual 248, 3) := by decide +kernel
theorem dX12_stuff_37 : decode cX12_stuff 37 = .ok (.ireturn, 1) := by decide +kernel
set_option maxRecDepth 4000 in
set_option maxHeartbeats 4000000 in
theorem m_X12_stuff (l : Launch) (g : qGm) (M : qMem) {sd : sSD} (hs : sRS sd) (hS : mS M sd) (hv : sRR (sd 4 0) (sd 5 0) (M 61 0)) (hk : mK M) {c : Int} (hcq : qIn c) {z : Int} (hzq : qIn z) : qOk l g 3 yX12_stuff cX12_stuff 3 (some .int) [qR g 35 0, qI c, qI z] M (fun r N => mD M (dStuff sd (zM M) c z) r N) := by
  refine q_ok (by decide +kernel) (Nat.le_of_ble_eq_true rfl) (fun X C' hn => ?_)
  have C := C'.1
  have km := hs.2.1
  have kn := hs.2.2.1
  have hmn := hs.1
  have w0 := hS.1
  have w1 := hS.2.1
  have w2 := hS.2.2.1
  refine q_aloadn C dX12_stuff_0 rfl ?_
  refine q_iloadn C dX12_stuff_1 rfl ?_
  refine cv_RX12_162 C (by decide) (m_X12_isComer l g _ hs hS hcq) dX12_stuff_2 (Nat.le_of_ble_eq_true rfl) (fun r2 => ?_)
  refine q_ifneB C 13 dX12_stuff_5 (by decide) (fun h5 => ?_) (fun h5 => ?_)
  · refine q_iloadn C dX12_stuff_13 rfl ?_
    refine q_iconst C dX12_stuff_14 ?_
    refine q_bipush C dX12_stuff_15 (by decide) ?_
    refine cv_RX12_85 C (by decide) (m_X12_in l g _ (by omega) (by omega) (by omega)) dX12_stuff_17 (Nat.le_of_ble_eq_true rfl) (fun r17 => ?_)
    refine q_ifneB C 28 dX12_stuff_20 (by decide) (fun h20 => ?_) (fun h20 => ?_)
    · refine q_aloadn C dX12_stuff_28 rfl ?_
      refine q_bipush C dX12_stuff_29 (by decide) ?_
      refine q_iloadn C dX12_stuff_31 rfl ?_
      refine q_iadd C dX12_stuff_32 ?_
      refine q_iloadn C dX12_stuff_33 rfl ?_
      refine cv_RX12_248 C (by decide) (m_X12_becomes l g _ hs hS hv hk (by omega) (by omega)) dX12_stuff_34 (Nat.le_of_ble_eq_true rfl) (fun r34 => ?_)
      refine q_iret C' dX12_stuff_37 (by first | assumption | omega | exact q_tin _ | exact q_bIn _) ?_
      first | (obtain ⟨k4, d4⟩ := mSet_z (p := 14 + c) (z := z) hk; refine ⟨congrArg some ?_, ?_, d4⟩; (unfold dStuff; rw [if_pos (by omega), if_pos (by omega)]; rfl); (unfold dStuff; rw [if_pos (by omega), if_pos (by omega)]; exact k4)) | (refine ⟨congrArg some ?_, ?_, mDP.rf⟩ <;> unfold dStuff <;> first | (rw [if_neg (by omega)]; done) | (rw [if_pos (by omega), if_neg (by omega)]; done) | (rw [if_neg (by omega)]; exact zF.rf) | (rw [if_pos (by omega), if_neg (by omega)]; exact zF.rf))
    · refine q_ldc C (z := -1000000002) q_ci_RX12_89 (by decide) dX12_stuff_23 ?_
      refine q_goto C (tgt := 37) dX12_stuff_25 (by decide) ?_
      refine q_iret C' dX12_stuff_37 (by first | assumption | omega | exact q_tin _ | exact q_bIn _) ?_
      first | (obtain ⟨k4, d4⟩ := mSet_z (p := 14 + c) (z := z) hk; refine ⟨congrArg some ?_, ?_, d4⟩; (unfold dStuff; rw [if_pos (by omega), if_pos (by omega)]; rfl); (unfold dStuff; rw [if_pos (by omega), if_pos (by omega)]; exact k4)) | (refine ⟨congrArg some ?_, ?_, mDP.rf⟩ <;> unfold dStuff <;> first | (rw [if_neg (by omega)]; done) | (rw [if_pos (by omega), if_neg (by omega)]; done) | (rw [if_neg (by omega)]; exact zF.rf) | (rw [if_pos (by omega), if_neg (by omega)]; exact zF.rf))
  · refine q_ldc C (z := -1000000001) q_ci_RX12_214 (by decide) dX12_stuff_8 ?_
    refine q_goto C (tgt := 37) dX12_stuff_10 (by decide) ?_
    refine q_iret C' dX12_stuff_37 (by first | assumption | omega | exact q_tin _ | exact q_bIn _) ?_
    first | (obtain ⟨k4, d4⟩ := mSet_z (p := 14 + c) (z := z) hk; refine ⟨congrArg some ?_, ?_, d4⟩; (unfold dStuff; rw [if_pos (by omega), if_pos (by omega)]; rfl); (unfold dStuff; rw [if_pos (by omega), if_pos (by omega)]; exact k4)) | (refine ⟨congrArg some ?_, ?_, mDP.rf⟩ <;> unfold dStuff <;> first | (rw [if_neg (by omega)]; done) | (rw [if_pos (by omega), if_neg (by omega)]; done) | (rw [if_neg (by omega)]; exact zF.rf) | (rw [if_pos (by omega), if_neg (by omega)]; exact zF.rf))
theorem dX12_seed_0 : decode cX12_seed 0 = .ok (.iload_n 1, 1) := by decide +kernel
theorem dX12_seed_1 : decode cX12_seed 1 = .ok (.ifCond .ge 6, 3) := by decide +kernel
theorem dX12_seed_4 : decode cX12_seed 4 = .ok (.ldc 89, 2) := by decide +kernel
theorem dX12_seed_6 : decode cX12_seed 6 = .ok (.ireturn, 1) := by decide +kernel
theorem dX12_seed_7 : decode cX12_seed 7 = .ok (.aload_n 0, 1) := by decide +kernel
theorem dX12_seed_8 : decode cX12_seed 8 = .ok (.getfield 251, 3) := by decide +kernel
theorem dX12_seed_11 : decode cX12_seed 11 = .ok (.l2i, 1) := by decide +kernel
theorem dX12_seed_12 : decode cX12_seed 12 = .ok (.istore_n 2, 1) := by decide +kernel
theorem dX12_seed_13 : decode cX12_seed 13 = .ok (.aload_n 0, 1) := by decide +kernel
theorem dX12_seed_14 : decode cX12_seed 14 = .ok (.iload_n 1, 1) := by decide +kernel
theorem dX12_seed_15 : decode cX12_seed 15 = .ok (.i2l, 1) := by decide +kernel
theorem dX12_seed_16 : decode cX12_seed 16 = .ok (.putfield 251, 3) := by decide +kernel
theorem dX12_seed_19 : decode cX12_seed 19 = .ok (.iload_n 2, 1) := by decide +kernel
theorem dX12_seed_20 : decode cX12_seed 20 = .ok (.ireturn, 1) := by decide +kernel
set_option maxRecDepth 4000 in
set_option maxHeartbeats 4000000 in
theorem m_X12_seed (l : Launch) (g : qGm) (M : qMem) (hk : mK M) {s : Int} (hsq : qIn s) : qOk l g 1 yX12_seed cX12_seed 3 (some .int) [qR g 35 0, qI s] M (fun r N => mD M (dSeed (zM M) s) r N) := by
  refine q_ok (by decide +kernel) (Nat.le_of_ble_eq_true rfl) (fun X C' hn => ?_)
  have C := C'.1
  have b1 := hk.2.2
  refine q_iloadn C dX12_seed_0 rfl ?_
  refine q_if_ge C 7 dX12_seed_1 (by decide) (by first | assumption | omega | exact q_tin _ | exact q_bIn _) (fun h1 => ?_) (fun h1 => ?_)
  · refine q_aloadn C dX12_seed_7 rfl ?_
    refine gf_RX12_251 C dX12_seed_8 (fun r8 => ?_)
    refine q_l2i C dX12_seed_11 ?_
    refine q_istoren C dX12_seed_12 hn (by decide) rfl ?_
    refine q_aloadn C dX12_seed_13 rfl ?_
    refine q_iloadn C dX12_seed_14 rfl ?_
    refine q_i2l C (by first | assumption | omega | exact q_tin _ | exact q_bIn _) dX12_seed_15 ?_
    refine pf_RX12_251 C (by first | assumption | omega | exact q_tin _ | exact q_bIn _) dX12_seed_16 ?_
    refine q_iloadn C dX12_seed_19 rfl ?_
    refine q_iret C' dX12_seed_20 (by first | assumption | omega | exact q_tin _ | exact q_bIn _) ?_
    first | (refine ⟨congrArg some ?_, ?_, ?_, ?_⟩; (unfold dSeed; rw [if_pos (by omega)]; rfl); (unfold dSeed; rw [if_pos (by omega)]; refine ⟨?_, ?_, fun a q => ?_, fun b c q1 q2 q3 q4 => ?_⟩; (funext b c; simp [zM, zSeed, q_rd]); (funext b c; simp [zM, zSeed, q_rd] <;> (repeat' split) <;> first | rfl | omega); (funext b c; simp [zM, zSeed, q_rd, show a ≠ 2 by omega]); (simp [zM, zSeed, q_rd])); (intro j u q; rw [q_upF (by omega)]); (intro i q1 q2 q3; simp [q_rd, q3])) | (refine ⟨congrArg some ?_, ?_, mDP.rf⟩ <;> unfold dSeed <;> rw [if_neg (by omega)]; exact zF.rf)
  · refine q_ldc C (z := -1000000002) q_ci_RX12_89 (by decide) dX12_seed_4 ?_
    refine q_iret C' dX12_seed_6 (by first | assumption | omega | exact q_tin _ | exact q_bIn _) ?_
    first | (refine ⟨congrArg some ?_, ?_, ?_, ?_⟩; (unfold dSeed; rw [if_pos (by omega)]; rfl); (unfold dSeed; rw [if_pos (by omega)]; refine ⟨?_, ?_, fun a q => ?_, fun b c q1 q2 q3 q4 => ?_⟩; (funext b c; simp [zM, zSeed, q_rd]); (funext b c; simp [zM, zSeed, q_rd] <;> (repeat' split) <;> first | rfl | omega); (funext b c; simp [zM, zSeed, q_rd, show a ≠ 2 by omega]); (simp [zM, zSeed, q_rd])); (intro j u q; rw [q_upF (by omega)]); (intro i q1 q2 q3; simp [q_rd, q3])) | (refine ⟨congrArg some ?_, ?_, mDP.rf⟩ <;> unfold dSeed <;> rw [if_neg (by omega)]; exact zF.rf)
theorem dX12_day_0 : decode cX12_day 0 = .ok (.aload_n 0, 1) := by decide +kernel
theorem dX12_day_1 : decode cX12_day 1 = .ok (.iload_n 1, 1) := by decide +kernel
theorem dX12_day_2 : decode cX12_day 2 = .ok (.invokevirtual 242, 3) := by decide +kernel
theorem dX12_day_5 : decode cX12_day 5 = .ok (.istore_n 2, 1) := by decide +kernel
theorem dX12_day_6 : decode cX12_day 6 = .ok (.iload_n 2, 1) := by decide +kernel
theorem dX12_day_7 : decode cX12_day 7 = .ok (.ifCond .ge 5, 3) := by decide +kernel
theorem dX12_day_10 : decode cX12_day 10 = .ok (.iload_n 2, 1) := by decide +kernel
theorem dX12_day_11 : decode cX12_day 11 = .ok (.ireturn, 1) := by decide +kernel
theorem dX12_day_12 : decode cX12_day 12 = .ok (.iconst 0, 1) := by decide +kernel
theorem dX12_day_13 : decode cX12_day 13 = .ok (.istore_n 3, 1) := by decide +kernel
theorem dX12_day_14 : decode cX12_day 14 = .ok (.iload_n 3, 1) := by decide +kernel
theorem dX12_day_15 : decode cX12_day 15 = .ok (.iload_n 1, 1) := by decide +kernel
theorem dX12_day_16 : decode cX12_day 16 = .ok (.if_icmp .ge 17, 3) := by decide +kernel
theorem dX12_day_19 : decode cX12_day 19 = .ok (.aload_n 0, 1) := by decide +kernel
theorem dX12_day_20 : decode cX12_day 20 = .ok (.invokevirtual 235, 3) := by decide +kernel
theorem dX12_day_23 : decode cX12_day 23 = .ok (.aload_n 0, 1) := by decide +kernel
theorem dX12_day_24 : decode cX12_day 24 = .ok (.invokevirtual 245, 3) := by decide +kernel
theorem dX12_day_27 : decode cX12_day 27 = .ok (.iinc 3 1, 3) := by decide +kernel
theorem dX12_day_30 : decode cX12_day 30 = .ok (.goto (-16), 3) := by decide +kernel
theorem dX12_day_33 : decode cX12_day 33 = .ok (.aload_n 0, 1) := by decide +kernel
theorem dX12_day_34 : decode cX12_day 34 = .ok (.getfield 47, 3) := by decide +kernel
theorem dX12_day_37 : decode cX12_day 37 = .ok (.iconst 0, 1) := by decide +kernel
theorem dX12_day_38 : decode cX12_day 38 = .ok (.iaload, 1) := by decide +kernel
theorem dX12_day_39 : decode cX12_day 39 = .ok (.ireturn, 1) := by decide +kernel
set_option maxRecDepth 4000 in
set_option maxHeartbeats 4000000 in
theorem m_X12_day (l : Launch) (g : qGm) (M : qMem) {sd : sSD} (hs : sRS sd) (hS : mS M sd) (hv : sRR (sd 4 0) (sd 5 0) (M 61 0)) (hk : mK M) {k : Int} (hkq : qIn k) : qOk l g 3 yX12_day cX12_day 4 (some .int) [qR g 35 0, qI k] M (fun r N => mD M (dDay sd (zM M) k) r N) := by
  refine q_ok (by decide +kernel) (Nat.le_of_ble_eq_true rfl) (fun X C' hn => ?_)
  have C := C'.1
  have km := hs.2.1
  have kn := hs.2.2.1
  have hmn := hs.1
  have w0 := hS.1
  have w1 := hS.2.1
  have w2 := hS.2.2.1
  have ye := dNo_in sd (zM M) k
  refine q_aloadn C dX12_day_0 rfl ?_
  refine q_iloadn C dX12_day_1 rfl ?_
  refine cv_RX12_242 C (by decide) (m_X12_needDays l g _ hs hS hv hkq) dX12_day_2 (Nat.le_of_ble_eq_true rfl) (fun r2 => ?_)
  refine q_istoren C dX12_day_5 hn (by decide) rfl ?_
  refine q_iloadn C dX12_day_6 rfl ?_
  refine q_if_ge C 12 dX12_day_7 (by decide) (by first | assumption | omega | exact q_tin _ | exact q_bIn _) (fun h7 => ?_) (fun h7 => ?_)
  · refine q_iconst C dX12_day_12 ?_
    have hd0 := dNo_0 (show dNo sd (zM M) k = 0 by omega)
    refine q_istoren C dX12_day_13 hn (by decide) rfl ?_
    have L14 : ∀ (n14 : Nat) (i : Int) (N : qMem), k - i < (n14 : Int) → (0 ≤ i) → (i ≤ k) → (zF (zM N) (zDays (sd 5 0) (zM M) i.toNat)) → (mDP M N) → (sRR (sd 4 0) (sd 5 0) (N 61 0)) → (mK N) → (dNo sd (zM M) k = 0) → qV l g X N 14 [(0, qR g 35 0), (1, qI k), (3, qI i)] [] := by
      intro n14
      induction n14 with
      | zero => intro i N hm14 i0 i1 kz kd kv kk kn0; exfalso; first | omega | (simp at *; omega)
      | succ n14 ih14 =>
        intro i N hm14 i0 i1 kz kd kv kk kn0
        have vS := kd.mS hS
        obtain ⟨kr, dr⟩ := mRem_z kk.1 kk.2.1
        have d0 := dNo_0 kn0
        have x0 : N 61 0 0 = M 61 0 0 + i.toNat := (congrFun (congrFun kz.1 0) 0).trans (zDays_0 (sd 5 0) (zM M) i.toNat)
        have z0 : zM M 0 0 0 = M 61 0 0 := rfl
        refine q_iloadn C dX12_day_14 rfl ?_
        refine q_iloadn C dX12_day_15 rfl ?_
        refine q_icmp_ge C 33 dX12_day_16 (by decide) (by first | assumption | omega | exact q_tin _ | exact q_bIn _) (by first | assumption | omega | exact q_tin _ | exact q_bIn _) (fun h16 => ?_) (fun h16 => ?_)
        · refine q_aloadn C dX12_day_33 rfl ?_
          refine gf_RX12_47 C dX12_day_34 ?_
          refine q_iconst C dX12_day_37 ?_
          refine q_iald C (by first | assumption | decide | omega) rfl dX12_day_38 (by omega) (by omega) (by decide) (fun r38 => ?_)
          refine q_iret C' dX12_day_39 (by first | assumption | omega | exact q_tin _ | exact q_bIn _) ?_
          first | (refine ⟨congrArg some ?_, ?_, mDP.rf⟩; (unfold dDay; rw [if_neg (by omega)]); (unfold dDay; rw [if_neg (by omega)]; exact zF.rf)) | (have ei : i = k := (by omega); refine ⟨congrArg some ?_, ?_, kd⟩; (unfold dDay; rw [if_pos kn0, x0, ei]; show _ = M 61 0 0 + k; omega); (unfold dDay; rw [if_pos kn0, ← ei]; exact kz))
        · refine q_aloadn C dX12_day_19 rfl ?_
          refine cv_RX12_235 C (by decide) (m_X12_remember l g _ kk.1 kk.2.1) dX12_day_20 (Nat.le_of_ble_eq_true rfl) ?_
          refine q_aloadn C dX12_day_23 rfl ?_
          refine cv_RX12_245 C (by decide) (m_X12_days l g _ hs (dr.mS vS) (by rw [mRem_61]; exact kv) (by rw [mRem_61]; omega)) dX12_day_24 (Nat.le_of_ble_eq_true rfl) ?_
          refine q_iinc C dX12_day_27 rfl hn (by decide) rfl ?_
          refine q_goto C (tgt := 14) dX12_day_30 (by decide) ?_
          exact q_ls (by exact ⟨rfl, rfl, rfl, trivial⟩) (ih14 _ (qSet (mRem N) 61 0 (vDay (sd 5 0) (mRem N 61 0))) (by omega) (by omega) (by omega) (by rw [show (i + 1).toNat = i.toNat + 1 by omega, zDays, mRow_z]; exact (kr.tr kz.rem).day (sd 5 0)) (by exact (kd.tr dr).tr (mRow_dp _ _)) (by rw [q_setOn', mRem_61]; exact sRR_day kv km.2 kn (by omega)) (by exact mRow_k (mRem_k kk)) (by exact kn0))
    exact q_ls (by exact ⟨rfl, rfl, rfl, trivial⟩) (L14 1000 _ M (by omega) (by omega) (by omega) (by exact zF.rf) (by exact mDP.rf) (by exact hv) (by exact hk) (by omega))
  · refine q_iloadn C dX12_day_10 rfl ?_
    refine q_iret C' dX12_day_11 (by first | assumption | omega | exact q_tin _ | exact q_bIn _) ?_
    first | (refine ⟨congrArg some ?_, ?_, mDP.rf⟩; (unfold dDay; rw [if_neg (by omega)]); (unfold dDay; rw [if_neg (by omega)]; exact zF.rf)) | (have ei : i = k := (by omega); refine ⟨congrArg some ?_, ?_, kd⟩; (unfold dDay; rw [if_pos kn0, x0, ei]; show _ = M 61 0 0 + k; omega); (unfold dDay; rw [if_pos kn0, ← ei]; exact kz))
