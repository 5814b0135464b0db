theorem dX11_visit_0 : decode cX11_visit 0 = .ok (.aload_n 0, 1) := by decide +kernel
theorem dX11_visit_1 : decode cX11_visit 1 = .ok (.getfield 31, 3) := by decide +kernel
theorem dX11_visit_4 : decode cX11_visit 4 = .ok (.iload_n 1, 1) := by decide +kernel
theorem dX11_visit_5 : decode cX11_visit 5 = .ok (.iload_n 2, 1) := by decide +kernel
theorem dX11_visit_6 : decode cX11_visit 6 = .ok (.invokevirtual 205, 3) := by decide +kernel
theorem dX11_visit_9 : decode cX11_visit 9 = .ok (.ifCond .ne 6, 3) := by decide +kernel
theorem dX11_visit_12 : decode cX11_visit 12 = .ok (.ldc 169, 2) := by decide +kernel
theorem dX11_visit_14 : decode cX11_visit 14 = .ok (.ireturn, 1) := by decide +kernel
theorem dX11_visit_15 : decode cX11_visit 15 = .ok (.iload_n 3, 1) := by decide +kernel
theorem dX11_visit_16 : decode cX11_visit 16 = .ok (.invokestatic 211, 3) := by decide +kernel
theorem dX11_visit_19 : decode cX11_visit 19 = .ok (.ifCond .ne 6, 3) := by decide +kernel
theorem dX11_visit_22 : decode cX11_visit 22 = .ok (.ldc 90, 2) := by decide +kernel
theorem dX11_visit_24 : decode cX11_visit 24 = .ok (.ireturn, 1) := by decide +kernel
theorem dX11_visit_25 : decode cX11_visit 25 = .ok (.aload_n 0, 1) := by decide +kernel
theorem dX11_visit_26 : decode cX11_visit 26 = .ok (.getfield 54, 3) := by decide +kernel
theorem dX11_visit_29 : decode cX11_visit 29 = .ok (.aload_n 0, 1) := by decide +kernel
theorem dX11_visit_30 : decode cX11_visit 30 = .ok (.getfield 34, 3) := by decide +kernel
theorem dX11_visit_33 : decode cX11_visit 33 = .ok (.invokevirtual 227, 3) := by decide +kernel
theorem dX11_visit_36 : decode cX11_visit 36 = .ok (.aload_n 0, 1) := by decide +kernel
theorem dX11_visit_37 : decode cX11_visit 37 = .ok (.iload_n 1, 1) := by decide +kernel
theorem dX11_visit_38 : decode cX11_visit 38 = .ok (.iload_n 2, 1) := by decide +kernel
theorem dX11_visit_39 : decode cX11_visit 39 = .ok (.iload_n 3, 1) := by decide +kernel
theorem dX11_visit_40 : decode cX11_visit 40 = .ok (.invokevirtual 231, 3) := by decide +kernel
theorem dX11_visit_43 : decode cX11_visit 43 = .ok (.ireturn, 1) := by decide +kernel
set_option maxRecDepth 4000 in
set_option maxHeartbeats 4000000 in
theorem m_X11_visit (l : Launch) (g : qGm) (M : qMem) {sd : sSD} (hs : sRS sd) (hS : xS M sd) {Z : sZ} (hZ : xZ M (sd 4 0) (sd 5 0) Z) {c : Int} (hcq : qIn c) {h : Int} (hhq : qIn h) {a : Int} (haq : qIn a) : qOk l g 6 yX11_visit cX11_visit 4 (some .int) [qR g 0 0, qI c, qI h, qI a] M (fun r N => xD M sd (dVisit sd Z c h a) r N) := by
  refine q_ok (by decide +kernel) (Nat.le_of_ble_eq_true rfl) (fun X C' hn => ?_)
  have C := C'.1
  have hm6 := hs.2.1
  have hn6 := hs.2.2.1
  have w0 := hS.1
  have w1 := hS.2.1
  have w2 := hS.2.2.1
  have y1 := hZ.1.1
  have y2 := hZ.1.2
  have y3 := hZ.2.1
  have y4 := hZ.2.2.1
  have y5 := hZ.2.2.2.2
  obtain ⟨kr, dr⟩ := xZ_rem hZ
  refine q_aloadn C dX11_visit_0 rfl ?_
  refine gf_RX11_31 C dX11_visit_1 ?_
  refine q_iloadn C dX11_visit_4 rfl ?_
  refine q_iloadn C dX11_visit_5 rfl ?_
  refine cv_RX11_205 C (by decide) (by decide) (m_X7_hasBoth l g _ (by decide) hcq hhq) dX11_visit_6 (Nat.le_of_ble_eq_true rfl) (fun r6 => ?_)
  refine q_ifneB C 15 dX11_visit_9 (by decide) (fun h9 => ?_) (fun h9 => ?_)
  · refine q_iloadn C dX11_visit_15 rfl ?_
    refine cv_RX11_211 C (by decide) (m_X1_isSign l g _ haq) dX11_visit_16 (Nat.le_of_ble_eq_true rfl) (fun r16 => ?_)
    refine q_ifneB C 25 dX11_visit_19 (by decide) (fun h19 => ?_) (fun h19 => ?_)
    · refine q_aloadn C dX11_visit_25 rfl ?_
      refine gf_RX11_54 C dX11_visit_26 ?_
      refine q_aloadn C dX11_visit_29 rfl ?_
      refine gf_RX11_34 C dX11_visit_30 ?_
      refine cv_RX11_227 C (by decide) (m_X6_remember l g _ (by omega) (by omega)) dX11_visit_33 (Nat.le_of_ble_eq_true rfl) ?_
      refine q_aloadn C dX11_visit_36 rfl ?_
      refine q_iloadn C dX11_visit_37 rfl ?_
      refine q_iloadn C dX11_visit_38 rfl ?_
      refine q_iloadn C dX11_visit_39 rfl ?_
      refine cw_RX11_231 C (by decide) (m_X11_lay l g _ hs (dr.xS hS) kr (by omega) (by omega) (by omega)) dX11_visit_40 (Nat.le_of_ble_eq_true rfl) (fun r N hz hp => ?_)
      obtain ⟨rfl, k4, d4⟩ := hp
      have q4 := hz _ rfl
      show qV l g X _ _ _ (qI _ :: [])
      refine q_iret C' dX11_visit_43 (by first | assumption | omega | exact q_tin _ | exact q_bIn _) ?_
      rw [zRem_r] at k4
      refine ⟨congrArg some ?_, ?_, dr.tr d4⟩ <;> unfold dVisit <;> rw [if_pos (by omega), if_pos (by omega)]
      · rw [zRem_r]
      · exact k4
    · refine q_ldc C (z := -1000000002) q_ci_RX11_90 (by decide) dX11_visit_22 ?_
      refine q_iret C' dX11_visit_24 (by first | assumption | omega | exact q_tin _ | exact q_bIn _) ?_
      first | (refine ⟨congrArg some ?_, ?_, xDP.rf⟩ <;> unfold dVisit <;> first | (rw [if_neg (by omega)]; done) | (rw [if_pos (by omega), if_neg (by omega)]; done) | (rw [if_neg (by omega)]; exact hZ) | (rw [if_pos (by omega), if_neg (by omega)]; exact hZ))
  · refine q_ldc C (z := -1000000001) q_ci_RX11_169 (by decide) dX11_visit_12 ?_
    refine q_iret C' dX11_visit_14 (by first | assumption | omega | exact q_tin _ | exact q_bIn _) ?_
    first | (refine ⟨congrArg some ?_, ?_, xDP.rf⟩ <;> unfold dVisit <;> first | (rw [if_neg (by omega)]; done) | (rw [if_pos (by omega), if_neg (by omega)]; done) | (rw [if_neg (by omega)]; exact hZ) | (rw [if_pos (by omega), if_neg (by omega)]; exact hZ))
theorem dX11_mean_0 : decode cX11_mean 0 = .ok (.aload_n 0, 1) := by decide +kernel
theorem dX11_mean_1 : decode cX11_mean 1 = .ok (.getfield 31, 3) := by decide +kernel
theorem dX11_mean_4 : decode cX11_mean 4 = .ok (.iload_n 1, 1) := by decide +kernel
theorem dX11_mean_5 : decode cX11_mean 5 = .ok (.invokevirtual 166, 3) := by decide +kernel
theorem dX11_mean_8 : decode cX11_mean 8 = .ok (.ifCond .ne 6, 3) := by decide +kernel
theorem dX11_mean_11 : decode cX11_mean 11 = .ok (.ldc 169, 2) := by decide +kernel
theorem dX11_mean_13 : decode cX11_mean 13 = .ok (.ireturn, 1) := by decide +kernel
theorem dX11_mean_14 : decode cX11_mean 14 = .ok (.iload_n 2, 1) := by decide +kernel
theorem dX11_mean_15 : decode cX11_mean 15 = .ok (.bipush 7, 2) := by decide +kernel
theorem dX11_mean_17 : decode cX11_mean 17 = .ok (.invokestatic 86, 3) := by decide +kernel
theorem dX11_mean_20 : decode cX11_mean 20 = .ok (.ifCond .ne 6, 3) := by decide +kernel
theorem dX11_mean_23 : decode cX11_mean 23 = .ok (.ldc 90, 2) := by decide +kernel
theorem dX11_mean_25 : decode cX11_mean 25 = .ok (.ireturn, 1) := by decide +kernel
theorem dX11_mean_26 : decode cX11_mean 26 = .ok (.aload_n 0, 1) := by decide +kernel
theorem dX11_mean_27 : decode cX11_mean 27 = .ok (.getfield 54, 3) := by decide +kernel
theorem dX11_mean_30 : decode cX11_mean 30 = .ok (.aload_n 0, 1) := by decide +kernel
theorem dX11_mean_31 : decode cX11_mean 31 = .ok (.getfield 34, 3) := by decide +kernel
theorem dX11_mean_34 : decode cX11_mean 34 = .ok (.invokevirtual 227, 3) := by decide +kernel
theorem dX11_mean_37 : decode cX11_mean 37 = .ok (.aload_n 0, 1) := by decide +kernel
theorem dX11_mean_38 : decode cX11_mean 38 = .ok (.getfield 34, 3) := by decide +kernel
theorem dX11_mean_41 : decode cX11_mean 41 = .ok (.getfield 177, 3) := by decide +kernel
theorem dX11_mean_44 : decode cX11_mean 44 = .ok (.iload_n 1, 1) := by decide +kernel
theorem dX11_mean_45 : decode cX11_mean 45 = .ok (.iaload, 1) := by decide +kernel
theorem dX11_mean_46 : decode cX11_mean 46 = .ok (.istore_n 3, 1) := by decide +kernel
theorem dX11_mean_47 : decode cX11_mean 47 = .ok (.aload_n 0, 1) := by decide +kernel
theorem dX11_mean_48 : decode cX11_mean 48 = .ok (.getfield 34, 3) := by decide +kernel
theorem dX11_mean_51 : decode cX11_mean 51 = .ok (.getfield 177, 3) := by decide +kernel
theorem dX11_mean_54 : decode cX11_mean 54 = .ok (.iload_n 1, 1) := by decide +kernel
theorem dX11_mean_55 : decode cX11_mean 55 = .ok (.iload_n 2, 1) := by decide +kernel
theorem dX11_mean_56 : decode cX11_mean 56 = .ok (.iastore, 1) := by decide +kernel
theorem dX11_mean_57 : decode cX11_mean 57 = .ok (.iload_n 3, 1) := by decide +kernel
theorem dX11_mean_58 : decode cX11_mean 58 = .ok (.ireturn, 1) := by decide +kernel
set_option maxRecDepth 4000 in
set_option maxHeartbeats 4000000 in
theorem m_X11_mean (l : Launch) (g : qGm) (M : qMem) {sd : sSD} (hs : sRS sd) (hS : xS M sd) {Z : sZ} (hZ : xZ M (sd 4 0) (sd 5 0) Z) {c : Int} (hcq : qIn c) {z : Int} (hzq : qIn z) : qOk l g 4 yX11_mean cX11_mean 4 (some .int) [qR g 0 0, qI c, qI z] M (fun r N => xD M sd (dMean sd Z c z) r N) := by
  refine q_ok (by decide +kernel) (Nat.le_of_ble_eq_true rfl) (fun X C' hn => ?_)
  have C := C'.1
  have hm6 := hs.2.1
  have hn6 := hs.2.2.1
  have w0 := hS.1
  have w1 := hS.2.1
  have w2 := hS.2.2.1
  have y1 := hZ.1.1
  have y2 := hZ.1.2
  have y3 := hZ.2.1
  have y4 := hZ.2.2.1
  have y5 := hZ.2.2.2.2
  obtain ⟨kr, dr⟩ := xZ_rem hZ
  have ke := fun q : 0 ≤ c ∧ c < sd 4 0 => kr.1.1.2.2.2.1 c q.1 q.2
  rw [zRem_r] at ke
  refine q_aloadn C dX11_mean_0 rfl ?_
  refine gf_RX11_31 C dX11_mean_1 ?_
  refine q_iloadn C dX11_mean_4 rfl ?_
  refine cv_RX11_166 C (by decide) (by decide) (m_X7_hasComer l g _ (by decide) hcq) dX11_mean_5 (Nat.le_of_ble_eq_true rfl) (fun r5 => ?_)
  refine q_ifneB C 14 dX11_mean_8 (by decide) (fun h8 => ?_) (fun h8 => ?_)
  · refine q_iloadn C dX11_mean_14 rfl ?_
    refine q_bipush C dX11_mean_15 (by decide) ?_
    refine cv_RX11_86 C (by decide) (m_X11_isWithin l g _ (by assumption) (by omega)) dX11_mean_17 (Nat.le_of_ble_eq_true rfl) (fun r17 => ?_)
    refine q_ifneB C 26 dX11_mean_20 (by decide) (fun h20 => ?_) (fun h20 => ?_)
    · refine q_aloadn C dX11_mean_26 rfl ?_
      refine gf_RX11_54 C dX11_mean_27 ?_
      refine q_aloadn C dX11_mean_30 rfl ?_
      refine gf_RX11_34 C dX11_mean_31 ?_
      refine cv_RX11_227 C (by decide) (m_X6_remember l g _ (by omega) (by omega)) dX11_mean_34 (Nat.le_of_ble_eq_true rfl) ?_
      refine q_aloadn C dX11_mean_37 rfl ?_
      refine gf_RX11_34 C dX11_mean_38 ?_
      refine gf_RX11_177 C (by decide) dX11_mean_41 ?_
      refine q_iloadn C dX11_mean_44 rfl ?_
      refine q_iald C (by decide) rfl dX11_mean_45 (by omega) (by omega) (by decide) (fun r45 => ?_)
      try simp only [q_rd, q_rdS, ↓reduceIte, if_true, if_false, eq_self, Nat.reduceEqDiff, Int.reduceEq, Int.reduceNeg, reduceCtorEq] at r45 ⊢
      refine q_istoren C dX11_mean_46 hn (by decide) rfl ?_
      refine q_aloadn C dX11_mean_47 rfl ?_
      refine gf_RX11_34 C dX11_mean_48 ?_
      refine gf_RX11_177 C (by decide) dX11_mean_51 ?_
      refine q_iloadn C dX11_mean_54 rfl ?_
      refine q_iloadn C dX11_mean_55 rfl ?_
      refine q_iast C (by decide) (fun _ => rfl) dX11_mean_56 (by omega) (by omega) (by decide) (by first | assumption | omega | exact q_tin _ | exact q_bIn _) ?_
      refine q_iloadn C dX11_mean_57 rfl ?_
      refine q_iret C' dX11_mean_58 (by first | assumption | omega | exact q_tin _ | exact q_bIn _) ?_
      obtain ⟨k4, d4⟩ := xZ_mean kr (c := c) (z := z) (by omega) (by omega) (by omega) (by omega)
      rw [zRem_r] at k4
      refine ⟨congrArg some ?_, ?_, dr.tr d4⟩ <;> unfold dMean <;> rw [if_pos (by omega), if_pos (by omega)]
      · exact (ke (by omega)).1
      · exact k4
    · refine q_ldc C (z := -1000000002) q_ci_RX11_90 (by decide) dX11_mean_23 ?_
      refine q_iret C' dX11_mean_25 (by first | assumption | omega | exact q_tin _ | exact q_bIn _) ?_
      first | (refine ⟨congrArg some ?_, ?_, xDP.rf⟩ <;> unfold dMean <;> first | (rw [if_neg (by omega)]; done) | (rw [if_pos (by omega), if_neg (by omega)]; done) | (rw [if_neg (by omega)]; exact hZ) | (rw [if_pos (by omega), if_neg (by omega)]; exact hZ))
  · refine q_ldc C (z := -1000000001) q_ci_RX11_169 (by decide) dX11_mean_11 ?_
    refine q_iret C' dX11_mean_13 (by first | assumption | omega | exact q_tin _ | exact q_bIn _) ?_
    first | (refine ⟨congrArg some ?_, ?_, xDP.rf⟩ <;> unfold dMean <;> first | (rw [if_neg (by omega)]; done) | (rw [if_pos (by omega), if_neg (by omega)]; done) | (rw [if_neg (by omega)]; exact hZ) | (rw [if_pos (by omega), if_neg (by omega)]; exact hZ))
theorem dX11_stuff_0 : decode cX11_stuff 0 = .ok (.aload_n 0, 1) := by decide +kernel
theorem dX11_stuff_1 : decode cX11_stuff 1 = .ok (.getfield 31, 3) := by decide +kernel
theorem dX11_stuff_4 : decode cX11_stuff 4 = .ok (.iload_n 1, 1) := by decide +kernel
theorem dX11_stuff_5 : decode cX11_stuff 5 = .ok (.invokevirtual 166, 3) := by decide +kernel
theorem dX11_stuff_8 : decode cX11_stuff 8 = .ok (.ifCond .ne 6, 3) := by decide +kernel
theorem dX11_stuff_11 : decode cX11_stuff 11 = .ok (.ldc 169, 2) := by decide +kernel
theorem dX11_stuff_13 : decode cX11_stuff 13 = .ok (.ireturn, 1) := by decide +kernel
theorem dX11_stuff_14 : decode cX11_stuff 14 = .ok (.iload_n 2, 1) := by decide +kernel
theorem dX11_stuff_15 : decode cX11_stuff 15 = .ok (.bipush 9, 2) := by decide +kernel
theorem dX11_stuff_17 : decode cX11_stuff 17 = .ok (.invokestatic 86, 3) := by decide +kernel
theorem dX11_stuff_20 : decode cX11_stuff 20 = .ok (.ifCond .ne 6, 3) := by decide +kernel
theorem dX11_stuff_23 : decode cX11_stuff 23 = .ok (.ldc 90, 2) := by decide +kernel
theorem dX11_stuff_25 : decode cX11_stuff 25 = .ok (.ireturn, 1) := by decide +kernel
theorem dX11_stuff_26 : decode cX11_stuff 26 = .ok (.aload_n 0, 1) := by decide +kernel
theorem dX11_stuff_27 : decode cX11_stuff 27 = .ok (.getfield 54, 3) := by decide +kernel
theorem dX11_stuff_30 : decode cX11_stuff 30 = .ok (.aload_n 0, 1) := by decide +kernel
theorem dX11_stuff_31 : decode cX11_stuff 31 = .ok (.getfield 34, 3) := by decide +kernel
theorem dX11_stuff_34 : decode cX11_stuff 34 = .ok (.invokevirtual 227, 3) := by decide +kernel
theorem dX11_stuff_37 : decode cX11_stuff 37 = .ok (.aload_n 0, 1) := by decide +kernel
theorem dX11_stuff_38 : decode cX11_stuff 38 = .ok (.getfield 34, 3) := by decide +kernel
theorem dX11_stuff_41 : decode cX11_stuff 41 = .ok (.getfield 174, 3) := by decide +kernel
theorem dX11_stuff_44 : decode cX11_stuff 44 = .ok (.iload_n 1, 1) := by decide +kernel
theorem dX11_stuff_45 : decode cX11_stuff 45 = .ok (.iaload, 1) := by decide +kernel
theorem dX11_stuff_46 : decode cX11_stuff 46 = .ok (.istore_n 3, 1) := by decide +kernel
theorem dX11_stuff_47 : decode cX11_stuff 47 = .ok (.aload_n 0, 1) := by decide +kernel
theorem dX11_stuff_48 : decode cX11_stuff 48 = .ok (.getfield 34, 3) := by decide +kernel
theorem dX11_stuff_51 : decode cX11_stuff 51 = .ok (.getfield 174, 3) := by decide +kernel
theorem dX11_stuff_54 : decode cX11_stuff 54 = .ok (.iload_n 1, 1) := by decide +kernel
theorem dX11_stuff_55 : decode cX11_stuff 55 = .ok (.iload_n 2, 1) := by decide +kernel
theorem dX11_stuff_56 : decode cX11_stuff 56 = .ok (.iastore, 1) := by decide +kernel
theorem dX11_stuff_57 : decode cX11_stuff 57 = .ok (.iload_n 3, 1) := by decide +kernel
theorem dX11_stuff_58 : decode cX11_stuff 58 = .ok (.ireturn, 1) := by decide +kernel
set_option maxRecDepth 4000 in
set_option maxHeartbeats 4000000 in
theorem m_X11_stuff (l : Launch) (g : qGm) (M : qMem) {sd : sSD} (hs : sRS sd) (hS : xS M sd) {Z : sZ} (hZ : xZ M (sd 4 0) (sd 5 0) Z) {c : Int} (hcq : qIn c) {z : Int} (hzq : qIn z) : qOk l g 4 yX11_stuff cX11_stuff 4 (some .int) [qR g 0 0, qI c, qI z] M (fun r N => xD M sd (dStuff sd Z c z) r N) := by
  refine q_ok (by decide +kernel) (Nat.le_of_ble_eq_true rfl) (fun X C' hn => ?_)
  have C := C'.1
  have hm6 := hs.2.1
  have hn6 := hs.2.2.1
  have w0 := hS.1
  have w1 := hS.2.1
  have w2 := hS.2.2.1
  have y1 := hZ.1.1
  have y2 := hZ.1.2
  have y3 := hZ.2.1
  have y4 := hZ.2.2.1
  have y5 := hZ.2.2.2.2
  obtain ⟨kr, dr⟩ := xZ_rem hZ
  have ke := fun q : 0 ≤ c ∧ c < sd 4 0 => kr.1.1.2.2.2.1 c q.1 q.2
  rw [zRem_r] at ke
  refine q_aloadn C dX11_stuff_0 rfl ?_
  refine gf_RX11_31 C dX11_stuff_1 ?_
  refine q_iloadn C dX11_stuff_4 rfl ?_
  refine cv_RX11_166 C (by decide) (by decide) (m_X7_hasComer l g _ (by decide) hcq) dX11_stuff_5 (Nat.le_of_ble_eq_true rfl) (fun r5 => ?_)
  refine q_ifneB C 14 dX11_stuff_8 (by decide) (fun h8 => ?_) (fun h8 => ?_)
  · refine q_iloadn C dX11_stuff_14 rfl ?_
    refine q_bipush C dX11_stuff_15 (by decide) ?_
    refine cv_RX11_86 C (by decide) (m_X11_isWithin l g _ (by assumption) (by omega)) dX11_stuff_17 (Nat.le_of_ble_eq_true rfl) (fun r17 => ?_)
    refine q_ifneB C 26 dX11_stuff_20 (by decide) (fun h20 => ?_) (fun h20 => ?_)
    · refine q_aloadn C dX11_stuff_26 rfl ?_
      refine gf_RX11_54 C dX11_stuff_27 ?_
      refine q_aloadn C dX11_stuff_30 rfl ?_
      refine gf_RX11_34 C dX11_stuff_31 ?_
      refine cv_RX11_227 C (by decide) (m_X6_remember l g _ (by omega) (by omega)) dX11_stuff_34 (Nat.le_of_ble_eq_true rfl) ?_
      refine q_aloadn C dX11_stuff_37 rfl ?_
      refine gf_RX11_34 C dX11_stuff_38 ?_
      refine gf_RX11_174 C (by decide) dX11_stuff_41 ?_
      refine q_iloadn C dX11_stuff_44 rfl ?_
      refine q_iald C (by decide) rfl dX11_stuff_45 (by omega) (by omega) (by decide) (fun r45 => ?_)
      try simp only [q_rd, q_rdS, ↓reduceIte, if_true, if_false, eq_self, Nat.reduceEqDiff, Int.reduceEq, Int.reduceNeg, reduceCtorEq] at r45 ⊢
      refine q_istoren C dX11_stuff_46 hn (by decide) rfl ?_
      refine q_aloadn C dX11_stuff_47 rfl ?_
      refine gf_RX11_34 C dX11_stuff_48 ?_
      refine gf_RX11_174 C (by decide) dX11_stuff_51 ?_
      refine q_iloadn C dX11_stuff_54 rfl ?_
      refine q_iloadn C dX11_stuff_55 rfl ?_
      refine q_iast C (by decide) (fun _ => rfl) dX11_stuff_56 (by omega) (by omega) (by decide) (by first | assumption | omega | exact q_tin _ | exact q_bIn _) ?_
      refine q_iloadn C dX11_stuff_57 rfl ?_
      refine q_iret C' dX11_stuff_58 (by first | assumption | omega | exact q_tin _ | exact q_bIn _) ?_
      obtain ⟨k4, d4⟩ := xZ_stuff kr (c := c) (z := z) (by omega) (by omega) (by omega) (by omega)
      rw [zRem_r] at k4
      refine ⟨congrArg some ?_, ?_, dr.tr d4⟩ <;> unfold dStuff <;> rw [if_pos (by omega), if_pos (by omega)]
      · exact (ke (by omega)).2.1
      · exact k4
    · refine q_ldc C (z := -1000000002) q_ci_RX11_90 (by decide) dX11_stuff_23 ?_
      refine q_iret C' dX11_stuff_25 (by first | assumption | omega | exact q_tin _ | exact q_bIn _) ?_
      first | (refine ⟨congrArg some ?_, ?_, xDP.rf⟩ <;> unfold dStuff <;> first | (rw [if_neg (by omega)]; done) | (rw [if_pos (by omega), if_neg (by omega)]; done) | (rw [if_neg (by omega)]; exact hZ) | (rw [if_pos (by omega), if_neg (by omega)]; exact hZ))
  · refine q_ldc C (z := -1000000001) q_ci_RX11_169 (by decide) dX11_stuff_11 ?_
    refine q_iret C' dX11_stuff_13 (by first | assumption | omega | exact q_tin _ | exact q_bIn _) ?_
    first | (refine ⟨congrArg some ?_, ?_, xDP.rf⟩ <;> unfold dStuff <;> first | (rw [if_neg (by omega)]; done) | (rw [if_pos (by omega), if_neg (by omega)]; done) | (rw [if_neg (by omega)]; exact hZ) | (rw [if_pos (by omega), if_neg (by omega)]; exact hZ))
theorem dX11_pardon_0 : decode cX11_pardon 0 = .ok (.aload_n 0, 1) := by decide +kernel
theorem dX11_pardon_1 : decode cX11_pardon 1 = .ok (.getfield 31, 3) := by decide +kernel
theorem dX11_pardon_4 : decode cX11_pardon 4 = .ok (.iload_n 1, 1) := by decide +kernel
theorem dX11_pardon_5 : decode cX11_pardon 5 = .ok (.iload_n 2, 1) := by decide +kernel
theorem dX11_pardon_6 : decode cX11_pardon 6 = .ok (.invokevirtual 205, 3) := by decide +kernel
theorem dX11_pardon_9 : decode cX11_pardon 9 = .ok (.ifCond .ne 6, 3) := by decide +kernel
theorem dX11_pardon_12 : decode cX11_pardon 12 = .ok (.ldc 169, 2) := by decide +kernel
theorem dX11_pardon_14 : decode cX11_pardon 14 = .ok (.ireturn, 1) := by decide +kernel
theorem dX11_pardon_15 : decode cX11_pardon 15 = .ok (.aload_n 0, 1) := by decide +kernel
theorem dX11_pardon_16 : decode cX11_pardon 16 = .ok (.getfield 34, 3) := by decide +kernel
theorem dX11_pardon_19 : decode cX11_pardon 19 = .ok (.iload_n 1, 1) := by decide +kernel
theorem dX11_pardon_20 : decode cX11_pardon 20 = .ok (.iload_n 2, 1) := by decide +kernel
theorem dX11_pardon_21 : decode cX11_pardon 21 = .ok (.invokevirtual 242, 3) := by decide +kernel
theorem dX11_pardon_24 : decode cX11_pardon 24 = .ok (.ifCond .ne 6, 3) := by decide +kernel
theorem dX11_pardon_27 : decode cX11_pardon 27 = .ok (.ldc 218, 2) := by decide +kernel
theorem dX11_pardon_29 : decode cX11_pardon 29 = .ok (.ireturn, 1) := by decide +kernel
theorem dX11_pardon_30 : decode cX11_pardon 30 = .ok (.aload_n 0, 1) := by decide +kernel
theorem dX11_pardon_31 : decode cX11_pardon 31 = .ok (.getfield 54, 3) := by decide +kernel
theorem dX11_pardon_34 : decode cX11_pardon 34 = .ok (.aload_n 0, 1) := by decide +kernel
theorem dX11_pardon_35 : decode cX11_pardon 35 = .ok (.getfield 34, 3) := by decide +kernel
theorem dX11_pardon_38 : decode cX11_pardon 38 = .ok (.invokevirtual 227, 3) := by decide +kernel
theorem dX11_pardon_41 : decode cX11_pardon 41 = .ok (.aload_n 0, 1) := by decide +kernel
theorem dX11_pardon_42 : decode cX11_pardon 42 = .ok (.getfield 34, 3) := by decide +kernel
theorem dX11_pardon_45 : decode cX11_pardon 45 = .ok (.iload_n 1, 1) := by decide +kernel
theorem dX11_pardon_46 : decode cX11_pardon 46 = .ok (.iload_n 2, 1) := by decide +kernel
theorem dX11_pardon_47 : decode cX11_pardon 47 = .ok (.invokevirtual 208, 3) := by decide +kernel
theorem dX11_pardon_50 : decode cX11_pardon 50 = .ok (.istore_n 3, 1) := by decide +kernel
theorem dX11_pardon_51 : decode cX11_pardon 51 = .ok (.aload_n 0, 1) := by decide +kernel
theorem dX11_pardon_52 : decode cX11_pardon 52 = .ok (.getfield 34, 3) := by decide +kernel
theorem dX11_pardon_55 : decode cX11_pardon 55 = .ok (.iload_n 1, 1) := by decide +kernel
theorem dX11_pardon_56 : decode cX11_pardon 56 = .ok (.iload_n 2, 1) := by decide +kernel
theorem dX11_pardon_57 : decode cX11_pardon 57 = .ok (.invokevirtual 245, 3) := by decide +kernel
theorem dX11_pardon_60 : decode cX11_pardon 60 = .ok (.iload_n 3, 1) := by decide +kernel
theorem dX11_pardon_61 : decode cX11_pardon 61 = .ok (.ireturn, 1) := by decide +kernel
set_option maxRecDepth 4000 in
set_option maxHeartbeats 4000000 in
theorem m_X11_pardon (l : Launch) (g : qGm) (M : qMem) {sd : sSD} (hs : sRS sd) (hS : xS M sd) {Z : sZ} (hZ : xZ M (sd 4 0) (sd 5 0) Z) {c : Int} (hcq : qIn c) {h : Int} (hhq : qIn h) : qOk l g 4 yX11_pardon cX11_pardon 4 (some .int) [qR g 0 0, qI c, qI h] M (fun r N => xD M sd (dPard sd Z c h) r N) := by
  refine q_ok (by decide +kernel) (Nat.le_of_ble_eq_true rfl) (fun X C' hn => ?_)
  have C := C'.1
  have hm6 := hs.2.1
  have hn6 := hs.2.2.1
  have w0 := hS.1
  have w1 := hS.2.1
  have w2 := hS.2.2.1
  have y1 := hZ.1.1
  have y2 := hZ.1.2
  have y3 := hZ.2.1
  have y4 := hZ.2.2.1
  have y5 := hZ.2.2.2.2
  obtain ⟨kr, dr⟩ := xZ_rem hZ
  have ke := fun q : 0 ≤ c ∧ c < sd 4 0 => (y1.2.2.2.1 c q.1 q.2).2.2
  have kb := fun q : 0 ≤ c ∧ c < sd 4 0 => (y2.2.2.2.1 c q.1 q.2).2.2
  refine q_aloadn C dX11_pardon_0 rfl ?_
  refine gf_RX11_31 C dX11_pardon_1 ?_
  refine q_iloadn C dX11_pardon_4 rfl ?_
  refine q_iloadn C dX11_pardon_5 rfl ?_
  refine cv_RX11_205 C (by decide) (by decide) (m_X7_hasBoth l g _ (by decide) hcq hhq) dX11_pardon_6 (Nat.le_of_ble_eq_true rfl) (fun r6 => ?_)
  refine q_ifneB C 15 dX11_pardon_9 (by decide) (fun h9 => ?_) (fun h9 => ?_)
  · refine q_aloadn C dX11_pardon_15 rfl ?_
    refine gf_RX11_34 C dX11_pardon_16 ?_
    refine q_iloadn C dX11_pardon_19 rfl ?_
    refine q_iloadn C dX11_pardon_20 rfl ?_
    refine cv_RX11_242 C (by decide) (by decide) (m_X2_isSham l g _ (by decide) (by omega) (by omega) (by rw [ke (by omega)]; exact kb (by omega))) dX11_pardon_21 (Nat.le_of_ble_eq_true rfl) (fun r21 => ?_)
    refine q_ifneB C 30 dX11_pardon_24 (by decide) (fun h24 => ?_) (fun h24 => ?_)
    · refine q_aloadn C dX11_pardon_30 rfl ?_
      refine gf_RX11_54 C dX11_pardon_31 ?_
      refine q_aloadn C dX11_pardon_34 rfl ?_
      refine gf_RX11_34 C dX11_pardon_35 ?_
      refine cv_RX11_227 C (by decide) (m_X6_remember l g _ (by omega) (by omega)) dX11_pardon_38 (Nat.le_of_ble_eq_true rfl) ?_
      refine q_aloadn C dX11_pardon_41 rfl ?_
      refine gf_RX11_34 C dX11_pardon_42 ?_
      refine q_iloadn C dX11_pardon_45 rfl ?_
      refine q_iloadn C dX11_pardon_46 rfl ?_
      refine cv_RX11_208 C (by decide) (by decide) (m_X2_callsOf l g _ (by decide) (by omega) (by omega)) dX11_pardon_47 (Nat.le_of_ble_eq_true rfl) (fun r47 => ?_)
      refine q_istoren C dX11_pardon_50 hn (by decide) rfl ?_
      refine q_aloadn C dX11_pardon_51 rfl ?_
      refine gf_RX11_34 C dX11_pardon_52 ?_
      refine q_iloadn C dX11_pardon_55 rfl ?_
      refine q_iloadn C dX11_pardon_56 rfl ?_
      refine cv_RX11_245 C (by decide) (by decide) (m_X2_forgive l g _ (by decide) (by omega) (by omega)) dX11_pardon_57 (Nat.le_of_ble_eq_true rfl) ?_
      refine q_iloadn C dX11_pardon_60 rfl ?_
      refine q_iret C' dX11_pardon_61 (by first | assumption | omega | exact q_tin _ | exact q_bIn _) ?_
      rw [ke (by omega)] at h24
      obtain ⟨k4, d4⟩ := xZ_pard kr (c := c) (h := h) (by omega) (by omega) (by omega) (by omega)
      have k5 := ((kr.1.1.2.2.2.2.1 c h (by omega) (by omega) (by omega) (by omega)).1 (by omega)).1
      rw [zRem_r] at k4 k5
      refine ⟨congrArg some ?_, ?_, dr.tr d4⟩ <;> unfold dPard <;> rw [if_pos (by omega), if_pos h24]
      · exact k5
      · exact k4
    · refine q_ldc C (z := -1000000003) q_ci_RX11_218 (by decide) dX11_pardon_27 ?_
      refine q_iret C' dX11_pardon_29 (by first | assumption | omega | exact q_tin _ | exact q_bIn _) ?_
      rw [ke (by omega)] at h24
      refine ⟨congrArg some ?_, ?_, xDP.rf⟩ <;> unfold dPard <;> rw [if_pos (by omega), if_neg h24]
      exact hZ
  · refine q_ldc C (z := -1000000001) q_ci_RX11_169 (by decide) dX11_pardon_12 ?_
    refine q_iret C' dX11_pardon_14 (by first | assumption | omega | exact q_tin _ | exact q_bIn _) ?_
    first | (refine ⟨congrArg some ?_, ?_, xDP.rf⟩ <;> unfold dPard <;> first | (rw [if_neg (by omega)]; done) | (rw [if_pos (by omega), if_neg (by omega)]; done) | (rw [if_neg (by omega)]; exact hZ) | (rw [if_pos (by omega), if_neg (by omega)]; exact hZ))
theorem dX11_undo_0 : decode cX11_undo 0 = .ok (.iload_n 1, 1) := by decide +kernel
theorem dX11_undo_1 : decode cX11_undo 1 = .ok (.iconst 1, 1) := by decide +kernel
theorem dX11_undo_2 : decode cX11_undo 2 = .ok (.if_icmp .lt 9, 3) := by decide +kernel
theorem dX11_undo_5 : decode cX11_undo 5 = .ok (.iload_n 1, 1) := by decide +kernel
theorem dX11_undo_6 : decode cX11_undo 6 = .ok (.bipush 30, 2) := by decide +kernel
theorem dX11_undo_8 : decode cX11_undo 8 = .ok (.if_icmp .le 6, 3) := by decide +kernel
theorem dX11_undo_11 : decode cX11_undo 11 = .ok (.ldc 90, 2) := by decide +kernel
theorem dX11_undo_13 : decode cX11_undo 13 = .ok (.ireturn, 1) := by decide +kernel
theorem dX11_undo_14 : decode cX11_undo 14 = .ok (.aload_n 0, 1) := by decide +kernel
theorem dX11_undo_15 : decode cX11_undo 15 = .ok (.getfield 54, 3) := by decide +kernel
theorem dX11_undo_18 : decode cX11_undo 18 = .ok (.iload_n 1, 1) := by decide +kernel
theorem dX11_undo_19 : decode cX11_undo 19 = .ok (.aload_n 0, 1) := by decide +kernel
theorem dX11_undo_20 : decode cX11_undo 20 = .ok (.getfield 34, 3) := by decide +kernel
theorem dX11_undo_23 : decode cX11_undo 23 = .ok (.invokevirtual 252, 3) := by decide +kernel
theorem dX11_undo_26 : decode cX11_undo 26 = .ok (.ifCond .eq 13, 3) := by decide +kernel
theorem dX11_undo_29 : decode cX11_undo 29 = .ok (.aload_n 0, 1) := by decide +kernel
theorem dX11_undo_30 : decode cX11_undo 30 = .ok (.getfield 34, 3) := by decide +kernel
theorem dX11_undo_33 : decode cX11_undo 33 = .ok (.getfield 134, 3) := by decide +kernel
theorem dX11_undo_36 : decode cX11_undo 36 = .ok (.goto 5, 3) := by decide +kernel
theorem dX11_undo_39 : decode cX11_undo 39 = .ok (.ldc 218, 2) := by decide +kernel
theorem dX11_undo_41 : decode cX11_undo 41 = .ok (.ireturn, 1) := by decide +kernel
set_option maxRecDepth 4000 in
set_option maxHeartbeats 4000000 in
theorem m_X11_undo (l : Launch) (g : qGm) (M : qMem) {sd : sSD} {Z : sZ} (hZ : xZ M (sd 4 0) (sd 5 0) Z) {k : Int} (hkq : qIn k) : qOk l g 4 yX11_undo cX11_undo 2 (some .int) [qR g 0 0, qI k] M (fun r N => xD M sd (dUndo Z k) r N) := by
  refine q_ok (by decide +kernel) (Nat.le_of_ble_eq_true rfl) (fun X C' hn => ?_)
  have C := C'.1
  have y1 := hZ.1.1
  have y2 := hZ.1.2
  have y3 := hZ.2.1
  have y4 := hZ.2.2.1
  refine q_iloadn C dX11_undo_0 rfl ?_
  refine q_iconst C dX11_undo_1 ?_
  refine q_icmp_lt C 11 dX11_undo_2 (by decide) (by first | assumption | omega | exact q_tin _ | exact q_bIn _) (by first | assumption | omega | exact q_tin _ | exact q_bIn _) (fun h2 => ?_) (fun h2 => ?_)
  · refine q_ldc C (z := -1000000002) q_ci_RX11_90 (by decide) dX11_undo_11 ?_
    refine q_iret C' dX11_undo_13 (by first | assumption | omega | exact q_tin _ | exact q_bIn _) ?_
    first | (refine ⟨congrArg some ?_, ?_, xDP.rf⟩ <;> unfold dUndo <;> first | (rw [if_neg (by omega)]; done) | (rw [if_pos (by omega), if_neg (by omega)]; done) | (rw [if_neg (by omega)]; exact hZ) | (rw [if_pos (by omega), if_neg (by omega)]; exact hZ))
  · refine q_iloadn C dX11_undo_5 rfl ?_
    refine q_bipush C dX11_undo_6 (by decide) ?_
    refine q_icmp_le C 14 dX11_undo_8 (by decide) (by first | assumption | omega | exact q_tin _ | exact q_bIn _) (by first | assumption | omega | exact q_tin _ | exact q_bIn _) (fun h8 => ?_) (fun h8 => ?_)
    · refine q_aloadn C dX11_undo_14 rfl ?_
      refine gf_RX11_54 C dX11_undo_15 ?_
      refine q_iloadn C dX11_undo_18 rfl ?_
      refine q_aloadn C dX11_undo_19 rfl ?_
      refine gf_RX11_34 C dX11_undo_20 ?_
      refine cv_RX11_252 C (by decide) (m_X6_bringBack l g _ (by omega) (by omega) hkq) dX11_undo_23 (Nat.le_of_ble_eq_true rfl) (fun r23 => ?_)
      refine q_ifeqB C 39 dX11_undo_26 (by decide) (fun h26 => ?_) (fun h26 => ?_)
      · rw [if_neg (show ¬ (1 ≤ k ∧ k ≤ M 26 0 2) by omega)]
        refine q_ldc C (z := -1000000003) q_ci_RX11_218 (by decide) dX11_undo_39 ?_
        refine q_iret C' dX11_undo_41 (by first | assumption | omega | exact q_tin _ | exact q_bIn _) ?_
        first | (refine ⟨congrArg some ?_, ?_, xDP.rf⟩ <;> unfold dUndo <;> rw [if_pos (by omega), if_neg (by omega)]; exact hZ) | (refine ⟨congrArg some ?_, ?_, dr⟩ <;> unfold dUndo <;> rw [if_pos (by omega), if_pos (by omega)]; exact kr.1.1.1.trans (by simp [zBack]); exact kr)
      · obtain ⟨kr, dr⟩ := xZ_back hZ (k := k) (by omega)
        rw [if_pos (show 1 ≤ k ∧ k ≤ M 26 0 2 by omega)]
        refine q_aloadn C dX11_undo_29 rfl ?_
        refine gf_RX11_34 C dX11_undo_30 ?_
        refine gf_RX11_134 C (by decide) dX11_undo_33 (fun r33 => ?_)
        try simp only [q_rd, q_rdS, ↓reduceIte, if_true, if_false, eq_self, Nat.reduceEqDiff, Int.reduceEq, Int.reduceNeg, reduceCtorEq] at r33 ⊢
        refine q_goto C (tgt := 41) dX11_undo_36 (by decide) ?_
        refine q_iret C' dX11_undo_41 (by first | assumption | omega | exact q_tin _ | exact q_bIn _) ?_
        first | (refine ⟨congrArg some ?_, ?_, xDP.rf⟩ <;> unfold dUndo <;> rw [if_pos (by omega), if_neg (by omega)]; exact hZ) | (refine ⟨congrArg some ?_, ?_, dr⟩ <;> unfold dUndo <;> rw [if_pos (by omega), if_pos (by omega)]; exact kr.1.1.1.trans (by simp [zBack]); exact kr)
    · refine q_ldc C (z := -1000000002) q_ci_RX11_90 (by decide) dX11_undo_11 ?_
      refine q_iret C' dX11_undo_13 (by first | assumption | omega | exact q_tin _ | exact q_bIn _) ?_
      first | (refine ⟨congrArg some ?_, ?_, xDP.rf⟩ <;> unfold dUndo <;> first | (rw [if_neg (by omega)]; done) | (rw [if_pos (by omega), if_neg (by omega)]; done) | (rw [if_neg (by omega)]; exact hZ) | (rw [if_pos (by omega), if_neg (by omega)]; exact hZ))
theorem dX11_seed_0 : decode cX11_seed 0 = .ok (.iload_n 1, 1) := by decide +kernel
theorem dX11_seed_1 : decode cX11_seed 1 = .ok (.ifCond .ge 6, 3) := by decide +kernel
theorem dX11_seed_4 : decode cX11_seed 4 = .ok (.ldc 90, 2) := by decide +kernel
theorem dX11_seed_6 : decode cX11_seed 6 = .ok (.ireturn, 1) := by decide +kernel
theorem dX11_seed_7 : decode cX11_seed 7 = .ok (.aload_n 0, 1) := by decide +kernel
theorem dX11_seed_8 : decode cX11_seed 8 = .ok (.getfield 82, 3) := by decide +kernel
theorem dX11_seed_11 : decode cX11_seed 11 = .ok (.istore_n 2, 1) := by decide +kernel
theorem dX11_seed_12 : decode cX11_seed 12 = .ok (.aload_n 0, 1) := by decide +kernel
theorem dX11_seed_13 : decode cX11_seed 13 = .ok (.iload_n 1, 1) := by decide +kernel
theorem dX11_seed_14 : decode cX11_seed 14 = .ok (.putfield 82, 3) := by decide +kernel
theorem dX11_seed_17 : decode cX11_seed 17 = .ok (.iload_n 2, 1) := by decide +kernel
theorem dX11_seed_18 : decode cX11_seed 18 = .ok (.ireturn, 1) := by decide +kernel
set_option maxRecDepth 4000 in
set_option maxHeartbeats 4000000 in
theorem m_X11_seed (l : Launch) (g : qGm) (M : qMem) {sd : sSD} {Z : sZ} (hZ : xZ M (sd 4 0) (sd 5 0) Z) {k : Int} (hkq : qIn k) : qOk l g 1 yX11_seed cX11_seed 3 (some .int) [qR g 0 0, qI k] M (fun r N => xD M sd (dSeed Z k) r N) := by
  refine q_ok (by decide +kernel) (Nat.le_of_ble_eq_true rfl) (fun X C' hn => ?_)
  have C := C'.1
  have y5 := hZ.2.2.2.2
  refine q_iloadn C dX11_seed_0 rfl ?_
  refine q_if_ge C 7 dX11_seed_1 (by decide) (by first | assumption | omega | exact q_tin _ | exact q_bIn _) (fun h1 => ?_) (fun h1 => ?_)
  · refine q_aloadn C dX11_seed_7 rfl ?_
    refine gf_RX11_82 C dX11_seed_8 (fun r8 => ?_)
    refine q_istoren C dX11_seed_11 hn (by decide) rfl ?_
    refine q_aloadn C dX11_seed_12 rfl ?_
    refine q_iloadn C dX11_seed_13 rfl ?_
    refine pf_RX11_82 C (by first | assumption | omega | exact q_tin _ | exact q_bIn _) dX11_seed_14 ?_
    refine q_iloadn C dX11_seed_17 rfl ?_
    refine q_iret C' dX11_seed_18 (by first | assumption | omega | exact q_tin _ | exact q_bIn _) ?_
    obtain ⟨k4, d4⟩ := xZ_seed hZ (s := k) (by omega)
    refine ⟨congrArg some ?_, ?_, d4⟩ <;> unfold dSeed <;> rw [if_pos (by omega)]
    · exact y5.1
    · exact k4
  · refine q_ldc C (z := -1000000002) q_ci_RX11_90 (by decide) dX11_seed_4 ?_
    refine q_iret C' dX11_seed_6 (by first | assumption | omega | exact q_tin _ | exact q_bIn _) ?_
    first | (refine ⟨congrArg some ?_, ?_, xDP.rf⟩ <;> unfold dSeed <;> first | (rw [if_neg (by omega)]; done) | (rw [if_pos (by omega), if_neg (by omega)]; done) | (rw [if_neg (by omega)]; exact hZ) | (rw [if_pos (by omega), if_neg (by omega)]; exact hZ))
theorem dX11_keep_0 : decode cX11_keep 0 = .ok (.iload_n 1, 1) := by decide +kernel
theorem dX11_keep_1 : decode cX11_keep 1 = .ok (.iconst 1, 1) := by decide +kernel
theorem dX11_keep_2 : decode cX11_keep 2 = .ok (.invokestatic 86, 3) := by decide +kernel
theorem dX11_keep_5 : decode cX11_keep 5 = .ok (.ifCond .ne 6, 3) := by decide +kernel
theorem dX11_keep_8 : decode cX11_keep 8 = .ok (.ldc 169, 2) := by decide +kernel
theorem dX11_keep_10 : decode cX11_keep 10 = .ok (.ireturn, 1) := by decide +kernel
theorem dX11_keep_11 : decode cX11_keep 11 = .ok (.iload_n 1, 1) := by decide +kernel
theorem dX11_keep_12 : decode cX11_keep 12 = .ok (.ifCond .ne 10, 3) := by decide +kernel
theorem dX11_keep_15 : decode cX11_keep 15 = .ok (.aload_n 0, 1) := by decide +kernel
theorem dX11_keep_16 : decode cX11_keep 16 = .ok (.getfield 61, 3) := by decide +kernel
theorem dX11_keep_19 : decode cX11_keep 19 = .ok (.goto 7, 3) := by decide +kernel
theorem dX11_keep_22 : decode cX11_keep 22 = .ok (.aload_n 0, 1) := by decide +kernel
theorem dX11_keep_23 : decode cX11_keep 23 = .ok (.getfield 65, 3) := by decide +kernel
theorem dX11_keep_26 : decode cX11_keep 26 = .ok (.astore_n 2, 1) := by decide +kernel
theorem dX11_keep_27 : decode cX11_keep 27 = .ok (.aload_n 2, 1) := by decide +kernel
theorem dX11_keep_28 : decode cX11_keep 28 = .ok (.iconst 1, 1) := by decide +kernel
theorem dX11_keep_29 : decode cX11_keep 29 = .ok (.putfield 116, 3) := by decide +kernel
theorem dX11_keep_32 : decode cX11_keep 32 = .ok (.aload_n 2, 1) := by decide +kernel
theorem dX11_keep_33 : decode cX11_keep 33 = .ok (.getfield 317, 3) := by decide +kernel
theorem dX11_keep_36 : decode cX11_keep 36 = .ok (.aload_n 0, 1) := by decide +kernel
theorem dX11_keep_37 : decode cX11_keep 37 = .ok (.getfield 34, 3) := by decide +kernel
theorem dX11_keep_40 : decode cX11_keep 40 = .ok (.invokevirtual 318, 3) := by decide +kernel
theorem dX11_keep_43 : decode cX11_keep 43 = .ok (.aload_n 2, 1) := by decide +kernel
theorem dX11_keep_44 : decode cX11_keep 44 = .ok (.aload_n 0, 1) := by decide +kernel
theorem dX11_keep_45 : decode cX11_keep 45 = .ok (.getfield 82, 3) := by decide +kernel
theorem dX11_keep_48 : decode cX11_keep 48 = .ok (.putfield 320, 3) := by decide +kernel
theorem dX11_keep_51 : decode cX11_keep 51 = .ok (.aload_n 0, 1) := by decide +kernel
theorem dX11_keep_52 : decode cX11_keep 52 = .ok (.getfield 54, 3) := by decide +kernel
theorem dX11_keep_55 : decode cX11_keep 55 = .ok (.invokevirtual 113, 3) := by decide +kernel
theorem dX11_keep_58 : decode cX11_keep 58 = .ok (.iconst 1, 1) := by decide +kernel
theorem dX11_keep_59 : decode cX11_keep 59 = .ok (.ireturn, 1) := by decide +kernel
set_option maxRecDepth 4000 in
set_option maxHeartbeats 4000000 in
theorem m_X11_keep (l : Launch) (g : qGm) (M : qMem) {sd : sSD} (hs : sRS sd) (hS : xS M sd) {Z : sZ} (hZ : xZ M (sd 4 0) (sd 5 0) Z) (hI0 : xIm M (sd 4 0) (sd 5 0) Z 0) (hI1 : xIm M (sd 4 0) (sd 5 0) Z 1) {k : Int} (hkq : qIn k) : qOk l g 3 yX11_keep cX11_keep 3 (some .int) [qR g 0 0, qI k] M (fun r N => xE M sd (dKeep Z k) r N) := by
  refine q_ok (by decide +kernel) (Nat.le_of_ble_eq_true rfl) (fun X C' hn => ?_)
  have C := C'.1
  have hm6 := hs.2.1
  have hn6 := hs.2.2.1
  have w0 := hS.1
  have w1 := hS.2.1
  have w2 := hS.2.2.1
  have y1 := hZ.1.1
  have y2 := hZ.1.2
  have y3 := hZ.2.1
  have y4 := hZ.2.2.1
  have y5 := hZ.2.2.2.2
  refine q_iloadn C dX11_keep_0 rfl ?_
  refine q_iconst C dX11_keep_1 ?_
  refine cv_RX11_86 C (by decide) (m_X11_isWithin l g _ (by assumption) (by omega)) dX11_keep_2 (Nat.le_of_ble_eq_true rfl) (fun r2 => ?_)
  refine q_ifneB C 11 dX11_keep_5 (by decide) (fun h5 => ?_) (fun h5 => ?_)
  · refine q_iloadn C dX11_keep_11 rfl ?_
    refine q_if_ne C 22 dX11_keep_12 (by decide) (by first | assumption | omega | exact q_tin _ | exact q_bIn _) (fun h12 => ?_) (fun h12 => ?_)
    · refine q_aloadn C dX11_keep_22 rfl ?_
      refine gf_RX11_65 C dX11_keep_23 ?_
      refine q_astoren C dX11_keep_26 hn (by decide) rfl ?_
      refine q_aloadn C dX11_keep_27 rfl ?_
      refine q_iconst C dX11_keep_28 ?_
      refine pf_RX11_116 C (by decide) (by first | assumption | omega | exact q_tin _ | exact q_bIn _) dX11_keep_29 ?_
      refine q_aloadn C dX11_keep_32 rfl ?_
      refine gf_RX11_317 C (by decide) dX11_keep_33 ?_
      refine q_aloadn C dX11_keep_36 rfl ?_
      refine gf_RX11_34 C dX11_keep_37 ?_
      refine cv_RX11_318 C (by decide) (by decide) (m_X2_become l g _ (by decide) (by decide) (by decide)) dX11_keep_40 (Nat.le_of_ble_eq_true rfl) ?_
      refine q_aloadn C dX11_keep_43 rfl ?_
      refine q_aloadn C dX11_keep_44 rfl ?_
      refine gf_RX11_82 C dX11_keep_45 (fun r45 => ?_)
      try simp only [q_rd, q_rdS, ↓reduceIte, if_true, if_false, eq_self, Nat.reduceEqDiff, Int.reduceEq, Int.reduceNeg, reduceCtorEq, xBec_off _ _ _ (show 0 < 10 ∨ 18 < 0 by decide)] at r45 ⊢
      refine pf_RX11_320 C (by decide) (by first | assumption | omega | exact q_tin _ | exact q_bIn _) dX11_keep_48 ?_
      refine q_aloadn C dX11_keep_51 rfl ?_
      refine gf_RX11_54 C dX11_keep_52 ?_
      refine cv_RX11_113 C (by decide) (m_X6_forget l g _ ) dX11_keep_55 (Nat.le_of_ble_eq_true rfl) ?_
      refine q_iconst C dX11_keep_58 ?_
      refine q_iret C' dX11_keep_59 (by first | assumption | omega | exact q_tin _ | exact q_bIn _) ?_
      first
        | (obtain rfl : k = 0 := (by omega)
           obtain ⟨e1, e2, e3, e4⟩ := xE_keep hZ (i := 0) (i' := 1) (by omega) hI1
           exact ⟨rfl, ⟨e1, e2, e3⟩, e4⟩)
        | (obtain rfl : k = 1 := (by omega)
           obtain ⟨e1, e2, e3, e4⟩ := xE_keep hZ (i := 1) (i' := 0) (by omega) hI0
           exact ⟨rfl, ⟨e1, e3, e2⟩, e4⟩)
    · refine q_aloadn C dX11_keep_15 rfl ?_
      refine gf_RX11_61 C dX11_keep_16 ?_
      refine q_goto C (tgt := 26) dX11_keep_19 (by decide) ?_
      refine q_astoren C dX11_keep_26 hn (by decide) rfl ?_
      refine q_aloadn C dX11_keep_27 rfl ?_
      refine q_iconst C dX11_keep_28 ?_
      refine pf_RX11_116 C (by decide) (by first | assumption | omega | exact q_tin _ | exact q_bIn _) dX11_keep_29 ?_
      refine q_aloadn C dX11_keep_32 rfl ?_
      refine gf_RX11_317 C (by decide) dX11_keep_33 ?_
      refine q_aloadn C dX11_keep_36 rfl ?_
      refine gf_RX11_34 C dX11_keep_37 ?_
      refine cv_RX11_318 C (by decide) (by decide) (m_X2_become l g _ (by decide) (by decide) (by decide)) dX11_keep_40 (Nat.le_of_ble_eq_true rfl) ?_
      refine q_aloadn C dX11_keep_43 rfl ?_
      refine q_aloadn C dX11_keep_44 rfl ?_
      refine gf_RX11_82 C dX11_keep_45 (fun r45 => ?_)
      try simp only [q_rd, q_rdS, ↓reduceIte, if_true, if_false, eq_self, Nat.reduceEqDiff, Int.reduceEq, Int.reduceNeg, reduceCtorEq, xBec_off _ _ _ (show 0 < 10 ∨ 18 < 0 by decide)] at r45 ⊢
      refine pf_RX11_320 C (by decide) (by first | assumption | omega | exact q_tin _ | exact q_bIn _) dX11_keep_48 ?_
      refine q_aloadn C dX11_keep_51 rfl ?_
      refine gf_RX11_54 C dX11_keep_52 ?_
      refine cv_RX11_113 C (by decide) (m_X6_forget l g _ ) dX11_keep_55 (Nat.le_of_ble_eq_true rfl) ?_
      refine q_iconst C dX11_keep_58 ?_
      refine q_iret C' dX11_keep_59 (by first | assumption | omega | exact q_tin _ | exact q_bIn _) ?_
      first
        | (obtain rfl : k = 0 := (by omega)
           obtain ⟨e1, e2, e3, e4⟩ := xE_keep hZ (i := 0) (i' := 1) (by omega) hI1
           exact ⟨rfl, ⟨e1, e2, e3⟩, e4⟩)
        | (obtain rfl : k = 1 := (by omega)
           obtain ⟨e1, e2, e3, e4⟩ := xE_keep hZ (i := 1) (i' := 0) (by omega) hI0
           exact ⟨rfl, ⟨e1, e3, e2⟩, e4⟩)
  · refine q_ldc C (z := -1000000001) q_ci_RX11_169 (by decide) dX11_keep_8 ?_
    refine q_iret C' dX11_keep_10 (by first | assumption | omega | exact q_tin _ | exact q_bIn _) ?_
    refine ⟨congrArg some ?_, ⟨?_, ?_, ?_⟩, xDP.rf.q⟩ <;> unfold dKeep <;> rw [if_neg (by omega)]
    · exact hZ
    · exact hI0
    · exact hI1
theorem dX11_goBack_0 : decode cX11_goBack 0 = .ok (.iload_n 1, 1) := by decide +kernel
theorem dX11_goBack_1 : decode cX11_goBack 1 = .ok (.iconst 1, 1) := by decide +kernel
theorem dX11_goBack_2 : decode cX11_goBack 2 = .ok (.invokestatic 86, 3) := by decide +kernel
theorem dX11_goBack_5 : decode cX11_goBack 5 = .ok (.ifCond .ne 6, 3) := by decide +kernel
theorem dX11_goBack_8 : decode cX11_goBack 8 = .ok (.ldc 169, 2) := by decide +kernel
theorem dX11_goBack_10 : decode cX11_goBack 10 = .ok (.ireturn, 1) := by decide +kernel
theorem dX11_goBack_11 : decode cX11_goBack 11 = .ok (.iload_n 1, 1) := by decide +kernel
theorem dX11_goBack_12 : decode cX11_goBack 12 = .ok (.ifCond .ne 10, 3) := by decide +kernel
theorem dX11_goBack_15 : decode cX11_goBack 15 = .ok (.aload_n 0, 1) := by decide +kernel
theorem dX11_goBack_16 : decode cX11_goBack 16 = .ok (.getfield 61, 3) := by decide +kernel
theorem dX11_goBack_19 : decode cX11_goBack 19 = .ok (.goto 7, 3) := by decide +kernel
theorem dX11_goBack_22 : decode cX11_goBack 22 = .ok (.aload_n 0, 1) := by decide +kernel
theorem dX11_goBack_23 : decode cX11_goBack 23 = .ok (.getfield 65, 3) := by decide +kernel
theorem dX11_goBack_26 : decode cX11_goBack 26 = .ok (.astore_n 2, 1) := by decide +kernel
theorem dX11_goBack_27 : decode cX11_goBack 27 = .ok (.aload_n 2, 1) := by decide +kernel
theorem dX11_goBack_28 : decode cX11_goBack 28 = .ok (.getfield 116, 3) := by decide +kernel
theorem dX11_goBack_31 : decode cX11_goBack 31 = .ok (.ifCond .ne 6, 3) := by decide +kernel
theorem dX11_goBack_34 : decode cX11_goBack 34 = .ok (.ldc 218, 2) := by decide +kernel
theorem dX11_goBack_36 : decode cX11_goBack 36 = .ok (.ireturn, 1) := by decide +kernel
theorem dX11_goBack_37 : decode cX11_goBack 37 = .ok (.aload_n 0, 1) := by decide +kernel
theorem dX11_goBack_38 : decode cX11_goBack 38 = .ok (.getfield 34, 3) := by decide +kernel
theorem dX11_goBack_41 : decode cX11_goBack 41 = .ok (.aload_n 2, 1) := by decide +kernel
theorem dX11_goBack_42 : decode cX11_goBack 42 = .ok (.getfield 317, 3) := by decide +kernel
theorem dX11_goBack_45 : decode cX11_goBack 45 = .ok (.invokevirtual 318, 3) := by decide +kernel
theorem dX11_goBack_48 : decode cX11_goBack 48 = .ok (.aload_n 0, 1) := by decide +kernel
theorem dX11_goBack_49 : decode cX11_goBack 49 = .ok (.aload_n 2, 1) := by decide +kernel
theorem dX11_goBack_50 : decode cX11_goBack 50 = .ok (.getfield 320, 3) := by decide +kernel
theorem dX11_goBack_53 : decode cX11_goBack 53 = .ok (.putfield 82, 3) := by decide +kernel
theorem dX11_goBack_56 : decode cX11_goBack 56 = .ok (.aload_n 0, 1) := by decide +kernel
theorem dX11_goBack_57 : decode cX11_goBack 57 = .ok (.getfield 54, 3) := by decide +kernel
theorem dX11_goBack_60 : decode cX11_goBack 60 = .ok (.invokevirtual 113, 3) := by decide +kernel
theorem dX11_goBack_63 : decode cX11_goBack 63 = .ok (.iconst 1, 1) := by decide +kernel
theorem dX11_goBack_64 : decode cX11_goBack 64 = .ok (.ireturn, 1) := by decide +kernel
set_option maxRecDepth 4000 in
set_option maxHeartbeats 4000000 in
theorem m_X11_goBack (l : Launch) (g : qGm) (M : qMem) {sd : sSD} (hs : sRS sd) (hS : xS M sd) {Z : sZ} (hZ : xZ M (sd 4 0) (sd 5 0) Z) (hI0 : xIm M (sd 4 0) (sd 5 0) Z 0) (hI1 : xIm M (sd 4 0) (sd 5 0) Z 1) {k : Int} (hkq : qIn k) : qOk l g 3 yX11_goBack cX11_goBack 3 (some .int) [qR g 0 0, qI k] M (fun r N => xE M sd (dGo Z k) r N) := by
  refine q_ok (by decide +kernel) (Nat.le_of_ble_eq_true rfl) (fun X C' hn => ?_)
  have C := C'.1
  have hm6 := hs.2.1
  have hn6 := hs.2.2.1
  have w0 := hS.1
  have w1 := hS.2.1
  have w2 := hS.2.2.1
  have y1 := hZ.1.1
  have y2 := hZ.1.2
  have y3 := hZ.2.1
  have y4 := hZ.2.2.1
  have y5 := hZ.2.2.2.2
  refine q_iloadn C dX11_goBack_0 rfl ?_
  refine q_iconst C dX11_goBack_1 ?_
  refine cv_RX11_86 C (by decide) (m_X11_isWithin l g _ (by assumption) (by omega)) dX11_goBack_2 (Nat.le_of_ble_eq_true rfl) (fun r2 => ?_)
  refine q_ifneB C 11 dX11_goBack_5 (by decide) (fun h5 => ?_) (fun h5 => ?_)
  · refine q_iloadn C dX11_goBack_11 rfl ?_
    refine q_if_ne C 22 dX11_goBack_12 (by decide) (by first | assumption | omega | exact q_tin _ | exact q_bIn _) (fun h12 => ?_) (fun h12 => ?_)
    · refine q_aloadn C dX11_goBack_22 rfl ?_
      refine gf_RX11_65 C dX11_goBack_23 ?_
      refine q_astoren C dX11_goBack_26 hn (by decide) rfl ?_
      refine q_aloadn C dX11_goBack_27 rfl ?_
      refine gf_RX11_116 C (by decide) dX11_goBack_28 (fun r28 => ?_)
      refine q_if_ne C 37 dX11_goBack_31 (by decide) (by first | assumption | omega | exact q_tin _ | exact q_bIn _) (fun h31 => ?_) (fun h31 => ?_)
      · refine q_aloadn C dX11_goBack_37 rfl ?_
        refine gf_RX11_34 C dX11_goBack_38 ?_
        refine q_aloadn C dX11_goBack_41 rfl ?_
        refine gf_RX11_317 C (by decide) dX11_goBack_42 ?_
        refine cv_RX11_318 C (by decide) (by decide) (m_X2_become l g _ (by decide) (by decide) (by decide)) dX11_goBack_45 (Nat.le_of_ble_eq_true rfl) ?_
        refine q_aloadn C dX11_goBack_48 rfl ?_
        refine q_aloadn C dX11_goBack_49 rfl ?_
        refine gf_RX11_320 C (by decide) dX11_goBack_50 (fun r50 => ?_)
        try simp only [q_rd, q_rdS, ↓reduceIte, if_true, if_false, eq_self, Nat.reduceEqDiff, Int.reduceEq, Int.reduceNeg, reduceCtorEq, xBec_off _ _ _ (show 28 < 10 ∨ 18 < 28 by decide)] at r50 ⊢
        refine pf_RX11_82 C (by first | assumption | omega | exact q_tin _ | exact q_bIn _) dX11_goBack_53 ?_
        refine q_aloadn C dX11_goBack_56 rfl ?_
        refine gf_RX11_54 C dX11_goBack_57 ?_
        refine cv_RX11_113 C (by decide) (m_X6_forget l g _ ) dX11_goBack_60 (Nat.le_of_ble_eq_true rfl) ?_
        refine q_iconst C dX11_goBack_63 ?_
        refine q_iret C' dX11_goBack_64 (by first | assumption | omega | exact q_tin _ | exact q_bIn _) ?_
        first
          | (obtain rfl : k = 0 := (by omega)
             have e0 : ¬ Z 4 ((0 : Nat) : Int) 0 = 0 := (by rw [← hI0.1]; omega)
             obtain ⟨e1, e2, e3, e4⟩ := xE_go hZ (i := 0) (i' := 1) (by omega) hI0 hI1 e0
             have e5 : dGo Z 0 = (1, zGo Z 0) := (by unfold dGo; rw [if_pos (by omega), if_neg (show ¬ Z 4 0 0 = 0 from e0)])
             rw [e5]
             exact ⟨rfl, ⟨e1, e2, e3⟩, e4⟩)
          | (obtain rfl : k = 1 := (by omega)
             have e0 : ¬ Z 4 ((1 : Nat) : Int) 0 = 0 := (by rw [← hI1.1]; omega)
             obtain ⟨e1, e2, e3, e4⟩ := xE_go hZ (i := 1) (i' := 0) (by omega) hI1 hI0 e0
             have e5 : dGo Z 1 = (1, zGo Z 1) := (by unfold dGo; rw [if_pos (by omega), if_neg (show ¬ Z 4 1 0 = 0 from e0)])
             rw [e5]
             exact ⟨rfl, ⟨e1, e3, e2⟩, e4⟩)
      · refine q_ldc C (z := -1000000003) q_ci_RX11_218 (by decide) dX11_goBack_34 ?_
        refine q_iret C' dX11_goBack_36 (by first | assumption | omega | exact q_tin _ | exact q_bIn _) ?_
        obtain rfl | rfl : k = 0 ∨ k = 1 := by omega
        · first
            | (exfalso; omega)
            | (have e0 : Z 4 ((0 : Nat) : Int) 0 = 0 := (by rw [← hI0.1]; omega)
               have e5 : dGo Z 0 = (-1000000003, Z) := (by unfold dGo; rw [if_pos (by omega), if_pos (show Z 4 0 0 = 0 from e0)])
               rw [e5]
               exact ⟨rfl, ⟨hZ, hI0, hI1⟩, xDP.rf.q⟩)
        · first
            | (exfalso; omega)
            | (have e0 : Z 4 ((1 : Nat) : Int) 0 = 0 := (by rw [← hI1.1]; omega)
               have e5 : dGo Z 1 = (-1000000003, Z) := (by unfold dGo; rw [if_pos (by omega), if_pos (show Z 4 1 0 = 0 from e0)])
               rw [e5]
               exact ⟨rfl, ⟨hZ, hI0, hI1⟩, xDP.rf.q⟩)
    · refine q_aloadn C dX11_goBack_15 rfl ?_
      refine gf_RX11_61 C dX11_goBack_16 ?_
      refine q_goto C (tgt := 26) dX11_goBack_19 (by decide) ?_
      refine q_astoren C dX11_goBack_26 hn (by decide) rfl ?_
      refine q_aloadn C dX11_goBack_27 rfl ?_
      refine gf_RX11_116 C (by decide) dX11_goBack_28 (fun r28 => ?_)
      refine q_if_ne C 37 dX11_goBack_31 (by decide) (by first | assumption | omega | exact q_tin _ | exact q_bIn _) (fun h31 => ?_) (fun h31 => ?_)
      · refine q_aloadn C dX11_goBack_37 rfl ?_
        refine gf_RX11_34 C dX11_goBack_38 ?_
        refine q_aloadn C dX11_goBack_41 rfl ?_
        refine gf_RX11_317 C (by decide) dX11_goBack_42 ?_
        refine cv_RX11_318 C (by decide) (by decide) (m_X2_become l g _ (by decide) (by decide) (by decide)) dX11_goBack_45 (Nat.le_of_ble_eq_true rfl) ?_
        refine q_aloadn C dX11_goBack_48 rfl ?_
        refine q_aloadn C dX11_goBack_49 rfl ?_
        refine gf_RX11_320 C (by decide) dX11_goBack_50 (fun r50 => ?_)
        try simp only [q_rd, q_rdS, ↓reduceIte, if_true, if_false, eq_self, Nat.reduceEqDiff, Int.reduceEq, Int.reduceNeg, reduceCtorEq, xBec_off _ _ _ (show 28 < 10 ∨ 18 < 28 by decide)] at r50 ⊢
        refine pf_RX11_82 C (by first | assumption | omega | exact q_tin _ | exact q_bIn _) dX11_goBack_53 ?_
        refine q_aloadn C dX11_goBack_56 rfl ?_
        refine gf_RX11_54 C dX11_goBack_57 ?_
        refine cv_RX11_113 C (by decide) (m_X6_forget l g _ ) dX11_goBack_60 (Nat.le_of_ble_eq_true rfl) ?_
        refine q_iconst C dX11_goBack_63 ?_
        refine q_iret C' dX11_goBack_64 (by first | assumption | omega | exact q_tin _ | exact q_bIn _) ?_
        first
          | (obtain rfl : k = 0 := (by omega)
             have e0 : ¬ Z 4 ((0 : Nat) : Int) 0 = 0 := (by rw [← hI0.1]; omega)
             obtain ⟨e1, e2, e3, e4⟩ := xE_go hZ (i := 0) (i' := 1) (by omega) hI0 hI1 e0
             have e5 : dGo Z 0 = (1, zGo Z 0) := (by unfold dGo; rw [if_pos (by omega), if_neg (show ¬ Z 4 0 0 = 0 from e0)])
             rw [e5]
             exact ⟨rfl, ⟨e1, e2, e3⟩, e4⟩)
          | (obtain rfl : k = 1 := (by omega)
             have e0 : ¬ Z 4 ((1 : Nat) : Int) 0 = 0 := (by rw [← hI1.1]; omega)
             obtain ⟨e1, e2, e3, e4⟩ := xE_go hZ (i := 1) (i' := 0) (by omega) hI1 hI0 e0
             have e5 : dGo Z 1 = (1, zGo Z 1) := (by unfold dGo; rw [if_pos (by omega), if_neg (show ¬ Z 4 1 0 = 0 from e0)])
             rw [e5]
             exact ⟨rfl, ⟨e1, e3, e2⟩, e4⟩)
      · refine q_ldc C (z := -1000000003) q_ci_RX11_218 (by decide) dX11_goBack_34 ?_
        refine q_iret C' dX11_goBack_36 (by first | assumption | omega | exact q_tin _ | exact q_bIn _) ?_
        obtain rfl | rfl : k = 0 ∨ k = 1 := by omega
        · first
            | (exfalso; omega)
            | (have e0 : Z 4 ((0 : Nat) : Int) 0 = 0 := (by rw [← hI0.1]; omega)
               have e5 : dGo Z 0 = (-1000000003, Z) := (by unfold dGo; rw [if_pos (by omega), if_pos (show Z 4 0 0 = 0 from e0)])
               rw [e5]
               exact ⟨rfl, ⟨hZ, hI0, hI1⟩, xDP.rf.q⟩)
        · first
            | (exfalso; omega)
            | (have e0 : Z 4 ((1 : Nat) : Int) 0 = 0 := (by rw [← hI1.1]; omega)
               have e5 : dGo Z 1 = (-1000000003, Z) := (by unfold dGo; rw [if_pos (by omega), if_pos (show Z 4 1 0 = 0 from e0)])
               rw [e5]
               exact ⟨rfl, ⟨hZ, hI0, hI1⟩, xDP.rf.q⟩)
  · refine q_ldc C (z := -1000000001) q_ci_RX11_169 (by decide) dX11_goBack_8 ?_
    refine q_iret C' dX11_goBack_10 (by first | assumption | omega | exact q_tin _ | exact q_bIn _) ?_
    refine ⟨congrArg some ?_, ⟨?_, ?_, ?_⟩, xDP.rf.q⟩ <;> unfold dGo <;> rw [if_neg (by omega)]
    · exact hZ
    · exact hI0
    · exact hI1
