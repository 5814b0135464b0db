/-- the class's season is sd -/
def xS (M : qMem) (sd : sSD) : Prop := M 3 1 0 = sd 0 0 ∧ M 3 1 1 = sd 4 0 ∧ M 3 1 2 = sd 5 0 ∧ (∀ c, 0 ≤ c → c < sd 4 0 → M 4 1 c = sd 1 c) ∧ (∀ h, 0 ≤ h → h < sd 5 0 → M 8 1 h = sd 2 h) ∧ (∀ k, 0 ≤ k → k < 8 * sd 5 0 → M 9 1 k = sd 3 k)
/-- a hall of the class is the row v -/
def xH (M : qMem) (u : Nat) (m n : Int) (v : Int → Int) : Prop := M 10 u 0 = v 0 ∧ M 10 u 1 = v 1 ∧ (∀ h, 0 ≤ h → h < n → M 14 u h = v (2 + h)) ∧ (∀ c, 0 ≤ c → c < m → M 12 u c = v (8 + c) ∧ M 11 u c = v (14 + c) ∧ M 13 u c = v (92 + c)) ∧ (∀ c h, 0 ≤ c → c < 6 → 0 ≤ h → h < 6 → (c < m ∧ h < n → M 15 u (c * 6 + h) = v (20 + (6 * c + h)) ∧ M 16 u (c * 6 + h) = v (56 + (6 * c + h))) ∧ (¬ (c < m ∧ h < n) → M 15 u (c * 6 + h) = 0)) ∧ M 17 u 2 = v 98 ∧ (0 ≤ M 17 u 1 ∧ M 17 u 1 < 20) ∧ (∀ i k, 0 ≤ i → i < v 98 → 0 ≤ k → k < 5 → M 18 u ((if i ≤ M 17 u 1 then M 17 u 1 - i else M 17 u 1 - i + 20) * 5 + k) = v (99 + (5 * i + k)))
theorem sMean_eq (g : Int) : sMean g = sMean g := rfl
theorem dX10_comers_0 : decode cX10_comers 0 = .ok (.aload_n 0, 1) := by decide +kernel
theorem dX10_comers_1 : decode cX10_comers 1 = .ok (.getfield 9, 3) := by decide +kernel
theorem dX10_comers_4 : decode cX10_comers 4 = .ok (.getfield 19, 3) := by decide +kernel
theorem dX10_comers_7 : decode cX10_comers 7 = .ok (.ireturn, 1) := by decide +kernel
set_option maxRecDepth 4000 in
set_option maxHeartbeats 4000000 in
theorem m_X10_comers (l : Launch) (g : qGm) (M : qMem) {sd : sSD} (hs : sRS sd) (hS : xS M sd) : qOk l g 1 yX10_comers cX10_comers 1 (some .int) [qR g 19 0] M (qEv (some (sd 4 0)) M) := by
  refine q_ok (by decide +kernel) (Nat.le_of_ble_eq_true rfl) (fun X C' hn => ?_)
  have C := C'.1
  refine q_aloadn C dX10_comers_0 rfl ?_
  refine gf_RX10_9 C dX10_comers_1 ?_
  refine gf_RX10_19 C (by first | assumption | decide | omega) dX10_comers_4 (fun r4 => ?_)
  refine q_iret C' dX10_comers_7 (by first | assumption | omega | exact q_tin _ | exact q_bIn _) ?_
  exact ⟨congrArg some hS.2.1, rfl⟩
theorem dX10_houses_0 : decode cX10_houses 0 = .ok (.aload_n 0, 1) := by decide +kernel
theorem dX10_houses_1 : decode cX10_houses 1 = .ok (.getfield 9, 3) := by decide +kernel
theorem dX10_houses_4 : decode cX10_houses 4 = .ok (.getfield 25, 3) := by decide +kernel
theorem dX10_houses_7 : decode cX10_houses 7 = .ok (.ireturn, 1) := by decide +kernel
set_option maxRecDepth 4000 in
set_option maxHeartbeats 4000000 in
theorem m_X10_houses (l : Launch) (g : qGm) (M : qMem) {sd : sSD} (hs : sRS sd) (hS : xS M sd) : qOk l g 1 yX10_houses cX10_houses 1 (some .int) [qR g 19 0] M (qEv (some (sd 5 0)) M) := by
  refine q_ok (by decide +kernel) (Nat.le_of_ble_eq_true rfl) (fun X C' hn => ?_)
  have C := C'.1
  refine q_aloadn C dX10_houses_0 rfl ?_
  refine gf_RX10_9 C dX10_houses_1 ?_
  refine gf_RX10_25 C (by first | assumption | decide | omega) dX10_houses_4 (fun r4 => ?_)
  refine q_iret C' dX10_houses_7 (by first | assumption | omega | exact q_tin _ | exact q_bIn _) ?_
  exact ⟨congrArg some hS.2.2.1, rfl⟩
theorem dX10_stuffingBelieved_0 : decode cX10_stuffingBelieved 0 = .ok (.aload_n 0, 1) := by decide +kernel
theorem dX10_stuffingBelieved_1 : decode cX10_stuffingBelieved 1 = .ok (.getfield 15, 3) := by decide +kernel
theorem dX10_stuffingBelieved_4 : decode cX10_stuffingBelieved 4 = .ok (.iload_n 1, 1) := by decide +kernel
theorem dX10_stuffingBelieved_5 : decode cX10_stuffingBelieved 5 = .ok (.iload_n 2, 1) := by decide +kernel
theorem dX10_stuffingBelieved_6 : decode cX10_stuffingBelieved 6 = .ok (.invokevirtual 28, 3) := by decide +kernel
theorem dX10_stuffingBelieved_9 : decode cX10_stuffingBelieved 9 = .ok (.ifCond .eq 7, 3) := by decide +kernel
theorem dX10_stuffingBelieved_12 : decode cX10_stuffingBelieved 12 = .ok (.iconst 0, 1) := by decide +kernel
theorem dX10_stuffingBelieved_13 : decode cX10_stuffingBelieved 13 = .ok (.goto 12, 3) := by decide +kernel
theorem dX10_stuffingBelieved_16 : decode cX10_stuffingBelieved 16 = .ok (.aload_n 0, 1) := by decide +kernel
theorem dX10_stuffingBelieved_17 : decode cX10_stuffingBelieved 17 = .ok (.getfield 15, 3) := by decide +kernel
theorem dX10_stuffingBelieved_20 : decode cX10_stuffingBelieved 20 = .ok (.getfield 34, 3) := by decide +kernel
theorem dX10_stuffingBelieved_23 : decode cX10_stuffingBelieved 23 = .ok (.iload_n 1, 1) := by decide +kernel
theorem dX10_stuffingBelieved_24 : decode cX10_stuffingBelieved 24 = .ok (.iaload, 1) := by decide +kernel
theorem dX10_stuffingBelieved_25 : decode cX10_stuffingBelieved 25 = .ok (.ireturn, 1) := by decide +kernel
set_option maxRecDepth 4000 in
set_option maxHeartbeats 4000000 in
theorem m_X10_stuffingBelieved (l : Launch) (g : qGm) (M : qMem) {sd : sSD} (hs : sRS sd) (hS : xS M sd) {v : Int → Int} (hv : sRR (sd 4 0) (sd 5 0) v) (hH : xH M 0 (sd 4 0) (sd 5 0) v) {c : Int} (hc : 0 ≤ c ∧ c < sd 4 0) {h : Int} (hh : 0 ≤ h ∧ h < sd 5 0) : qOk l g 2 yX10_stuffingBelieved cX10_stuffingBelieved 3 (some .int) [qR g 19 0, qI c, qI h] M (qEv (some (if sHas (v (92 + c)) h then 0 else v (14 + c))) M) := by
  refine q_ok (by decide +kernel) (Nat.le_of_ble_eq_true rfl) (fun X C' hn => ?_)
  have C := C'.1
  have hm6 := hs.2.1.2
  have hn6 := hs.2.2.1.2
  have e1 := hH.2.2.2.1 c hc.1 hc.2
  have e2 := hv.2.2.2.1 c hc.1 hc.2
  refine q_aloadn C dX10_stuffingBelieved_0 rfl ?_
  refine gf_RX10_15 C dX10_stuffingBelieved_1 ?_
  refine q_iloadn C dX10_stuffingBelieved_4 rfl ?_
  refine q_iloadn C dX10_stuffingBelieved_5 rfl ?_
  refine cv_RX10_28 C (by decide) (by first | assumption | decide | omega) (m_X2_isSham l g _ (by decide) (by omega) (by omega) (by rw [e1.2.2]; exact e2.2.2)) dX10_stuffingBelieved_6 (Nat.le_of_ble_eq_true rfl) (fun r6 => ?_)
  refine q_ifeqB C 16 dX10_stuffingBelieved_9 (by decide) (fun h9 => ?_) (fun h9 => ?_)
  · refine q_aloadn C dX10_stuffingBelieved_16 rfl ?_
    refine gf_RX10_15 C dX10_stuffingBelieved_17 ?_
    refine gf_RX10_34 C (by first | assumption | decide | omega) dX10_stuffingBelieved_20 ?_
    refine q_iloadn C dX10_stuffingBelieved_23 rfl ?_
    refine q_iald C (by first | assumption | decide | omega) rfl dX10_stuffingBelieved_24 (by omega) (by omega) (by decide) (fun r24 => ?_)
    refine q_iret C' dX10_stuffingBelieved_25 (by first | assumption | omega | exact q_tin _ | exact q_bIn _) ?_
    refine ⟨congrArg some ?_, rfl⟩
    first | (rw [if_pos (by rw [← e1.2.2]; assumption)]; done) | (rw [if_neg (by rw [← e1.2.2]; assumption)]; exact e1.2.1)
  · refine q_iconst C dX10_stuffingBelieved_12 ?_
    refine q_goto C (tgt := 25) dX10_stuffingBelieved_13 (by decide) ?_
    refine q_iret C' dX10_stuffingBelieved_25 (by first | assumption | omega | exact q_tin _ | exact q_bIn _) ?_
    refine ⟨congrArg some ?_, rfl⟩
    first | (rw [if_pos (by rw [← e1.2.2]; assumption)]; done) | (rw [if_neg (by rw [← e1.2.2]; assumption)]; exact e1.2.1)
theorem dX10_heardStuffed_0 : decode cX10_heardStuffed 0 = .ok (.aload_n 0, 1) := by decide +kernel
theorem dX10_heardStuffed_1 : decode cX10_heardStuffed 1 = .ok (.getfield 9, 3) := by decide +kernel
theorem dX10_heardStuffed_4 : decode cX10_heardStuffed 4 = .ok (.getfield 38, 3) := by decide +kernel
theorem dX10_heardStuffed_7 : decode cX10_heardStuffed 7 = .ok (.iload_n 1, 1) := by decide +kernel
theorem dX10_heardStuffed_8 : decode cX10_heardStuffed 8 = .ok (.iaload, 1) := by decide +kernel
theorem dX10_heardStuffed_9 : decode cX10_heardStuffed 9 = .ok (.iload 4, 2) := by decide +kernel
theorem dX10_heardStuffed_11 : decode cX10_heardStuffed 11 = .ok (.iadd, 1) := by decide +kernel
theorem dX10_heardStuffed_12 : decode cX10_heardStuffed 12 = .ok (.iconst 3, 1) := by decide +kernel
theorem dX10_heardStuffed_13 : decode cX10_heardStuffed 13 = .ok (.aload_n 0, 1) := by decide +kernel
theorem dX10_heardStuffed_14 : decode cX10_heardStuffed 14 = .ok (.getfield 9, 3) := by decide +kernel
theorem dX10_heardStuffed_17 : decode cX10_heardStuffed 17 = .ok (.iload_n 2, 1) := by decide +kernel
theorem dX10_heardStuffed_18 : decode cX10_heardStuffed 18 = .ok (.iload_n 3, 1) := by decide +kernel
theorem dX10_heardStuffed_19 : decode cX10_heardStuffed 19 = .ok (.invokestatic 41, 3) := by decide +kernel
theorem dX10_heardStuffed_22 : decode cX10_heardStuffed 22 = .ok (.invokevirtual 47, 3) := by decide +kernel
theorem dX10_heardStuffed_25 : decode cX10_heardStuffed 25 = .ok (.imul, 1) := by decide +kernel
theorem dX10_heardStuffed_26 : decode cX10_heardStuffed 26 = .ok (.iadd, 1) := by decide +kernel
theorem dX10_heardStuffed_27 : decode cX10_heardStuffed 27 = .ok (.istore 5, 2) := by decide +kernel
theorem dX10_heardStuffed_29 : decode cX10_heardStuffed 29 = .ok (.aload_n 0, 1) := by decide +kernel
theorem dX10_heardStuffed_30 : decode cX10_heardStuffed 30 = .ok (.getfield 9, 3) := by decide +kernel
theorem dX10_heardStuffed_33 : decode cX10_heardStuffed 33 = .ok (.getfield 51, 3) := by decide +kernel
theorem dX10_heardStuffed_36 : decode cX10_heardStuffed 36 = .ok (.iload_n 3, 1) := by decide +kernel
theorem dX10_heardStuffed_37 : decode cX10_heardStuffed 37 = .ok (.invokestatic 54, 3) := by decide +kernel
theorem dX10_heardStuffed_40 : decode cX10_heardStuffed 40 = .ok (.ifCond .eq 8, 3) := by decide +kernel
theorem dX10_heardStuffed_43 : decode cX10_heardStuffed 43 = .ok (.iload 5, 2) := by decide +kernel
theorem dX10_heardStuffed_45 : decode cX10_heardStuffed 45 = .ok (.goto 12, 3) := by decide +kernel
theorem dX10_heardStuffed_48 : decode cX10_heardStuffed 48 = .ok (.iload 5, 2) := by decide +kernel
theorem dX10_heardStuffed_50 : decode cX10_heardStuffed 50 = .ok (.bipush 10, 2) := by decide +kernel
theorem dX10_heardStuffed_52 : decode cX10_heardStuffed 52 = .ok (.isub, 1) := by decide +kernel
theorem dX10_heardStuffed_53 : decode cX10_heardStuffed 53 = .ok (.iconst 0, 1) := by decide +kernel
theorem dX10_heardStuffed_54 : decode cX10_heardStuffed 54 = .ok (.invokestatic 57, 3) := by decide +kernel
theorem dX10_heardStuffed_57 : decode cX10_heardStuffed 57 = .ok (.ireturn, 1) := by decide +kernel
set_option maxRecDepth 4000 in
set_option maxHeartbeats 4000000 in
theorem m_X10_heardStuffed (l : Launch) (g : qGm) (M : qMem) {sd : sSD} (hs : sRS sd) (hS : xS M sd) {c : Int} (hc : 0 ≤ c ∧ c < sd 4 0) {h : Int} (hh : 0 ≤ h ∧ h < sd 5 0) {a : Int} (ha : 0 ≤ a ∧ a < 48) {s : Int} (hst : 0 ≤ s ∧ s ≤ 9) : qOk l g 2 yX10_heardStuffed cX10_heardStuffed 6 (some .int) [qR g 19 0, qI c, qI h, qI a, qI s] M (qEv (some (sHr (sd 0 0) (sd 1 c) s (fun k => sd 3 (8 * h + k)) a)) M) := by
  refine q_ok (by decide +kernel) (Nat.le_of_ble_eq_true rfl) (fun X C' hn => ?_)
  have C := C'.1
  have hm6 := hs.2.1.2
  have hn6 := hs.2.2.1.2
  have hm := sMean_in ha.1 ha.2
  have w1 := hS.2.2.2.1 c hc.1 hc.2
  have w2 : M 9 1 (h * 8 + sMean a) = sd 3 (8 * h + sMean a) := by rw [show h * 8 + sMean a = 8 * h + sMean a by omega]; exact hS.2.2.2.2.2 _ (by omega) (by omega)
  have w3 := hs.2.2.2.1 c hc.1 hc.2
  have w4 := hs.2.2.2.2.2.1 (8 * h + sMean a) (by omega) (by omega)
  have hmn : qIn (M 3 1 0) := by have := hs.1; rw [hS.1]; omega
  refine q_aloadn C dX10_heardStuffed_0 rfl ?_
  refine gf_RX10_9 C dX10_heardStuffed_1 ?_
  refine gf_RX10_38 C (by first | assumption | decide | omega) dX10_heardStuffed_4 ?_
  refine q_iloadn C dX10_heardStuffed_7 rfl ?_
  refine q_iald C (by first | assumption | decide | omega) rfl dX10_heardStuffed_8 (by omega) (by omega) (by decide) (fun r8 => ?_)
  refine q_iload C dX10_heardStuffed_9 rfl ?_
  refine q_iadd C dX10_heardStuffed_11 ?_
  refine q_iconst C dX10_heardStuffed_12 ?_
  refine q_aloadn C dX10_heardStuffed_13 rfl ?_
  refine gf_RX10_9 C dX10_heardStuffed_14 ?_
  refine q_iloadn C dX10_heardStuffed_17 rfl ?_
  refine q_iloadn C dX10_heardStuffed_18 rfl ?_
  refine cv_RX10_41 C (by decide) (m_X1_meaning l g _ ha) dX10_heardStuffed_19 (Nat.le_of_ble_eq_true rfl) (fun r19 => ?_)
  refine cv_RX10_47 C (by decide) (by first | assumption | decide | omega) (m_X7_prizeOf l g _ (by decide) (by omega) (by omega)) dX10_heardStuffed_22 (Nat.le_of_ble_eq_true rfl) (fun r22 => ?_)
  refine q_imul C dX10_heardStuffed_25 ?_
  refine q_iadd C dX10_heardStuffed_26 ?_
  refine q_istore C dX10_heardStuffed_27 hn (by decide) rfl ?_
  refine q_aloadn C dX10_heardStuffed_29 rfl ?_
  refine gf_RX10_9 C dX10_heardStuffed_30 ?_
  refine gf_RX10_51 C (by first | assumption | decide | omega) dX10_heardStuffed_33 (fun r33 => ?_)
  refine q_iloadn C dX10_heardStuffed_36 rfl ?_
  refine cv_RX10_54 C (by decide) (m_X1_isSaid l g _ hmn ha) dX10_heardStuffed_37 (Nat.le_of_ble_eq_true rfl) (fun r37 => ?_)
  refine q_ifeqB C 48 dX10_heardStuffed_40 (by decide) (fun h40 => ?_) (fun h40 => ?_)
  · refine q_iload C dX10_heardStuffed_48 rfl ?_
    refine q_bipush C dX10_heardStuffed_50 (by decide) ?_
    refine q_isub C dX10_heardStuffed_52 ?_
    refine q_iconst C dX10_heardStuffed_53 ?_
    refine q_mmax C q_ml_RX10_57 (by first | assumption | omega | exact q_tin _ | exact q_bIn _) (by first | assumption | omega | exact q_tin _ | exact q_bIn _) (by decide) (Nat.le_of_ble_eq_true rfl) dX10_heardStuffed_54 (fun r54 => ?_)
    refine q_iret C' dX10_heardStuffed_57 (by first | assumption | omega | exact q_tin _ | exact q_bIn _) ?_
    refine ⟨congrArg some ?_, rfl⟩
    unfold sHr
    dsimp only
    rw [← hS.1, w1, w2]
    first | (rw [if_pos (by assumption)]; unfold sMax; split <;> omega) | (rw [if_neg (by assumption)]; done)
  · refine q_iload C dX10_heardStuffed_43 rfl ?_
    refine q_goto C (tgt := 57) dX10_heardStuffed_45 (by decide) ?_
    refine q_iret C' dX10_heardStuffed_57 (by first | assumption | omega | exact q_tin _ | exact q_bIn _) ?_
    refine ⟨congrArg some ?_, rfl⟩
    unfold sHr
    dsimp only
    rw [← hS.1, w1, w2]
    first | (rw [if_pos (by assumption)]; unfold sMax; split <;> omega) | (rw [if_neg (by assumption)]; done)
theorem dX10_heard_0 : decode cX10_heard 0 = .ok (.aload_n 0, 1) := by decide +kernel
theorem dX10_heard_1 : decode cX10_heard 1 = .ok (.iload_n 1, 1) := by decide +kernel
theorem dX10_heard_2 : decode cX10_heard 2 = .ok (.iload_n 2, 1) := by decide +kernel
theorem dX10_heard_3 : decode cX10_heard 3 = .ok (.iload_n 3, 1) := by decide +kernel
theorem dX10_heard_4 : decode cX10_heard 4 = .ok (.aload_n 0, 1) := by decide +kernel
theorem dX10_heard_5 : decode cX10_heard 5 = .ok (.iload_n 1, 1) := by decide +kernel
theorem dX10_heard_6 : decode cX10_heard 6 = .ok (.iload_n 2, 1) := by decide +kernel
theorem dX10_heard_7 : decode cX10_heard 7 = .ok (.invokevirtual 62, 3) := by decide +kernel
theorem dX10_heard_10 : decode cX10_heard 10 = .ok (.invokevirtual 65, 3) := by decide +kernel
theorem dX10_heard_13 : decode cX10_heard 13 = .ok (.ireturn, 1) := by decide +kernel
set_option maxRecDepth 4000 in
set_option maxHeartbeats 4000000 in
theorem m_X10_heard (l : Launch) (g : qGm) (M : qMem) {sd : sSD} (hs : sRS sd) (hS : xS M sd) {v : Int → Int} (hv : sRR (sd 4 0) (sd 5 0) v) (hH : xH M 0 (sd 4 0) (sd 5 0) v) {c : Int} (hc : 0 ≤ c ∧ c < sd 4 0) {h : Int} (hh : 0 ≤ h ∧ h < sd 5 0) {a : Int} (ha : 0 ≤ a ∧ a < 48) : qOk l g 3 yX10_heard cX10_heard 4 (some .int) [qR g 19 0, qI c, qI h, qI a] M (qEv (some (sHeard sd v c h a)) M) := by
  refine q_ok (by decide +kernel) (Nat.le_of_ble_eq_true rfl) (fun X C' hn => ?_)
  have C := C'.1
  have e2 := hv.2.2.2.1 c hc.1 hc.2
  refine q_aloadn C dX10_heard_0 rfl ?_
  refine q_iloadn C dX10_heard_1 rfl ?_
  refine q_iloadn C dX10_heard_2 rfl ?_
  refine q_iloadn C dX10_heard_3 rfl ?_
  refine q_aloadn C dX10_heard_4 rfl ?_
  refine q_iloadn C dX10_heard_5 rfl ?_
  refine q_iloadn C dX10_heard_6 rfl ?_
  refine cv_RX10_62 C (by decide) (m_X10_stuffingBelieved l g _ hs hS hv hH hc hh) dX10_heard_7 (Nat.le_of_ble_eq_true rfl) (fun r7 => ?_)
  refine cv_RX10_65 C (by decide) (m_X10_heardStuffed l g _ hs hS hc hh ha (by split <;> omega)) dX10_heard_10 (Nat.le_of_ble_eq_true rfl) (fun r10 => ?_)
  refine q_iret C' dX10_heard_13 (by first | assumption | omega | exact q_tin _ | exact q_bIn _) ?_
  exact ⟨rfl, rfl⟩
theorem dX10_answer_0 : decode cX10_answer 0 = .ok (.aload_n 0, 1) := by decide +kernel
theorem dX10_answer_1 : decode cX10_answer 1 = .ok (.iload_n 1, 1) := by decide +kernel
theorem dX10_answer_2 : decode cX10_answer 2 = .ok (.iload_n 2, 1) := by decide +kernel
theorem dX10_answer_3 : decode cX10_answer 3 = .ok (.iload_n 3, 1) := by decide +kernel
theorem dX10_answer_4 : decode cX10_answer 4 = .ok (.invokevirtual 69, 3) := by decide +kernel
theorem dX10_answer_7 : decode cX10_answer 7 = .ok (.istore 4, 2) := by decide +kernel
theorem dX10_answer_9 : decode cX10_answer 9 = .ok (.iload 4, 2) := by decide +kernel
theorem dX10_answer_11 : decode cX10_answer 11 = .ok (.aload_n 0, 1) := by decide +kernel
theorem dX10_answer_12 : decode cX10_answer 12 = .ok (.getfield 9, 3) := by decide +kernel
theorem dX10_answer_15 : decode cX10_answer 15 = .ok (.getfield 73, 3) := by decide +kernel
theorem dX10_answer_18 : decode cX10_answer 18 = .ok (.iload_n 2, 1) := by decide +kernel
theorem dX10_answer_19 : decode cX10_answer 19 = .ok (.iaload, 1) := by decide +kernel
theorem dX10_answer_20 : decode cX10_answer 20 = .ok (.if_icmp .lt 5, 3) := by decide +kernel
theorem dX10_answer_23 : decode cX10_answer 23 = .ok (.iconst 2, 1) := by decide +kernel
theorem dX10_answer_24 : decode cX10_answer 24 = .ok (.ireturn, 1) := by decide +kernel
theorem dX10_answer_25 : decode cX10_answer 25 = .ok (.iload 4, 2) := by decide +kernel
theorem dX10_answer_27 : decode cX10_answer 27 = .ok (.aload_n 0, 1) := by decide +kernel
theorem dX10_answer_28 : decode cX10_answer 28 = .ok (.getfield 15, 3) := by decide +kernel
theorem dX10_answer_31 : decode cX10_answer 31 = .ok (.getfield 76, 3) := by decide +kernel
theorem dX10_answer_34 : decode cX10_answer 34 = .ok (.iload_n 2, 1) := by decide +kernel
theorem dX10_answer_35 : decode cX10_answer 35 = .ok (.iaload, 1) := by decide +kernel
theorem dX10_answer_36 : decode cX10_answer 36 = .ok (.if_icmp .lt 7, 3) := by decide +kernel
theorem dX10_answer_39 : decode cX10_answer 39 = .ok (.iconst 1, 1) := by decide +kernel
theorem dX10_answer_40 : decode cX10_answer 40 = .ok (.goto 4, 3) := by decide +kernel
theorem dX10_answer_43 : decode cX10_answer 43 = .ok (.iconst 0, 1) := by decide +kernel
theorem dX10_answer_44 : decode cX10_answer 44 = .ok (.ireturn, 1) := by decide +kernel
set_option maxRecDepth 4000 in
set_option maxHeartbeats 4000000 in
theorem m_X10_answer (l : Launch) (g : qGm) (M : qMem) {sd : sSD} (hs : sRS sd) (hS : xS M sd) {v : Int → Int} (hv : sRR (sd 4 0) (sd 5 0) v) (hH : xH M 0 (sd 4 0) (sd 5 0) v) {c : Int} (hc : 0 ≤ c ∧ c < sd 4 0) {h : Int} (hh : 0 ≤ h ∧ h < sd 5 0) {a : Int} (ha : 0 ≤ a ∧ a < 48) : qOk l g 4 yX10_answer cX10_answer 5 (some .int) [qR g 19 0, qI c, qI h, qI a] M (qEv (some (sAns sd v c h a)) M) := by
  refine q_ok (by decide +kernel) (Nat.le_of_ble_eq_true rfl) (fun X C' hn => ?_)
  have C := C'.1
  have hm6 := hs.2.1.2
  have hn6 := hs.2.2.1.2
  have e1 := hS.2.2.2.2.1 h hh.1 hh.2
  have e2 := hH.2.2.1 h hh.1 hh.2
  have e3 := sHeard_in hs hv hc hh ha
  refine q_aloadn C dX10_answer_0 rfl ?_
  refine q_iloadn C dX10_answer_1 rfl ?_
  refine q_iloadn C dX10_answer_2 rfl ?_
  refine q_iloadn C dX10_answer_3 rfl ?_
  refine cv_RX10_69 C (by decide) (m_X10_heard l g _ hs hS hv hH hc hh ha) dX10_answer_4 (Nat.le_of_ble_eq_true rfl) (fun r4 => ?_)
  refine q_istore C dX10_answer_7 hn (by decide) rfl ?_
  refine q_iload C dX10_answer_9 rfl ?_
  refine q_aloadn C dX10_answer_11 rfl ?_
  refine gf_RX10_9 C dX10_answer_12 ?_
  refine gf_RX10_73 C (by first | assumption | decide | omega) dX10_answer_15 ?_
  refine q_iloadn C dX10_answer_18 rfl ?_
  refine q_iald C (by first | assumption | decide | omega) rfl dX10_answer_19 (by omega) (by omega) (by decide) (fun r19 => ?_)
  refine q_icmp_lt C 25 dX10_answer_20 (by decide) (by first | assumption | omega | exact q_tin _ | exact q_bIn _) (by first | assumption | omega | exact q_tin _ | exact q_bIn _) (fun h20 => ?_) (fun h20 => ?_)
  · refine q_iload C dX10_answer_25 rfl ?_
    refine q_aloadn C dX10_answer_27 rfl ?_
    refine gf_RX10_15 C dX10_answer_28 ?_
    refine gf_RX10_76 C (by first | assumption | decide | omega) dX10_answer_31 ?_
    refine q_iloadn C dX10_answer_34 rfl ?_
    refine q_iald C (by first | assumption | decide | omega) rfl dX10_answer_35 (by omega) (by omega) (by decide) (fun r35 => ?_)
    refine q_icmp_lt C 43 dX10_answer_36 (by decide) (by first | assumption | omega | exact q_tin _ | exact q_bIn _) (by first | assumption | omega | exact q_tin _ | exact q_bIn _) (fun h36 => ?_) (fun h36 => ?_)
    · refine q_iconst C dX10_answer_43 ?_
      refine q_iret C' dX10_answer_44 (by first | assumption | omega | exact q_tin _ | exact q_bIn _) ?_
      refine ⟨congrArg some ?_, rfl⟩
      unfold sAns
      rw [← e1, ← e2]
      first | (rw [if_pos (by omega)]; done) | (rw [if_neg (by omega), if_pos (by omega)]; done) | (rw [if_neg (by omega), if_neg (by omega)]; done)
    · refine q_iconst C dX10_answer_39 ?_
      refine q_goto C (tgt := 44) dX10_answer_40 (by decide) ?_
      refine q_iret C' dX10_answer_44 (by first | assumption | omega | exact q_tin _ | exact q_bIn _) ?_
      refine ⟨congrArg some ?_, rfl⟩
      unfold sAns
      rw [← e1, ← e2]
      first | (rw [if_pos (by omega)]; done) | (rw [if_neg (by omega), if_pos (by omega)]; done) | (rw [if_neg (by omega), if_neg (by omega)]; done)
  · refine q_iconst C dX10_answer_23 ?_
    refine q_iret C' dX10_answer_24 (by first | assumption | omega | exact q_tin _ | exact q_bIn _) ?_
    refine ⟨congrArg some ?_, rfl⟩
    unfold sAns
    rw [← e1, ← e2]
    first | (rw [if_pos (by omega)]; done) | (rw [if_neg (by omega), if_pos (by omega)]; done) | (rw [if_neg (by omega), if_neg (by omega)]; done)
theorem sAns_in (sd : sSD) (v : Int → Int) (c h a : Int) : 0 ≤ sAns sd v c h a ∧ sAns sd v c h a ≤ 2 := by unfold sAns; split <;> (try split) <;> omega
theorem dX10_isSaidFor_0 : decode cX10_isSaidFor 0 = .ok (.aload_n 0, 1) := by decide +kernel
theorem dX10_isSaidFor_1 : decode cX10_isSaidFor 1 = .ok (.getfield 9, 3) := by decide +kernel
theorem dX10_isSaidFor_4 : decode cX10_isSaidFor 4 = .ok (.getfield 51, 3) := by decide +kernel
theorem dX10_isSaidFor_7 : decode cX10_isSaidFor 7 = .ok (.iload_n 1, 1) := by decide +kernel
theorem dX10_isSaidFor_8 : decode cX10_isSaidFor 8 = .ok (.invokestatic 54, 3) := by decide +kernel
theorem dX10_isSaidFor_11 : decode cX10_isSaidFor 11 = .ok (.ifCond .eq 15, 3) := by decide +kernel
theorem dX10_isSaidFor_14 : decode cX10_isSaidFor 14 = .ok (.iload_n 1, 1) := by decide +kernel
theorem dX10_isSaidFor_15 : decode cX10_isSaidFor 15 = .ok (.invokestatic 41, 3) := by decide +kernel
theorem dX10_isSaidFor_18 : decode cX10_isSaidFor 18 = .ok (.iload_n 2, 1) := by decide +kernel
theorem dX10_isSaidFor_19 : decode cX10_isSaidFor 19 = .ok (.if_icmp .ne 7, 3) := by decide +kernel
theorem dX10_isSaidFor_22 : decode cX10_isSaidFor 22 = .ok (.iconst 1, 1) := by decide +kernel
theorem dX10_isSaidFor_23 : decode cX10_isSaidFor 23 = .ok (.goto 4, 3) := by decide +kernel
theorem dX10_isSaidFor_26 : decode cX10_isSaidFor 26 = .ok (.iconst 0, 1) := by decide +kernel
theorem dX10_isSaidFor_27 : decode cX10_isSaidFor 27 = .ok (.ireturn, 1) := by decide +kernel
set_option maxRecDepth 4000 in
set_option maxHeartbeats 4000000 in
theorem m_X10_isSaidFor (l : Launch) (g : qGm) (M : qMem) {sd : sSD} (hs : sRS sd) (hS : xS M sd) {a : Int} (ha : 0 ≤ a ∧ a < 48) {k : Int} (hk : qIn k) : qOk l g 2 yX10_isSaidFor cX10_isSaidFor 3 (some .boolean) [qR g 19 0, qI a, qI k] M (qEv (some (qB (sSaid (sd 0 0) a ∧ sMean a = k))) M) := by
  refine q_ok (by decide +kernel) (Nat.le_of_ble_eq_true rfl) (fun X C' hn => ?_)
  have C := C'.1
  have hmn : qIn (M 3 1 0) := by have := hs.1; rw [hS.1]; omega
  have hm := sMean_in ha.1 ha.2
  refine q_aloadn C dX10_isSaidFor_0 rfl ?_
  refine gf_RX10_9 C dX10_isSaidFor_1 ?_
  refine gf_RX10_51 C (by first | assumption | decide | omega) dX10_isSaidFor_4 (fun r4 => ?_)
  refine q_iloadn C dX10_isSaidFor_7 rfl ?_
  refine cv_RX10_54 C (by decide) (m_X1_isSaid l g _ hmn ha) dX10_isSaidFor_8 (Nat.le_of_ble_eq_true rfl) (fun r8 => ?_)
  refine q_ifeqB C 26 dX10_isSaidFor_11 (by decide) (fun h11 => ?_) (fun h11 => ?_)
  · refine q_iconst C dX10_isSaidFor_26 ?_
    refine q_zret C' dX10_isSaidFor_27 (by first | omega | exact q_b01 _ | simp) ?_
    refine ⟨congrArg some ?_, rfl⟩
    rw [← hS.1]
    first | (rw [q_bT ⟨by assumption, by omega⟩]; done) | (rw [q_bF (fun q => by first | exact absurd q.1 (by assumption) | omega)]; done)
  · refine q_iloadn C dX10_isSaidFor_14 rfl ?_
    refine cv_RX10_41 C (by decide) (m_X1_meaning l g _ ha) dX10_isSaidFor_15 (Nat.le_of_ble_eq_true rfl) (fun r15 => ?_)
    refine q_iloadn C dX10_isSaidFor_18 rfl ?_
    refine q_icmp_ne C 26 dX10_isSaidFor_19 (by decide) (by first | assumption | omega | exact q_tin _ | exact q_bIn _) (by first | assumption | omega | exact q_tin _ | exact q_bIn _) (fun h19 => ?_) (fun h19 => ?_)
    · refine q_iconst C dX10_isSaidFor_26 ?_
      refine q_zret C' dX10_isSaidFor_27 (by first | omega | exact q_b01 _ | simp) ?_
      refine ⟨congrArg some ?_, rfl⟩
      rw [← hS.1]
      first | (rw [q_bT ⟨by assumption, by omega⟩]; done) | (rw [q_bF (fun q => by first | exact absurd q.1 (by assumption) | omega)]; done)
    · refine q_iconst C dX10_isSaidFor_22 ?_
      refine q_goto C (tgt := 27) dX10_isSaidFor_23 (by decide) ?_
      refine q_zret C' dX10_isSaidFor_27 (by first | omega | exact q_b01 _ | simp) ?_
      refine ⟨congrArg some ?_, rfl⟩
      rw [← hS.1]
      first | (rw [q_bT ⟨by assumption, by omega⟩]; done) | (rw [q_bF (fun q => by first | exact absurd q.1 (by assumption) | omega)]; done)
theorem dX10_countLetIn_0 : decode cX10_countLetIn 0 = .ok (.iconst 0, 1) := by decide +kernel
theorem dX10_countLetIn_1 : decode cX10_countLetIn 1 = .ok (.istore_n 3, 1) := by decide +kernel
theorem dX10_countLetIn_2 : decode cX10_countLetIn 2 = .ok (.iconst 0, 1) := by decide +kernel
theorem dX10_countLetIn_3 : decode cX10_countLetIn 3 = .ok (.istore 4, 2) := by decide +kernel
theorem dX10_countLetIn_5 : decode cX10_countLetIn 5 = .ok (.iload 4, 2) := by decide +kernel
theorem dX10_countLetIn_7 : decode cX10_countLetIn 7 = .ok (.bipush 48, 2) := by decide +kernel
theorem dX10_countLetIn_9 : decode cX10_countLetIn 9 = .ok (.if_icmp .ge 23, 3) := by decide +kernel
theorem dX10_countLetIn_12 : decode cX10_countLetIn 12 = .ok (.aload_n 0, 1) := by decide +kernel
theorem dX10_countLetIn_13 : decode cX10_countLetIn 13 = .ok (.iload_n 1, 1) := by decide +kernel
theorem dX10_countLetIn_14 : decode cX10_countLetIn 14 = .ok (.iload_n 2, 1) := by decide +kernel
theorem dX10_countLetIn_15 : decode cX10_countLetIn 15 = .ok (.iload 4, 2) := by decide +kernel
theorem dX10_countLetIn_17 : decode cX10_countLetIn 17 = .ok (.invokevirtual 79, 3) := by decide +kernel
theorem dX10_countLetIn_20 : decode cX10_countLetIn 20 = .ok (.ifCond .eq 6, 3) := by decide +kernel
theorem dX10_countLetIn_23 : decode cX10_countLetIn 23 = .ok (.iinc 3 1, 3) := by decide +kernel
theorem dX10_countLetIn_26 : decode cX10_countLetIn 26 = .ok (.iinc 4 1, 3) := by decide +kernel
theorem dX10_countLetIn_29 : decode cX10_countLetIn 29 = .ok (.goto (-24), 3) := by decide +kernel
theorem dX10_countLetIn_32 : decode cX10_countLetIn 32 = .ok (.iload_n 3, 1) := by decide +kernel
theorem dX10_countLetIn_33 : decode cX10_countLetIn 33 = .ok (.ireturn, 1) := by decide +kernel
set_option maxRecDepth 4000 in
set_option maxHeartbeats 4000000 in
theorem m_X10_countLetIn (l : Launch) (g : qGm) (M : qMem) {sd : sSD} (hs : sRS sd) (hS : xS M sd) {v : Int → Int} (hv : sRR (sd 4 0) (sd 5 0) v) (hH : xH M 0 (sd 4 0) (sd 5 0) v) {c : Int} (hc : 0 ≤ c ∧ c < sd 4 0) {h : Int} (hh : 0 ≤ h ∧ h < sd 5 0) : qOk l g 5 yX10_countLetIn cX10_countLetIn 5 (some .int) [qR g 19 0, qI c, qI h] M (qEv (some (sSum (fun g => qB (sAns sd v c h g ≠ 0)) 48)) M) := by
  refine q_ok (by decide +kernel) (Nat.le_of_ble_eq_true rfl) (fun X C' hn => ?_)
  have C := C'.1
  refine q_iconst C dX10_countLetIn_0 ?_
  refine q_istoren C dX10_countLetIn_1 hn (by decide) rfl ?_
  refine q_iconst C dX10_countLetIn_2 ?_
  refine q_istore C dX10_countLetIn_3 hn (by decide) rfl ?_
  have L5 : ∀ (n5 : Nat) (s : Int) (i : Int), 48 - i < (n5 : Int) → (0 ≤ i) → (i ≤ 48) → (s = sSum (fun g => qB (sAns sd v c h g ≠ 0)) i) → (0 ≤ s ∧ s ≤ i) → qV l g X M 5 [(0, qR g 19 0), (1, qI c), (2, qI h), (3, qI s), (4, qI i)] [] := by
    intro n5
    induction n5 with
    | zero => intro s i hm5 h0 h1 hs2 hb2; exfalso; first | omega | (simp at *; omega)
    | succ n5 ih5 =>
      intro s i hm5 h0 h1 hs2 hb2
      have hai := sAns_in sd v c h i
      refine q_iload C dX10_countLetIn_5 rfl ?_
      refine q_bipush C dX10_countLetIn_7 (by decide) ?_
      refine q_icmp_ge C 32 dX10_countLetIn_9 (by decide) (by first | assumption | omega | exact q_tin _ | exact q_bIn _) (by first | assumption | omega | exact q_tin _ | exact q_bIn _) (fun h9 => ?_) (fun h9 => ?_)
      · refine q_iloadn C dX10_countLetIn_32 rfl ?_
        refine q_iret C' dX10_countLetIn_33 (by first | assumption | omega | exact q_tin _ | exact q_bIn _) ?_
        have : i = 48 := by omega
        subst this
        exact ⟨congrArg some hs2, rfl⟩
      · refine q_aloadn C dX10_countLetIn_12 rfl ?_
        refine q_iloadn C dX10_countLetIn_13 rfl ?_
        refine q_iloadn C dX10_countLetIn_14 rfl ?_
        refine q_iload C dX10_countLetIn_15 rfl ?_
        refine cv_RX10_79 C (by decide) (m_X10_answer l g _ hs hS hv hH hc hh (by omega)) dX10_countLetIn_17 (Nat.le_of_ble_eq_true rfl) (fun r17 => ?_)
        refine q_if_eq C 26 dX10_countLetIn_20 (by decide) (by first | assumption | omega | exact q_tin _ | exact q_bIn _) (fun h20 => ?_) (fun h20 => ?_)
        · refine q_iinc C dX10_countLetIn_26 rfl hn (by decide) rfl ?_
          refine q_goto C (tgt := 5) dX10_countLetIn_29 (by decide) ?_
          exact q_ls (by exact ⟨rfl, rfl, rfl, rfl, rfl, trivial⟩) (ih5 _ _ (by omega) (by omega) (by omega) (by rw [sSum_s _ (by omega)]; first | (rw [q_bT (by omega)]; omega) | (rw [q_bF (by omega)]; omega)) (by omega))
        · refine q_iinc C dX10_countLetIn_23 rfl hn (by decide) rfl ?_
          refine q_iinc C dX10_countLetIn_26 rfl hn (by decide) rfl ?_
          refine q_goto C (tgt := 5) dX10_countLetIn_29 (by decide) ?_
          exact q_ls (by exact ⟨rfl, rfl, rfl, rfl, rfl, trivial⟩) (ih5 _ _ (by omega) (by omega) (by omega) (by rw [sSum_s _ (by omega)]; first | (rw [q_bT (by omega)]; omega) | (rw [q_bF (by omega)]; omega)) (by omega))
  exact q_ls (by exact ⟨rfl, rfl, rfl, rfl, rfl, trivial⟩) (L5 1000 _ _ (by omega) (by omega) (by omega) (by rfl) (by omega))
theorem dX10_honest_0 : decode cX10_honest 0 = .ok (.iconst 0, 1) := by decide +kernel
theorem dX10_honest_1 : decode cX10_honest 1 = .ok (.istore_n 3, 1) := by decide +kernel
theorem dX10_honest_2 : decode cX10_honest 2 = .ok (.iload_n 3, 1) := by decide +kernel
theorem dX10_honest_3 : decode cX10_honest 3 = .ok (.bipush 48, 2) := by decide +kernel
theorem dX10_honest_5 : decode cX10_honest 5 = .ok (.if_icmp .ge 38, 3) := by decide +kernel
theorem dX10_honest_8 : decode cX10_honest 8 = .ok (.aload_n 0, 1) := by decide +kernel
theorem dX10_honest_9 : decode cX10_honest 9 = .ok (.iload_n 3, 1) := by decide +kernel
theorem dX10_honest_10 : decode cX10_honest 10 = .ok (.aload_n 0, 1) := by decide +kernel
theorem dX10_honest_11 : decode cX10_honest 11 = .ok (.getfield 15, 3) := by decide +kernel
theorem dX10_honest_14 : decode cX10_honest 14 = .ok (.getfield 85, 3) := by decide +kernel
theorem dX10_honest_17 : decode cX10_honest 17 = .ok (.iload_n 1, 1) := by decide +kernel
theorem dX10_honest_18 : decode cX10_honest 18 = .ok (.iaload, 1) := by decide +kernel
theorem dX10_honest_19 : decode cX10_honest 19 = .ok (.invokevirtual 87, 3) := by decide +kernel
theorem dX10_honest_22 : decode cX10_honest 22 = .ok (.ifCond .eq 15, 3) := by decide +kernel
theorem dX10_honest_25 : decode cX10_honest 25 = .ok (.aload_n 0, 1) := by decide +kernel
theorem dX10_honest_26 : decode cX10_honest 26 = .ok (.iload_n 1, 1) := by decide +kernel
theorem dX10_honest_27 : decode cX10_honest 27 = .ok (.iload_n 2, 1) := by decide +kernel
theorem dX10_honest_28 : decode cX10_honest 28 = .ok (.iload_n 3, 1) := by decide +kernel
theorem dX10_honest_29 : decode cX10_honest 29 = .ok (.invokevirtual 79, 3) := by decide +kernel
theorem dX10_honest_32 : decode cX10_honest 32 = .ok (.ifCond .eq 5, 3) := by decide +kernel
theorem dX10_honest_35 : decode cX10_honest 35 = .ok (.iload_n 3, 1) := by decide +kernel
theorem dX10_honest_36 : decode cX10_honest 36 = .ok (.ireturn, 1) := by decide +kernel
theorem dX10_honest_37 : decode cX10_honest 37 = .ok (.iinc 3 1, 3) := by decide +kernel
theorem dX10_honest_40 : decode cX10_honest 40 = .ok (.goto (-38), 3) := by decide +kernel
theorem dX10_honest_43 : decode cX10_honest 43 = .ok (.iconst (-1), 1) := by decide +kernel
theorem dX10_honest_44 : decode cX10_honest 44 = .ok (.ireturn, 1) := by decide +kernel
set_option maxRecDepth 4000 in
set_option maxHeartbeats 4000000 in
theorem m_X10_honest (l : Launch) (g : qGm) (M : qMem) {sd : sSD} (hs : sRS sd) (hS : xS M sd) {v : Int → Int} (hv : sRR (sd 4 0) (sd 5 0) v) (hH : xH M 0 (sd 4 0) (sd 5 0) v) {c : Int} (hc : 0 ≤ c ∧ c < sd 4 0) {h : Int} (hh : 0 ≤ h ∧ h < sd 5 0) : qOk l g 5 yX10_honest cX10_honest 4 (some .int) [qR g 19 0, qI c, qI h] M (qEv (some (sFr (fun g => decide ((sSaid (sd 0 0) g ∧ sMean g = v (8 + c)) ∧ sAns sd v c h g ≠ 0)) 48 0)) M) := by
  refine q_ok (by decide +kernel) (Nat.le_of_ble_eq_true rfl) (fun X C' hn => ?_)
  have C := C'.1
  have hm6 := hs.2.1.2
  have hn6 := hs.2.2.1.2
  have e1 := hH.2.2.2.1 c hc.1 hc.2
  have e2 := hv.2.2.2.1 c hc.1 hc.2
  have e5 := e1.1
  refine q_iconst C dX10_honest_0 ?_
  refine q_istoren C dX10_honest_1 hn (by decide) rfl ?_
  have L2 : ∀ (n2 : Nat) (i : Int), 48 - i < (n2 : Int) → (0 ≤ i) → (i ≤ 48) → (sFr (fun g => decide ((sSaid (sd 0 0) g ∧ sMean g = v (8 + c)) ∧ sAns sd v c h g ≠ 0)) 48 0 = sFr (fun g => decide ((sSaid (sd 0 0) g ∧ sMean g = v (8 + c)) ∧ sAns sd v c h g ≠ 0)) 48 i) → qV l g X M 2 [(0, qR g 19 0), (1, qI c), (2, qI h), (3, qI i)] [] := by
    intro n2
    induction n2 with
    | zero => intro i hm2 h0 h1 hs2; exfalso; first | omega | (simp at *; omega)
    | succ n2 ih2 =>
      intro i hm2 h0 h1 hs2
      have hai := sAns_in sd v c h i
      refine q_iloadn C dX10_honest_2 rfl ?_
      refine q_bipush C dX10_honest_3 (by decide) ?_
      refine q_icmp_ge C 43 dX10_honest_5 (by decide) (by first | assumption | omega | exact q_tin _ | exact q_bIn _) (by first | assumption | omega | exact q_tin _ | exact q_bIn _) (fun h5 => ?_) (fun h5 => ?_)
      · refine q_iconst C dX10_honest_43 ?_
        refine q_iret C' dX10_honest_44 (by first | assumption | omega | exact q_tin _ | exact q_bIn _) ?_
        refine ⟨congrArg some ?_, rfl⟩
        rw [hs2]
        first | (have e9 : i = 48 := (by omega); rw [e9, sFr_e]) | (rw [sFr_s _ (by omega), if_pos (by rw [decide_eq_true_iff]; exact ⟨by rw [← e5]; assumption, by omega⟩)]; done)
      · refine q_aloadn C dX10_honest_8 rfl ?_
        refine q_iloadn C dX10_honest_9 rfl ?_
        refine q_aloadn C dX10_honest_10 rfl ?_
        refine gf_RX10_15 C dX10_honest_11 ?_
        refine gf_RX10_85 C (by first | assumption | decide | omega) dX10_honest_14 ?_
        refine q_iloadn C dX10_honest_17 rfl ?_
        refine q_iald C (by first | assumption | decide | omega) rfl dX10_honest_18 (by omega) (by omega) (by decide) (fun r18 => ?_)
        refine cv_RX10_87 C (by decide) (m_X10_isSaidFor l g _ hs hS (by omega) (by assumption)) dX10_honest_19 (Nat.le_of_ble_eq_true rfl) (fun r19 => ?_)
        refine q_ifeqB C 37 dX10_honest_22 (by decide) (fun h22 => ?_) (fun h22 => ?_)
        · refine q_iinc C dX10_honest_37 rfl hn (by decide) rfl ?_
          refine q_goto C (tgt := 2) dX10_honest_40 (by decide) ?_
          exact q_ls (by exact ⟨rfl, rfl, rfl, rfl, trivial⟩) (ih2 _ (by omega) (by omega) (by omega) (by rw [hs2, sFr_s _ (by omega), if_neg (by rw [decide_eq_true_iff]; rintro ⟨q1, q2⟩; first | exact absurd (show sSaid (sd 0 0) i ∧ sMean i = M 12 0 c from ⟨q1.1, by rw [e5]; exact q1.2⟩) (by assumption) | omega)]))
        · refine q_aloadn C dX10_honest_25 rfl ?_
          refine q_iloadn C dX10_honest_26 rfl ?_
          refine q_iloadn C dX10_honest_27 rfl ?_
          refine q_iloadn C dX10_honest_28 rfl ?_
          refine cv_RX10_79 C (by decide) (m_X10_answer l g _ hs hS hv hH hc hh (by omega)) dX10_honest_29 (Nat.le_of_ble_eq_true rfl) (fun r29 => ?_)
          refine q_if_eq C 37 dX10_honest_32 (by decide) (by first | assumption | omega | exact q_tin _ | exact q_bIn _) (fun h32 => ?_) (fun h32 => ?_)
          · refine q_iinc C dX10_honest_37 rfl hn (by decide) rfl ?_
            refine q_goto C (tgt := 2) dX10_honest_40 (by decide) ?_
            exact q_ls (by exact ⟨rfl, rfl, rfl, rfl, trivial⟩) (ih2 _ (by omega) (by omega) (by omega) (by rw [hs2, sFr_s _ (by omega), if_neg (by rw [decide_eq_true_iff]; rintro ⟨q1, q2⟩; first | exact absurd (show sSaid (sd 0 0) i ∧ sMean i = M 12 0 c from ⟨q1.1, by rw [e5]; exact q1.2⟩) (by assumption) | omega)]))
          · refine q_iloadn C dX10_honest_35 rfl ?_
            refine q_iret C' dX10_honest_36 (by first | assumption | omega | exact q_tin _ | exact q_bIn _) ?_
            refine ⟨congrArg some ?_, rfl⟩
            rw [hs2]
            first | (have e9 : i = 48 := (by omega); rw [e9, sFr_e]) | (rw [sFr_s _ (by omega), if_pos (by rw [decide_eq_true_iff]; exact ⟨by rw [← e5]; assumption, by omega⟩)]; done)
  exact q_ls (by exact ⟨rfl, rfl, rfl, rfl, trivial⟩) (L2 1000 _ (by omega) (by omega) (by omega) (by rfl))
theorem sHr_in2 {sd : sSD} (hs : sRS sd) {c h a s : Int} (hc : 0 ≤ c ∧ c < sd 4 0) (hh : 0 ≤ h ∧ h < sd 5 0) (ha : 0 ≤ a ∧ a < 48) (hst : 0 ≤ s ∧ s ≤ 9) : 0 ≤ sHr (sd 0 0) (sd 1 c) s (fun k => sd 3 (8 * h + k)) a ∧ sHr (sd 0 0) (sd 1 c) s (fun k => sd 3 (8 * h + k)) a ≤ 45 :=
  sHr_in ha.1 ha.2 (hs.2.2.2.1 c hc.1 hc.2) hst (fun k h3 h4 => hs.2.2.2.2.2.1 _ (by omega) (by omega))
theorem dX10_mostHeard_0 : decode cX10_mostHeard 0 = .ok (.iconst 0, 1) := by decide +kernel
theorem dX10_mostHeard_1 : decode cX10_mostHeard 1 = .ok (.istore 4, 2) := by decide +kernel
theorem dX10_mostHeard_3 : decode cX10_mostHeard 3 = .ok (.iconst 0, 1) := by decide +kernel
theorem dX10_mostHeard_4 : decode cX10_mostHeard 4 = .ok (.istore 5, 2) := by decide +kernel
theorem dX10_mostHeard_6 : decode cX10_mostHeard 6 = .ok (.iload 5, 2) := by decide +kernel
theorem dX10_mostHeard_8 : decode cX10_mostHeard 8 = .ok (.bipush 48, 2) := by decide +kernel
theorem dX10_mostHeard_10 : decode cX10_mostHeard 10 = .ok (.if_icmp .ge 25, 3) := by decide +kernel
theorem dX10_mostHeard_13 : decode cX10_mostHeard 13 = .ok (.iload 4, 2) := by decide +kernel
theorem dX10_mostHeard_15 : decode cX10_mostHeard 15 = .ok (.aload_n 0, 1) := by decide +kernel
theorem dX10_mostHeard_16 : decode cX10_mostHeard 16 = .ok (.iload_n 1, 1) := by decide +kernel
theorem dX10_mostHeard_17 : decode cX10_mostHeard 17 = .ok (.iload_n 2, 1) := by decide +kernel
theorem dX10_mostHeard_18 : decode cX10_mostHeard 18 = .ok (.iload 5, 2) := by decide +kernel
theorem dX10_mostHeard_20 : decode cX10_mostHeard 20 = .ok (.iload_n 3, 1) := by decide +kernel
theorem dX10_mostHeard_21 : decode cX10_mostHeard 21 = .ok (.invokevirtual 65, 3) := by decide +kernel
theorem dX10_mostHeard_24 : decode cX10_mostHeard 24 = .ok (.invokestatic 57, 3) := by decide +kernel
theorem dX10_mostHeard_27 : decode cX10_mostHeard 27 = .ok (.istore 4, 2) := by decide +kernel
theorem dX10_mostHeard_29 : decode cX10_mostHeard 29 = .ok (.iinc 5 1, 3) := by decide +kernel
theorem dX10_mostHeard_32 : decode cX10_mostHeard 32 = .ok (.goto (-26), 3) := by decide +kernel
theorem dX10_mostHeard_35 : decode cX10_mostHeard 35 = .ok (.iload 4, 2) := by decide +kernel
theorem dX10_mostHeard_37 : decode cX10_mostHeard 37 = .ok (.ireturn, 1) := by decide +kernel
set_option maxRecDepth 4000 in
set_option maxHeartbeats 4000000 in
theorem m_X10_mostHeard (l : Launch) (g : qGm) (M : qMem) {sd : sSD} (hs : sRS sd) (hS : xS M sd) {c : Int} (hc : 0 ≤ c ∧ c < sd 4 0) {h : Int} (hh : 0 ≤ h ∧ h < sd 5 0) {s : Int} (hst : 0 ≤ s ∧ s ≤ 9) : qOk l g 3 yX10_mostHeard cX10_mostHeard 6 (some .int) [qR g 19 0, qI c, qI h, qI s] M (qEv (some (sMx (fun g => sHr (sd 0 0) (sd 1 c) s (fun k => sd 3 (8 * h + k)) g) 0 48)) M) := by
  refine q_ok (by decide +kernel) (Nat.le_of_ble_eq_true rfl) (fun X C' hn => ?_)
  have C := C'.1
  refine q_iconst C dX10_mostHeard_0 ?_
  refine q_istore C dX10_mostHeard_1 hn (by decide) rfl ?_
  refine q_iconst C dX10_mostHeard_3 ?_
  refine q_istore C dX10_mostHeard_4 hn (by decide) rfl ?_
  have L6 : ∀ (n6 : Nat) (t : Int) (i : Int), 48 - i < (n6 : Int) → (0 ≤ i) → (i ≤ 48) → (t = sMx (fun g => sHr (sd 0 0) (sd 1 c) s (fun k => sd 3 (8 * h + k)) g) 0 i) → (qIn t) → qV l g X M 6 [(0, qR g 19 0), (1, qI c), (2, qI h), (3, qI s), (4, qI t), (5, qI i)] [] := by
    intro n6
    induction n6 with
    | zero => intro t i hm6 h0 h1 hs2 hb2; exfalso; first | omega | (simp at *; omega)
    | succ n6 ih6 =>
      intro t i hm6 h0 h1 hs2 hb2
      refine q_iload C dX10_mostHeard_6 rfl ?_
      refine q_bipush C dX10_mostHeard_8 (by decide) ?_
      refine q_icmp_ge C 35 dX10_mostHeard_10 (by decide) (by first | assumption | omega | exact q_tin _ | exact q_bIn _) (by first | assumption | omega | exact q_tin _ | exact q_bIn _) (fun h10 => ?_) (fun h10 => ?_)
      · refine q_iload C dX10_mostHeard_35 rfl ?_
        refine q_iret C' dX10_mostHeard_37 (by first | assumption | omega | exact q_tin _ | exact q_bIn _) ?_
        have : i = 48 := by omega
        subst this
        exact ⟨congrArg some hs2, rfl⟩
      · refine q_iload C dX10_mostHeard_13 rfl ?_
        refine q_aloadn C dX10_mostHeard_15 rfl ?_
        refine q_iloadn C dX10_mostHeard_16 rfl ?_
        refine q_iloadn C dX10_mostHeard_17 rfl ?_
        refine q_iload C dX10_mostHeard_18 rfl ?_
        refine q_iloadn C dX10_mostHeard_20 rfl ?_
        refine cv_RX10_65 C (by decide) (m_X10_heardStuffed l g _ hs hS hc hh (by omega) hst) dX10_mostHeard_21 (Nat.le_of_ble_eq_true rfl) (fun r21 => ?_)
        refine q_mmax C q_ml_RX10_57 (by first | assumption | omega | exact q_tin _ | exact q_bIn _) (by first | assumption | omega | exact q_tin _ | exact q_bIn _) (by decide) (Nat.le_of_ble_eq_true rfl) dX10_mostHeard_24 (fun r24 => ?_)
        refine q_istore C dX10_mostHeard_27 hn (by decide) rfl ?_
        refine q_iinc C dX10_mostHeard_29 rfl hn (by decide) rfl ?_
        refine q_goto C (tgt := 6) dX10_mostHeard_32 (by decide) ?_
        exact q_ls (by exact ⟨rfl, rfl, rfl, rfl, rfl, rfl, trivial⟩) (ih6 _ _ (by omega) (by omega) (by omega) (by rw [sMx_s _ _ h0, ← hs2]) (by assumption))
  exact q_ls (by exact ⟨rfl, rfl, rfl, rfl, rfl, rfl, trivial⟩) (L6 1000 _ _ (by omega) (by omega) (by omega) (by rfl) (by omega))
theorem dX10_gain_0 : decode cX10_gain 0 = .ok (.aload_n 0, 1) := by decide +kernel
theorem dX10_gain_1 : decode cX10_gain 1 = .ok (.iload_n 1, 1) := by decide +kernel
theorem dX10_gain_2 : decode cX10_gain 2 = .ok (.iload_n 2, 1) := by decide +kernel
theorem dX10_gain_3 : decode cX10_gain 3 = .ok (.aload_n 0, 1) := by decide +kernel
theorem dX10_gain_4 : decode cX10_gain 4 = .ok (.iload_n 1, 1) := by decide +kernel
theorem dX10_gain_5 : decode cX10_gain 5 = .ok (.iload_n 2, 1) := by decide +kernel
theorem dX10_gain_6 : decode cX10_gain 6 = .ok (.invokevirtual 62, 3) := by decide +kernel
theorem dX10_gain_9 : decode cX10_gain 9 = .ok (.invokevirtual 90, 3) := by decide +kernel
theorem dX10_gain_12 : decode cX10_gain 12 = .ok (.aload_n 0, 1) := by decide +kernel
theorem dX10_gain_13 : decode cX10_gain 13 = .ok (.iload_n 1, 1) := by decide +kernel
theorem dX10_gain_14 : decode cX10_gain 14 = .ok (.iload_n 2, 1) := by decide +kernel
theorem dX10_gain_15 : decode cX10_gain 15 = .ok (.iconst 0, 1) := by decide +kernel
theorem dX10_gain_16 : decode cX10_gain 16 = .ok (.invokevirtual 90, 3) := by decide +kernel
theorem dX10_gain_19 : decode cX10_gain 19 = .ok (.isub, 1) := by decide +kernel
theorem dX10_gain_20 : decode cX10_gain 20 = .ok (.ireturn, 1) := by decide +kernel
set_option maxRecDepth 4000 in
set_option maxHeartbeats 4000000 in
theorem m_X10_gain (l : Launch) (g : qGm) (M : qMem) {sd : sSD} (hs : sRS sd) (hS : xS M sd) {v : Int → Int} (hv : sRR (sd 4 0) (sd 5 0) v) (hH : xH M 0 (sd 4 0) (sd 5 0) v) {c : Int} (hc : 0 ≤ c ∧ c < sd 4 0) {h : Int} (hh : 0 ≤ h ∧ h < sd 5 0) : qOk l g 4 yX10_gain cX10_gain 3 (some .int) [qR g 19 0, qI c, qI h] M (qEv (some (sMx (fun g => sHr (sd 0 0) (sd 1 c) (if sHas (v (92 + c)) h then 0 else v (14 + c)) (fun k => sd 3 (8 * h + k)) g) 0 48 - sMx (fun g => sHr (sd 0 0) (sd 1 c) 0 (fun k => sd 3 (8 * h + k)) g) 0 48)) M) := by
  refine q_ok (by decide +kernel) (Nat.le_of_ble_eq_true rfl) (fun X C' hn => ?_)
  have C := C'.1
  have e2 := hv.2.2.2.1 c hc.1 hc.2
  have b1 := sMx_b (f := (fun g => sHr (sd 0 0) (sd 1 c) (if sHas (v (92 + c)) h then 0 else v (14 + c)) (fun k => sd 3 (8 * h + k)) g)) (b := 0) (n := 48) (B := 45) (by omega) (fun k h1 h2 => (sHr_in2 hs hc hh ⟨h1, h2⟩ (by split <;> omega)).2)
  have b2 := sMx_b (f := (fun g => sHr (sd 0 0) (sd 1 c) 0 (fun k => sd 3 (8 * h + k)) g)) (b := 0) (n := 48) (B := 45) (by omega) (fun k h1 h2 => (sHr_in2 hs hc hh ⟨h1, h2⟩ (by omega)).2)
  refine q_aloadn C dX10_gain_0 rfl ?_
  refine q_iloadn C dX10_gain_1 rfl ?_
  refine q_iloadn C dX10_gain_2 rfl ?_
  refine q_aloadn C dX10_gain_3 rfl ?_
  refine q_iloadn C dX10_gain_4 rfl ?_
  refine q_iloadn C dX10_gain_5 rfl ?_
  refine cv_RX10_62 C (by decide) (m_X10_stuffingBelieved l g _ hs hS hv hH hc hh) dX10_gain_6 (Nat.le_of_ble_eq_true rfl) (fun r6 => ?_)
  refine cv_RX10_90 C (by decide) (m_X10_mostHeard l g _ hs hS hc hh (by first | omega | (split <;> omega))) dX10_gain_9 (Nat.le_of_ble_eq_true rfl) (fun r9 => ?_)
  refine q_aloadn C dX10_gain_12 rfl ?_
  refine q_iloadn C dX10_gain_13 rfl ?_
  refine q_iloadn C dX10_gain_14 rfl ?_
  refine q_iconst C dX10_gain_15 ?_
  refine cv_RX10_90 C (by decide) (m_X10_mostHeard l g _ hs hS hc hh (by first | omega | (split <;> omega))) dX10_gain_16 (Nat.le_of_ble_eq_true rfl) (fun r16 => ?_)
  refine q_isub C dX10_gain_19 ?_
  refine q_iret C' dX10_gain_20 (by first | assumption | omega | exact q_tin _ | exact q_bIn _) ?_
  exact ⟨rfl, rfl⟩
theorem dX10_countMeaning_0 : decode cX10_countMeaning 0 = .ok (.iconst 0, 1) := by decide +kernel
theorem dX10_countMeaning_1 : decode cX10_countMeaning 1 = .ok (.istore_n 2, 1) := by decide +kernel
theorem dX10_countMeaning_2 : decode cX10_countMeaning 2 = .ok (.iconst 0, 1) := by decide +kernel
theorem dX10_countMeaning_3 : decode cX10_countMeaning 3 = .ok (.istore_n 3, 1) := by decide +kernel
theorem dX10_countMeaning_4 : decode cX10_countMeaning 4 = .ok (.iload_n 3, 1) := by decide +kernel
theorem dX10_countMeaning_5 : decode cX10_countMeaning 5 = .ok (.bipush 48, 2) := by decide +kernel
theorem dX10_countMeaning_7 : decode cX10_countMeaning 7 = .ok (.if_icmp .ge 21, 3) := by decide +kernel
theorem dX10_countMeaning_10 : decode cX10_countMeaning 10 = .ok (.aload_n 0, 1) := by decide +kernel
theorem dX10_countMeaning_11 : decode cX10_countMeaning 11 = .ok (.iload_n 3, 1) := by decide +kernel
theorem dX10_countMeaning_12 : decode cX10_countMeaning 12 = .ok (.iload_n 1, 1) := by decide +kernel
theorem dX10_countMeaning_13 : decode cX10_countMeaning 13 = .ok (.invokevirtual 87, 3) := by decide +kernel
theorem dX10_countMeaning_16 : decode cX10_countMeaning 16 = .ok (.ifCond .eq 6, 3) := by decide +kernel
theorem dX10_countMeaning_19 : decode cX10_countMeaning 19 = .ok (.iinc 2 1, 3) := by decide +kernel
theorem dX10_countMeaning_22 : decode cX10_countMeaning 22 = .ok (.iinc 3 1, 3) := by decide +kernel
theorem dX10_countMeaning_25 : decode cX10_countMeaning 25 = .ok (.goto (-21), 3) := by decide +kernel
theorem dX10_countMeaning_28 : decode cX10_countMeaning 28 = .ok (.iload_n 2, 1) := by decide +kernel
theorem dX10_countMeaning_29 : decode cX10_countMeaning 29 = .ok (.ireturn, 1) := by decide +kernel
set_option maxRecDepth 4000 in
set_option maxHeartbeats 4000000 in
theorem m_X10_countMeaning (l : Launch) (g : qGm) (M : qMem) {sd : sSD} (hs : sRS sd) (hS : xS M sd) {k : Int} (hk : qIn k) : qOk l g 3 yX10_countMeaning cX10_countMeaning 4 (some .int) [qR g 19 0, qI k] M (qEv (some (sSum (fun g => qB (sSaid (sd 0 0) g ∧ sMean g = k)) 48)) M) := by
  refine q_ok (by decide +kernel) (Nat.le_of_ble_eq_true rfl) (fun X C' hn => ?_)
  have C := C'.1
  refine q_iconst C dX10_countMeaning_0 ?_
  refine q_istoren C dX10_countMeaning_1 hn (by decide) rfl ?_
  refine q_iconst C dX10_countMeaning_2 ?_
  refine q_istoren C dX10_countMeaning_3 hn (by decide) rfl ?_
  have L4 : ∀ (n4 : Nat) (s : Int) (i : Int), 48 - i < (n4 : Int) → (0 ≤ i) → (i ≤ 48) → (s = sSum (fun g => qB (sSaid (sd 0 0) g ∧ sMean g = k)) i) → (0 ≤ s ∧ s ≤ i) → qV l g X M 4 [(0, qR g 19 0), (1, qI k), (2, qI s), (3, qI i)] [] := by
    intro n4
    induction n4 with
    | zero => intro s i hm4 h0 h1 hs2 hb2; exfalso; first | omega | (simp at *; omega)
    | succ n4 ih4 =>
      intro s i hm4 h0 h1 hs2 hb2
      refine q_iloadn C dX10_countMeaning_4 rfl ?_
      refine q_bipush C dX10_countMeaning_5 (by decide) ?_
      refine q_icmp_ge C 28 dX10_countMeaning_7 (by decide) (by first | assumption | omega | exact q_tin _ | exact q_bIn _) (by first | assumption | omega | exact q_tin _ | exact q_bIn _) (fun h7 => ?_) (fun h7 => ?_)
      · refine q_iloadn C dX10_countMeaning_28 rfl ?_
        refine q_iret C' dX10_countMeaning_29 (by first | assumption | omega | exact q_tin _ | exact q_bIn _) ?_
        have : i = 48 := by omega
        subst this
        exact ⟨congrArg some hs2, rfl⟩
      · refine q_aloadn C dX10_countMeaning_10 rfl ?_
        refine q_iloadn C dX10_countMeaning_11 rfl ?_
        refine q_iloadn C dX10_countMeaning_12 rfl ?_
        refine cv_RX10_87 C (by decide) (m_X10_isSaidFor l g _ hs hS (by omega) hk) dX10_countMeaning_13 (Nat.le_of_ble_eq_true rfl) (fun r13 => ?_)
        refine q_ifeqB C 22 dX10_countMeaning_16 (by decide) (fun h16 => ?_) (fun h16 => ?_)
        · refine q_iinc C dX10_countMeaning_22 rfl hn (by decide) rfl ?_
          refine q_goto C (tgt := 4) dX10_countMeaning_25 (by decide) ?_
          exact q_ls (by exact ⟨rfl, rfl, rfl, rfl, trivial⟩) (ih4 _ _ (by omega) (by omega) (by omega) (by rw [sSum_s _ (by omega)]; first | (rw [q_bT h16]; omega) | (rw [q_bF h16]; omega)) (by omega))
        · refine q_iinc C dX10_countMeaning_19 rfl hn (by decide) rfl ?_
          refine q_iinc C dX10_countMeaning_22 rfl hn (by decide) rfl ?_
          refine q_goto C (tgt := 4) dX10_countMeaning_25 (by decide) ?_
          exact q_ls (by exact ⟨rfl, rfl, rfl, rfl, trivial⟩) (ih4 _ _ (by omega) (by omega) (by omega) (by rw [sSum_s _ (by omega)]; first | (rw [q_bT h16]; omega) | (rw [q_bF h16]; omega)) (by omega))
  exact q_ls (by exact ⟨rfl, rfl, rfl, rfl, trivial⟩) (L4 1000 _ _ (by omega) (by omega) (by omega) (by rfl) (by omega))
theorem dX10_leastMeaning_0 : decode cX10_leastMeaning 0 = .ok (.iconst 0, 1) := by decide +kernel
theorem dX10_leastMeaning_1 : decode cX10_leastMeaning 1 = .ok (.istore_n 2, 1) := by decide +kernel
theorem dX10_leastMeaning_2 : decode cX10_leastMeaning 2 = .ok (.iload_n 2, 1) := by decide +kernel
theorem dX10_leastMeaning_3 : decode cX10_leastMeaning 3 = .ok (.bipush 48, 2) := by decide +kernel
theorem dX10_leastMeaning_5 : decode cX10_leastMeaning 5 = .ok (.if_icmp .ge 20, 3) := by decide +kernel
theorem dX10_leastMeaning_8 : decode cX10_leastMeaning 8 = .ok (.aload_n 0, 1) := by decide +kernel
theorem dX10_leastMeaning_9 : decode cX10_leastMeaning 9 = .ok (.iload_n 2, 1) := by decide +kernel
theorem dX10_leastMeaning_10 : decode cX10_leastMeaning 10 = .ok (.iload_n 1, 1) := by decide +kernel
theorem dX10_leastMeaning_11 : decode cX10_leastMeaning 11 = .ok (.invokevirtual 87, 3) := by decide +kernel
theorem dX10_leastMeaning_14 : decode cX10_leastMeaning 14 = .ok (.ifCond .eq 5, 3) := by decide +kernel
theorem dX10_leastMeaning_17 : decode cX10_leastMeaning 17 = .ok (.iload_n 2, 1) := by decide +kernel
theorem dX10_leastMeaning_18 : decode cX10_leastMeaning 18 = .ok (.ireturn, 1) := by decide +kernel
theorem dX10_leastMeaning_19 : decode cX10_leastMeaning 19 = .ok (.iinc 2 1, 3) := by decide +kernel
theorem dX10_leastMeaning_22 : decode cX10_leastMeaning 22 = .ok (.goto (-20), 3) := by decide +kernel
theorem dX10_leastMeaning_25 : decode cX10_leastMeaning 25 = .ok (.iconst (-1), 1) := by decide +kernel
theorem dX10_leastMeaning_26 : decode cX10_leastMeaning 26 = .ok (.ireturn, 1) := by decide +kernel
set_option maxRecDepth 4000 in
set_option maxHeartbeats 4000000 in
theorem m_X10_leastMeaning (l : Launch) (g : qGm) (M : qMem) {sd : sSD} (hs : sRS sd) (hS : xS M sd) {k : Int} (hk : qIn k) : qOk l g 3 yX10_leastMeaning cX10_leastMeaning 3 (some .int) [qR g 19 0, qI k] M (qEv (some (sFr (fun g => decide (sSaid (sd 0 0) g ∧ sMean g = k)) 48 0)) M) := by
  refine q_ok (by decide +kernel) (Nat.le_of_ble_eq_true rfl) (fun X C' hn => ?_)
  have C := C'.1
  refine q_iconst C dX10_leastMeaning_0 ?_
  refine q_istoren C dX10_leastMeaning_1 hn (by decide) rfl ?_
  have L2 : ∀ (n2 : Nat) (i : Int), 48 - i < (n2 : Int) → (0 ≤ i) → (i ≤ 48) → (sFr (fun g => decide (sSaid (sd 0 0) g ∧ sMean g = k)) 48 0 = sFr (fun g => decide (sSaid (sd 0 0) g ∧ sMean g = k)) 48 i) → qV l g X M 2 [(0, qR g 19 0), (1, qI k), (2, qI i)] [] := by
    intro n2
    induction n2 with
    | zero => intro i hm2 h0 h1 hs2; exfalso; first | omega | (simp at *; omega)
    | succ n2 ih2 =>
      intro i hm2 h0 h1 hs2
      refine q_iloadn C dX10_leastMeaning_2 rfl ?_
      refine q_bipush C dX10_leastMeaning_3 (by decide) ?_
      refine q_icmp_ge C 25 dX10_leastMeaning_5 (by decide) (by first | assumption | omega | exact q_tin _ | exact q_bIn _) (by first | assumption | omega | exact q_tin _ | exact q_bIn _) (fun h5 => ?_) (fun h5 => ?_)
      · refine q_iconst C dX10_leastMeaning_25 ?_
        refine q_iret C' dX10_leastMeaning_26 (by first | assumption | omega | exact q_tin _ | exact q_bIn _) ?_
        refine ⟨congrArg some ?_, rfl⟩
        rw [hs2]
        first | (have e9 : i = 48 := (by omega); rw [e9, sFr_e]) | (rw [sFr_s _ (by omega), if_pos (by rw [decide_eq_true_iff]; exact h14)]; done)
      · refine q_aloadn C dX10_leastMeaning_8 rfl ?_
        refine q_iloadn C dX10_leastMeaning_9 rfl ?_
        refine q_iloadn C dX10_leastMeaning_10 rfl ?_
        refine cv_RX10_87 C (by decide) (m_X10_isSaidFor l g _ hs hS (by omega) hk) dX10_leastMeaning_11 (Nat.le_of_ble_eq_true rfl) (fun r11 => ?_)
        refine q_ifeqB C 19 dX10_leastMeaning_14 (by decide) (fun h14 => ?_) (fun h14 => ?_)
        · refine q_iinc C dX10_leastMeaning_19 rfl hn (by decide) rfl ?_
          refine q_goto C (tgt := 2) dX10_leastMeaning_22 (by decide) ?_
          exact q_ls (by exact ⟨rfl, rfl, rfl, trivial⟩) (ih2 _ (by omega) (by omega) (by omega) (by rw [hs2, sFr_s _ (by omega), if_neg (by rw [decide_eq_true_iff]; exact h14)]))
        · refine q_iloadn C dX10_leastMeaning_17 rfl ?_
          refine q_iret C' dX10_leastMeaning_18 (by first | assumption | omega | exact q_tin _ | exact q_bIn _) ?_
          refine ⟨congrArg some ?_, rfl⟩
          rw [hs2]
          first | (have e9 : i = 48 := (by omega); rw [e9, sFr_e]) | (rw [sFr_s _ (by omega), if_pos (by rw [decide_eq_true_iff]; exact h14)]; done)
  exact q_ls (by exact ⟨rfl, rfl, rfl, trivial⟩) (L2 1000 _ (by omega) (by omega) (by omega) (by rfl))
def sOpen (sd : sSD) (v : Int → Int) (c a : Int) : Int := sOr (fun h => if sAns sd v c h a ≠ 0 then qShl 1 h else 0) (sd 5 0)
theorem q_orIn64 {x h : Int} (h0 : 0 ≤ x) (h1 : x < 64) (h2 : 0 ≤ h) (h3 : h < 6) : 0 ≤ qOr x (qShl 1 h) ∧ qOr x (qShl 1 h) < 64 := q_addIn h0 h1 h2 h3
theorem sOr_in64 {f : Int → Int} {n : Int} (hn : n ≤ 6) (h : ∀ k, 0 ≤ k → k < n → f k = 0 ∨ f k = qShl 1 k) : 0 ≤ sOr f n ∧ sOr f n < 64 := by
  unfold sOr
  have : ∀ m : Nat, (m : Int) ≤ n ∨ m = 0 → 0 ≤ sOrN f m ∧ sOrN f m < 64 := by
    intro m
    induction m with
    | zero => intro _; simp [sOrN]
    | succ m ih =>
      intro hm
      have h1 := ih (by omega)
      rw [sOrN]
      rcases h m (by omega) (by omega) with h2 | h2
      · rw [h2, q_or0 (by omega)]; exact h1
      · rw [h2]; exact q_orIn64 h1.1 h1.2 (by omega) (by omega)
  exact this _ (by omega)
theorem sOpen_in {sd : sSD} (hs : sRS sd) (v : Int → Int) (c a : Int) : 0 ≤ sOpen sd v c a ∧ sOpen sd v c a < 64 := sOr_in64 hs.2.2.1.2 (fun k _ _ => by by_cases hk : sAns sd v c k a ≠ 0 <;> simp [hk])
theorem dX10_openHouses_0 : decode cX10_openHouses 0 = .ok (.iconst 0, 1) := by decide +kernel
theorem dX10_openHouses_1 : decode cX10_openHouses 1 = .ok (.istore_n 3, 1) := by decide +kernel
theorem dX10_openHouses_2 : decode cX10_openHouses 2 = .ok (.iconst 0, 1) := by decide +kernel
theorem dX10_openHouses_3 : decode cX10_openHouses 3 = .ok (.istore 4, 2) := by decide +kernel
theorem dX10_openHouses_5 : decode cX10_openHouses 5 = .ok (.iload 4, 2) := by decide +kernel
theorem dX10_openHouses_7 : decode cX10_openHouses 7 = .ok (.aload_n 0, 1) := by decide +kernel
theorem dX10_openHouses_8 : decode cX10_openHouses 8 = .ok (.getfield 9, 3) := by decide +kernel
theorem dX10_openHouses_11 : decode cX10_openHouses 11 = .ok (.getfield 25, 3) := by decide +kernel
theorem dX10_openHouses_14 : decode cX10_openHouses 14 = .ok (.if_icmp .ge 27, 3) := by decide +kernel
theorem dX10_openHouses_17 : decode cX10_openHouses 17 = .ok (.aload_n 0, 1) := by decide +kernel
theorem dX10_openHouses_18 : decode cX10_openHouses 18 = .ok (.iload_n 1, 1) := by decide +kernel
theorem dX10_openHouses_19 : decode cX10_openHouses 19 = .ok (.iload 4, 2) := by decide +kernel
theorem dX10_openHouses_21 : decode cX10_openHouses 21 = .ok (.iload_n 2, 1) := by decide +kernel
theorem dX10_openHouses_22 : decode cX10_openHouses 22 = .ok (.invokevirtual 79, 3) := by decide +kernel
theorem dX10_openHouses_25 : decode cX10_openHouses 25 = .ok (.ifCond .eq 10, 3) := by decide +kernel
theorem dX10_openHouses_28 : decode cX10_openHouses 28 = .ok (.iload_n 3, 1) := by decide +kernel
theorem dX10_openHouses_29 : decode cX10_openHouses 29 = .ok (.iconst 1, 1) := by decide +kernel
theorem dX10_openHouses_30 : decode cX10_openHouses 30 = .ok (.iload 4, 2) := by decide +kernel
theorem dX10_openHouses_32 : decode cX10_openHouses 32 = .ok (.ishl, 1) := by decide +kernel
theorem dX10_openHouses_33 : decode cX10_openHouses 33 = .ok (.ior, 1) := by decide +kernel
theorem dX10_openHouses_34 : decode cX10_openHouses 34 = .ok (.istore_n 3, 1) := by decide +kernel
theorem dX10_openHouses_35 : decode cX10_openHouses 35 = .ok (.iinc 4 1, 3) := by decide +kernel
theorem dX10_openHouses_38 : decode cX10_openHouses 38 = .ok (.goto (-33), 3) := by decide +kernel
theorem dX10_openHouses_41 : decode cX10_openHouses 41 = .ok (.iload_n 3, 1) := by decide +kernel
theorem dX10_openHouses_42 : decode cX10_openHouses 42 = .ok (.ireturn, 1) := by decide +kernel
set_option maxRecDepth 4000 in
set_option maxHeartbeats 4000000 in
theorem m_X10_openHouses (l : Launch) (g : qGm) (M : qMem) {sd : sSD} (hs : sRS sd) (hS : xS M sd) {v : Int → Int} (hv : sRR (sd 4 0) (sd 5 0) v) (hH : xH M 0 (sd 4 0) (sd 5 0) v) {c : Int} (hc : 0 ≤ c ∧ c < sd 4 0) {a : Int} (ha : 0 ≤ a ∧ a < 48) : qOk l g 5 yX10_openHouses cX10_openHouses 5 (some .int) [qR g 19 0, qI c, qI a] M (qEv (some (sOpen sd v c a)) M) := by
  refine q_ok (by decide +kernel) (Nat.le_of_ble_eq_true rfl) (fun X C' hn => ?_)
  have C := C'.1
  have hm6 := hs.2.1.2
  have hn6 := hs.2.2.1.2
  have hsn := hS.2.2.1
  refine q_iconst C dX10_openHouses_0 ?_
  refine q_istoren C dX10_openHouses_1 hn (by decide) rfl ?_
  refine q_iconst C dX10_openHouses_2 ?_
  refine q_istore C dX10_openHouses_3 hn (by decide) rfl ?_
  have L5 : ∀ (n5 : Nat) (s : Int) (i : Int), sd 5 0 - i < (n5 : Int) → (0 ≤ i) → (i ≤ sd 5 0) → (s = sOr (fun h => if sAns sd v c h a ≠ 0 then qShl 1 h else 0) i) → qV l g X M 5 [(0, qR g 19 0), (1, qI c), (2, qI a), (3, qI s), (4, qI i)] [] := by
    intro n5
    induction n5 with
    | zero => intro s i hm5 h0 h1 hs2; exfalso; first | omega | (simp at *; omega)
    | succ n5 ih5 =>
      intro s i hm5 h0 h1 hs2
      have hq : qIn s := by rw [hs2]; exact sOr_in _ _
      have hai := sAns_in sd v c i a
      refine q_iload C dX10_openHouses_5 rfl ?_
      refine q_aloadn C dX10_openHouses_7 rfl ?_
      refine gf_RX10_9 C dX10_openHouses_8 ?_
      refine gf_RX10_25 C (by first | assumption | decide | omega) dX10_openHouses_11 (fun r11 => ?_)
      refine q_icmp_ge C 41 dX10_openHouses_14 (by decide) (by first | assumption | omega | exact q_tin _ | exact q_bIn _) (by first | assumption | omega | exact q_tin _ | exact q_bIn _) (fun h14 => ?_) (fun h14 => ?_)
      · refine q_iloadn C dX10_openHouses_41 rfl ?_
        refine q_iret C' dX10_openHouses_42 (by first | assumption | omega | exact q_tin _ | exact q_bIn _) ?_
        have : i = sd 5 0 := by omega
        subst this
        exact ⟨congrArg some hs2, rfl⟩
      · refine q_aloadn C dX10_openHouses_17 rfl ?_
        refine q_iloadn C dX10_openHouses_18 rfl ?_
        refine q_iload C dX10_openHouses_19 rfl ?_
        refine q_iloadn C dX10_openHouses_21 rfl ?_
        refine cv_RX10_79 C (by decide) (m_X10_answer l g _ hs hS hv hH hc (by omega) ha) dX10_openHouses_22 (Nat.le_of_ble_eq_true rfl) (fun r22 => ?_)
        refine q_if_eq C 35 dX10_openHouses_25 (by decide) (by first | assumption | omega | exact q_tin _ | exact q_bIn _) (fun h25 => ?_) (fun h25 => ?_)
        · refine q_iinc C dX10_openHouses_35 rfl hn (by decide) rfl ?_
          refine q_goto C (tgt := 5) dX10_openHouses_38 (by decide) ?_
          exact q_ls (by exact ⟨rfl, rfl, rfl, rfl, rfl, trivial⟩) (ih5 _ _ (by omega) (by omega) (by omega) (by rw [sOr_s _ h0]; first | (rw [if_pos (by omega), hs2]; done) | (rw [if_neg (by omega), ← hs2, q_or0 hq])))
        · refine q_iloadn C dX10_openHouses_28 rfl ?_
          refine q_iconst C dX10_openHouses_29 ?_
          refine q_iload C dX10_openHouses_30 rfl ?_
          refine q_ishl C dX10_openHouses_32 ?_
          refine q_ior C dX10_openHouses_33 ?_
          refine q_istoren C dX10_openHouses_34 hn (by decide) rfl ?_
          refine q_iinc C dX10_openHouses_35 rfl hn (by decide) rfl ?_
          refine q_goto C (tgt := 5) dX10_openHouses_38 (by decide) ?_
          exact q_ls (by exact ⟨rfl, rfl, rfl, rfl, rfl, trivial⟩) (ih5 _ _ (by omega) (by omega) (by omega) (by rw [sOr_s _ h0]; first | (rw [if_pos (by omega), hs2]; done) | (rw [if_neg (by omega), ← hs2, q_or0 hq])))
  exact q_ls (by exact ⟨rfl, rfl, rfl, rfl, rfl, trivial⟩) (L5 1000 _ _ (by omega) (by omega) (by exact hs.2.2.1.1) (by rfl))
theorem dX10_widestSign_0 : decode cX10_widestSign 0 = .ok (.iconst 0, 1) := by decide +kernel
theorem dX10_widestSign_1 : decode cX10_widestSign 1 = .ok (.istore_n 2, 1) := by decide +kernel
theorem dX10_widestSign_2 : decode cX10_widestSign 2 = .ok (.iconst 0, 1) := by decide +kernel
theorem dX10_widestSign_3 : decode cX10_widestSign 3 = .ok (.istore_n 3, 1) := by decide +kernel
theorem dX10_widestSign_4 : decode cX10_widestSign 4 = .ok (.iconst 0, 1) := by decide +kernel
theorem dX10_widestSign_5 : decode cX10_widestSign 5 = .ok (.istore 4, 2) := by decide +kernel
theorem dX10_widestSign_7 : decode cX10_widestSign 7 = .ok (.iload 4, 2) := by decide +kernel
theorem dX10_widestSign_9 : decode cX10_widestSign 9 = .ok (.bipush 48, 2) := by decide +kernel
theorem dX10_widestSign_11 : decode cX10_widestSign 11 = .ok (.if_icmp .ge 33, 3) := by decide +kernel
theorem dX10_widestSign_14 : decode cX10_widestSign 14 = .ok (.aload_n 0, 1) := by decide +kernel
theorem dX10_widestSign_15 : decode cX10_widestSign 15 = .ok (.iload_n 1, 1) := by decide +kernel
theorem dX10_widestSign_16 : decode cX10_widestSign 16 = .ok (.iload 4, 2) := by decide +kernel
theorem dX10_widestSign_18 : decode cX10_widestSign 18 = .ok (.invokevirtual 93, 3) := by decide +kernel
theorem dX10_widestSign_21 : decode cX10_widestSign 21 = .ok (.invokestatic 96, 3) := by decide +kernel
theorem dX10_widestSign_24 : decode cX10_widestSign 24 = .ok (.istore 5, 2) := by decide +kernel
theorem dX10_widestSign_26 : decode cX10_widestSign 26 = .ok (.iload 5, 2) := by decide +kernel
theorem dX10_widestSign_28 : decode cX10_widestSign 28 = .ok (.iload_n 3, 1) := by decide +kernel
theorem dX10_widestSign_29 : decode cX10_widestSign 29 = .ok (.if_icmp .le 9, 3) := by decide +kernel
theorem dX10_widestSign_32 : decode cX10_widestSign 32 = .ok (.iload 5, 2) := by decide +kernel
theorem dX10_widestSign_34 : decode cX10_widestSign 34 = .ok (.istore_n 3, 1) := by decide +kernel
theorem dX10_widestSign_35 : decode cX10_widestSign 35 = .ok (.iload 4, 2) := by decide +kernel
theorem dX10_widestSign_37 : decode cX10_widestSign 37 = .ok (.istore_n 2, 1) := by decide +kernel
theorem dX10_widestSign_38 : decode cX10_widestSign 38 = .ok (.iinc 4 1, 3) := by decide +kernel
theorem dX10_widestSign_41 : decode cX10_widestSign 41 = .ok (.goto (-34), 3) := by decide +kernel
theorem dX10_widestSign_44 : decode cX10_widestSign 44 = .ok (.iload_n 2, 1) := by decide +kernel
theorem dX10_widestSign_45 : decode cX10_widestSign 45 = .ok (.ireturn, 1) := by decide +kernel
set_option maxRecDepth 4000 in
set_option maxHeartbeats 4000000 in
theorem m_X10_widestSign (l : Launch) (g : qGm) (M : qMem) {sd : sSD} (hs : sRS sd) (hS : xS M sd) {v : Int → Int} (hv : sRR (sd 4 0) (sd 5 0) v) (hH : xH M 0 (sd 4 0) (sd 5 0) v) {c : Int} (hc : 0 ≤ c ∧ c < sd 4 0) : qOk l g 6 yX10_widestSign cX10_widestSign 6 (some .int) [qR g 19 0, qI c] M (qEv (some (sAm (fun g => sPop (sOpen sd v c g)) 0 0 48).1) M) := by
  refine q_ok (by decide +kernel) (Nat.le_of_ble_eq_true rfl) (fun X C' hn => ?_)
  have C := C'.1
  refine q_iconst C dX10_widestSign_0 ?_
  refine q_istoren C dX10_widestSign_1 hn (by decide) rfl ?_
  refine q_iconst C dX10_widestSign_2 ?_
  refine q_istoren C dX10_widestSign_3 hn (by decide) rfl ?_
  refine q_iconst C dX10_widestSign_4 ?_
  refine q_istore C dX10_widestSign_5 hn (by decide) rfl ?_
  have L7 : ∀ (n7 : Nat) (s : Int) (t : Int) (i : Int), 48 - i < (n7 : Int) → (0 ≤ i) → (i ≤ 48) → ((s, t) = sAm (fun g => sPop (sOpen sd v c g)) 0 0 i) → (0 ≤ s ∧ s ≤ i) → (qIn t) → qV l g X M 7 [(0, qR g 19 0), (1, qI c), (2, qI s), (3, qI t), (4, qI i)] [] := by
    intro n7
    induction n7 with
    | zero => intro s t i hm7 h0 h1 hs2 hb2 hb3; exfalso; first | omega | (simp at *; omega)
    | succ n7 ih7 =>
      intro s t i hm7 h0 h1 hs2 hb2 hb3
      refine q_iload C dX10_widestSign_7 rfl ?_
      refine q_bipush C dX10_widestSign_9 (by decide) ?_
      refine q_icmp_ge C 44 dX10_widestSign_11 (by decide) (by first | assumption | omega | exact q_tin _ | exact q_bIn _) (by first | assumption | omega | exact q_tin _ | exact q_bIn _) (fun h11 => ?_) (fun h11 => ?_)
      · refine q_iloadn C dX10_widestSign_44 rfl ?_
        refine q_iret C' dX10_widestSign_45 (by first | assumption | omega | exact q_tin _ | exact q_bIn _) ?_
        have : i = 48 := by omega
        subst this
        rw [← hs2]
        exact ⟨rfl, rfl⟩
      · refine q_aloadn C dX10_widestSign_14 rfl ?_
        refine q_iloadn C dX10_widestSign_15 rfl ?_
        refine q_iload C dX10_widestSign_16 rfl ?_
        refine cv_RX10_93 C (by decide) (m_X10_openHouses l g _ hs hS hv hH hc (by omega)) dX10_widestSign_18 (Nat.le_of_ble_eq_true rfl) (fun r18 => ?_)
        refine cv_RX10_96 C (by decide) (m_J6_bitCount_0f7a4 l g _ (sOpen_in hs v c i).1 (sOpen_in hs v c i).2) dX10_widestSign_21 (Nat.le_of_ble_eq_true rfl) (fun r21 => ?_)
        refine q_istore C dX10_widestSign_24 hn (by decide) rfl ?_
        refine q_iload C dX10_widestSign_26 rfl ?_
        refine q_iloadn C dX10_widestSign_28 rfl ?_
        refine q_icmp_le C 38 dX10_widestSign_29 (by decide) (by first | assumption | omega | exact q_tin _ | exact q_bIn _) (by first | assumption | omega | exact q_tin _ | exact q_bIn _) (fun h29 => ?_) (fun h29 => ?_)
        · refine q_iinc C dX10_widestSign_38 rfl hn (by decide) rfl ?_
          refine q_goto C (tgt := 7) dX10_widestSign_41 (by decide) ?_
          exact q_ls (by exact ⟨rfl, rfl, rfl, rfl, rfl, trivial⟩) (ih7 _ _ _ (by omega) (by omega) (by omega) (by rw [sAm_s _ _ _ (by omega), ← hs2]; first | (rw [if_pos (by show t < sPop _; omega)]) | (rw [if_neg (by show ¬ t < sPop _; omega)])) (by omega) (by first | assumption | omega))
        · refine q_iload C dX10_widestSign_32 rfl ?_
          refine q_istoren C dX10_widestSign_34 hn (by decide) rfl ?_
          refine q_iload C dX10_widestSign_35 rfl ?_
          refine q_istoren C dX10_widestSign_37 hn (by decide) rfl ?_
          refine q_iinc C dX10_widestSign_38 rfl hn (by decide) rfl ?_
          refine q_goto C (tgt := 7) dX10_widestSign_41 (by decide) ?_
          exact q_ls (by exact ⟨rfl, rfl, rfl, rfl, rfl, trivial⟩) (ih7 _ _ _ (by omega) (by omega) (by omega) (by rw [sAm_s _ _ _ (by omega), ← hs2]; first | (rw [if_pos (by show t < sPop _; omega)]) | (rw [if_neg (by show ¬ t < sPop _; omega)])) (by omega) (by first | assumption | omega))
  exact q_ls (by exact ⟨rfl, rfl, rfl, rfl, rfl, trivial⟩) (L7 1000 _ _ _ (by omega) (by omega) (by omega) (by rfl) (by omega) (by first | assumption | omega))
def sSuit (sd : sSD) (v : Int → Int) (c h : Int) : Int := sMx (fun g => if sSaid (sd 0 0) g ∧ sMean g = v (8 + c) then sHeard sd v c h g else -1) (-1) 48
theorem sSuit_in {sd : sSD} {v : Int → Int} (hs : sRS sd) (hv : sRR (sd 4 0) (sd 5 0) v) {c h : Int} (hc : 0 ≤ c ∧ c < sd 4 0) (hh : 0 ≤ h ∧ h < sd 5 0) : -1 ≤ sSuit sd v c h ∧ sSuit sd v c h ≤ 45 :=
  sMx_b (by omega) (fun k h1 h2 => by split; exact (sHeard_in hs hv hc hh ⟨h1, h2⟩).2; omega)
theorem dX10_suit_0 : decode cX10_suit 0 = .ok (.iconst (-1), 1) := by decide +kernel
theorem dX10_suit_1 : decode cX10_suit 1 = .ok (.istore_n 3, 1) := by decide +kernel
theorem dX10_suit_2 : decode cX10_suit 2 = .ok (.aload_n 0, 1) := by decide +kernel
theorem dX10_suit_3 : decode cX10_suit 3 = .ok (.iload_n 1, 1) := by decide +kernel
theorem dX10_suit_4 : decode cX10_suit 4 = .ok (.iload_n 2, 1) := by decide +kernel
theorem dX10_suit_5 : decode cX10_suit 5 = .ok (.invokevirtual 62, 3) := by decide +kernel
theorem dX10_suit_8 : decode cX10_suit 8 = .ok (.istore 4, 2) := by decide +kernel
theorem dX10_suit_10 : decode cX10_suit 10 = .ok (.iconst 0, 1) := by decide +kernel
theorem dX10_suit_11 : decode cX10_suit 11 = .ok (.istore 5, 2) := by decide +kernel
theorem dX10_suit_13 : decode cX10_suit 13 = .ok (.iload 5, 2) := by decide +kernel
theorem dX10_suit_15 : decode cX10_suit 15 = .ok (.bipush 48, 2) := by decide +kernel
theorem dX10_suit_17 : decode cX10_suit 17 = .ok (.if_icmp .ge 42, 3) := by decide +kernel
theorem dX10_suit_20 : decode cX10_suit 20 = .ok (.aload_n 0, 1) := by decide +kernel
theorem dX10_suit_21 : decode cX10_suit 21 = .ok (.iload 5, 2) := by decide +kernel
theorem dX10_suit_23 : decode cX10_suit 23 = .ok (.aload_n 0, 1) := by decide +kernel
theorem dX10_suit_24 : decode cX10_suit 24 = .ok (.getfield 15, 3) := by decide +kernel
theorem dX10_suit_27 : decode cX10_suit 27 = .ok (.getfield 85, 3) := by decide +kernel
theorem dX10_suit_30 : decode cX10_suit 30 = .ok (.iload_n 1, 1) := by decide +kernel
theorem dX10_suit_31 : decode cX10_suit 31 = .ok (.iaload, 1) := by decide +kernel
theorem dX10_suit_32 : decode cX10_suit 32 = .ok (.invokevirtual 87, 3) := by decide +kernel
theorem dX10_suit_35 : decode cX10_suit 35 = .ok (.ifCond .eq 18, 3) := by decide +kernel
theorem dX10_suit_38 : decode cX10_suit 38 = .ok (.iload_n 3, 1) := by decide +kernel
theorem dX10_suit_39 : decode cX10_suit 39 = .ok (.aload_n 0, 1) := by decide +kernel
theorem dX10_suit_40 : decode cX10_suit 40 = .ok (.iload_n 1, 1) := by decide +kernel
theorem dX10_suit_41 : decode cX10_suit 41 = .ok (.iload_n 2, 1) := by decide +kernel
theorem dX10_suit_42 : decode cX10_suit 42 = .ok (.iload 5, 2) := by decide +kernel
theorem dX10_suit_44 : decode cX10_suit 44 = .ok (.iload 4, 2) := by decide +kernel
theorem dX10_suit_46 : decode cX10_suit 46 = .ok (.invokevirtual 65, 3) := by decide +kernel
theorem dX10_suit_49 : decode cX10_suit 49 = .ok (.invokestatic 57, 3) := by decide +kernel
theorem dX10_suit_52 : decode cX10_suit 52 = .ok (.istore_n 3, 1) := by decide +kernel
theorem dX10_suit_53 : decode cX10_suit 53 = .ok (.iinc 5 1, 3) := by decide +kernel
theorem dX10_suit_56 : decode cX10_suit 56 = .ok (.goto (-43), 3) := by decide +kernel
theorem dX10_suit_59 : decode cX10_suit 59 = .ok (.iload_n 3, 1) := by decide +kernel
theorem dX10_suit_60 : decode cX10_suit 60 = .ok (.ireturn, 1) := by decide +kernel
set_option maxRecDepth 4000 in
set_option maxHeartbeats 4000000 in
theorem m_X10_suit (l : Launch) (g : qGm) (M : qMem) {sd : sSD} (hs : sRS sd) (hS : xS M sd) {v : Int → Int} (hv : sRR (sd 4 0) (sd 5 0) v) (hH : xH M 0 (sd 4 0) (sd 5 0) v) {c : Int} (hc : 0 ≤ c ∧ c < sd 4 0) {h : Int} (hh : 0 ≤ h ∧ h < sd 5 0) : qOk l g 3 yX10_suit cX10_suit 6 (some .int) [qR g 19 0, qI c, qI h] M (qEv (some (sSuit sd v c h)) M) := by
  refine q_ok (by decide +kernel) (Nat.le_of_ble_eq_true rfl) (fun X C' hn => ?_)
  have C := C'.1
  have hm6 := hs.2.1.2
  have hn6 := hs.2.2.1.2
  have e1 := hH.2.2.2.1 c hc.1 hc.2
  have e2 := hv.2.2.2.1 c hc.1 hc.2
  have e5 := e1.1
  refine q_iconst C dX10_suit_0 ?_
  refine q_istoren C dX10_suit_1 hn (by decide) rfl ?_
  refine q_aloadn C dX10_suit_2 rfl ?_
  refine q_iloadn C dX10_suit_3 rfl ?_
  refine q_iloadn C dX10_suit_4 rfl ?_
  refine cv_RX10_62 C (by decide) (m_X10_stuffingBelieved l g _ hs hS hv hH hc hh) dX10_suit_5 (Nat.le_of_ble_eq_true rfl) (fun r5 => ?_)
  refine q_istore C dX10_suit_8 hn (by decide) rfl ?_
  refine q_iconst C dX10_suit_10 ?_
  refine q_istore C dX10_suit_11 hn (by decide) rfl ?_
  have L13 : ∀ (n13 : Nat) (t : Int) (i : Int), 48 - i < (n13 : Int) → (0 ≤ i) → (i ≤ 48) → (t = sMx (fun g => if sSaid (sd 0 0) g ∧ sMean g = v (8 + c) then sHeard sd v c h g else -1) (-1) i) → (qIn t) → (-1 ≤ t) → qV l g X M 13 [(0, qR g 19 0), (1, qI c), (2, qI h), (3, qI t), (4, qI (if sHas (v (92 + c)) h then 0 else v (14 + c))), (5, qI i)] [] := by
    intro n13
    induction n13 with
    | zero => intro t i hm13 h0 h1 hs2 hb2 hb3; exfalso; first | omega | (simp at *; omega)
    | succ n13 ih13 =>
      intro t i hm13 h0 h1 hs2 hb2 hb3
      refine q_iload C dX10_suit_13 rfl ?_
      refine q_bipush C dX10_suit_15 (by decide) ?_
      refine q_icmp_ge C 59 dX10_suit_17 (by decide) (by first | assumption | omega | exact q_tin _ | exact q_bIn _) (by first | assumption | omega | exact q_tin _ | exact q_bIn _) (fun h17 => ?_) (fun h17 => ?_)
      · refine q_iloadn C dX10_suit_59 rfl ?_
        refine q_iret C' dX10_suit_60 (by first | assumption | omega | exact q_tin _ | exact q_bIn _) ?_
        have : i = 48 := by omega
        subst this
        exact ⟨congrArg some hs2, rfl⟩
      · refine q_aloadn C dX10_suit_20 rfl ?_
        refine q_iload C dX10_suit_21 rfl ?_
        refine q_aloadn C dX10_suit_23 rfl ?_
        refine gf_RX10_15 C dX10_suit_24 ?_
        refine gf_RX10_85 C (by first | assumption | decide | omega) dX10_suit_27 ?_
        refine q_iloadn C dX10_suit_30 rfl ?_
        refine q_iald C (by first | assumption | decide | omega) rfl dX10_suit_31 (by omega) (by omega) (by decide) (fun r31 => ?_)
        refine cv_RX10_87 C (by decide) (m_X10_isSaidFor l g _ hs hS (by omega) (by assumption)) dX10_suit_32 (Nat.le_of_ble_eq_true rfl) (fun r32 => ?_)
        refine q_ifeqB C 53 dX10_suit_35 (by decide) (fun h35 => ?_) (fun h35 => ?_)
        · refine q_iinc C dX10_suit_53 rfl hn (by decide) rfl ?_
          refine q_goto C (tgt := 13) dX10_suit_56 (by decide) ?_
          exact q_ls (by exact ⟨rfl, rfl, rfl, rfl, rfl, rfl, trivial⟩) (ih13 _ _ (by omega) (by omega) (by omega) (by rw [sMx_s _ _ h0, ← hs2]; first | (rw [if_pos (show sSaid (sd 0 0) i ∧ sMean i = v (8 + c) by rw [← e5]; assumption)]; rfl) | (rw [if_neg (show ¬ (sSaid (sd 0 0) i ∧ sMean i = v (8 + c)) by rw [← e5]; assumption)]; unfold sMax; split <;> omega)) (by assumption) (by first | assumption | exact Int.le_trans hb3 (sMax_l t _).1))
        · refine q_iloadn C dX10_suit_38 rfl ?_
          refine q_aloadn C dX10_suit_39 rfl ?_
          refine q_iloadn C dX10_suit_40 rfl ?_
          refine q_iloadn C dX10_suit_41 rfl ?_
          refine q_iload C dX10_suit_42 rfl ?_
          refine q_iload C dX10_suit_44 rfl ?_
          refine cv_RX10_65 C (by decide) (m_X10_heardStuffed l g _ hs hS hc hh (by omega) (by split <;> omega)) dX10_suit_46 (Nat.le_of_ble_eq_true rfl) (fun r46 => ?_)
          refine q_mmax C q_ml_RX10_57 (by first | assumption | omega | exact q_tin _ | exact q_bIn _) (by first | assumption | omega | exact q_tin _ | exact q_bIn _) (by decide) (Nat.le_of_ble_eq_true rfl) dX10_suit_49 (fun r49 => ?_)
          refine q_istoren C dX10_suit_52 hn (by decide) rfl ?_
          refine q_iinc C dX10_suit_53 rfl hn (by decide) rfl ?_
          refine q_goto C (tgt := 13) dX10_suit_56 (by decide) ?_
          exact q_ls (by exact ⟨rfl, rfl, rfl, rfl, rfl, rfl, trivial⟩) (ih13 _ _ (by omega) (by omega) (by omega) (by rw [sMx_s _ _ h0, ← hs2]; first | (rw [if_pos (show sSaid (sd 0 0) i ∧ sMean i = v (8 + c) by rw [← e5]; assumption)]; rfl) | (rw [if_neg (show ¬ (sSaid (sd 0 0) i ∧ sMean i = v (8 + c)) by rw [← e5]; assumption)]; unfold sMax; split <;> omega)) (by assumption) (by first | assumption | exact Int.le_trans hb3 (sMax_l t _).1))
  exact q_ls (by exact ⟨rfl, rfl, rfl, rfl, rfl, rfl, trivial⟩) (L13 1000 _ _ (by omega) (by omega) (by omega) (by rfl) (by omega) (by omega))
def sParts (g : Int) : Int := sSum (fun k => qB (sPart g k ≠ 0)) 5
theorem sParts_in (g : Int) : 0 ≤ sParts g ∧ sParts g ≤ 5 := by
  have := sSum_b (f := fun k => qB (sPart g k ≠ 0)) (n := 5) (B := 1) (by omega) (fun k _ _ => q_b01' _)
  unfold sParts
  omega
def sPl (sd : sSD) (v : Int → Int) (c h g : Int) : Int := if sAns sd v c h g ≠ 0 then - sParts g else -100
theorem dX10_plainest_0 : decode cX10_plainest 0 = .ok (.iconst (-1), 1) := by decide +kernel
theorem dX10_plainest_1 : decode cX10_plainest 1 = .ok (.istore_n 3, 1) := by decide +kernel
theorem dX10_plainest_2 : decode cX10_plainest 2 = .ok (.iconst 0, 1) := by decide +kernel
theorem dX10_plainest_3 : decode cX10_plainest 3 = .ok (.istore 4, 2) := by decide +kernel
theorem dX10_plainest_5 : decode cX10_plainest 5 = .ok (.iload 4, 2) := by decide +kernel
theorem dX10_plainest_7 : decode cX10_plainest 7 = .ok (.bipush 48, 2) := by decide +kernel
theorem dX10_plainest_9 : decode cX10_plainest 9 = .ok (.if_icmp .ge 40, 3) := by decide +kernel
theorem dX10_plainest_12 : decode cX10_plainest 12 = .ok (.aload_n 0, 1) := by decide +kernel
theorem dX10_plainest_13 : decode cX10_plainest 13 = .ok (.iload_n 1, 1) := by decide +kernel
theorem dX10_plainest_14 : decode cX10_plainest 14 = .ok (.iload_n 2, 1) := by decide +kernel
theorem dX10_plainest_15 : decode cX10_plainest 15 = .ok (.iload 4, 2) := by decide +kernel
theorem dX10_plainest_17 : decode cX10_plainest 17 = .ok (.invokevirtual 79, 3) := by decide +kernel
theorem dX10_plainest_20 : decode cX10_plainest 20 = .ok (.ifCond .eq 23, 3) := by decide +kernel
theorem dX10_plainest_23 : decode cX10_plainest 23 = .ok (.iload_n 3, 1) := by decide +kernel
theorem dX10_plainest_24 : decode cX10_plainest 24 = .ok (.iconst (-1), 1) := by decide +kernel
theorem dX10_plainest_25 : decode cX10_plainest 25 = .ok (.if_icmp .eq 15, 3) := by decide +kernel
theorem dX10_plainest_28 : decode cX10_plainest 28 = .ok (.iload 4, 2) := by decide +kernel
theorem dX10_plainest_30 : decode cX10_plainest 30 = .ok (.invokestatic 82, 3) := by decide +kernel
theorem dX10_plainest_33 : decode cX10_plainest 33 = .ok (.iload_n 3, 1) := by decide +kernel
theorem dX10_plainest_34 : decode cX10_plainest 34 = .ok (.invokestatic 82, 3) := by decide +kernel
theorem dX10_plainest_37 : decode cX10_plainest 37 = .ok (.if_icmp .ge 6, 3) := by decide +kernel
theorem dX10_plainest_40 : decode cX10_plainest 40 = .ok (.iload 4, 2) := by decide +kernel
theorem dX10_plainest_42 : decode cX10_plainest 42 = .ok (.istore_n 3, 1) := by decide +kernel
theorem dX10_plainest_43 : decode cX10_plainest 43 = .ok (.iinc 4 1, 3) := by decide +kernel
theorem dX10_plainest_46 : decode cX10_plainest 46 = .ok (.goto (-41), 3) := by decide +kernel
theorem dX10_plainest_49 : decode cX10_plainest 49 = .ok (.iload_n 3, 1) := by decide +kernel
theorem dX10_plainest_50 : decode cX10_plainest 50 = .ok (.ireturn, 1) := by decide +kernel
set_option maxRecDepth 4000 in
set_option maxHeartbeats 4000000 in
theorem m_X10_plainest (l : Launch) (g : qGm) (M : qMem) {sd : sSD} (hs : sRS sd) (hS : xS M sd) {v : Int → Int} (hv : sRR (sd 4 0) (sd 5 0) v) (hH : xH M 0 (sd 4 0) (sd 5 0) v) {c : Int} (hc : 0 ≤ c ∧ c < sd 4 0) {h : Int} (hh : 0 ≤ h ∧ h < sd 5 0) : qOk l g 5 yX10_plainest cX10_plainest 5 (some .int) [qR g 19 0, qI c, qI h] M (qEv (some (sAm (fun g => sPl sd v c h g) (-1) (-50) 48).1) M) := by
  refine q_ok (by decide +kernel) (Nat.le_of_ble_eq_true rfl) (fun X C' hn => ?_)
  have C := C'.1
  refine q_iconst C dX10_plainest_0 ?_
  refine q_istoren C dX10_plainest_1 hn (by decide) rfl ?_
  refine q_iconst C dX10_plainest_2 ?_
  refine q_istore C dX10_plainest_3 hn (by decide) rfl ?_
  have L5 : ∀ (n5 : Nat) (s : Int) (i : Int), 48 - i < (n5 : Int) → (0 ≤ i) → (i ≤ 48) → (s = (sAm (fun g => sPl sd v c h g) (-1) (-50) i).1) → qV l g X M 5 [(0, qR g 19 0), (1, qI c), (2, qI h), (3, qI s), (4, qI i)] [] := by
    intro n5
    induction n5 with
    | zero => intro s i hm5 h0 h1 hs2; exfalso; first | omega | (simp at *; omega)
    | succ n5 ih5 =>
      intro s i hm5 h0 h1 hs2
      have hai := sAns_in sd v c h i
      have hp1 := sParts_in i
      have hp2 := sParts_in s
      have hb2 := sAm_b (f := (fun g => sPl sd v c h g)) (b := -1) (m := -50) (n := i) h0
      have hb3 : (s = -1 ∧ (sAm (fun g => sPl sd v c h g) (-1) (-50) i).2 = -50) ∨ (0 ≤ s ∧ s < i ∧ (sAm (fun g => sPl sd v c h g) (-1) (-50) i).2 = sPl sd v c h s) := by
        rcases hb2 with h | h
        · left; rw [hs2, h]; exact ⟨rfl, rfl⟩
        · rw [← hs2] at h; exact Or.inr h
      have hb4 : -50 ≤ (sAm (fun g => sPl sd v c h g) (-1) (-50) i).2 := sAm_m
      have hpl : sPl sd v c h s = - sParts s ∨ sPl sd v c h s = -100 := by unfold sPl; split <;> omega
      clear hb2
      refine q_iload C dX10_plainest_5 rfl ?_
      refine q_bipush C dX10_plainest_7 (by decide) ?_
      refine q_icmp_ge C 49 dX10_plainest_9 (by decide) (by first | assumption | omega | exact q_tin _ | exact q_bIn _) (by first | assumption | omega | exact q_tin _ | exact q_bIn _) (fun h9 => ?_) (fun h9 => ?_)
      · refine q_iloadn C dX10_plainest_49 rfl ?_
        refine q_iret C' dX10_plainest_50 (by first | assumption | omega | exact q_tin _ | exact q_bIn _) ?_
        have : i = 48 := by omega
        subst this
        exact ⟨congrArg some hs2, rfl⟩
      · refine q_aloadn C dX10_plainest_12 rfl ?_
        refine q_iloadn C dX10_plainest_13 rfl ?_
        refine q_iloadn C dX10_plainest_14 rfl ?_
        refine q_iload C dX10_plainest_15 rfl ?_
        refine cv_RX10_79 C (by decide) (m_X10_answer l g _ hs hS hv hH hc hh (by omega)) dX10_plainest_17 (Nat.le_of_ble_eq_true rfl) (fun r17 => ?_)
        refine q_if_eq C 43 dX10_plainest_20 (by decide) (by first | assumption | omega | exact q_tin _ | exact q_bIn _) (fun h20 => ?_) (fun h20 => ?_)
        · refine q_iinc C dX10_plainest_43 rfl hn (by decide) rfl ?_
          refine q_goto C (tgt := 5) dX10_plainest_46 (by decide) ?_
          exact q_ls (by exact ⟨rfl, rfl, rfl, rfl, rfl, trivial⟩) (ih5 _ _ (by omega) (by omega) (by omega) (by rw [sAm_s _ _ _ (by omega)]; have hpi : sPl sd v c h i = (if sAns sd v c h i ≠ 0 then - sParts i else -100) := rfl; unfold sParts at *; first | (rw [if_pos (by rw [hpi, if_pos (by omega)]; omega)]; done) | (rw [if_neg (by rw [hpi, if_pos (by omega)]; omega)]; exact hs2) | (rw [if_neg (by rw [hpi, if_neg (by omega)]; omega)]; exact hs2)))
        · refine q_iloadn C dX10_plainest_23 rfl ?_
          refine q_iconst C dX10_plainest_24 ?_
          refine q_icmp_eq C 40 dX10_plainest_25 (by decide) (by first | assumption | omega | exact q_tin _ | exact q_bIn _) (by first | assumption | omega | exact q_tin _ | exact q_bIn _) (fun h25 => ?_) (fun h25 => ?_)
          · refine q_iload C dX10_plainest_40 rfl ?_
            refine q_istoren C dX10_plainest_42 hn (by decide) rfl ?_
            refine q_iinc C dX10_plainest_43 rfl hn (by decide) rfl ?_
            refine q_goto C (tgt := 5) dX10_plainest_46 (by decide) ?_
            exact q_ls (by exact ⟨rfl, rfl, rfl, rfl, rfl, trivial⟩) (ih5 _ _ (by omega) (by omega) (by omega) (by rw [sAm_s _ _ _ (by omega)]; have hpi : sPl sd v c h i = (if sAns sd v c h i ≠ 0 then - sParts i else -100) := rfl; unfold sParts at *; first | (rw [if_pos (by rw [hpi, if_pos (by omega)]; omega)]; done) | (rw [if_neg (by rw [hpi, if_pos (by omega)]; omega)]; exact hs2) | (rw [if_neg (by rw [hpi, if_neg (by omega)]; omega)]; exact hs2)))
          · refine q_iload C dX10_plainest_28 rfl ?_
            refine cv_RX10_82 C (by decide) (m_X1_partsLaid l g _ (by omega)) dX10_plainest_30 (Nat.le_of_ble_eq_true rfl) (fun r30 => ?_)
            refine q_iloadn C dX10_plainest_33 rfl ?_
            refine cv_RX10_82 C (by decide) (m_X1_partsLaid l g _ (by omega)) dX10_plainest_34 (Nat.le_of_ble_eq_true rfl) (fun r34 => ?_)
            refine q_icmp_ge C 43 dX10_plainest_37 (by decide) (by first | assumption | omega | exact q_tin _ | exact q_bIn _) (by first | assumption | omega | exact q_tin _ | exact q_bIn _) (fun h37 => ?_) (fun h37 => ?_)
            · refine q_iinc C dX10_plainest_43 rfl hn (by decide) rfl ?_
              refine q_goto C (tgt := 5) dX10_plainest_46 (by decide) ?_
              exact q_ls (by exact ⟨rfl, rfl, rfl, rfl, rfl, trivial⟩) (ih5 _ _ (by omega) (by omega) (by omega) (by rw [sAm_s _ _ _ (by omega)]; have hpi : sPl sd v c h i = (if sAns sd v c h i ≠ 0 then - sParts i else -100) := rfl; unfold sParts at *; first | (rw [if_pos (by rw [hpi, if_pos (by omega)]; omega)]; done) | (rw [if_neg (by rw [hpi, if_pos (by omega)]; omega)]; exact hs2) | (rw [if_neg (by rw [hpi, if_neg (by omega)]; omega)]; exact hs2)))
            · refine q_iload C dX10_plainest_40 rfl ?_
              refine q_istoren C dX10_plainest_42 hn (by decide) rfl ?_
              refine q_iinc C dX10_plainest_43 rfl hn (by decide) rfl ?_
              refine q_goto C (tgt := 5) dX10_plainest_46 (by decide) ?_
              exact q_ls (by exact ⟨rfl, rfl, rfl, rfl, rfl, trivial⟩) (ih5 _ _ (by omega) (by omega) (by omega) (by rw [sAm_s _ _ _ (by omega)]; have hpi : sPl sd v c h i = (if sAns sd v c h i ≠ 0 then - sParts i else -100) := rfl; unfold sParts at *; first | (rw [if_pos (by rw [hpi, if_pos (by omega)]; omega)]; done) | (rw [if_neg (by rw [hpi, if_pos (by omega)]; omega)]; exact hs2) | (rw [if_neg (by rw [hpi, if_neg (by omega)]; omega)]; exact hs2)))
  exact q_ls (by exact ⟨rfl, rfl, rfl, rfl, rfl, trivial⟩) (L5 1000 _ _ (by omega) (by omega) (by omega) (by rfl))
