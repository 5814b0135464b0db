theorem dX0_append_0 : decode cX0_append 0 = .ok (.aload_n 0, 1) := by decide +kernel
theorem dX0_append_1 : decode cX0_append 1 = .ok (.getfield 18, 3) := by decide +kernel
theorem dX0_append_4 : decode cX0_append 4 = .ok (.bipush 20, 2) := by decide +kernel
theorem dX0_append_6 : decode cX0_append 6 = .ok (.if_icmp .lt 5, 3) := by decide +kernel
theorem dX0_append_9 : decode cX0_append 9 = .ok (.iconst 0, 1) := by decide +kernel
theorem dX0_append_10 : decode cX0_append 10 = .ok (.ireturn, 1) := by decide +kernel
theorem dX0_append_11 : decode cX0_append 11 = .ok (.aload_n 0, 1) := by decide +kernel
theorem dX0_append_12 : decode cX0_append 12 = .ok (.getfield 9, 3) := by decide +kernel
theorem dX0_append_15 : decode cX0_append 15 = .ok (.aload_n 0, 1) := by decide +kernel
theorem dX0_append_16 : decode cX0_append 16 = .ok (.getfield 18, 3) := by decide +kernel
theorem dX0_append_19 : decode cX0_append 19 = .ok (.iload_n 1, 1) := by decide +kernel
theorem dX0_append_20 : decode cX0_append 20 = .ok (.iastore, 1) := by decide +kernel
theorem dX0_append_21 : decode cX0_append 21 = .ok (.aload_n 0, 1) := by decide +kernel
theorem dX0_append_22 : decode cX0_append 22 = .ok (.getfield 15, 3) := by decide +kernel
theorem dX0_append_25 : decode cX0_append 25 = .ok (.aload_n 0, 1) := by decide +kernel
theorem dX0_append_26 : decode cX0_append 26 = .ok (.getfield 18, 3) := by decide +kernel
theorem dX0_append_29 : decode cX0_append 29 = .ok (.iload_n 2, 1) := by decide +kernel
theorem dX0_append_30 : decode cX0_append 30 = .ok (.iastore, 1) := by decide +kernel
theorem dX0_append_31 : decode cX0_append 31 = .ok (.aload_n 0, 1) := by decide +kernel
theorem dX0_append_32 : decode cX0_append 32 = .ok (.dup, 1) := by decide +kernel
theorem dX0_append_33 : decode cX0_append 33 = .ok (.getfield 18, 3) := by decide +kernel
theorem dX0_append_36 : decode cX0_append 36 = .ok (.iconst 1, 1) := by decide +kernel
theorem dX0_append_37 : decode cX0_append 37 = .ok (.iadd, 1) := by decide +kernel
theorem dX0_append_38 : decode cX0_append 38 = .ok (.putfield 18, 3) := by decide +kernel
theorem dX0_append_41 : decode cX0_append 41 = .ok (.iconst 1, 1) := by decide +kernel
theorem dX0_append_42 : decode cX0_append 42 = .ok (.ireturn, 1) := by decide +kernel
set_option maxRecDepth 4000 in
set_option maxHeartbeats 4000000 in
theorem m_X0_append (l : Launch) (g : qGm) (M : qMem) {x y : Int} (hx : qIn x) (hy : qIn y) (hs : 0 ≤ M 32 0 2 ∧ M 32 0 2 ≤ 20) : qOk l g 1 yX0_append cX0_append 3 (some .boolean) [qR g 32 0, qI x, qI y] M (qEv (some (qB (M 32 0 2 < 20))) (if M 32 0 2 < 20 then qUp (qUp (qUp M 33 0 (M 32 0 2) x) 34 0 (M 32 0 2) y) 32 0 2 (M 32 0 2 + 1) else M)) := by
  refine q_ok (by decide +kernel) (Nat.le_of_ble_eq_true rfl) (fun X C' hn => ?_)
  have C := C'.1
  refine q_aloadn C dX0_append_0 rfl ?_
  refine gf_RX0_18 C dX0_append_1 (fun r1 => ?_)
  refine q_bipush C dX0_append_4 (by decide) ?_
  refine q_icmp_lt C 11 dX0_append_6 (by decide) (by first | assumption | omega | exact q_tin _ | exact q_bIn _) (by first | assumption | omega | exact q_tin _ | exact q_bIn _) (fun h6 => ?_) (fun h6 => ?_)
  · refine q_aloadn C dX0_append_11 rfl ?_
    refine gf_RX0_9 C dX0_append_12 ?_
    refine q_aloadn C dX0_append_15 rfl ?_
    refine gf_RX0_18 C dX0_append_16 (fun r16 => ?_)
    refine q_iloadn C dX0_append_19 rfl ?_
    refine q_iast C (by first | assumption | decide | omega) (fun _ => rfl) dX0_append_20 (by omega) (by omega) (by decide) (by first | assumption | omega | exact q_tin _ | exact q_bIn _) ?_
    refine q_aloadn C dX0_append_21 rfl ?_
    refine gf_RX0_15 C dX0_append_22 ?_
    refine q_aloadn C dX0_append_25 rfl ?_
    refine gf_RX0_18 C dX0_append_26 (fun r26 => ?_)
    try simp only [q_rd, q_rdS, ↓reduceIte, if_true, if_false, eq_self, Nat.reduceEqDiff, Int.reduceEq, Int.reduceNeg, reduceCtorEq] at r26 ⊢
    refine q_iloadn C dX0_append_29 rfl ?_
    refine q_iast C (by first | assumption | decide | omega) (fun _ => rfl) dX0_append_30 (by omega) (by omega) (by decide) (by first | assumption | omega | exact q_tin _ | exact q_bIn _) ?_
    refine q_aloadn C dX0_append_31 rfl ?_
    refine q_dup C dX0_append_32 rfl ?_
    refine gf_RX0_18 C dX0_append_33 (fun r33 => ?_)
    try simp only [q_rd, q_rdS, ↓reduceIte, if_true, if_false, eq_self, Nat.reduceEqDiff, Int.reduceEq, Int.reduceNeg, reduceCtorEq] at r33 ⊢
    refine q_iconst C dX0_append_36 ?_
    refine q_iadd C dX0_append_37 ?_
    refine pf_RX0_18 C (by first | assumption | omega | exact q_tin _ | exact q_bIn _) dX0_append_38 ?_
    refine q_iconst C dX0_append_41 ?_
    refine q_zret C' dX0_append_42 (by first | omega | exact q_b01 _ | simp) ?_
    refine ⟨congrArg some ?_, ?_⟩
    · first | (rw [q_bT (by omega)]; done) | (rw [q_bF (by omega)]; done)
    · first | (rw [if_pos (by omega)]; done) | (rw [if_neg (by omega)]; done)
  · refine q_iconst C dX0_append_9 ?_
    refine q_zret C' dX0_append_10 (by first | omega | exact q_b01 _ | simp) ?_
    refine ⟨congrArg some ?_, ?_⟩
    · first | (rw [q_bT (by omega)]; done) | (rw [q_bF (by omega)]; done)
    · first | (rw [if_pos (by omega)]; done) | (rw [if_neg (by omega)]; done)
theorem dX0_forget_0 : decode cX0_forget 0 = .ok (.aload_n 0, 1) := by decide +kernel
theorem dX0_forget_1 : decode cX0_forget 1 = .ok (.iconst 0, 1) := by decide +kernel
theorem dX0_forget_2 : decode cX0_forget 2 = .ok (.putfield 18, 3) := by decide +kernel
theorem dX0_forget_5 : decode cX0_forget 5 = .ok (.return_, 1) := by decide +kernel
set_option maxRecDepth 4000 in
set_option maxHeartbeats 4000000 in
theorem m_X0_forget (l : Launch) (g : qGm) (M : qMem) : qOk l g 1 yX0_forget cX0_forget 1 none [qR g 32 0] M (qEv none (qUp M 32 0 2 0)) := by
  refine q_ok (by decide +kernel) (Nat.le_of_ble_eq_true rfl) (fun X C' hn => ?_)
  have C := C'.1
  refine q_aloadn C dX0_forget_0 rfl ?_
  refine q_iconst C dX0_forget_1 ?_
  refine pf_RX0_18 C (by first | assumption | omega | exact q_tin _ | exact q_bIn _) dX0_forget_2 ?_
  refine q_vret C' dX0_forget_5 ?_
  exact ⟨rfl, rfl⟩
theorem dX8_append_0 : decode cX8_append 0 = .ok (.aload_n 0, 1) := by decide +kernel
theorem dX8_append_1 : decode cX8_append 1 = .ok (.getfield 18, 3) := by decide +kernel
theorem dX8_append_4 : decode cX8_append 4 = .ok (.bipush 6, 2) := by decide +kernel
theorem dX8_append_6 : decode cX8_append 6 = .ok (.if_icmp .lt 5, 3) := by decide +kernel
theorem dX8_append_9 : decode cX8_append 9 = .ok (.iconst 0, 1) := by decide +kernel
theorem dX8_append_10 : decode cX8_append 10 = .ok (.ireturn, 1) := by decide +kernel
theorem dX8_append_11 : decode cX8_append 11 = .ok (.aload_n 0, 1) := by decide +kernel
theorem dX8_append_12 : decode cX8_append 12 = .ok (.getfield 9, 3) := by decide +kernel
theorem dX8_append_15 : decode cX8_append 15 = .ok (.aload_n 0, 1) := by decide +kernel
theorem dX8_append_16 : decode cX8_append 16 = .ok (.getfield 18, 3) := by decide +kernel
theorem dX8_append_19 : decode cX8_append 19 = .ok (.iload_n 1, 1) := by decide +kernel
theorem dX8_append_20 : decode cX8_append 20 = .ok (.iastore, 1) := by decide +kernel
theorem dX8_append_21 : decode cX8_append 21 = .ok (.aload_n 0, 1) := by decide +kernel
theorem dX8_append_22 : decode cX8_append 22 = .ok (.getfield 15, 3) := by decide +kernel
theorem dX8_append_25 : decode cX8_append 25 = .ok (.aload_n 0, 1) := by decide +kernel
theorem dX8_append_26 : decode cX8_append 26 = .ok (.getfield 18, 3) := by decide +kernel
theorem dX8_append_29 : decode cX8_append 29 = .ok (.iload_n 2, 1) := by decide +kernel
theorem dX8_append_30 : decode cX8_append 30 = .ok (.iastore, 1) := by decide +kernel
theorem dX8_append_31 : decode cX8_append 31 = .ok (.aload_n 0, 1) := by decide +kernel
theorem dX8_append_32 : decode cX8_append 32 = .ok (.dup, 1) := by decide +kernel
theorem dX8_append_33 : decode cX8_append 33 = .ok (.getfield 18, 3) := by decide +kernel
theorem dX8_append_36 : decode cX8_append 36 = .ok (.iconst 1, 1) := by decide +kernel
theorem dX8_append_37 : decode cX8_append 37 = .ok (.iadd, 1) := by decide +kernel
theorem dX8_append_38 : decode cX8_append 38 = .ok (.putfield 18, 3) := by decide +kernel
theorem dX8_append_41 : decode cX8_append 41 = .ok (.iconst 1, 1) := by decide +kernel
theorem dX8_append_42 : decode cX8_append 42 = .ok (.ireturn, 1) := by decide +kernel
set_option maxRecDepth 4000 in
set_option maxHeartbeats 4000000 in
theorem m_X8_append (l : Launch) (g : qGm) (M : qMem) {x y : Int} (hx : qIn x) (hy : qIn y) (hs : 0 ≤ M 29 0 2 ∧ M 29 0 2 ≤ 6) : qOk l g 1 yX8_append cX8_append 3 (some .boolean) [qR g 29 0, qI x, qI y] M (qEv (some (qB (M 29 0 2 < 6))) (if M 29 0 2 < 6 then qUp (qUp (qUp M 30 0 (M 29 0 2) x) 31 0 (M 29 0 2) y) 29 0 2 (M 29 0 2 + 1) else M)) := by
  refine q_ok (by decide +kernel) (Nat.le_of_ble_eq_true rfl) (fun X C' hn => ?_)
  have C := C'.1
  refine q_aloadn C dX8_append_0 rfl ?_
  refine gf_RX8_18 C dX8_append_1 (fun r1 => ?_)
  refine q_bipush C dX8_append_4 (by decide) ?_
  refine q_icmp_lt C 11 dX8_append_6 (by decide) (by first | assumption | omega | exact q_tin _ | exact q_bIn _) (by first | assumption | omega | exact q_tin _ | exact q_bIn _) (fun h6 => ?_) (fun h6 => ?_)
  · refine q_aloadn C dX8_append_11 rfl ?_
    refine gf_RX8_9 C dX8_append_12 ?_
    refine q_aloadn C dX8_append_15 rfl ?_
    refine gf_RX8_18 C dX8_append_16 (fun r16 => ?_)
    refine q_iloadn C dX8_append_19 rfl ?_
    refine q_iast C (by first | assumption | decide | omega) (fun _ => rfl) dX8_append_20 (by omega) (by omega) (by decide) (by first | assumption | omega | exact q_tin _ | exact q_bIn _) ?_
    refine q_aloadn C dX8_append_21 rfl ?_
    refine gf_RX8_15 C dX8_append_22 ?_
    refine q_aloadn C dX8_append_25 rfl ?_
    refine gf_RX8_18 C dX8_append_26 (fun r26 => ?_)
    try simp only [q_rd, q_rdS, ↓reduceIte, if_true, if_false, eq_self, Nat.reduceEqDiff, Int.reduceEq, Int.reduceNeg, reduceCtorEq] at r26 ⊢
    refine q_iloadn C dX8_append_29 rfl ?_
    refine q_iast C (by first | assumption | decide | omega) (fun _ => rfl) dX8_append_30 (by omega) (by omega) (by decide) (by first | assumption | omega | exact q_tin _ | exact q_bIn _) ?_
    refine q_aloadn C dX8_append_31 rfl ?_
    refine q_dup C dX8_append_32 rfl ?_
    refine gf_RX8_18 C dX8_append_33 (fun r33 => ?_)
    try simp only [q_rd, q_rdS, ↓reduceIte, if_true, if_false, eq_self, Nat.reduceEqDiff, Int.reduceEq, Int.reduceNeg, reduceCtorEq] at r33 ⊢
    refine q_iconst C dX8_append_36 ?_
    refine q_iadd C dX8_append_37 ?_
    refine pf_RX8_18 C (by first | assumption | omega | exact q_tin _ | exact q_bIn _) dX8_append_38 ?_
    refine q_iconst C dX8_append_41 ?_
    refine q_zret C' dX8_append_42 (by first | omega | exact q_b01 _ | simp) ?_
    refine ⟨congrArg some ?_, ?_⟩
    · first | (rw [q_bT (by omega)]; done) | (rw [q_bF (by omega)]; done)
    · first | (rw [if_pos (by omega)]; done) | (rw [if_neg (by omega)]; done)
  · refine q_iconst C dX8_append_9 ?_
    refine q_zret C' dX8_append_10 (by first | omega | exact q_b01 _ | simp) ?_
    refine ⟨congrArg some ?_, ?_⟩
    · first | (rw [q_bT (by omega)]; done) | (rw [q_bF (by omega)]; done)
    · first | (rw [if_pos (by omega)]; done) | (rw [if_neg (by omega)]; done)
theorem dX8_forget_0 : decode cX8_forget 0 = .ok (.aload_n 0, 1) := by decide +kernel
theorem dX8_forget_1 : decode cX8_forget 1 = .ok (.iconst 0, 1) := by decide +kernel
theorem dX8_forget_2 : decode cX8_forget 2 = .ok (.putfield 18, 3) := by decide +kernel
theorem dX8_forget_5 : decode cX8_forget 5 = .ok (.return_, 1) := by decide +kernel
set_option maxRecDepth 4000 in
set_option maxHeartbeats 4000000 in
theorem m_X8_forget (l : Launch) (g : qGm) (M : qMem) : qOk l g 1 yX8_forget cX8_forget 1 none [qR g 29 0] M (qEv none (qUp M 29 0 2 0)) := by
  refine q_ok (by decide +kernel) (Nat.le_of_ble_eq_true rfl) (fun X C' hn => ?_)
  have C := C'.1
  refine q_aloadn C dX8_forget_0 rfl ?_
  refine q_iconst C dX8_forget_1 ?_
  refine pf_RX8_18 C (by first | assumption | omega | exact q_tin _ | exact q_bIn _) dX8_forget_2 ?_
  refine q_vret C' dX8_forget_5 ?_
  exact ⟨rfl, rfl⟩
theorem dX0_firstWrong_0 : decode cX0_firstWrong 0 = .ok (.iconst 0, 1) := by decide +kernel
theorem dX0_firstWrong_1 : decode cX0_firstWrong 1 = .ok (.istore_n 2, 1) := by decide +kernel
theorem dX0_firstWrong_2 : decode cX0_firstWrong 2 = .ok (.iload_n 2, 1) := by decide +kernel
theorem dX0_firstWrong_3 : decode cX0_firstWrong 3 = .ok (.aload_n 0, 1) := by decide +kernel
theorem dX0_firstWrong_4 : decode cX0_firstWrong 4 = .ok (.getfield 18, 3) := by decide +kernel
theorem dX0_firstWrong_7 : decode cX0_firstWrong 7 = .ok (.if_icmp .ge 31, 3) := by decide +kernel
theorem dX0_firstWrong_10 : decode cX0_firstWrong 10 = .ok (.aload_n 1, 1) := by decide +kernel
theorem dX0_firstWrong_11 : decode cX0_firstWrong 11 = .ok (.getfield 22, 3) := by decide +kernel
theorem dX0_firstWrong_14 : decode cX0_firstWrong 14 = .ok (.aload_n 0, 1) := by decide +kernel
theorem dX0_firstWrong_15 : decode cX0_firstWrong 15 = .ok (.getfield 9, 3) := by decide +kernel
theorem dX0_firstWrong_18 : decode cX0_firstWrong 18 = .ok (.iload_n 2, 1) := by decide +kernel
theorem dX0_firstWrong_19 : decode cX0_firstWrong 19 = .ok (.iaload, 1) := by decide +kernel
theorem dX0_firstWrong_20 : decode cX0_firstWrong 20 = .ok (.iaload, 1) := by decide +kernel
theorem dX0_firstWrong_21 : decode cX0_firstWrong 21 = .ok (.aload_n 0, 1) := by decide +kernel
theorem dX0_firstWrong_22 : decode cX0_firstWrong 22 = .ok (.getfield 15, 3) := by decide +kernel
theorem dX0_firstWrong_25 : decode cX0_firstWrong 25 = .ok (.iload_n 2, 1) := by decide +kernel
theorem dX0_firstWrong_26 : decode cX0_firstWrong 26 = .ok (.iaload, 1) := by decide +kernel
theorem dX0_firstWrong_27 : decode cX0_firstWrong 27 = .ok (.if_icmp .eq 5, 3) := by decide +kernel
theorem dX0_firstWrong_30 : decode cX0_firstWrong 30 = .ok (.iload_n 2, 1) := by decide +kernel
theorem dX0_firstWrong_31 : decode cX0_firstWrong 31 = .ok (.ireturn, 1) := by decide +kernel
theorem dX0_firstWrong_32 : decode cX0_firstWrong 32 = .ok (.iinc 2 1, 3) := by decide +kernel
theorem dX0_firstWrong_35 : decode cX0_firstWrong 35 = .ok (.goto (-33), 3) := by decide +kernel
theorem dX0_firstWrong_38 : decode cX0_firstWrong 38 = .ok (.iconst (-1), 1) := by decide +kernel
theorem dX0_firstWrong_39 : decode cX0_firstWrong 39 = .ok (.ireturn, 1) := by decide +kernel
set_option maxRecDepth 4000 in
set_option maxHeartbeats 4000000 in
theorem m_X0_firstWrong (l : Launch) (g : qGm) (M : qMem) {u : Nat} (hu : u < 33) (hs : 0 ≤ M 32 0 2 ∧ M 32 0 2 ≤ 20) (hb : ∀ i, 0 ≤ i → i < M 32 0 2 → 0 ≤ M 33 0 i ∧ M 33 0 i < 6) : qOk l g 1 yX0_firstWrong cX0_firstWrong 3 (some .int) [qR g 32 0, qR g 10 u] M (qEv (some (sFr (fun i => decide (M 14 u (M 33 0 i) ≠ M 34 0 i)) (M 32 0 2) 0)) M) := by
  refine q_ok (by decide +kernel) (Nat.le_of_ble_eq_true rfl) (fun X C' hn => ?_)
  have C := C'.1
  refine q_iconst C dX0_firstWrong_0 ?_
  refine q_istoren C dX0_firstWrong_1 hn (by decide) rfl ?_
  have L2 : ∀ (n2 : Nat) (i : Int), M 32 0 2 - i < (n2 : Int) → (0 ≤ i) → (i ≤ M 32 0 2) → (sFr (fun i => decide (M 14 u (M 33 0 i) ≠ M 34 0 i)) (M 32 0 2) 0 = sFr (fun i => decide (M 14 u (M 33 0 i) ≠ M 34 0 i)) (M 32 0 2) i) → qV l g X M 2 [(0, qR g 32 0), (1, qR g 10 u), (2, qI i)] [] := by
    intro n2
    induction n2 with
    | zero => intro i hm2 h0 h1 hs2; exfalso; first | omega | (simp at *; omega)
    | succ n2 ih2 =>
      intro i hm2 h0 h1 hs2
      have hbi := hb i h0
      refine q_iloadn C dX0_firstWrong_2 rfl ?_
      refine q_aloadn C dX0_firstWrong_3 rfl ?_
      refine gf_RX0_18 C dX0_firstWrong_4 (fun r4 => ?_)
      refine q_icmp_ge C 38 dX0_firstWrong_7 (by decide) (by first | assumption | omega | exact q_tin _ | exact q_bIn _) (by first | assumption | omega | exact q_tin _ | exact q_bIn _) (fun h7 => ?_) (fun h7 => ?_)
      · refine q_iconst C dX0_firstWrong_38 ?_
        refine q_iret C' dX0_firstWrong_39 (by first | assumption | omega | exact q_tin _ | exact q_bIn _) ?_
        refine ⟨congrArg some ?_, rfl⟩
        rw [hs2]
        first | (rw [sFr_s _ (by omega), if_pos (by simp; omega)]; done) | (have e9 : i = M 32 0 2 := (by omega); rw [e9, sFr_e])
      · refine q_aloadn C dX0_firstWrong_10 rfl ?_
        refine gf_RX0_22 C (by first | assumption | decide | omega) dX0_firstWrong_11 ?_
        refine q_aloadn C dX0_firstWrong_14 rfl ?_
        refine gf_RX0_9 C dX0_firstWrong_15 ?_
        refine q_iloadn C dX0_firstWrong_18 rfl ?_
        refine q_iald C (by first | assumption | decide | omega) rfl dX0_firstWrong_19 (by omega) (by omega) (by decide) (fun r19 => ?_)
        refine q_iald C (by first | assumption | decide | omega) rfl dX0_firstWrong_20 (by omega) (by omega) (by decide) (fun r20 => ?_)
        refine q_aloadn C dX0_firstWrong_21 rfl ?_
        refine gf_RX0_15 C dX0_firstWrong_22 ?_
        refine q_iloadn C dX0_firstWrong_25 rfl ?_
        refine q_iald C (by first | assumption | decide | omega) rfl dX0_firstWrong_26 (by omega) (by omega) (by decide) (fun r26 => ?_)
        refine q_icmp_eq C 32 dX0_firstWrong_27 (by decide) (by first | assumption | omega | exact q_tin _ | exact q_bIn _) (by first | assumption | omega | exact q_tin _ | exact q_bIn _) (fun h27 => ?_) (fun h27 => ?_)
        · refine q_iinc C dX0_firstWrong_32 rfl hn (by decide) rfl ?_
          refine q_goto C (tgt := 2) dX0_firstWrong_35 (by decide) ?_
          exact q_ls (by exact ⟨rfl, rfl, rfl, trivial⟩) (ih2 _ (by omega) (by omega) (by omega) (by rw [hs2, sFr_s _ (by omega), if_neg (by simp; omega)]))
        · refine q_iloadn C dX0_firstWrong_30 rfl ?_
          refine q_iret C' dX0_firstWrong_31 (by first | assumption | omega | exact q_tin _ | exact q_bIn _) ?_
          refine ⟨congrArg some ?_, rfl⟩
          rw [hs2]
          first | (rw [sFr_s _ (by omega), if_pos (by simp; omega)]; done) | (have e9 : i = M 32 0 2 := (by omega); rw [e9, sFr_e])
  exact q_ls (by exact ⟨rfl, rfl, rfl, trivial⟩) (L2 1000 _ (by omega) (by omega) (by omega) (by rfl))
theorem dX8_fits_0 : decode cX8_fits 0 = .ok (.iconst 0, 1) := by decide +kernel
theorem dX8_fits_1 : decode cX8_fits 1 = .ok (.istore_n 3, 1) := by decide +kernel
theorem dX8_fits_2 : decode cX8_fits 2 = .ok (.iload_n 3, 1) := by decide +kernel
theorem dX8_fits_3 : decode cX8_fits 3 = .ok (.aload_n 0, 1) := by decide +kernel
theorem dX8_fits_4 : decode cX8_fits 4 = .ok (.getfield 18, 3) := by decide +kernel
theorem dX8_fits_7 : decode cX8_fits 7 = .ok (.if_icmp .ge 30, 3) := by decide +kernel
theorem dX8_fits_10 : decode cX8_fits 10 = .ok (.iload_n 2, 1) := by decide +kernel
theorem dX8_fits_11 : decode cX8_fits 11 = .ok (.aload_n 0, 1) := by decide +kernel
theorem dX8_fits_12 : decode cX8_fits 12 = .ok (.getfield 9, 3) := by decide +kernel
theorem dX8_fits_15 : decode cX8_fits 15 = .ok (.iload_n 3, 1) := by decide +kernel
theorem dX8_fits_16 : decode cX8_fits 16 = .ok (.iaload, 1) := by decide +kernel
theorem dX8_fits_17 : decode cX8_fits 17 = .ok (.invokestatic 22, 3) := by decide +kernel
theorem dX8_fits_20 : decode cX8_fits 20 = .ok (.aload_n 0, 1) := by decide +kernel
theorem dX8_fits_21 : decode cX8_fits 21 = .ok (.getfield 15, 3) := by decide +kernel
theorem dX8_fits_24 : decode cX8_fits 24 = .ok (.iload_n 3, 1) := by decide +kernel
theorem dX8_fits_25 : decode cX8_fits 25 = .ok (.iaload, 1) := by decide +kernel
theorem dX8_fits_26 : decode cX8_fits 26 = .ok (.if_icmp .eq 5, 3) := by decide +kernel
theorem dX8_fits_29 : decode cX8_fits 29 = .ok (.iconst 0, 1) := by decide +kernel
theorem dX8_fits_30 : decode cX8_fits 30 = .ok (.ireturn, 1) := by decide +kernel
theorem dX8_fits_31 : decode cX8_fits 31 = .ok (.iinc 3 1, 3) := by decide +kernel
theorem dX8_fits_34 : decode cX8_fits 34 = .ok (.goto (-32), 3) := by decide +kernel
theorem dX8_fits_37 : decode cX8_fits 37 = .ok (.iload_n 1, 1) := by decide +kernel
theorem dX8_fits_38 : decode cX8_fits 38 = .ok (.iload_n 2, 1) := by decide +kernel
theorem dX8_fits_39 : decode cX8_fits 39 = .ok (.invokestatic 28, 3) := by decide +kernel
theorem dX8_fits_42 : decode cX8_fits 42 = .ok (.ireturn, 1) := by decide +kernel
set_option maxRecDepth 4000 in
set_option maxHeartbeats 4000000 in
theorem m_X8_fits (l : Launch) (g : qGm) (M : qMem) {mn : Int} (hmn : qIn mn) (hs : 0 ≤ M 29 0 2 ∧ M 29 0 2 ≤ 6) (hb : ∀ i, 0 ≤ i → i < M 29 0 2 → 0 ≤ M 30 0 i ∧ M 30 0 i < 5) {a : Int} (ha : 0 ≤ a ∧ a < 48) : qOk l g 2 yX8_fits cX8_fits 4 (some .boolean) [qR g 29 0, qI mn, qI a] M (qEv (some (qB (sFits (M 29 0 2) (M 30 0) (M 31 0) mn a = true))) M) := by
  refine q_ok (by decide +kernel) (Nat.le_of_ble_eq_true rfl) (fun X C' hn => ?_)
  have C := C'.1
  refine q_iconst C dX8_fits_0 ?_
  refine q_istoren C dX8_fits_1 hn (by decide) rfl ?_
  have L2 : ∀ (n2 : Nat) (i : Int), M 29 0 2 - i < (n2 : Int) → (0 ≤ i) → (i ≤ M 29 0 2) → (sAll (fun i => decide (sPart a (M 30 0 i) = M 31 0 i)) i = true) → qV l g X M 2 [(0, qR g 29 0), (1, qI mn), (2, qI a), (3, qI i)] [] := by
    intro n2
    induction n2 with
    | zero => intro i hm2 h0 h1 hs2; exfalso; first | omega | (simp at *; omega)
    | succ n2 ih2 =>
      intro i hm2 h0 h1 hs2
      have hbi := hb i h0
      have hpi : 0 ≤ sPart a (M 30 0 i) ∧ sPart a (M 30 0 i) ≤ 2 := by unfold sPart; split <;> omega
      refine q_iloadn C dX8_fits_2 rfl ?_
      refine q_aloadn C dX8_fits_3 rfl ?_
      refine gf_RX8_18 C dX8_fits_4 (fun r4 => ?_)
      refine q_icmp_ge C 37 dX8_fits_7 (by decide) (by first | assumption | omega | exact q_tin _ | exact q_bIn _) (by first | assumption | omega | exact q_tin _ | exact q_bIn _) (fun h7 => ?_) (fun h7 => ?_)
      · refine q_iloadn C dX8_fits_37 rfl ?_
        refine q_iloadn C dX8_fits_38 rfl ?_
        refine cv_RX8_28 C (by decide) (m_X1_isSaid l g _ hmn ha) dX8_fits_39 (Nat.le_of_ble_eq_true rfl) (fun r39 => ?_)
        refine q_zret C' dX8_fits_42 (by first | omega | exact q_b01 _ | simp) ?_
        refine ⟨congrArg some ?_, rfl⟩
        unfold sFits
        first | (rw [q_bF (by rw [sAll_f h0 (by omega) (by simp; omega)]; simp)]; done) | (have e9 : i = M 29 0 2 := (by omega); rw [← e9, hs2]; exact q_bIff (by rw [Bool.true_and, decide_eq_true_iff]))
      · refine q_iloadn C dX8_fits_10 rfl ?_
        refine q_aloadn C dX8_fits_11 rfl ?_
        refine gf_RX8_9 C dX8_fits_12 ?_
        refine q_iloadn C dX8_fits_15 rfl ?_
        refine q_iald C (by first | assumption | decide | omega) rfl dX8_fits_16 (by omega) (by omega) (by decide) (fun r16 => ?_)
        refine cv_RX8_22 C (by decide) (m_X1_partOf l g _ ha (by omega)) dX8_fits_17 (Nat.le_of_ble_eq_true rfl) (fun r17 => ?_)
        refine q_aloadn C dX8_fits_20 rfl ?_
        refine gf_RX8_15 C dX8_fits_21 ?_
        refine q_iloadn C dX8_fits_24 rfl ?_
        refine q_iald C (by first | assumption | decide | omega) rfl dX8_fits_25 (by omega) (by omega) (by decide) (fun r25 => ?_)
        refine q_icmp_eq C 31 dX8_fits_26 (by decide) (by first | assumption | omega | exact q_tin _ | exact q_bIn _) (by first | assumption | omega | exact q_tin _ | exact q_bIn _) (fun h26 => ?_) (fun h26 => ?_)
        · refine q_iinc C dX8_fits_31 rfl hn (by decide) rfl ?_
          refine q_goto C (tgt := 2) dX8_fits_34 (by decide) ?_
          exact q_ls (by exact ⟨rfl, rfl, rfl, rfl, trivial⟩) (ih2 _ (by omega) (by omega) (by omega) (by rw [sAll_s _ h0, hs2]; simp; omega))
        · refine q_iconst C dX8_fits_29 ?_
          refine q_zret C' dX8_fits_30 (by first | omega | exact q_b01 _ | simp) ?_
          refine ⟨congrArg some ?_, rfl⟩
          unfold sFits
          first | (rw [q_bF (by rw [sAll_f h0 (by omega) (by simp; omega)]; simp)]; done) | (have e9 : i = M 29 0 2 := (by omega); rw [← e9, hs2]; exact q_bIff (by rw [Bool.true_and, decide_eq_true_iff]))
  exact q_ls (by exact ⟨rfl, rfl, rfl, rfl, trivial⟩) (L2 1000 _ (by omega) (by omega) (by omega) (by rfl))
theorem dX8_countFits_0 : decode cX8_countFits 0 = .ok (.iconst 0, 1) := by decide +kernel
theorem dX8_countFits_1 : decode cX8_countFits 1 = .ok (.istore_n 2, 1) := by decide +kernel
theorem dX8_countFits_2 : decode cX8_countFits 2 = .ok (.iconst 0, 1) := by decide +kernel
theorem dX8_countFits_3 : decode cX8_countFits 3 = .ok (.istore_n 3, 1) := by decide +kernel
theorem dX8_countFits_4 : decode cX8_countFits 4 = .ok (.iload_n 3, 1) := by decide +kernel
theorem dX8_countFits_5 : decode cX8_countFits 5 = .ok (.bipush 48, 2) := by decide +kernel
theorem dX8_countFits_7 : decode cX8_countFits 7 = .ok (.if_icmp .ge 21, 3) := by decide +kernel
theorem dX8_countFits_10 : decode cX8_countFits 10 = .ok (.aload_n 0, 1) := by decide +kernel
theorem dX8_countFits_11 : decode cX8_countFits 11 = .ok (.iload_n 1, 1) := by decide +kernel
theorem dX8_countFits_12 : decode cX8_countFits 12 = .ok (.iload_n 3, 1) := by decide +kernel
theorem dX8_countFits_13 : decode cX8_countFits 13 = .ok (.invokevirtual 32, 3) := by decide +kernel
theorem dX8_countFits_16 : decode cX8_countFits 16 = .ok (.ifCond .eq 6, 3) := by decide +kernel
theorem dX8_countFits_19 : decode cX8_countFits 19 = .ok (.iinc 2 1, 3) := by decide +kernel
theorem dX8_countFits_22 : decode cX8_countFits 22 = .ok (.iinc 3 1, 3) := by decide +kernel
theorem dX8_countFits_25 : decode cX8_countFits 25 = .ok (.goto (-21), 3) := by decide +kernel
theorem dX8_countFits_28 : decode cX8_countFits 28 = .ok (.iload_n 2, 1) := by decide +kernel
theorem dX8_countFits_29 : decode cX8_countFits 29 = .ok (.ireturn, 1) := by decide +kernel
set_option maxRecDepth 4000 in
set_option maxHeartbeats 4000000 in
theorem m_X8_countFits (l : Launch) (g : qGm) (M : qMem) {mn : Int} (hmn : qIn mn) (hs : 0 ≤ M 29 0 2 ∧ M 29 0 2 ≤ 6) (hb : ∀ i, 0 ≤ i → i < M 29 0 2 → 0 ≤ M 30 0 i ∧ M 30 0 i < 5) : qOk l g 3 yX8_countFits cX8_countFits 4 (some .int) [qR g 29 0, qI mn] M (qEv (some (sSum (fun k => qB (sFits (M 29 0 2) (M 30 0) (M 31 0) mn k = true)) 48)) M) := by
  refine q_ok (by decide +kernel) (Nat.le_of_ble_eq_true rfl) (fun X C' hn => ?_)
  have C := C'.1
  refine q_iconst C dX8_countFits_0 ?_
  refine q_istoren C dX8_countFits_1 hn (by decide) rfl ?_
  refine q_iconst C dX8_countFits_2 ?_
  refine q_istoren C dX8_countFits_3 hn (by decide) rfl ?_
  have L4 : ∀ (n4 : Nat) (s : Int) (i : Int), 48 - i < (n4 : Int) → (0 ≤ i) → (i ≤ 48) → (s = sSum (fun k => qB (sFits (M 29 0 2) (M 30 0) (M 31 0) mn k = true)) i) → (0 ≤ s ∧ s ≤ i) → qV l g X M 4 [(0, qR g 29 0), (1, qI mn), (2, qI s), (3, qI i)] [] := by
    intro n4
    induction n4 with
    | zero => intro s i hm4 h0 h1 hs2 hb2; exfalso; first | omega | (simp at *; omega)
    | succ n4 ih4 =>
      intro s i hm4 h0 h1 hs2 hb2
      refine q_iloadn C dX8_countFits_4 rfl ?_
      refine q_bipush C dX8_countFits_5 (by decide) ?_
      refine q_icmp_ge C 28 dX8_countFits_7 (by decide) (by first | assumption | omega | exact q_tin _ | exact q_bIn _) (by first | assumption | omega | exact q_tin _ | exact q_bIn _) (fun h7 => ?_) (fun h7 => ?_)
      · refine q_iloadn C dX8_countFits_28 rfl ?_
        refine q_iret C' dX8_countFits_29 (by first | assumption | omega | exact q_tin _ | exact q_bIn _) ?_
        have : i = 48 := by omega
        subst this
        exact ⟨congrArg some hs2, rfl⟩
      · refine q_aloadn C dX8_countFits_10 rfl ?_
        refine q_iloadn C dX8_countFits_11 rfl ?_
        refine q_iloadn C dX8_countFits_12 rfl ?_
        refine cv_RX8_32 C (by decide) (m_X8_fits l g _ hmn hs hb (by omega)) dX8_countFits_13 (Nat.le_of_ble_eq_true rfl) (fun r13 => ?_)
        refine q_ifeqB C 22 dX8_countFits_16 (by decide) (fun h16 => ?_) (fun h16 => ?_)
        · refine q_iinc C dX8_countFits_22 rfl hn (by decide) rfl ?_
          refine q_goto C (tgt := 4) dX8_countFits_25 (by decide) ?_
          exact q_ls (by exact ⟨rfl, rfl, rfl, rfl, trivial⟩) (ih4 _ _ (by omega) (by omega) (by omega) (by rw [sSum_s _ (by omega)]; first | (rw [q_bT h16]; omega) | (rw [q_bF h16]; omega)) (by omega))
        · refine q_iinc C dX8_countFits_19 rfl hn (by decide) rfl ?_
          refine q_iinc C dX8_countFits_22 rfl hn (by decide) rfl ?_
          refine q_goto C (tgt := 4) dX8_countFits_25 (by decide) ?_
          exact q_ls (by exact ⟨rfl, rfl, rfl, rfl, trivial⟩) (ih4 _ _ (by omega) (by omega) (by omega) (by rw [sSum_s _ (by omega)]; first | (rw [q_bT h16]; omega) | (rw [q_bF h16]; omega)) (by omega))
  exact q_ls (by exact ⟨rfl, rfl, rfl, rfl, trivial⟩) (L4 1000 _ _ (by omega) (by omega) (by omega) (by rfl) (by omega))
theorem dX8_leastFit_0 : decode cX8_leastFit 0 = .ok (.iconst 0, 1) := by decide +kernel
theorem dX8_leastFit_1 : decode cX8_leastFit 1 = .ok (.istore_n 2, 1) := by decide +kernel
theorem dX8_leastFit_2 : decode cX8_leastFit 2 = .ok (.iload_n 2, 1) := by decide +kernel
theorem dX8_leastFit_3 : decode cX8_leastFit 3 = .ok (.bipush 48, 2) := by decide +kernel
theorem dX8_leastFit_5 : decode cX8_leastFit 5 = .ok (.if_icmp .ge 20, 3) := by decide +kernel
theorem dX8_leastFit_8 : decode cX8_leastFit 8 = .ok (.aload_n 0, 1) := by decide +kernel
theorem dX8_leastFit_9 : decode cX8_leastFit 9 = .ok (.iload_n 1, 1) := by decide +kernel
theorem dX8_leastFit_10 : decode cX8_leastFit 10 = .ok (.iload_n 2, 1) := by decide +kernel
theorem dX8_leastFit_11 : decode cX8_leastFit 11 = .ok (.invokevirtual 32, 3) := by decide +kernel
theorem dX8_leastFit_14 : decode cX8_leastFit 14 = .ok (.ifCond .eq 5, 3) := by decide +kernel
theorem dX8_leastFit_17 : decode cX8_leastFit 17 = .ok (.iload_n 2, 1) := by decide +kernel
theorem dX8_leastFit_18 : decode cX8_leastFit 18 = .ok (.ireturn, 1) := by decide +kernel
theorem dX8_leastFit_19 : decode cX8_leastFit 19 = .ok (.iinc 2 1, 3) := by decide +kernel
theorem dX8_leastFit_22 : decode cX8_leastFit 22 = .ok (.goto (-20), 3) := by decide +kernel
theorem dX8_leastFit_25 : decode cX8_leastFit 25 = .ok (.iconst (-1), 1) := by decide +kernel
theorem dX8_leastFit_26 : decode cX8_leastFit 26 = .ok (.ireturn, 1) := by decide +kernel
set_option maxRecDepth 4000 in
set_option maxHeartbeats 4000000 in
theorem m_X8_leastFit (l : Launch) (g : qGm) (M : qMem) {mn : Int} (hmn : qIn mn) (hs : 0 ≤ M 29 0 2 ∧ M 29 0 2 ≤ 6) (hb : ∀ i, 0 ≤ i → i < M 29 0 2 → 0 ≤ M 30 0 i ∧ M 30 0 i < 5) : qOk l g 3 yX8_leastFit cX8_leastFit 3 (some .int) [qR g 29 0, qI mn] M (qEv (some (sFr (fun k => sFits (M 29 0 2) (M 30 0) (M 31 0) mn k) 48 0)) M) := by
  refine q_ok (by decide +kernel) (Nat.le_of_ble_eq_true rfl) (fun X C' hn => ?_)
  have C := C'.1
  refine q_iconst C dX8_leastFit_0 ?_
  refine q_istoren C dX8_leastFit_1 hn (by decide) rfl ?_
  have L2 : ∀ (n2 : Nat) (i : Int), 48 - i < (n2 : Int) → (0 ≤ i) → (i ≤ 48) → (sFr (fun k => sFits (M 29 0 2) (M 30 0) (M 31 0) mn k) 48 0 = sFr (fun k => sFits (M 29 0 2) (M 30 0) (M 31 0) mn k) 48 i) → qV l g X M 2 [(0, qR g 29 0), (1, qI mn), (2, qI i)] [] := by
    intro n2
    induction n2 with
    | zero => intro i hm2 h0 h1 hs2; exfalso; first | omega | (simp at *; omega)
    | succ n2 ih2 =>
      intro i hm2 h0 h1 hs2
      refine q_iloadn C dX8_leastFit_2 rfl ?_
      refine q_bipush C dX8_leastFit_3 (by decide) ?_
      refine q_icmp_ge C 25 dX8_leastFit_5 (by decide) (by first | assumption | omega | exact q_tin _ | exact q_bIn _) (by first | assumption | omega | exact q_tin _ | exact q_bIn _) (fun h5 => ?_) (fun h5 => ?_)
      · refine q_iconst C dX8_leastFit_25 ?_
        refine q_iret C' dX8_leastFit_26 (by first | assumption | omega | exact q_tin _ | exact q_bIn _) ?_
        refine ⟨congrArg some ?_, rfl⟩
        rw [hs2]
        first | (rw [sFr_s _ (by omega), if_pos h14]; done) | (have e9 : i = 48 := (by omega); rw [e9, sFr_e])
      · refine q_aloadn C dX8_leastFit_8 rfl ?_
        refine q_iloadn C dX8_leastFit_9 rfl ?_
        refine q_iloadn C dX8_leastFit_10 rfl ?_
        refine cv_RX8_32 C (by decide) (m_X8_fits l g _ hmn hs hb (by omega)) dX8_leastFit_11 (Nat.le_of_ble_eq_true rfl) (fun r11 => ?_)
        refine q_ifeqB C 19 dX8_leastFit_14 (by decide) (fun h14 => ?_) (fun h14 => ?_)
        · refine q_iinc C dX8_leastFit_19 rfl hn (by decide) rfl ?_
          refine q_goto C (tgt := 2) dX8_leastFit_22 (by decide) ?_
          exact q_ls (by exact ⟨rfl, rfl, rfl, trivial⟩) (ih2 _ (by omega) (by omega) (by omega) (by rw [hs2, sFr_s _ (by omega), if_neg h14]))
        · refine q_iloadn C dX8_leastFit_17 rfl ?_
          refine q_iret C' dX8_leastFit_18 (by first | assumption | omega | exact q_tin _ | exact q_bIn _) ?_
          refine ⟨congrArg some ?_, rfl⟩
          rw [hs2]
          first | (rw [sFr_s _ (by omega), if_pos h14]; done) | (have e9 : i = 48 := (by omega); rw [e9, sFr_e])
  exact q_ls (by exact ⟨rfl, rfl, rfl, trivial⟩) (L2 1000 _ (by omega) (by omega) (by omega) (by rfl))
theorem dX8_meaningsThatFit_0 : decode cX8_meaningsThatFit 0 = .ok (.iconst 0, 1) := by decide +kernel
theorem dX8_meaningsThatFit_1 : decode cX8_meaningsThatFit 1 = .ok (.istore_n 2, 1) := by decide +kernel
theorem dX8_meaningsThatFit_2 : decode cX8_meaningsThatFit 2 = .ok (.iconst 0, 1) := by decide +kernel
theorem dX8_meaningsThatFit_3 : decode cX8_meaningsThatFit 3 = .ok (.istore_n 3, 1) := by decide +kernel
theorem dX8_meaningsThatFit_4 : decode cX8_meaningsThatFit 4 = .ok (.iload_n 3, 1) := by decide +kernel
theorem dX8_meaningsThatFit_5 : decode cX8_meaningsThatFit 5 = .ok (.bipush 48, 2) := by decide +kernel
theorem dX8_meaningsThatFit_7 : decode cX8_meaningsThatFit 7 = .ok (.if_icmp .ge 27, 3) := by decide +kernel
theorem dX8_meaningsThatFit_10 : decode cX8_meaningsThatFit 10 = .ok (.aload_n 0, 1) := by decide +kernel
theorem dX8_meaningsThatFit_11 : decode cX8_meaningsThatFit 11 = .ok (.iload_n 1, 1) := by decide +kernel
theorem dX8_meaningsThatFit_12 : decode cX8_meaningsThatFit 12 = .ok (.iload_n 3, 1) := by decide +kernel
theorem dX8_meaningsThatFit_13 : decode cX8_meaningsThatFit 13 = .ok (.invokevirtual 32, 3) := by decide +kernel
theorem dX8_meaningsThatFit_16 : decode cX8_meaningsThatFit 16 = .ok (.ifCond .eq 12, 3) := by decide +kernel
theorem dX8_meaningsThatFit_19 : decode cX8_meaningsThatFit 19 = .ok (.iload_n 2, 1) := by decide +kernel
theorem dX8_meaningsThatFit_20 : decode cX8_meaningsThatFit 20 = .ok (.iconst 1, 1) := by decide +kernel
theorem dX8_meaningsThatFit_21 : decode cX8_meaningsThatFit 21 = .ok (.iload_n 3, 1) := by decide +kernel
theorem dX8_meaningsThatFit_22 : decode cX8_meaningsThatFit 22 = .ok (.invokestatic 35, 3) := by decide +kernel
theorem dX8_meaningsThatFit_25 : decode cX8_meaningsThatFit 25 = .ok (.ishl, 1) := by decide +kernel
theorem dX8_meaningsThatFit_26 : decode cX8_meaningsThatFit 26 = .ok (.ior, 1) := by decide +kernel
theorem dX8_meaningsThatFit_27 : decode cX8_meaningsThatFit 27 = .ok (.istore_n 2, 1) := by decide +kernel
theorem dX8_meaningsThatFit_28 : decode cX8_meaningsThatFit 28 = .ok (.iinc 3 1, 3) := by decide +kernel
theorem dX8_meaningsThatFit_31 : decode cX8_meaningsThatFit 31 = .ok (.goto (-27), 3) := by decide +kernel
theorem dX8_meaningsThatFit_34 : decode cX8_meaningsThatFit 34 = .ok (.iload_n 2, 1) := by decide +kernel
theorem dX8_meaningsThatFit_35 : decode cX8_meaningsThatFit 35 = .ok (.ireturn, 1) := by decide +kernel
set_option maxRecDepth 4000 in
set_option maxHeartbeats 4000000 in
theorem m_X8_meaningsThatFit (l : Launch) (g : qGm) (M : qMem) {mn : Int} (hmn : qIn mn) (hs : 0 ≤ M 29 0 2 ∧ M 29 0 2 ≤ 6) (hb : ∀ i, 0 ≤ i → i < M 29 0 2 → 0 ≤ M 30 0 i ∧ M 30 0 i < 5) : qOk l g 3 yX8_meaningsThatFit cX8_meaningsThatFit 4 (some .int) [qR g 29 0, qI mn] M (qEv (some (sOr (fun k => if sFits (M 29 0 2) (M 30 0) (M 31 0) mn k = true then qShl 1 (sMean k) else 0) 48)) M) := by
  refine q_ok (by decide +kernel) (Nat.le_of_ble_eq_true rfl) (fun X C' hn => ?_)
  have C := C'.1
  refine q_iconst C dX8_meaningsThatFit_0 ?_
  refine q_istoren C dX8_meaningsThatFit_1 hn (by decide) rfl ?_
  refine q_iconst C dX8_meaningsThatFit_2 ?_
  refine q_istoren C dX8_meaningsThatFit_3 hn (by decide) rfl ?_
  have L4 : ∀ (n4 : Nat) (s : Int) (i : Int), 48 - i < (n4 : Int) → (0 ≤ i) → (i ≤ 48) → (s = sOr (fun k => if sFits (M 29 0 2) (M 30 0) (M 31 0) mn k = true then qShl 1 (sMean k) else 0) i) → qV l g X M 4 [(0, qR g 29 0), (1, qI mn), (2, qI s), (3, qI i)] [] := by
    intro n4
    induction n4 with
    | zero => intro s i hm4 h0 h1 hs2; exfalso; first | omega | (simp at *; omega)
    | succ n4 ih4 =>
      intro s i hm4 h0 h1 hs2
      have hq : qIn s := by rw [hs2]; exact sOr_in _ _
      refine q_iloadn C dX8_meaningsThatFit_4 rfl ?_
      refine q_bipush C dX8_meaningsThatFit_5 (by decide) ?_
      refine q_icmp_ge C 34 dX8_meaningsThatFit_7 (by decide) (by first | assumption | omega | exact q_tin _ | exact q_bIn _) (by first | assumption | omega | exact q_tin _ | exact q_bIn _) (fun h7 => ?_) (fun h7 => ?_)
      · refine q_iloadn C dX8_meaningsThatFit_34 rfl ?_
        refine q_iret C' dX8_meaningsThatFit_35 (by first | assumption | omega | exact q_tin _ | exact q_bIn _) ?_
        have : i = 48 := by omega
        subst this
        exact ⟨congrArg some hs2, rfl⟩
      · refine q_aloadn C dX8_meaningsThatFit_10 rfl ?_
        refine q_iloadn C dX8_meaningsThatFit_11 rfl ?_
        refine q_iloadn C dX8_meaningsThatFit_12 rfl ?_
        refine cv_RX8_32 C (by decide) (m_X8_fits l g _ hmn hs hb (by omega)) dX8_meaningsThatFit_13 (Nat.le_of_ble_eq_true rfl) (fun r13 => ?_)
        refine q_ifeqB C 28 dX8_meaningsThatFit_16 (by decide) (fun h16 => ?_) (fun h16 => ?_)
        · refine q_iinc C dX8_meaningsThatFit_28 rfl hn (by decide) rfl ?_
          refine q_goto C (tgt := 4) dX8_meaningsThatFit_31 (by decide) ?_
          exact q_ls (by exact ⟨rfl, rfl, rfl, rfl, trivial⟩) (ih4 _ _ (by omega) (by omega) (by omega) (by rw [sOr_s _ h0]; first | (rw [if_pos h16, hs2]; done) | (rw [if_neg h16, ← hs2, q_or0 hq])))
        · refine q_iloadn C dX8_meaningsThatFit_19 rfl ?_
          refine q_iconst C dX8_meaningsThatFit_20 ?_
          refine q_iloadn C dX8_meaningsThatFit_21 rfl ?_
          refine cv_RX8_35 C (by decide) (m_X1_meaning l g _ (by omega)) dX8_meaningsThatFit_22 (Nat.le_of_ble_eq_true rfl) (fun r22 => ?_)
          refine q_ishl C dX8_meaningsThatFit_25 ?_
          refine q_ior C dX8_meaningsThatFit_26 ?_
          refine q_istoren C dX8_meaningsThatFit_27 hn (by decide) rfl ?_
          refine q_iinc C dX8_meaningsThatFit_28 rfl hn (by decide) rfl ?_
          refine q_goto C (tgt := 4) dX8_meaningsThatFit_31 (by decide) ?_
          exact q_ls (by exact ⟨rfl, rfl, rfl, rfl, trivial⟩) (ih4 _ _ (by omega) (by omega) (by omega) (by rw [sOr_s _ h0]; first | (rw [if_pos h16, hs2]; done) | (rw [if_neg h16, ← hs2, q_or0 hq])))
  exact q_ls (by exact ⟨rfl, rfl, rfl, rfl, trivial⟩) (L4 1000 _ _ (by omega) (by omega) (by omega) (by rfl))
theorem dX8_countAlike_0 : decode cX8_countAlike 0 = .ok (.iconst 0, 1) := by decide +kernel
theorem dX8_countAlike_1 : decode cX8_countAlike 1 = .ok (.istore 4, 2) := by decide +kernel
theorem dX8_countAlike_3 : decode cX8_countAlike 3 = .ok (.iconst 0, 1) := by decide +kernel
theorem dX8_countAlike_4 : decode cX8_countAlike 4 = .ok (.istore 5, 2) := by decide +kernel
theorem dX8_countAlike_6 : decode cX8_countAlike 6 = .ok (.iload 5, 2) := by decide +kernel
theorem dX8_countAlike_8 : decode cX8_countAlike 8 = .ok (.bipush 48, 2) := by decide +kernel
theorem dX8_countAlike_10 : decode cX8_countAlike 10 = .ok (.if_icmp .ge 32, 3) := by decide +kernel
theorem dX8_countAlike_13 : decode cX8_countAlike 13 = .ok (.iload 5, 2) := by decide +kernel
theorem dX8_countAlike_15 : decode cX8_countAlike 15 = .ok (.iload_n 2, 1) := by decide +kernel
theorem dX8_countAlike_16 : decode cX8_countAlike 16 = .ok (.invokestatic 22, 3) := by decide +kernel
theorem dX8_countAlike_19 : decode cX8_countAlike 19 = .ok (.iload_n 3, 1) := by decide +kernel
theorem dX8_countAlike_20 : decode cX8_countAlike 20 = .ok (.if_icmp .ne 16, 3) := by decide +kernel
theorem dX8_countAlike_23 : decode cX8_countAlike 23 = .ok (.aload_n 0, 1) := by decide +kernel
theorem dX8_countAlike_24 : decode cX8_countAlike 24 = .ok (.iload_n 1, 1) := by decide +kernel
theorem dX8_countAlike_25 : decode cX8_countAlike 25 = .ok (.iload 5, 2) := by decide +kernel
theorem dX8_countAlike_27 : decode cX8_countAlike 27 = .ok (.invokevirtual 32, 3) := by decide +kernel
theorem dX8_countAlike_30 : decode cX8_countAlike 30 = .ok (.ifCond .eq 6, 3) := by decide +kernel
theorem dX8_countAlike_33 : decode cX8_countAlike 33 = .ok (.iinc 4 1, 3) := by decide +kernel
theorem dX8_countAlike_36 : decode cX8_countAlike 36 = .ok (.iinc 5 1, 3) := by decide +kernel
theorem dX8_countAlike_39 : decode cX8_countAlike 39 = .ok (.goto (-33), 3) := by decide +kernel
theorem dX8_countAlike_42 : decode cX8_countAlike 42 = .ok (.iload 4, 2) := by decide +kernel
theorem dX8_countAlike_44 : decode cX8_countAlike 44 = .ok (.ireturn, 1) := by decide +kernel
set_option maxRecDepth 4000 in
set_option maxHeartbeats 4000000 in
theorem m_X8_countAlike (l : Launch) (g : qGm) (M : qMem) {mn : Int} (hmn : qIn mn) (hs : 0 ≤ M 29 0 2 ∧ M 29 0 2 ≤ 6) (hb : ∀ i, 0 ≤ i → i < M 29 0 2 → 0 ≤ M 30 0 i ∧ M 30 0 i < 5) {p v : Int} (hp : 0 ≤ p ∧ p < 5) (hv : 0 ≤ v ∧ v < 3) : qOk l g 3 yX8_countAlike cX8_countAlike 6 (some .int) [qR g 29 0, qI mn, qI p, qI v] M (qEv (some (sSum (fun k => qB (sPart k p = v ∧ sFits (M 29 0 2) (M 30 0) (M 31 0) mn k = true)) 48)) M) := by
  refine q_ok (by decide +kernel) (Nat.le_of_ble_eq_true rfl) (fun X C' hn => ?_)
  have C := C'.1
  refine q_iconst C dX8_countAlike_0 ?_
  refine q_istore C dX8_countAlike_1 hn (by decide) rfl ?_
  refine q_iconst C dX8_countAlike_3 ?_
  refine q_istore C dX8_countAlike_4 hn (by decide) rfl ?_
  have L6 : ∀ (n6 : Nat) (s : Int) (i : Int), 48 - i < (n6 : Int) → (0 ≤ i) → (i ≤ 48) → (s = sSum (fun k => qB (sPart k p = v ∧ sFits (M 29 0 2) (M 30 0) (M 31 0) mn k = true)) i) → (0 ≤ s ∧ s ≤ i) → qV l g X M 6 [(0, qR g 29 0), (1, qI mn), (2, qI p), (3, qI v), (4, qI s), (5, qI i)] [] := by
    intro n6
    induction n6 with
    | zero => intro s i hm6 h0 h1 hs2 hb2; exfalso; first | omega | (simp at *; omega)
    | succ n6 ih6 =>
      intro s i hm6 h0 h1 hs2 hb2
      refine q_iload C dX8_countAlike_6 rfl ?_
      refine q_bipush C dX8_countAlike_8 (by decide) ?_
      refine q_icmp_ge C 42 dX8_countAlike_10 (by decide) (by first | assumption | omega | exact q_tin _ | exact q_bIn _) (by first | assumption | omega | exact q_tin _ | exact q_bIn _) (fun h10 => ?_) (fun h10 => ?_)
      · refine q_iload C dX8_countAlike_42 rfl ?_
        refine q_iret C' dX8_countAlike_44 (by first | assumption | omega | exact q_tin _ | exact q_bIn _) ?_
        have : i = 48 := by omega
        subst this
        exact ⟨congrArg some hs2, rfl⟩
      · refine q_iload C dX8_countAlike_13 rfl ?_
        refine q_iloadn C dX8_countAlike_15 rfl ?_
        refine cv_RX8_22 C (by decide) (m_X1_partOf l g _ (by omega) hp) dX8_countAlike_16 (Nat.le_of_ble_eq_true rfl) (fun r16 => ?_)
        refine q_iloadn C dX8_countAlike_19 rfl ?_
        refine q_icmp_ne C 36 dX8_countAlike_20 (by decide) (by first | assumption | omega | exact q_tin _ | exact q_bIn _) (by first | assumption | omega | exact q_tin _ | exact q_bIn _) (fun h20 => ?_) (fun h20 => ?_)
        · refine q_iinc C dX8_countAlike_36 rfl hn (by decide) rfl ?_
          refine q_goto C (tgt := 6) dX8_countAlike_39 (by decide) ?_
          exact q_ls (by exact ⟨rfl, rfl, rfl, rfl, rfl, rfl, trivial⟩) (ih6 _ _ (by omega) (by omega) (by omega) (by rw [sSum_s _ (by omega)]; first | (rw [q_bT ⟨by omega, by assumption⟩]; omega) | (rw [q_bF (fun q => by first | exact absurd q.2 (by assumption) | omega)]; omega)) (by omega))
        · refine q_aloadn C dX8_countAlike_23 rfl ?_
          refine q_iloadn C dX8_countAlike_24 rfl ?_
          refine q_iload C dX8_countAlike_25 rfl ?_
          refine cv_RX8_32 C (by decide) (m_X8_fits l g _ hmn hs hb (by omega)) dX8_countAlike_27 (Nat.le_of_ble_eq_true rfl) (fun r27 => ?_)
          refine q_ifeqB C 36 dX8_countAlike_30 (by decide) (fun h30 => ?_) (fun h30 => ?_)
          · refine q_iinc C dX8_countAlike_36 rfl hn (by decide) rfl ?_
            refine q_goto C (tgt := 6) dX8_countAlike_39 (by decide) ?_
            exact q_ls (by exact ⟨rfl, rfl, rfl, rfl, rfl, rfl, trivial⟩) (ih6 _ _ (by omega) (by omega) (by omega) (by rw [sSum_s _ (by omega)]; first | (rw [q_bT ⟨by omega, by assumption⟩]; omega) | (rw [q_bF (fun q => by first | exact absurd q.2 (by assumption) | omega)]; omega)) (by omega))
          · refine q_iinc C dX8_countAlike_33 rfl hn (by decide) rfl ?_
            refine q_iinc C dX8_countAlike_36 rfl hn (by decide) rfl ?_
            refine q_goto C (tgt := 6) dX8_countAlike_39 (by decide) ?_
            exact q_ls (by exact ⟨rfl, rfl, rfl, rfl, rfl, rfl, trivial⟩) (ih6 _ _ (by omega) (by omega) (by omega) (by rw [sSum_s _ (by omega)]; first | (rw [q_bT ⟨by omega, by assumption⟩]; omega) | (rw [q_bF (fun q => by first | exact absurd q.2 (by assumption) | omega)]; omega)) (by omega))
  exact q_ls (by exact ⟨rfl, rfl, rfl, rfl, rfl, rfl, trivial⟩) (L6 1000 _ _ (by omega) (by omega) (by omega) (by rfl) (by omega))
def sAlike (np : Int) (pa va : Int → Int) (mn p v : Int) : Int := sSum (fun k => qB (sPart k p = v ∧ sFits np pa va mn k = true)) 48
theorem q_b01' (p : Prop) [Decidable p] : 0 ≤ qB p ∧ qB p ≤ 1 := by rcases q_b01 p with h | h <;> omega
theorem sAlike_in (np : Int) (pa va : Int → Int) (mn p v : Int) : 0 ≤ sAlike np pa va mn p v ∧ sAlike np pa va mn p v ≤ 48 := by
  have := sSum_b (f := fun k => qB (sPart k p = v ∧ sFits np pa va mn k = true)) (n := 48) (B := 1) (by omega) (fun k _ _ => q_b01' _)
  unfold sAlike
  omega
def sAlk (np : Int) (pa va : Int → Int) (mn p : Int) : Int := sMx (fun v => sAlike np pa va mn p v) 0 3
theorem sAlk_in (np : Int) (pa va : Int → Int) (mn p : Int) : 0 ≤ sAlk np pa va mn p ∧ sAlk np pa va mn p ≤ 48 := sMx_b (by omega) (fun k _ _ => (sAlike_in np pa va mn p k).2)
theorem dX8_mostAlike_0 : decode cX8_mostAlike 0 = .ok (.iconst 0, 1) := by decide +kernel
theorem dX8_mostAlike_1 : decode cX8_mostAlike 1 = .ok (.istore_n 3, 1) := by decide +kernel
theorem dX8_mostAlike_2 : decode cX8_mostAlike 2 = .ok (.iconst 0, 1) := by decide +kernel
theorem dX8_mostAlike_3 : decode cX8_mostAlike 3 = .ok (.istore 4, 2) := by decide +kernel
theorem dX8_mostAlike_5 : decode cX8_mostAlike 5 = .ok (.iload 4, 2) := by decide +kernel
theorem dX8_mostAlike_7 : decode cX8_mostAlike 7 = .ok (.iconst 2, 1) := by decide +kernel
theorem dX8_mostAlike_8 : decode cX8_mostAlike 8 = .ok (.if_icmp .gt 22, 3) := by decide +kernel
theorem dX8_mostAlike_11 : decode cX8_mostAlike 11 = .ok (.iload_n 3, 1) := by decide +kernel
theorem dX8_mostAlike_12 : decode cX8_mostAlike 12 = .ok (.aload_n 0, 1) := by decide +kernel
theorem dX8_mostAlike_13 : decode cX8_mostAlike 13 = .ok (.iload_n 1, 1) := by decide +kernel
theorem dX8_mostAlike_14 : decode cX8_mostAlike 14 = .ok (.iload_n 2, 1) := by decide +kernel
theorem dX8_mostAlike_15 : decode cX8_mostAlike 15 = .ok (.iload 4, 2) := by decide +kernel
theorem dX8_mostAlike_17 : decode cX8_mostAlike 17 = .ok (.invokevirtual 45, 3) := by decide +kernel
theorem dX8_mostAlike_20 : decode cX8_mostAlike 20 = .ok (.invokestatic 49, 3) := by decide +kernel
theorem dX8_mostAlike_23 : decode cX8_mostAlike 23 = .ok (.istore_n 3, 1) := by decide +kernel
theorem dX8_mostAlike_24 : decode cX8_mostAlike 24 = .ok (.iinc 4 1, 3) := by decide +kernel
theorem dX8_mostAlike_27 : decode cX8_mostAlike 27 = .ok (.goto (-22), 3) := by decide +kernel
theorem dX8_mostAlike_30 : decode cX8_mostAlike 30 = .ok (.iload_n 3, 1) := by decide +kernel
theorem dX8_mostAlike_31 : decode cX8_mostAlike 31 = .ok (.ireturn, 1) := by decide +kernel
set_option maxRecDepth 4000 in
set_option maxHeartbeats 4000000 in
theorem m_X8_mostAlike (l : Launch) (g : qGm) (M : qMem) {mn : Int} (hmn : qIn mn) (hs : 0 ≤ M 29 0 2 ∧ M 29 0 2 ≤ 6) (hb : ∀ i, 0 ≤ i → i < M 29 0 2 → 0 ≤ M 30 0 i ∧ M 30 0 i < 5) {p : Int} (hp : 0 ≤ p ∧ p < 5) : qOk l g 4 yX8_mostAlike cX8_mostAlike 5 (some .int) [qR g 29 0, qI mn, qI p] M (qEv (some (sAlk (M 29 0 2) (M 30 0) (M 31 0) mn p)) M) := by
  refine q_ok (by decide +kernel) (Nat.le_of_ble_eq_true rfl) (fun X C' hn => ?_)
  have C := C'.1
  refine q_iconst C dX8_mostAlike_0 ?_
  refine q_istoren C dX8_mostAlike_1 hn (by decide) rfl ?_
  refine q_iconst C dX8_mostAlike_2 ?_
  refine q_istore C dX8_mostAlike_3 hn (by decide) rfl ?_
  have L5 : ∀ (n5 : Nat) (s : Int) (i : Int), 3 - i < (n5 : Int) → (0 ≤ i) → (i ≤ 3) → (s = sMx (fun v => sAlike (M 29 0 2) (M 30 0) (M 31 0) mn p v) 0 i) → (qIn s) → qV l g X M 5 [(0, qR g 29 0), (1, qI mn), (2, qI p), (3, qI s), (4, qI i)] [] := by
    intro n5
    induction n5 with
    | zero => intro s i hm5 h0 h1 hs2 hb2; exfalso; first | omega | (simp at *; omega)
    | succ n5 ih5 =>
      intro s i hm5 h0 h1 hs2 hb2
      refine q_iload C dX8_mostAlike_5 rfl ?_
      refine q_iconst C dX8_mostAlike_7 ?_
      refine q_icmp_gt C 30 dX8_mostAlike_8 (by decide) (by first | assumption | omega | exact q_tin _ | exact q_bIn _) (by first | assumption | omega | exact q_tin _ | exact q_bIn _) (fun h8 => ?_) (fun h8 => ?_)
      · refine q_iloadn C dX8_mostAlike_30 rfl ?_
        refine q_iret C' dX8_mostAlike_31 (by first | assumption | omega | exact q_tin _ | exact q_bIn _) ?_
        have : i = 3 := by omega
        subst this
        exact ⟨congrArg some hs2, rfl⟩
      · refine q_iloadn C dX8_mostAlike_11 rfl ?_
        refine q_aloadn C dX8_mostAlike_12 rfl ?_
        refine q_iloadn C dX8_mostAlike_13 rfl ?_
        refine q_iloadn C dX8_mostAlike_14 rfl ?_
        refine q_iload C dX8_mostAlike_15 rfl ?_
        refine cv_RX8_45 C (by decide) (m_X8_countAlike l g _ hmn hs hb hp (by omega)) dX8_mostAlike_17 (Nat.le_of_ble_eq_true rfl) (fun r17 => ?_)
        refine q_mmax C q_ml_RX8_49 (by first | assumption | omega | exact q_tin _ | exact q_bIn _) (by first | assumption | omega | exact q_tin _ | exact q_bIn _) (by decide) (Nat.le_of_ble_eq_true rfl) dX8_mostAlike_20 (fun r20 => ?_)
        refine q_istoren C dX8_mostAlike_23 hn (by decide) rfl ?_
        refine q_iinc C dX8_mostAlike_24 rfl hn (by decide) rfl ?_
        refine q_goto C (tgt := 5) dX8_mostAlike_27 (by decide) ?_
        exact q_ls (by exact ⟨rfl, rfl, rfl, rfl, rfl, trivial⟩) (ih5 _ _ (by omega) (by omega) (by omega) (by rw [sMx_s _ _ h0, ← hs2]; rfl) (by assumption))
  exact q_ls (by exact ⟨rfl, rfl, rfl, rfl, rfl, trivial⟩) (L5 1000 _ _ (by omega) (by omega) (by omega) (by rfl) (by omega))
theorem dX8_bestPart_0 : decode cX8_bestPart 0 = .ok (.iconst (-1), 1) := by decide +kernel
theorem dX8_bestPart_1 : decode cX8_bestPart 1 = .ok (.istore_n 2, 1) := by decide +kernel
theorem dX8_bestPart_2 : decode cX8_bestPart 2 = .ok (.aload_n 0, 1) := by decide +kernel
theorem dX8_bestPart_3 : decode cX8_bestPart 3 = .ok (.iload_n 1, 1) := by decide +kernel
theorem dX8_bestPart_4 : decode cX8_bestPart 4 = .ok (.invokevirtual 39, 3) := by decide +kernel
theorem dX8_bestPart_7 : decode cX8_bestPart 7 = .ok (.istore_n 3, 1) := by decide +kernel
theorem dX8_bestPart_8 : decode cX8_bestPart 8 = .ok (.iconst 0, 1) := by decide +kernel
theorem dX8_bestPart_9 : decode cX8_bestPart 9 = .ok (.istore 4, 2) := by decide +kernel
theorem dX8_bestPart_11 : decode cX8_bestPart 11 = .ok (.iload 4, 2) := by decide +kernel
theorem dX8_bestPart_13 : decode cX8_bestPart 13 = .ok (.iconst 5, 1) := by decide +kernel
theorem dX8_bestPart_14 : decode cX8_bestPart 14 = .ok (.if_icmp .ge 30, 3) := by decide +kernel
theorem dX8_bestPart_17 : decode cX8_bestPart 17 = .ok (.aload_n 0, 1) := by decide +kernel
theorem dX8_bestPart_18 : decode cX8_bestPart 18 = .ok (.iload_n 1, 1) := by decide +kernel
theorem dX8_bestPart_19 : decode cX8_bestPart 19 = .ok (.iload 4, 2) := by decide +kernel
theorem dX8_bestPart_21 : decode cX8_bestPart 21 = .ok (.invokevirtual 42, 3) := by decide +kernel
theorem dX8_bestPart_24 : decode cX8_bestPart 24 = .ok (.istore 5, 2) := by decide +kernel
theorem dX8_bestPart_26 : decode cX8_bestPart 26 = .ok (.iload 5, 2) := by decide +kernel
theorem dX8_bestPart_28 : decode cX8_bestPart 28 = .ok (.iload_n 3, 1) := by decide +kernel
theorem dX8_bestPart_29 : decode cX8_bestPart 29 = .ok (.if_icmp .ge 9, 3) := by decide +kernel
theorem dX8_bestPart_32 : decode cX8_bestPart 32 = .ok (.iload 5, 2) := by decide +kernel
theorem dX8_bestPart_34 : decode cX8_bestPart 34 = .ok (.istore_n 3, 1) := by decide +kernel
theorem dX8_bestPart_35 : decode cX8_bestPart 35 = .ok (.iload 4, 2) := by decide +kernel
theorem dX8_bestPart_37 : decode cX8_bestPart 37 = .ok (.istore_n 2, 1) := by decide +kernel
theorem dX8_bestPart_38 : decode cX8_bestPart 38 = .ok (.iinc 4 1, 3) := by decide +kernel
theorem dX8_bestPart_41 : decode cX8_bestPart 41 = .ok (.goto (-30), 3) := by decide +kernel
theorem dX8_bestPart_44 : decode cX8_bestPart 44 = .ok (.iload_n 2, 1) := by decide +kernel
theorem dX8_bestPart_45 : decode cX8_bestPart 45 = .ok (.ireturn, 1) := by decide +kernel
set_option maxRecDepth 4000 in
set_option maxHeartbeats 4000000 in
theorem m_X8_bestPart (l : Launch) (g : qGm) (M : qMem) {mn : Int} (hmn : qIn mn) (hs : 0 ≤ M 29 0 2 ∧ M 29 0 2 ≤ 6) (hb : ∀ i, 0 ≤ i → i < M 29 0 2 → 0 ≤ M 30 0 i ∧ M 30 0 i < 5) : qOk l g 5 yX8_bestPart cX8_bestPart 6 (some .int) [qR g 29 0, qI mn] M (qEv (some (sAm (fun p => - sAlk (M 29 0 2) (M 30 0) (M 31 0) mn p) (-1) (- (sSum (fun k => qB (sFits (M 29 0 2) (M 30 0) (M 31 0) mn k = true)) 48)) 5).1) M) := by
  refine q_ok (by decide +kernel) (Nat.le_of_ble_eq_true rfl) (fun X C' hn => ?_)
  have C := C'.1
  refine q_iconst C dX8_bestPart_0 ?_
  refine q_istoren C dX8_bestPart_1 hn (by decide) rfl ?_
  refine q_aloadn C dX8_bestPart_2 rfl ?_
  refine q_iloadn C dX8_bestPart_3 rfl ?_
  refine cv_RX8_39 C (by decide) (m_X8_countFits l g _ hmn hs hb) dX8_bestPart_4 (Nat.le_of_ble_eq_true rfl) (fun r4 => ?_)
  refine q_istoren C dX8_bestPart_7 hn (by decide) rfl ?_
  refine q_iconst C dX8_bestPart_8 ?_
  refine q_istore C dX8_bestPart_9 hn (by decide) rfl ?_
  have L11 : ∀ (n11 : Nat) (s : Int) (t : Int) (i : Int), 5 - i < (n11 : Int) → (0 ≤ i) → (i ≤ 5) → ((s, - t) = sAm (fun p => - sAlk (M 29 0 2) (M 30 0) (M 31 0) mn p) (-1) (- (sSum (fun k => qB (sFits (M 29 0 2) (M 30 0) (M 31 0) mn k = true)) 48)) i) → (-1 ≤ s ∧ s ≤ i) → (qIn t) → qV l g X M 11 [(0, qR g 29 0), (1, qI mn), (2, qI s), (3, qI t), (4, qI i)] [] := by
    intro n11
    induction n11 with
    | zero => intro s t i hm11 h0 h1 hs2 hb2 hb3; exfalso; first | omega | (simp at *; omega)
    | succ n11 ih11 =>
      intro s t i hm11 h0 h1 hs2 hb2 hb3
      have hal := sAlk_in (M 29 0 2) (M 30 0) (M 31 0) mn i
      refine q_iload C dX8_bestPart_11 rfl ?_
      refine q_iconst C dX8_bestPart_13 ?_
      refine q_icmp_ge C 44 dX8_bestPart_14 (by decide) (by first | assumption | omega | exact q_tin _ | exact q_bIn _) (by first | assumption | omega | exact q_tin _ | exact q_bIn _) (fun h14 => ?_) (fun h14 => ?_)
      · refine q_iloadn C dX8_bestPart_44 rfl ?_
        refine q_iret C' dX8_bestPart_45 (by first | assumption | omega | exact q_tin _ | exact q_bIn _) ?_
        have : i = 5 := by omega
        subst this
        rw [← hs2]
        exact ⟨rfl, rfl⟩
      · refine q_aloadn C dX8_bestPart_17 rfl ?_
        refine q_iloadn C dX8_bestPart_18 rfl ?_
        refine q_iload C dX8_bestPart_19 rfl ?_
        refine cv_RX8_42 C (by decide) (m_X8_mostAlike l g _ hmn hs hb (by omega)) dX8_bestPart_21 (Nat.le_of_ble_eq_true rfl) (fun r21 => ?_)
        refine q_istore C dX8_bestPart_24 hn (by decide) rfl ?_
        refine q_iload C dX8_bestPart_26 rfl ?_
        refine q_iloadn C dX8_bestPart_28 rfl ?_
        refine q_icmp_ge C 38 dX8_bestPart_29 (by decide) (by first | assumption | omega | exact q_tin _ | exact q_bIn _) (by first | assumption | omega | exact q_tin _ | exact q_bIn _) (fun h29 => ?_) (fun h29 => ?_)
        · refine q_iinc C dX8_bestPart_38 rfl hn (by decide) rfl ?_
          refine q_goto C (tgt := 11) dX8_bestPart_41 (by decide) ?_
          exact q_ls (by exact ⟨rfl, rfl, rfl, rfl, rfl, trivial⟩) (ih11 _ _ _ (by omega) (by omega) (by omega) (by rw [sAm_s _ _ _ (by omega), ← hs2]; first | (rw [if_pos (by show - t < - _; omega)]) | (rw [if_neg (by show ¬ - t < - _; omega)])) (by omega) (by first | assumption | omega))
        · refine q_iload C dX8_bestPart_32 rfl ?_
          refine q_istoren C dX8_bestPart_34 hn (by decide) rfl ?_
          refine q_iload C dX8_bestPart_35 rfl ?_
          refine q_istoren C dX8_bestPart_37 hn (by decide) rfl ?_
          refine q_iinc C dX8_bestPart_38 rfl hn (by decide) rfl ?_
          refine q_goto C (tgt := 11) dX8_bestPart_41 (by decide) ?_
          exact q_ls (by exact ⟨rfl, rfl, rfl, rfl, rfl, trivial⟩) (ih11 _ _ _ (by omega) (by omega) (by omega) (by rw [sAm_s _ _ _ (by omega), ← hs2]; first | (rw [if_pos (by show - t < - _; omega)]) | (rw [if_neg (by show ¬ - t < - _; omega)])) (by omega) (by first | assumption | omega))
  exact q_ls (by exact ⟨rfl, rfl, rfl, rfl, rfl, trivial⟩) (L11 1000 _ _ _ (by omega) (by omega) (by omega) (by rfl) (by omega) (by first | assumption | omega))
