theorem dX9_append_0 : decode cX9_append 0 = .ok (.aload_n 0, 1) := by decide +kernel
theorem dX9_append_1 : decode cX9_append 1 = .ok (.getfield 19, 3) := by decide +kernel
theorem dX9_append_4 : decode cX9_append 4 = .ok (.sipush 240, 3) := by decide +kernel
theorem dX9_append_7 : decode cX9_append 7 = .ok (.if_icmp .lt 5, 3) := by decide +kernel
theorem dX9_append_10 : decode cX9_append 10 = .ok (.iconst 0, 1) := by decide +kernel
theorem dX9_append_11 : decode cX9_append 11 = .ok (.ireturn, 1) := by decide +kernel
theorem dX9_append_12 : decode cX9_append 12 = .ok (.aload_n 0, 1) := by decide +kernel
theorem dX9_append_13 : decode cX9_append 13 = .ok (.getfield 9, 3) := by decide +kernel
theorem dX9_append_16 : decode cX9_append 16 = .ok (.aload_n 0, 1) := by decide +kernel
theorem dX9_append_17 : decode cX9_append 17 = .ok (.getfield 19, 3) := by decide +kernel
theorem dX9_append_20 : decode cX9_append 20 = .ok (.iload_n 1, 1) := by decide +kernel
theorem dX9_append_21 : decode cX9_append 21 = .ok (.iastore, 1) := by decide +kernel
theorem dX9_append_22 : decode cX9_append 22 = .ok (.aload_n 0, 1) := by decide +kernel
theorem dX9_append_23 : decode cX9_append 23 = .ok (.dup, 1) := by decide +kernel
theorem dX9_append_24 : decode cX9_append 24 = .ok (.getfield 19, 3) := by decide +kernel
theorem dX9_append_27 : decode cX9_append 27 = .ok (.iconst 1, 1) := by decide +kernel
theorem dX9_append_28 : decode cX9_append 28 = .ok (.iadd, 1) := by decide +kernel
theorem dX9_append_29 : decode cX9_append 29 = .ok (.putfield 19, 3) := by decide +kernel
theorem dX9_append_32 : decode cX9_append 32 = .ok (.iconst 1, 1) := by decide +kernel
theorem dX9_append_33 : decode cX9_append 33 = .ok (.ireturn, 1) := by decide +kernel
set_option maxRecDepth 4000 in
set_option maxHeartbeats 4000000 in
theorem m_X9_append (l : Launch) (g : qGm) (M : qMem) {x : Int} (hx : qIn x) (hL : 0 ≤ M 1 0 2 ∧ M 1 0 2 ≤ 240) : qOk l g 1 yX9_append cX9_append 2 (some .boolean) [qR g 1 0, qI x] M (qEv (some (qB (M 1 0 2 < 240))) (if M 1 0 2 < 240 then qUp (qUp M 2 0 (M 1 0 2) x) 1 0 2 (M 1 0 2 + 1) else M)) := by
  refine q_ok (by decide +kernel) (Nat.le_of_ble_eq_true rfl) (fun X C' hn => ?_)
  have C := C'.1
  refine q_aloadn C dX9_append_0 rfl ?_
  refine gf_RX9_19 C dX9_append_1 (fun r1 => ?_)
  refine q_sipush C dX9_append_4 (by decide) ?_
  refine q_icmp_lt C 12 dX9_append_7 (by decide) (by first | assumption | omega | exact q_tin _ | exact q_bIn _) (by first | assumption | omega | exact q_tin _ | exact q_bIn _) (fun h7 => ?_) (fun h7 => ?_)
  · refine q_aloadn C dX9_append_12 rfl ?_
    refine gf_RX9_9 C dX9_append_13 ?_
    refine q_aloadn C dX9_append_16 rfl ?_
    refine gf_RX9_19 C dX9_append_17 (fun r17 => ?_)
    refine q_iloadn C dX9_append_20 rfl ?_
    refine q_iast C (by first | assumption | decide | omega) (fun _ => rfl) dX9_append_21 (by omega) (by omega) (by decide) (by first | assumption | omega | exact q_tin _ | exact q_bIn _) ?_
    refine q_aloadn C dX9_append_22 rfl ?_
    refine q_dup C dX9_append_23 rfl ?_
    refine gf_RX9_19 C dX9_append_24 (fun r24 => ?_)
    try simp only [q_rd, q_rdS, ↓reduceIte, if_true, if_false, eq_self, Nat.reduceEqDiff, Int.reduceEq, Int.reduceNeg, reduceCtorEq] at r24 ⊢
    refine q_iconst C dX9_append_27 ?_
    refine q_iadd C dX9_append_28 ?_
    refine pf_RX9_19 C (by first | assumption | omega | exact q_tin _ | exact q_bIn _) dX9_append_29 ?_
    refine q_iconst C dX9_append_32 ?_
    refine q_zret C' dX9_append_33 (by first | omega | exact q_b01 _ | simp) ?_
    refine ⟨congrArg some ?_, ?_⟩
    · first | (rw [q_bT (by omega)]; done) | (rw [q_bF (by omega)]; done)
    · first | (rw [if_pos (by omega)]; done) | (rw [if_neg (by omega)]; done)
  · refine q_iconst C dX9_append_10 ?_
    refine q_zret C' dX9_append_11 (by first | omega | exact q_b01 _ | simp) ?_
    refine ⟨congrArg some ?_, ?_⟩
    · first | (rw [q_bT (by omega)]; done) | (rw [q_bF (by omega)]; done)
    · first | (rw [if_pos (by omega)]; done) | (rw [if_neg (by omega)]; done)
theorem dX9_isFigure_0 : decode cX9_isFigure 0 = .ok (.iload_n 0, 1) := by decide +kernel
theorem dX9_isFigure_1 : decode cX9_isFigure 1 = .ok (.bipush 48, 2) := by decide +kernel
theorem dX9_isFigure_3 : decode cX9_isFigure 3 = .ok (.if_icmp .lt 13, 3) := by decide +kernel
theorem dX9_isFigure_6 : decode cX9_isFigure 6 = .ok (.iload_n 0, 1) := by decide +kernel
theorem dX9_isFigure_7 : decode cX9_isFigure 7 = .ok (.bipush 57, 2) := by decide +kernel
theorem dX9_isFigure_9 : decode cX9_isFigure 9 = .ok (.if_icmp .gt 7, 3) := by decide +kernel
theorem dX9_isFigure_12 : decode cX9_isFigure 12 = .ok (.iconst 1, 1) := by decide +kernel
theorem dX9_isFigure_13 : decode cX9_isFigure 13 = .ok (.goto 4, 3) := by decide +kernel
theorem dX9_isFigure_16 : decode cX9_isFigure 16 = .ok (.iconst 0, 1) := by decide +kernel
theorem dX9_isFigure_17 : decode cX9_isFigure 17 = .ok (.ireturn, 1) := by decide +kernel
set_option maxRecDepth 4000 in
set_option maxHeartbeats 4000000 in
theorem m_X9_isFigure (l : Launch) (g : qGm) (M : qMem) {x : Int} (hx : qIn x) : qOk l g 1 yX9_isFigure cX9_isFigure 1 (some .boolean) [qI x] M (qEv (some (qB (48 ≤ x ∧ x ≤ 57))) M) := by
  refine q_ok (by decide +kernel) (Nat.le_of_ble_eq_true rfl) (fun X C' hn => ?_)
  have C := C'.1
  refine q_iloadn C dX9_isFigure_0 rfl ?_
  refine q_bipush C dX9_isFigure_1 (by decide) ?_
  refine q_icmp_lt C 16 dX9_isFigure_3 (by decide) (by first | assumption | omega | exact q_tin _ | exact q_bIn _) (by first | assumption | omega | exact q_tin _ | exact q_bIn _) (fun h3 => ?_) (fun h3 => ?_)
  · refine q_iconst C dX9_isFigure_16 ?_
    refine q_zret C' dX9_isFigure_17 (by first | omega | exact q_b01 _ | simp) ?_
    refine ⟨congrArg some ?_, rfl⟩
    first | (rw [q_bT (by omega)]; done) | (rw [q_bF (by omega)]; done) | exact q_bIff (by omega)
  · refine q_iloadn C dX9_isFigure_6 rfl ?_
    refine q_bipush C dX9_isFigure_7 (by decide) ?_
    refine q_tI_gt C 16 17 dX9_isFigure_9 dX9_isFigure_12 dX9_isFigure_13 dX9_isFigure_16 (by decide) (by decide) rfl (by first | assumption | omega | exact q_tin _ | exact q_bIn _) (by first | assumption | omega | exact q_tin _ | exact q_bIn _) ?_
    refine q_zret C' dX9_isFigure_17 (by first | omega | exact q_b01 _ | simp) ?_
    refine ⟨congrArg some ?_, rfl⟩
    first | (rw [q_bT (by omega)]; done) | (rw [q_bF (by omega)]; done) | exact q_bIff (by omega)
/-- the first fault counts -/
def xFail (M : qMem) (f p : Int) : qMem := if M 1 0 3 = 0 then qUp (qUp M 1 0 3 f) 1 0 4 p else M
theorem dX9_fail_0 : decode cX9_fail 0 = .ok (.aload_n 0, 1) := by decide +kernel
theorem dX9_fail_1 : decode cX9_fail 1 = .ok (.getfield 22, 3) := by decide +kernel
theorem dX9_fail_4 : decode cX9_fail 4 = .ok (.ifCond .ne 13, 3) := by decide +kernel
theorem dX9_fail_7 : decode cX9_fail 7 = .ok (.aload_n 0, 1) := by decide +kernel
theorem dX9_fail_8 : decode cX9_fail 8 = .ok (.iload_n 1, 1) := by decide +kernel
theorem dX9_fail_9 : decode cX9_fail 9 = .ok (.putfield 22, 3) := by decide +kernel
theorem dX9_fail_12 : decode cX9_fail 12 = .ok (.aload_n 0, 1) := by decide +kernel
theorem dX9_fail_13 : decode cX9_fail 13 = .ok (.iload_n 2, 1) := by decide +kernel
theorem dX9_fail_14 : decode cX9_fail 14 = .ok (.putfield 25, 3) := by decide +kernel
theorem dX9_fail_17 : decode cX9_fail 17 = .ok (.return_, 1) := by decide +kernel
set_option maxRecDepth 4000 in
set_option maxHeartbeats 4000000 in
theorem m_X9_fail (l : Launch) (g : qGm) (M : qMem) {f p : Int} (hf : qIn f) (hp : qIn p) : qOk l g 1 yX9_fail cX9_fail 3 none [qR g 1 0, qI f, qI p] M (qEv none (xFail M f p)) := by
  refine q_ok (by decide +kernel) (Nat.le_of_ble_eq_true rfl) (fun X C' hn => ?_)
  have C := C'.1
  refine q_aloadn C dX9_fail_0 rfl ?_
  refine gf_RX9_22 C dX9_fail_1 (fun r1 => ?_)
  refine q_if_ne C 17 dX9_fail_4 (by decide) (by first | assumption | omega | exact q_tin _ | exact q_bIn _) (fun h4 => ?_) (fun h4 => ?_)
  · refine q_vret C' dX9_fail_17 ?_
    refine ⟨rfl, ?_⟩
    unfold xFail
    first | (rw [if_pos (by omega)]; done) | (rw [if_neg (by omega)]; done)
  · refine q_aloadn C dX9_fail_7 rfl ?_
    refine q_iloadn C dX9_fail_8 rfl ?_
    refine pf_RX9_22 C (by first | assumption | omega | exact q_tin _ | exact q_bIn _) dX9_fail_9 ?_
    refine q_aloadn C dX9_fail_12 rfl ?_
    refine q_iloadn C dX9_fail_13 rfl ?_
    refine pf_RX9_25 C (by first | assumption | omega | exact q_tin _ | exact q_bIn _) dX9_fail_14 ?_
    refine q_vret C' dX9_fail_17 ?_
    refine ⟨rfl, ?_⟩
    unfold xFail
    first | (rw [if_pos (by omega)]; done) | (rw [if_neg (by omega)]; done)
theorem dX9_peek_0 : decode cX9_peek 0 = .ok (.aload_n 0, 1) := by decide +kernel
theorem dX9_peek_1 : decode cX9_peek 1 = .ok (.getfield 15, 3) := by decide +kernel
theorem dX9_peek_4 : decode cX9_peek 4 = .ok (.aload_n 0, 1) := by decide +kernel
theorem dX9_peek_5 : decode cX9_peek 5 = .ok (.getfield 19, 3) := by decide +kernel
theorem dX9_peek_8 : decode cX9_peek 8 = .ok (.if_icmp .ge 30, 3) := by decide +kernel
theorem dX9_peek_11 : decode cX9_peek 11 = .ok (.aload_n 0, 1) := by decide +kernel
theorem dX9_peek_12 : decode cX9_peek 12 = .ok (.getfield 9, 3) := by decide +kernel
theorem dX9_peek_15 : decode cX9_peek 15 = .ok (.aload_n 0, 1) := by decide +kernel
theorem dX9_peek_16 : decode cX9_peek 16 = .ok (.getfield 15, 3) := by decide +kernel
theorem dX9_peek_19 : decode cX9_peek 19 = .ok (.iaload, 1) := by decide +kernel
theorem dX9_peek_20 : decode cX9_peek 20 = .ok (.bipush 32, 2) := by decide +kernel
theorem dX9_peek_22 : decode cX9_peek 22 = .ok (.if_icmp .ne 16, 3) := by decide +kernel
theorem dX9_peek_25 : decode cX9_peek 25 = .ok (.aload_n 0, 1) := by decide +kernel
theorem dX9_peek_26 : decode cX9_peek 26 = .ok (.dup, 1) := by decide +kernel
theorem dX9_peek_27 : decode cX9_peek 27 = .ok (.getfield 15, 3) := by decide +kernel
theorem dX9_peek_30 : decode cX9_peek 30 = .ok (.iconst 1, 1) := by decide +kernel
theorem dX9_peek_31 : decode cX9_peek 31 = .ok (.iadd, 1) := by decide +kernel
theorem dX9_peek_32 : decode cX9_peek 32 = .ok (.putfield 15, 3) := by decide +kernel
theorem dX9_peek_35 : decode cX9_peek 35 = .ok (.goto (-35), 3) := by decide +kernel
theorem dX9_peek_38 : decode cX9_peek 38 = .ok (.aload_n 0, 1) := by decide +kernel
theorem dX9_peek_39 : decode cX9_peek 39 = .ok (.getfield 15, 3) := by decide +kernel
theorem dX9_peek_42 : decode cX9_peek 42 = .ok (.aload_n 0, 1) := by decide +kernel
theorem dX9_peek_43 : decode cX9_peek 43 = .ok (.getfield 19, 3) := by decide +kernel
theorem dX9_peek_46 : decode cX9_peek 46 = .ok (.if_icmp .ge 15, 3) := by decide +kernel
theorem dX9_peek_49 : decode cX9_peek 49 = .ok (.aload_n 0, 1) := by decide +kernel
theorem dX9_peek_50 : decode cX9_peek 50 = .ok (.getfield 9, 3) := by decide +kernel
theorem dX9_peek_53 : decode cX9_peek 53 = .ok (.aload_n 0, 1) := by decide +kernel
theorem dX9_peek_54 : decode cX9_peek 54 = .ok (.getfield 15, 3) := by decide +kernel
theorem dX9_peek_57 : decode cX9_peek 57 = .ok (.iaload, 1) := by decide +kernel
theorem dX9_peek_58 : decode cX9_peek 58 = .ok (.goto 4, 3) := by decide +kernel
theorem dX9_peek_61 : decode cX9_peek 61 = .ok (.iconst (-1), 1) := by decide +kernel
theorem dX9_peek_62 : decode cX9_peek 62 = .ok (.ireturn, 1) := by decide +kernel
set_option maxRecDepth 4000 in
set_option maxHeartbeats 4000000 in
theorem m_X9_peek (l : Launch) (g : qGm) (M : qMem) (hL : 0 ≤ M 1 0 2 ∧ M 1 0 2 ≤ 240) (hA : 0 ≤ M 1 0 1 ∧ M 1 0 1 ≤ M 1 0 2) : qOk l g 1 yX9_peek cX9_peek 1 (some .int) [qR g 1 0] M (qEv (some (pLt (M 2 0) (M 1 0 2) (pSk (M 2 0) (M 1 0 2) (M 1 0 1)))) (qUp M 1 0 1 (pSk (M 2 0) (M 1 0 2) (M 1 0 1)))) := by
  refine q_ok (by decide +kernel) (Nat.le_of_ble_eq_true rfl) (fun X C' hn => ?_)
  have C := C'.1
  have L0 : ∀ (n0 : Nat) (i : Int) (N : qMem), M 1 0 2 - i < (n0 : Int) → (0 ≤ i) → (i ≤ M 1 0 2) → (pSk (M 2 0) (M 1 0 2) (M 1 0 1) = pSk (M 2 0) (M 1 0 2) i) → (N = qUp M 1 0 1 i) → qV l g X N 0 [(0, qR g 1 0)] [] := by
    intro n0
    induction n0 with
    | zero => intro i N hm0 h0 h1 hs hN; exfalso; first | omega | (simp at *; omega)
    | succ n0 ih0 =>
      intro i N hm0 h0 h1 hs hN
      subst hN
      refine q_aloadn C dX9_peek_0 rfl ?_
      refine gf_RX9_15 C dX9_peek_1 (fun r1 => ?_)
      try simp only [q_rd, q_rdS, ↓reduceIte, if_true, if_false, eq_self, Nat.reduceEqDiff, Int.reduceEq, Int.reduceNeg, reduceCtorEq] at r1 ⊢
      refine q_aloadn C dX9_peek_4 rfl ?_
      refine gf_RX9_19 C dX9_peek_5 (fun r5 => ?_)
      try simp only [q_rd, q_rdS, ↓reduceIte, if_true, if_false, eq_self, Nat.reduceEqDiff, Int.reduceEq, Int.reduceNeg, reduceCtorEq] at r5 ⊢
      refine q_icmp_ge C 38 dX9_peek_8 (by decide) (by first | assumption | omega | exact q_tin _ | exact q_bIn _) (by first | assumption | omega | exact q_tin _ | exact q_bIn _) (fun h8 => ?_) (fun h8 => ?_)
      · refine q_aloadn C dX9_peek_38 rfl ?_
        refine gf_RX9_15 C dX9_peek_39 (fun r39 => ?_)
        try simp only [q_rd, q_rdS, ↓reduceIte, if_true, if_false, eq_self, Nat.reduceEqDiff, Int.reduceEq, Int.reduceNeg, reduceCtorEq] at r39 ⊢
        refine q_aloadn C dX9_peek_42 rfl ?_
        refine gf_RX9_19 C dX9_peek_43 (fun r43 => ?_)
        try simp only [q_rd, q_rdS, ↓reduceIte, if_true, if_false, eq_self, Nat.reduceEqDiff, Int.reduceEq, Int.reduceNeg, reduceCtorEq] at r43 ⊢
        refine q_icmp_ge C 61 dX9_peek_46 (by decide) (by first | assumption | omega | exact q_tin _ | exact q_bIn _) (by first | assumption | omega | exact q_tin _ | exact q_bIn _) (fun h46 => ?_) (fun h46 => ?_)
        · refine q_iconst C dX9_peek_61 ?_
          refine q_iret C' dX9_peek_62 (by first | assumption | omega | exact q_tin _ | exact q_bIn _) ?_
          have e9 : pSk (M 2 0) (M 1 0 2) i = i := by first | (have e8 : i = M 1 0 2 := (by omega); rw [e8]; exact pTo_e _ _) | (exact pTo_y h0 (by omega) (by rw [decide_eq_true_iff]; omega)) | (exfalso; omega)
          rw [hs, e9]
          refine ⟨congrArg some ?_, rfl⟩
          unfold pLt
          first | (rw [if_neg (by omega)]; done) | (rw [if_pos (by omega)]; done)
        · refine q_aloadn C dX9_peek_49 rfl ?_
          refine gf_RX9_9 C dX9_peek_50 ?_
          refine q_aloadn C dX9_peek_53 rfl ?_
          refine gf_RX9_15 C dX9_peek_54 (fun r54 => ?_)
          try simp only [q_rd, q_rdS, ↓reduceIte, if_true, if_false, eq_self, Nat.reduceEqDiff, Int.reduceEq, Int.reduceNeg, reduceCtorEq] at r54 ⊢
          refine q_iald C (by first | assumption | decide | omega) rfl dX9_peek_57 (by omega) (by omega) (by decide) (fun r57 => ?_)
          try simp only [q_rd, q_rdS, ↓reduceIte, if_true, if_false, eq_self, Nat.reduceEqDiff, Int.reduceEq, Int.reduceNeg, reduceCtorEq] at r57 ⊢
          refine q_goto C (tgt := 62) dX9_peek_58 (by decide) ?_
          refine q_iret C' dX9_peek_62 (by first | assumption | omega | exact q_tin _ | exact q_bIn _) ?_
          have e9 : pSk (M 2 0) (M 1 0 2) i = i := by first | (have e8 : i = M 1 0 2 := (by omega); rw [e8]; exact pTo_e _ _) | (exact pTo_y h0 (by omega) (by rw [decide_eq_true_iff]; omega)) | (exfalso; omega)
          rw [hs, e9]
          refine ⟨congrArg some ?_, rfl⟩
          unfold pLt
          first | (rw [if_neg (by omega)]; done) | (rw [if_pos (by omega)]; done)
      · refine q_aloadn C dX9_peek_11 rfl ?_
        refine gf_RX9_9 C dX9_peek_12 ?_
        refine q_aloadn C dX9_peek_15 rfl ?_
        refine gf_RX9_15 C dX9_peek_16 (fun r16 => ?_)
        try simp only [q_rd, q_rdS, ↓reduceIte, if_true, if_false, eq_self, Nat.reduceEqDiff, Int.reduceEq, Int.reduceNeg, reduceCtorEq] at r16 ⊢
        refine q_iald C (by first | assumption | decide | omega) rfl dX9_peek_19 (by omega) (by omega) (by decide) (fun r19 => ?_)
        try simp only [q_rd, q_rdS, ↓reduceIte, if_true, if_false, eq_self, Nat.reduceEqDiff, Int.reduceEq, Int.reduceNeg, reduceCtorEq] at r19 ⊢
        refine q_bipush C dX9_peek_20 (by decide) ?_
        refine q_icmp_ne C 38 dX9_peek_22 (by decide) (by first | assumption | omega | exact q_tin _ | exact q_bIn _) (by first | assumption | omega | exact q_tin _ | exact q_bIn _) (fun h22 => ?_) (fun h22 => ?_)
        · refine q_aloadn C dX9_peek_38 rfl ?_
          refine gf_RX9_15 C dX9_peek_39 (fun r39 => ?_)
          try simp only [q_rd, q_rdS, ↓reduceIte, if_true, if_false, eq_self, Nat.reduceEqDiff, Int.reduceEq, Int.reduceNeg, reduceCtorEq] at r39 ⊢
          refine q_aloadn C dX9_peek_42 rfl ?_
          refine gf_RX9_19 C dX9_peek_43 (fun r43 => ?_)
          try simp only [q_rd, q_rdS, ↓reduceIte, if_true, if_false, eq_self, Nat.reduceEqDiff, Int.reduceEq, Int.reduceNeg, reduceCtorEq] at r43 ⊢
          refine q_icmp_ge C 61 dX9_peek_46 (by decide) (by first | assumption | omega | exact q_tin _ | exact q_bIn _) (by first | assumption | omega | exact q_tin _ | exact q_bIn _) (fun h46 => ?_) (fun h46 => ?_)
          · refine q_iconst C dX9_peek_61 ?_
            refine q_iret C' dX9_peek_62 (by first | assumption | omega | exact q_tin _ | exact q_bIn _) ?_
            have e9 : pSk (M 2 0) (M 1 0 2) i = i := by first | (have e8 : i = M 1 0 2 := (by omega); rw [e8]; exact pTo_e _ _) | (exact pTo_y h0 (by omega) (by rw [decide_eq_true_iff]; omega)) | (exfalso; omega)
            rw [hs, e9]
            refine ⟨congrArg some ?_, rfl⟩
            unfold pLt
            first | (rw [if_neg (by omega)]; done) | (rw [if_pos (by omega)]; done)
          · refine q_aloadn C dX9_peek_49 rfl ?_
            refine gf_RX9_9 C dX9_peek_50 ?_
            refine q_aloadn C dX9_peek_53 rfl ?_
            refine gf_RX9_15 C dX9_peek_54 (fun r54 => ?_)
            try simp only [q_rd, q_rdS, ↓reduceIte, if_true, if_false, eq_self, Nat.reduceEqDiff, Int.reduceEq, Int.reduceNeg, reduceCtorEq] at r54 ⊢
            refine q_iald C (by first | assumption | decide | omega) rfl dX9_peek_57 (by omega) (by omega) (by decide) (fun r57 => ?_)
            try simp only [q_rd, q_rdS, ↓reduceIte, if_true, if_false, eq_self, Nat.reduceEqDiff, Int.reduceEq, Int.reduceNeg, reduceCtorEq] at r57 ⊢
            refine q_goto C (tgt := 62) dX9_peek_58 (by decide) ?_
            refine q_iret C' dX9_peek_62 (by first | assumption | omega | exact q_tin _ | exact q_bIn _) ?_
            have e9 : pSk (M 2 0) (M 1 0 2) i = i := by first | (have e8 : i = M 1 0 2 := (by omega); rw [e8]; exact pTo_e _ _) | (exact pTo_y h0 (by omega) (by rw [decide_eq_true_iff]; omega)) | (exfalso; omega)
            rw [hs, e9]
            refine ⟨congrArg some ?_, rfl⟩
            unfold pLt
            first | (rw [if_neg (by omega)]; done) | (rw [if_pos (by omega)]; done)
        · refine q_aloadn C dX9_peek_25 rfl ?_
          refine q_dup C dX9_peek_26 rfl ?_
          refine gf_RX9_15 C dX9_peek_27 (fun r27 => ?_)
          try simp only [q_rd, q_rdS, ↓reduceIte, if_true, if_false, eq_self, Nat.reduceEqDiff, Int.reduceEq, Int.reduceNeg, reduceCtorEq] at r27 ⊢
          refine q_iconst C dX9_peek_30 ?_
          refine q_iadd C dX9_peek_31 ?_
          refine pf_RX9_15 C (by first | assumption | omega | exact q_tin _ | exact q_bIn _) dX9_peek_32 ?_
          refine q_goto C (tgt := 0) dX9_peek_35 (by decide) ?_
          exact q_ls (by exact ⟨rfl, trivial⟩) (ih0 (i + 1) _ (by omega) (by omega) (by omega) (by rw [hs]; unfold pSk; exact pTo_n (by omega) (by rw [decide_eq_true_iff]; omega)) (by exact q_upUp _ _ _ _ _ _))
  exact q_ls (by exact ⟨rfl, trivial⟩) (L0 1000 (M 1 0 1) M (by omega) (by omega) (by omega) (by rfl) (by exact (q_upId _ _ _ _).symm))
def xNum (M : qMem) (most : Int) : qMem := if pNf (M 2 0) (M 1 0 2) most (M 1 0 1) = 0 then qUp M 1 0 1 (pNq (M 2 0) (M 1 0 2) (M 1 0 1)) else xFail (qUp M 1 0 1 (pNq (M 2 0) (M 1 0 2) (M 1 0 1))) (pNf (M 2 0) (M 1 0 2) most (M 1 0 1)) (pSk (M 2 0) (M 1 0 2) (M 1 0 1))
def xEnd (M : qMem) : qMem := if pEf (M 2 0) (M 1 0 2) (M 1 0 1) = 0 then qUp M 1 0 1 (pSk (M 2 0) (M 1 0 2) (M 1 0 1) + 1) else xFail (qUp M 1 0 1 (pSk (M 2 0) (M 1 0 2) (M 1 0 1))) 1 (pSk (M 2 0) (M 1 0 2) (M 1 0 1))
theorem dX9_number_0 : decode cX9_number 0 = .ok (.aload_n 0, 1) := by decide +kernel
theorem dX9_number_1 : decode cX9_number 1 = .ok (.invokevirtual 33, 3) := by decide +kernel
theorem dX9_number_4 : decode cX9_number 4 = .ok (.pop, 1) := by decide +kernel
theorem dX9_number_5 : decode cX9_number 5 = .ok (.aload_n 0, 1) := by decide +kernel
theorem dX9_number_6 : decode cX9_number 6 = .ok (.getfield 15, 3) := by decide +kernel
theorem dX9_number_9 : decode cX9_number 9 = .ok (.istore_n 2, 1) := by decide +kernel
theorem dX9_number_10 : decode cX9_number 10 = .ok (.iconst 0, 1) := by decide +kernel
theorem dX9_number_11 : decode cX9_number 11 = .ok (.istore_n 3, 1) := by decide +kernel
theorem dX9_number_12 : decode cX9_number 12 = .ok (.aload_n 0, 1) := by decide +kernel
theorem dX9_number_13 : decode cX9_number 13 = .ok (.getfield 15, 3) := by decide +kernel
theorem dX9_number_16 : decode cX9_number 16 = .ok (.aload_n 0, 1) := by decide +kernel
theorem dX9_number_17 : decode cX9_number 17 = .ok (.getfield 19, 3) := by decide +kernel
theorem dX9_number_20 : decode cX9_number 20 = .ok (.if_icmp .ge 55, 3) := by decide +kernel
theorem dX9_number_23 : decode cX9_number 23 = .ok (.aload_n 0, 1) := by decide +kernel
theorem dX9_number_24 : decode cX9_number 24 = .ok (.getfield 9, 3) := by decide +kernel
theorem dX9_number_27 : decode cX9_number 27 = .ok (.aload_n 0, 1) := by decide +kernel
theorem dX9_number_28 : decode cX9_number 28 = .ok (.getfield 15, 3) := by decide +kernel
theorem dX9_number_31 : decode cX9_number 31 = .ok (.iaload, 1) := by decide +kernel
theorem dX9_number_32 : decode cX9_number 32 = .ok (.invokestatic 82, 3) := by decide +kernel
theorem dX9_number_35 : decode cX9_number 35 = .ok (.ifCond .eq 40, 3) := by decide +kernel
theorem dX9_number_38 : decode cX9_number 38 = .ok (.iload_n 3, 1) := by decide +kernel
theorem dX9_number_39 : decode cX9_number 39 = .ok (.bipush 10, 2) := by decide +kernel
theorem dX9_number_41 : decode cX9_number 41 = .ok (.imul, 1) := by decide +kernel
theorem dX9_number_42 : decode cX9_number 42 = .ok (.aload_n 0, 1) := by decide +kernel
theorem dX9_number_43 : decode cX9_number 43 = .ok (.getfield 9, 3) := by decide +kernel
theorem dX9_number_46 : decode cX9_number 46 = .ok (.aload_n 0, 1) := by decide +kernel
theorem dX9_number_47 : decode cX9_number 47 = .ok (.getfield 15, 3) := by decide +kernel
theorem dX9_number_50 : decode cX9_number 50 = .ok (.iaload, 1) := by decide +kernel
theorem dX9_number_51 : decode cX9_number 51 = .ok (.iadd, 1) := by decide +kernel
theorem dX9_number_52 : decode cX9_number 52 = .ok (.bipush 48, 2) := by decide +kernel
theorem dX9_number_54 : decode cX9_number 54 = .ok (.isub, 1) := by decide +kernel
theorem dX9_number_55 : decode cX9_number 55 = .ok (.sipush 1000, 3) := by decide +kernel
theorem dX9_number_58 : decode cX9_number 58 = .ok (.invokestatic 86, 3) := by decide +kernel
theorem dX9_number_61 : decode cX9_number 61 = .ok (.istore_n 3, 1) := by decide +kernel
theorem dX9_number_62 : decode cX9_number 62 = .ok (.aload_n 0, 1) := by decide +kernel
theorem dX9_number_63 : decode cX9_number 63 = .ok (.dup, 1) := by decide +kernel
theorem dX9_number_64 : decode cX9_number 64 = .ok (.getfield 15, 3) := by decide +kernel
theorem dX9_number_67 : decode cX9_number 67 = .ok (.iconst 1, 1) := by decide +kernel
theorem dX9_number_68 : decode cX9_number 68 = .ok (.iadd, 1) := by decide +kernel
theorem dX9_number_69 : decode cX9_number 69 = .ok (.putfield 15, 3) := by decide +kernel
theorem dX9_number_72 : decode cX9_number 72 = .ok (.goto (-60), 3) := by decide +kernel
theorem dX9_number_75 : decode cX9_number 75 = .ok (.aload_n 0, 1) := by decide +kernel
theorem dX9_number_76 : decode cX9_number 76 = .ok (.getfield 15, 3) := by decide +kernel
theorem dX9_number_79 : decode cX9_number 79 = .ok (.iload_n 2, 1) := by decide +kernel
theorem dX9_number_80 : decode cX9_number 80 = .ok (.if_icmp .ne 12, 3) := by decide +kernel
theorem dX9_number_83 : decode cX9_number 83 = .ok (.aload_n 0, 1) := by decide +kernel
theorem dX9_number_84 : decode cX9_number 84 = .ok (.iconst 1, 1) := by decide +kernel
theorem dX9_number_85 : decode cX9_number 85 = .ok (.iload_n 2, 1) := by decide +kernel
theorem dX9_number_86 : decode cX9_number 86 = .ok (.invokevirtual 45, 3) := by decide +kernel
theorem dX9_number_89 : decode cX9_number 89 = .ok (.goto 26, 3) := by decide +kernel
theorem dX9_number_92 : decode cX9_number 92 = .ok (.aload_n 0, 1) := by decide +kernel
theorem dX9_number_93 : decode cX9_number 93 = .ok (.getfield 15, 3) := by decide +kernel
theorem dX9_number_96 : decode cX9_number 96 = .ok (.iload_n 2, 1) := by decide +kernel
theorem dX9_number_97 : decode cX9_number 97 = .ok (.isub, 1) := by decide +kernel
theorem dX9_number_98 : decode cX9_number 98 = .ok (.iconst 3, 1) := by decide +kernel
theorem dX9_number_99 : decode cX9_number 99 = .ok (.if_icmp .gt 8, 3) := by decide +kernel
theorem dX9_number_102 : decode cX9_number 102 = .ok (.iload_n 3, 1) := by decide +kernel
theorem dX9_number_103 : decode cX9_number 103 = .ok (.iload_n 1, 1) := by decide +kernel
theorem dX9_number_104 : decode cX9_number 104 = .ok (.if_icmp .le 11, 3) := by decide +kernel
theorem dX9_number_107 : decode cX9_number 107 = .ok (.aload_n 0, 1) := by decide +kernel
theorem dX9_number_108 : decode cX9_number 108 = .ok (.iconst 2, 1) := by decide +kernel
theorem dX9_number_109 : decode cX9_number 109 = .ok (.iload_n 2, 1) := by decide +kernel
theorem dX9_number_110 : decode cX9_number 110 = .ok (.invokevirtual 45, 3) := by decide +kernel
theorem dX9_number_113 : decode cX9_number 113 = .ok (.iconst 0, 1) := by decide +kernel
theorem dX9_number_114 : decode cX9_number 114 = .ok (.ireturn, 1) := by decide +kernel
theorem dX9_number_115 : decode cX9_number 115 = .ok (.iload_n 3, 1) := by decide +kernel
theorem dX9_number_116 : decode cX9_number 116 = .ok (.ireturn, 1) := by decide +kernel
set_option maxRecDepth 4000 in
set_option maxHeartbeats 4000000 in
theorem m_X9_number (l : Launch) (g : qGm) (M : qMem) (hL : 0 ≤ M 1 0 2 ∧ M 1 0 2 ≤ 240) (hA : 0 ≤ M 1 0 1 ∧ M 1 0 1 ≤ M 1 0 2) {most : Int} (hmost : 0 ≤ most ∧ most ≤ 999) : qOk l g 2 yX9_number cX9_number 4 (some .int) [qR g 1 0, qI most] M (qEv (some (if pNf (M 2 0) (M 1 0 2) most (M 1 0 1) = 0 then pNv (M 2 0) (M 1 0 2) (M 1 0 1) else 0)) (xNum M most)) := by
  refine q_ok (by decide +kernel) (Nat.le_of_ble_eq_true rfl) (fun X C' hn => ?_)
  have C := C'.1
  have hpk := pSk_in (t := M 2 0) hA.1 hA.2
  refine q_aloadn C dX9_number_0 rfl ?_
  refine cv_RX9_33 C (by decide) (m_X9_peek l g _ hL hA) dX9_number_1 (Nat.le_of_ble_eq_true rfl) (fun r1 => ?_)
  refine q_pop C dX9_number_4 rfl ?_
  refine q_aloadn C dX9_number_5 rfl ?_
  refine gf_RX9_15 C dX9_number_6 (fun r6 => ?_)
  try simp only [q_rd, q_rdS, ↓reduceIte, if_true, if_false, eq_self, Nat.reduceEqDiff, Int.reduceEq, Int.reduceNeg, reduceCtorEq] at r6 ⊢
  refine q_istoren C dX9_number_9 hn (by decide) rfl ?_
  refine q_iconst C dX9_number_10 ?_
  refine q_istoren C dX9_number_11 hn (by decide) rfl ?_
  have L12 : ∀ (n12 : Nat) (i : Int) (w : Int) (N : qMem), M 1 0 2 - i < (n12 : Int) → ((pSk (M 2 0) (M 1 0 2) (M 1 0 1)) ≤ i) → (i ≤ M 1 0 2) → (pDg (M 2 0) (M 1 0 2) (pSk (M 2 0) (M 1 0 2) (M 1 0 1)) = pDg (M 2 0) (M 1 0 2) i) → (∀ k, (pSk (M 2 0) (M 1 0 2) (M 1 0 1)) ≤ k → k < i → 48 ≤ M 2 0 k ∧ M 2 0 k ≤ 57) → (0 ≤ w ∧ w ≤ 1000) → (i - (pSk (M 2 0) (M 1 0 2) (M 1 0 1)) ≤ 3 → w = pV (M 2 0) (pSk (M 2 0) (M 1 0 2) (M 1 0 1)) (i - (pSk (M 2 0) (M 1 0 2) (M 1 0 1))).toNat) → (N = qUp M 1 0 1 i) → qV l g X N 12 [(0, qR g 1 0), (1, qI most), (2, qI (pSk (M 2 0) (M 1 0 2) (M 1 0 1))), (3, qI w)] [] := by
    intro n12
    induction n12 with
    | zero => intro i w N hm12 h0 h1 hs hd hw hv hN; exfalso; first | omega | (simp at *; omega)
    | succ n12 ih12 =>
      intro i w N hm12 h0 h1 hs hd hw hv hN
      subst hN
      refine q_aloadn C dX9_number_12 rfl ?_
      refine gf_RX9_15 C dX9_number_13 (fun r13 => ?_)
      try simp only [q_rd, q_rdS, ↓reduceIte, if_true, if_false, eq_self, Nat.reduceEqDiff, Int.reduceEq, Int.reduceNeg, reduceCtorEq] at r13 ⊢
      refine q_aloadn C dX9_number_16 rfl ?_
      refine gf_RX9_19 C dX9_number_17 (fun r17 => ?_)
      try simp only [q_rd, q_rdS, ↓reduceIte, if_true, if_false, eq_self, Nat.reduceEqDiff, Int.reduceEq, Int.reduceNeg, reduceCtorEq] at r17 ⊢
      refine q_icmp_ge C 75 dX9_number_20 (by decide) (by first | assumption | omega | exact q_tin _ | exact q_bIn _) (by first | assumption | omega | exact q_tin _ | exact q_bIn _) (fun h20 => ?_) (fun h20 => ?_)
      · refine q_aloadn C dX9_number_75 rfl ?_
        refine gf_RX9_15 C dX9_number_76 (fun r76 => ?_)
        try simp only [q_rd, q_rdS, ↓reduceIte, if_true, if_false, eq_self, Nat.reduceEqDiff, Int.reduceEq, Int.reduceNeg, reduceCtorEq] at r76 ⊢
        refine q_iloadn C dX9_number_79 rfl ?_
        refine q_icmp_ne C 92 dX9_number_80 (by decide) (by first | assumption | omega | exact q_tin _ | exact q_bIn _) (by first | assumption | omega | exact q_tin _ | exact q_bIn _) (fun h80 => ?_) (fun h80 => ?_)
        · refine q_aloadn C dX9_number_92 rfl ?_
          refine gf_RX9_15 C dX9_number_93 (fun r93 => ?_)
          try simp only [q_rd, q_rdS, ↓reduceIte, if_true, if_false, eq_self, Nat.reduceEqDiff, Int.reduceEq, Int.reduceNeg, reduceCtorEq] at r93 ⊢
          refine q_iloadn C dX9_number_96 rfl ?_
          refine q_isub C dX9_number_97 ?_
          refine q_iconst C dX9_number_98 ?_
          refine q_icmp_gt C 107 dX9_number_99 (by decide) (by first | assumption | omega | exact q_tin _ | exact q_bIn _) (by first | assumption | omega | exact q_tin _ | exact q_bIn _) (fun h99 => ?_) (fun h99 => ?_)
          · refine q_aloadn C dX9_number_107 rfl ?_
            refine q_iconst C dX9_number_108 ?_
            refine q_iloadn C dX9_number_109 rfl ?_
            refine cv_RX9_45 C (by decide) (m_X9_fail l g _ (by omega) (by omega)) dX9_number_110 (Nat.le_of_ble_eq_true rfl) ?_
            refine q_iconst C dX9_number_113 ?_
            refine q_iret C' dX9_number_114 (by first | assumption | omega | exact q_tin _ | exact q_bIn _) ?_
            have e8 : pDg (M 2 0) (M 1 0 2) i = i := by first | (have e7 : i = M 1 0 2 := (by omega); rw [e7]; exact pTo_e _ _) | (exact pTo_y (by omega) (by omega) (by rw [decide_eq_true_iff]; assumption)) | (exfalso; omega)
            have e9 : pNq (M 2 0) (M 1 0 2) (M 1 0 1) = i := by unfold pNq; rw [hs, e8]
            have e10 : pNf (M 2 0) (M 1 0 2) most (M 1 0 1) = (if i = (pSk (M 2 0) (M 1 0 2) (M 1 0 1)) then 1 else if 3 < i - (pSk (M 2 0) (M 1 0 2) (M 1 0 1)) ∨ most < pV (M 2 0) (pSk (M 2 0) (M 1 0 2) (M 1 0 1)) (i - (pSk (M 2 0) (M 1 0 2) (M 1 0 1))).toNat then 2 else 0) := by unfold pNf; rw [hs, e8]
            have e11 : pNv (M 2 0) (M 1 0 2) (M 1 0 1) = pV (M 2 0) (pSk (M 2 0) (M 1 0 2) (M 1 0 1)) (i - (pSk (M 2 0) (M 1 0 2) (M 1 0 1))).toNat := by unfold pNv; rw [hs, e8]
            have hv3 : i = (pSk (M 2 0) (M 1 0 2) (M 1 0 1)) → w = 0 := fun q => by have h9 := hv (by omega); rw [q, Int.sub_self] at h9; exact h9
            have hv2 := fun q : i - (pSk (M 2 0) (M 1 0 2) (M 1 0 1)) ≤ 3 => hv q
            first | (have e12 : pNf (M 2 0) (M 1 0 2) most (M 1 0 1) = 1 := (by rw [e10, if_pos (by omega)]); unfold xNum; rw [e12, e9, if_neg (by decide), if_neg (by decide)]; exact ⟨congrArg some (hv3 (by omega)), rfl⟩) | (have e12 : pNf (M 2 0) (M 1 0 2) most (M 1 0 1) = 2 := (by rw [e10, if_neg (by omega), if_pos (by omega)]); unfold xNum; rw [e12, e9, if_neg (by decide), if_neg (by decide)]; exact ⟨rfl, rfl⟩) | (have e12 : pNf (M 2 0) (M 1 0 2) most (M 1 0 1) = 0 := (by rw [e10, if_neg (by omega), if_neg (by omega)]); unfold xNum; rw [e12, e9, e11, if_pos rfl, if_pos rfl]; exact ⟨congrArg some (by omega), rfl⟩) | (exfalso; omega)
          · refine q_iloadn C dX9_number_102 rfl ?_
            refine q_iloadn C dX9_number_103 rfl ?_
            refine q_icmp_le C 115 dX9_number_104 (by decide) (by first | assumption | omega | exact q_tin _ | exact q_bIn _) (by first | assumption | omega | exact q_tin _ | exact q_bIn _) (fun h104 => ?_) (fun h104 => ?_)
            · refine q_iloadn C dX9_number_115 rfl ?_
              refine q_iret C' dX9_number_116 (by first | assumption | omega | exact q_tin _ | exact q_bIn _) ?_
              have e8 : pDg (M 2 0) (M 1 0 2) i = i := by first | (have e7 : i = M 1 0 2 := (by omega); rw [e7]; exact pTo_e _ _) | (exact pTo_y (by omega) (by omega) (by rw [decide_eq_true_iff]; assumption)) | (exfalso; omega)
              have e9 : pNq (M 2 0) (M 1 0 2) (M 1 0 1) = i := by unfold pNq; rw [hs, e8]
              have e10 : pNf (M 2 0) (M 1 0 2) most (M 1 0 1) = (if i = (pSk (M 2 0) (M 1 0 2) (M 1 0 1)) then 1 else if 3 < i - (pSk (M 2 0) (M 1 0 2) (M 1 0 1)) ∨ most < pV (M 2 0) (pSk (M 2 0) (M 1 0 2) (M 1 0 1)) (i - (pSk (M 2 0) (M 1 0 2) (M 1 0 1))).toNat then 2 else 0) := by unfold pNf; rw [hs, e8]
              have e11 : pNv (M 2 0) (M 1 0 2) (M 1 0 1) = pV (M 2 0) (pSk (M 2 0) (M 1 0 2) (M 1 0 1)) (i - (pSk (M 2 0) (M 1 0 2) (M 1 0 1))).toNat := by unfold pNv; rw [hs, e8]
              have hv3 : i = (pSk (M 2 0) (M 1 0 2) (M 1 0 1)) → w = 0 := fun q => by have h9 := hv (by omega); rw [q, Int.sub_self] at h9; exact h9
              have hv2 := fun q : i - (pSk (M 2 0) (M 1 0 2) (M 1 0 1)) ≤ 3 => hv q
              first | (have e12 : pNf (M 2 0) (M 1 0 2) most (M 1 0 1) = 1 := (by rw [e10, if_pos (by omega)]); unfold xNum; rw [e12, e9, if_neg (by decide), if_neg (by decide)]; exact ⟨congrArg some (hv3 (by omega)), rfl⟩) | (have e12 : pNf (M 2 0) (M 1 0 2) most (M 1 0 1) = 2 := (by rw [e10, if_neg (by omega), if_pos (by omega)]); unfold xNum; rw [e12, e9, if_neg (by decide), if_neg (by decide)]; exact ⟨rfl, rfl⟩) | (have e12 : pNf (M 2 0) (M 1 0 2) most (M 1 0 1) = 0 := (by rw [e10, if_neg (by omega), if_neg (by omega)]); unfold xNum; rw [e12, e9, e11, if_pos rfl, if_pos rfl]; exact ⟨congrArg some (by omega), rfl⟩) | (exfalso; omega)
            · refine q_aloadn C dX9_number_107 rfl ?_
              refine q_iconst C dX9_number_108 ?_
              refine q_iloadn C dX9_number_109 rfl ?_
              refine cv_RX9_45 C (by decide) (m_X9_fail l g _ (by omega) (by omega)) dX9_number_110 (Nat.le_of_ble_eq_true rfl) ?_
              refine q_iconst C dX9_number_113 ?_
              refine q_iret C' dX9_number_114 (by first | assumption | omega | exact q_tin _ | exact q_bIn _) ?_
              have e8 : pDg (M 2 0) (M 1 0 2) i = i := by first | (have e7 : i = M 1 0 2 := (by omega); rw [e7]; exact pTo_e _ _) | (exact pTo_y (by omega) (by omega) (by rw [decide_eq_true_iff]; assumption)) | (exfalso; omega)
              have e9 : pNq (M 2 0) (M 1 0 2) (M 1 0 1) = i := by unfold pNq; rw [hs, e8]
              have e10 : pNf (M 2 0) (M 1 0 2) most (M 1 0 1) = (if i = (pSk (M 2 0) (M 1 0 2) (M 1 0 1)) then 1 else if 3 < i - (pSk (M 2 0) (M 1 0 2) (M 1 0 1)) ∨ most < pV (M 2 0) (pSk (M 2 0) (M 1 0 2) (M 1 0 1)) (i - (pSk (M 2 0) (M 1 0 2) (M 1 0 1))).toNat then 2 else 0) := by unfold pNf; rw [hs, e8]
              have e11 : pNv (M 2 0) (M 1 0 2) (M 1 0 1) = pV (M 2 0) (pSk (M 2 0) (M 1 0 2) (M 1 0 1)) (i - (pSk (M 2 0) (M 1 0 2) (M 1 0 1))).toNat := by unfold pNv; rw [hs, e8]
              have hv3 : i = (pSk (M 2 0) (M 1 0 2) (M 1 0 1)) → w = 0 := fun q => by have h9 := hv (by omega); rw [q, Int.sub_self] at h9; exact h9
              have hv2 := fun q : i - (pSk (M 2 0) (M 1 0 2) (M 1 0 1)) ≤ 3 => hv q
              first | (have e12 : pNf (M 2 0) (M 1 0 2) most (M 1 0 1) = 1 := (by rw [e10, if_pos (by omega)]); unfold xNum; rw [e12, e9, if_neg (by decide), if_neg (by decide)]; exact ⟨congrArg some (hv3 (by omega)), rfl⟩) | (have e12 : pNf (M 2 0) (M 1 0 2) most (M 1 0 1) = 2 := (by rw [e10, if_neg (by omega), if_pos (by omega)]); unfold xNum; rw [e12, e9, if_neg (by decide), if_neg (by decide)]; exact ⟨rfl, rfl⟩) | (have e12 : pNf (M 2 0) (M 1 0 2) most (M 1 0 1) = 0 := (by rw [e10, if_neg (by omega), if_neg (by omega)]); unfold xNum; rw [e12, e9, e11, if_pos rfl, if_pos rfl]; exact ⟨congrArg some (by omega), rfl⟩) | (exfalso; omega)
        · refine q_aloadn C dX9_number_83 rfl ?_
          refine q_iconst C dX9_number_84 ?_
          refine q_iloadn C dX9_number_85 rfl ?_
          refine cv_RX9_45 C (by decide) (m_X9_fail l g _ (by omega) (by omega)) dX9_number_86 (Nat.le_of_ble_eq_true rfl) ?_
          refine q_goto C (tgt := 115) dX9_number_89 (by decide) ?_
          refine q_iloadn C dX9_number_115 rfl ?_
          refine q_iret C' dX9_number_116 (by first | assumption | omega | exact q_tin _ | exact q_bIn _) ?_
          have e8 : pDg (M 2 0) (M 1 0 2) i = i := by first | (have e7 : i = M 1 0 2 := (by omega); rw [e7]; exact pTo_e _ _) | (exact pTo_y (by omega) (by omega) (by rw [decide_eq_true_iff]; assumption)) | (exfalso; omega)
          have e9 : pNq (M 2 0) (M 1 0 2) (M 1 0 1) = i := by unfold pNq; rw [hs, e8]
          have e10 : pNf (M 2 0) (M 1 0 2) most (M 1 0 1) = (if i = (pSk (M 2 0) (M 1 0 2) (M 1 0 1)) then 1 else if 3 < i - (pSk (M 2 0) (M 1 0 2) (M 1 0 1)) ∨ most < pV (M 2 0) (pSk (M 2 0) (M 1 0 2) (M 1 0 1)) (i - (pSk (M 2 0) (M 1 0 2) (M 1 0 1))).toNat then 2 else 0) := by unfold pNf; rw [hs, e8]
          have e11 : pNv (M 2 0) (M 1 0 2) (M 1 0 1) = pV (M 2 0) (pSk (M 2 0) (M 1 0 2) (M 1 0 1)) (i - (pSk (M 2 0) (M 1 0 2) (M 1 0 1))).toNat := by unfold pNv; rw [hs, e8]
          have hv3 : i = (pSk (M 2 0) (M 1 0 2) (M 1 0 1)) → w = 0 := fun q => by have h9 := hv (by omega); rw [q, Int.sub_self] at h9; exact h9
          have hv2 := fun q : i - (pSk (M 2 0) (M 1 0 2) (M 1 0 1)) ≤ 3 => hv q
          first | (have e12 : pNf (M 2 0) (M 1 0 2) most (M 1 0 1) = 1 := (by rw [e10, if_pos (by omega)]); unfold xNum; rw [e12, e9, if_neg (by decide), if_neg (by decide)]; exact ⟨congrArg some (hv3 (by omega)), rfl⟩) | (have e12 : pNf (M 2 0) (M 1 0 2) most (M 1 0 1) = 2 := (by rw [e10, if_neg (by omega), if_pos (by omega)]); unfold xNum; rw [e12, e9, if_neg (by decide), if_neg (by decide)]; exact ⟨rfl, rfl⟩) | (have e12 : pNf (M 2 0) (M 1 0 2) most (M 1 0 1) = 0 := (by rw [e10, if_neg (by omega), if_neg (by omega)]); unfold xNum; rw [e12, e9, e11, if_pos rfl, if_pos rfl]; exact ⟨congrArg some (by omega), rfl⟩) | (exfalso; omega)
      · refine q_aloadn C dX9_number_23 rfl ?_
        refine gf_RX9_9 C dX9_number_24 ?_
        refine q_aloadn C dX9_number_27 rfl ?_
        refine gf_RX9_15 C dX9_number_28 (fun r28 => ?_)
        try simp only [q_rd, q_rdS, ↓reduceIte, if_true, if_false, eq_self, Nat.reduceEqDiff, Int.reduceEq, Int.reduceNeg, reduceCtorEq] at r28 ⊢
        refine q_iald C (by first | assumption | decide | omega) rfl dX9_number_31 (by omega) (by omega) (by decide) (fun r31 => ?_)
        try simp only [q_rd, q_rdS, ↓reduceIte, if_true, if_false, eq_self, Nat.reduceEqDiff, Int.reduceEq, Int.reduceNeg, reduceCtorEq] at r31 ⊢
        refine cv_RX9_82 C (by decide) (m_X9_isFigure l g _ (by assumption)) dX9_number_32 (Nat.le_of_ble_eq_true rfl) (fun r32 => ?_)
        refine q_ifeqB C 75 dX9_number_35 (by decide) (fun h35 => ?_) (fun h35 => ?_)
        · refine q_aloadn C dX9_number_75 rfl ?_
          refine gf_RX9_15 C dX9_number_76 (fun r76 => ?_)
          try simp only [q_rd, q_rdS, ↓reduceIte, if_true, if_false, eq_self, Nat.reduceEqDiff, Int.reduceEq, Int.reduceNeg, reduceCtorEq] at r76 ⊢
          refine q_iloadn C dX9_number_79 rfl ?_
          refine q_icmp_ne C 92 dX9_number_80 (by decide) (by first | assumption | omega | exact q_tin _ | exact q_bIn _) (by first | assumption | omega | exact q_tin _ | exact q_bIn _) (fun h80 => ?_) (fun h80 => ?_)
          · refine q_aloadn C dX9_number_92 rfl ?_
            refine gf_RX9_15 C dX9_number_93 (fun r93 => ?_)
            try simp only [q_rd, q_rdS, ↓reduceIte, if_true, if_false, eq_self, Nat.reduceEqDiff, Int.reduceEq, Int.reduceNeg, reduceCtorEq] at r93 ⊢
            refine q_iloadn C dX9_number_96 rfl ?_
            refine q_isub C dX9_number_97 ?_
            refine q_iconst C dX9_number_98 ?_
            refine q_icmp_gt C 107 dX9_number_99 (by decide) (by first | assumption | omega | exact q_tin _ | exact q_bIn _) (by first | assumption | omega | exact q_tin _ | exact q_bIn _) (fun h99 => ?_) (fun h99 => ?_)
            · refine q_aloadn C dX9_number_107 rfl ?_
              refine q_iconst C dX9_number_108 ?_
              refine q_iloadn C dX9_number_109 rfl ?_
              refine cv_RX9_45 C (by decide) (m_X9_fail l g _ (by omega) (by omega)) dX9_number_110 (Nat.le_of_ble_eq_true rfl) ?_
              refine q_iconst C dX9_number_113 ?_
              refine q_iret C' dX9_number_114 (by first | assumption | omega | exact q_tin _ | exact q_bIn _) ?_
              have e8 : pDg (M 2 0) (M 1 0 2) i = i := by first | (have e7 : i = M 1 0 2 := (by omega); rw [e7]; exact pTo_e _ _) | (exact pTo_y (by omega) (by omega) (by rw [decide_eq_true_iff]; assumption)) | (exfalso; omega)
              have e9 : pNq (M 2 0) (M 1 0 2) (M 1 0 1) = i := by unfold pNq; rw [hs, e8]
              have e10 : pNf (M 2 0) (M 1 0 2) most (M 1 0 1) = (if i = (pSk (M 2 0) (M 1 0 2) (M 1 0 1)) then 1 else if 3 < i - (pSk (M 2 0) (M 1 0 2) (M 1 0 1)) ∨ most < pV (M 2 0) (pSk (M 2 0) (M 1 0 2) (M 1 0 1)) (i - (pSk (M 2 0) (M 1 0 2) (M 1 0 1))).toNat then 2 else 0) := by unfold pNf; rw [hs, e8]
              have e11 : pNv (M 2 0) (M 1 0 2) (M 1 0 1) = pV (M 2 0) (pSk (M 2 0) (M 1 0 2) (M 1 0 1)) (i - (pSk (M 2 0) (M 1 0 2) (M 1 0 1))).toNat := by unfold pNv; rw [hs, e8]
              have hv3 : i = (pSk (M 2 0) (M 1 0 2) (M 1 0 1)) → w = 0 := fun q => by have h9 := hv (by omega); rw [q, Int.sub_self] at h9; exact h9
              have hv2 := fun q : i - (pSk (M 2 0) (M 1 0 2) (M 1 0 1)) ≤ 3 => hv q
              first | (have e12 : pNf (M 2 0) (M 1 0 2) most (M 1 0 1) = 1 := (by rw [e10, if_pos (by omega)]); unfold xNum; rw [e12, e9, if_neg (by decide), if_neg (by decide)]; exact ⟨congrArg some (hv3 (by omega)), rfl⟩) | (have e12 : pNf (M 2 0) (M 1 0 2) most (M 1 0 1) = 2 := (by rw [e10, if_neg (by omega), if_pos (by omega)]); unfold xNum; rw [e12, e9, if_neg (by decide), if_neg (by decide)]; exact ⟨rfl, rfl⟩) | (have e12 : pNf (M 2 0) (M 1 0 2) most (M 1 0 1) = 0 := (by rw [e10, if_neg (by omega), if_neg (by omega)]); unfold xNum; rw [e12, e9, e11, if_pos rfl, if_pos rfl]; exact ⟨congrArg some (by omega), rfl⟩) | (exfalso; omega)
            · refine q_iloadn C dX9_number_102 rfl ?_
              refine q_iloadn C dX9_number_103 rfl ?_
              refine q_icmp_le C 115 dX9_number_104 (by decide) (by first | assumption | omega | exact q_tin _ | exact q_bIn _) (by first | assumption | omega | exact q_tin _ | exact q_bIn _) (fun h104 => ?_) (fun h104 => ?_)
              · refine q_iloadn C dX9_number_115 rfl ?_
                refine q_iret C' dX9_number_116 (by first | assumption | omega | exact q_tin _ | exact q_bIn _) ?_
                have e8 : pDg (M 2 0) (M 1 0 2) i = i := by first | (have e7 : i = M 1 0 2 := (by omega); rw [e7]; exact pTo_e _ _) | (exact pTo_y (by omega) (by omega) (by rw [decide_eq_true_iff]; assumption)) | (exfalso; omega)
                have e9 : pNq (M 2 0) (M 1 0 2) (M 1 0 1) = i := by unfold pNq; rw [hs, e8]
                have e10 : pNf (M 2 0) (M 1 0 2) most (M 1 0 1) = (if i = (pSk (M 2 0) (M 1 0 2) (M 1 0 1)) then 1 else if 3 < i - (pSk (M 2 0) (M 1 0 2) (M 1 0 1)) ∨ most < pV (M 2 0) (pSk (M 2 0) (M 1 0 2) (M 1 0 1)) (i - (pSk (M 2 0) (M 1 0 2) (M 1 0 1))).toNat then 2 else 0) := by unfold pNf; rw [hs, e8]
                have e11 : pNv (M 2 0) (M 1 0 2) (M 1 0 1) = pV (M 2 0) (pSk (M 2 0) (M 1 0 2) (M 1 0 1)) (i - (pSk (M 2 0) (M 1 0 2) (M 1 0 1))).toNat := by unfold pNv; rw [hs, e8]
                have hv3 : i = (pSk (M 2 0) (M 1 0 2) (M 1 0 1)) → w = 0 := fun q => by have h9 := hv (by omega); rw [q, Int.sub_self] at h9; exact h9
                have hv2 := fun q : i - (pSk (M 2 0) (M 1 0 2) (M 1 0 1)) ≤ 3 => hv q
                first | (have e12 : pNf (M 2 0) (M 1 0 2) most (M 1 0 1) = 1 := (by rw [e10, if_pos (by omega)]); unfold xNum; rw [e12, e9, if_neg (by decide), if_neg (by decide)]; exact ⟨congrArg some (hv3 (by omega)), rfl⟩) | (have e12 : pNf (M 2 0) (M 1 0 2) most (M 1 0 1) = 2 := (by rw [e10, if_neg (by omega), if_pos (by omega)]); unfold xNum; rw [e12, e9, if_neg (by decide), if_neg (by decide)]; exact ⟨rfl, rfl⟩) | (have e12 : pNf (M 2 0) (M 1 0 2) most (M 1 0 1) = 0 := (by rw [e10, if_neg (by omega), if_neg (by omega)]); unfold xNum; rw [e12, e9, e11, if_pos rfl, if_pos rfl]; exact ⟨congrArg some (by omega), rfl⟩) | (exfalso; omega)
              · refine q_aloadn C dX9_number_107 rfl ?_
                refine q_iconst C dX9_number_108 ?_
                refine q_iloadn C dX9_number_109 rfl ?_
                refine cv_RX9_45 C (by decide) (m_X9_fail l g _ (by omega) (by omega)) dX9_number_110 (Nat.le_of_ble_eq_true rfl) ?_
                refine q_iconst C dX9_number_113 ?_
                refine q_iret C' dX9_number_114 (by first | assumption | omega | exact q_tin _ | exact q_bIn _) ?_
                have e8 : pDg (M 2 0) (M 1 0 2) i = i := by first | (have e7 : i = M 1 0 2 := (by omega); rw [e7]; exact pTo_e _ _) | (exact pTo_y (by omega) (by omega) (by rw [decide_eq_true_iff]; assumption)) | (exfalso; omega)
                have e9 : pNq (M 2 0) (M 1 0 2) (M 1 0 1) = i := by unfold pNq; rw [hs, e8]
                have e10 : pNf (M 2 0) (M 1 0 2) most (M 1 0 1) = (if i = (pSk (M 2 0) (M 1 0 2) (M 1 0 1)) then 1 else if 3 < i - (pSk (M 2 0) (M 1 0 2) (M 1 0 1)) ∨ most < pV (M 2 0) (pSk (M 2 0) (M 1 0 2) (M 1 0 1)) (i - (pSk (M 2 0) (M 1 0 2) (M 1 0 1))).toNat then 2 else 0) := by unfold pNf; rw [hs, e8]
                have e11 : pNv (M 2 0) (M 1 0 2) (M 1 0 1) = pV (M 2 0) (pSk (M 2 0) (M 1 0 2) (M 1 0 1)) (i - (pSk (M 2 0) (M 1 0 2) (M 1 0 1))).toNat := by unfold pNv; rw [hs, e8]
                have hv3 : i = (pSk (M 2 0) (M 1 0 2) (M 1 0 1)) → w = 0 := fun q => by have h9 := hv (by omega); rw [q, Int.sub_self] at h9; exact h9
                have hv2 := fun q : i - (pSk (M 2 0) (M 1 0 2) (M 1 0 1)) ≤ 3 => hv q
                first | (have e12 : pNf (M 2 0) (M 1 0 2) most (M 1 0 1) = 1 := (by rw [e10, if_pos (by omega)]); unfold xNum; rw [e12, e9, if_neg (by decide), if_neg (by decide)]; exact ⟨congrArg some (hv3 (by omega)), rfl⟩) | (have e12 : pNf (M 2 0) (M 1 0 2) most (M 1 0 1) = 2 := (by rw [e10, if_neg (by omega), if_pos (by omega)]); unfold xNum; rw [e12, e9, if_neg (by decide), if_neg (by decide)]; exact ⟨rfl, rfl⟩) | (have e12 : pNf (M 2 0) (M 1 0 2) most (M 1 0 1) = 0 := (by rw [e10, if_neg (by omega), if_neg (by omega)]); unfold xNum; rw [e12, e9, e11, if_pos rfl, if_pos rfl]; exact ⟨congrArg some (by omega), rfl⟩) | (exfalso; omega)
          · refine q_aloadn C dX9_number_83 rfl ?_
            refine q_iconst C dX9_number_84 ?_
            refine q_iloadn C dX9_number_85 rfl ?_
            refine cv_RX9_45 C (by decide) (m_X9_fail l g _ (by omega) (by omega)) dX9_number_86 (Nat.le_of_ble_eq_true rfl) ?_
            refine q_goto C (tgt := 115) dX9_number_89 (by decide) ?_
            refine q_iloadn C dX9_number_115 rfl ?_
            refine q_iret C' dX9_number_116 (by first | assumption | omega | exact q_tin _ | exact q_bIn _) ?_
            have e8 : pDg (M 2 0) (M 1 0 2) i = i := by first | (have e7 : i = M 1 0 2 := (by omega); rw [e7]; exact pTo_e _ _) | (exact pTo_y (by omega) (by omega) (by rw [decide_eq_true_iff]; assumption)) | (exfalso; omega)
            have e9 : pNq (M 2 0) (M 1 0 2) (M 1 0 1) = i := by unfold pNq; rw [hs, e8]
            have e10 : pNf (M 2 0) (M 1 0 2) most (M 1 0 1) = (if i = (pSk (M 2 0) (M 1 0 2) (M 1 0 1)) then 1 else if 3 < i - (pSk (M 2 0) (M 1 0 2) (M 1 0 1)) ∨ most < pV (M 2 0) (pSk (M 2 0) (M 1 0 2) (M 1 0 1)) (i - (pSk (M 2 0) (M 1 0 2) (M 1 0 1))).toNat then 2 else 0) := by unfold pNf; rw [hs, e8]
            have e11 : pNv (M 2 0) (M 1 0 2) (M 1 0 1) = pV (M 2 0) (pSk (M 2 0) (M 1 0 2) (M 1 0 1)) (i - (pSk (M 2 0) (M 1 0 2) (M 1 0 1))).toNat := by unfold pNv; rw [hs, e8]
            have hv3 : i = (pSk (M 2 0) (M 1 0 2) (M 1 0 1)) → w = 0 := fun q => by have h9 := hv (by omega); rw [q, Int.sub_self] at h9; exact h9
            have hv2 := fun q : i - (pSk (M 2 0) (M 1 0 2) (M 1 0 1)) ≤ 3 => hv q
            first | (have e12 : pNf (M 2 0) (M 1 0 2) most (M 1 0 1) = 1 := (by rw [e10, if_pos (by omega)]); unfold xNum; rw [e12, e9, if_neg (by decide), if_neg (by decide)]; exact ⟨congrArg some (hv3 (by omega)), rfl⟩) | (have e12 : pNf (M 2 0) (M 1 0 2) most (M 1 0 1) = 2 := (by rw [e10, if_neg (by omega), if_pos (by omega)]); unfold xNum; rw [e12, e9, if_neg (by decide), if_neg (by decide)]; exact ⟨rfl, rfl⟩) | (have e12 : pNf (M 2 0) (M 1 0 2) most (M 1 0 1) = 0 := (by rw [e10, if_neg (by omega), if_neg (by omega)]); unfold xNum; rw [e12, e9, e11, if_pos rfl, if_pos rfl]; exact ⟨congrArg some (by omega), rfl⟩) | (exfalso; omega)
        · refine q_iloadn C dX9_number_38 rfl ?_
          refine q_bipush C dX9_number_39 (by decide) ?_
          refine q_imul C dX9_number_41 ?_
          refine q_aloadn C dX9_number_42 rfl ?_
          refine gf_RX9_9 C dX9_number_43 ?_
          refine q_aloadn C dX9_number_46 rfl ?_
          refine gf_RX9_15 C dX9_number_47 (fun r47 => ?_)
          try simp only [q_rd, q_rdS, ↓reduceIte, if_true, if_false, eq_self, Nat.reduceEqDiff, Int.reduceEq, Int.reduceNeg, reduceCtorEq] at r47 ⊢
          refine q_iald C (by first | assumption | decide | omega) rfl dX9_number_50 (by omega) (by omega) (by decide) (fun r50 => ?_)
          try simp only [q_rd, q_rdS, ↓reduceIte, if_true, if_false, eq_self, Nat.reduceEqDiff, Int.reduceEq, Int.reduceNeg, reduceCtorEq] at r50 ⊢
          refine q_iadd C dX9_number_51 ?_
          refine q_bipush C dX9_number_52 (by decide) ?_
          refine q_isub C dX9_number_54 ?_
          refine q_sipush C dX9_number_55 (by decide) ?_
          refine q_mmin C q_ml_RX9_86 (by first | assumption | omega | exact q_tin _ | exact q_bIn _) (by first | assumption | omega | exact q_tin _ | exact q_bIn _) (by decide) (Nat.le_of_ble_eq_true rfl) dX9_number_58 (fun r58 => ?_)
          refine q_istoren C dX9_number_61 hn (by decide) rfl ?_
          refine q_aloadn C dX9_number_62 rfl ?_
          refine q_dup C dX9_number_63 rfl ?_
          refine gf_RX9_15 C dX9_number_64 (fun r64 => ?_)
          try simp only [q_rd, q_rdS, ↓reduceIte, if_true, if_false, eq_self, Nat.reduceEqDiff, Int.reduceEq, Int.reduceNeg, reduceCtorEq] at r64 ⊢
          refine q_iconst C dX9_number_67 ?_
          refine q_iadd C dX9_number_68 ?_
          refine pf_RX9_15 C (by first | assumption | omega | exact q_tin _ | exact q_bIn _) dX9_number_69 ?_
          refine q_goto C (tgt := 12) dX9_number_72 (by decide) ?_
          exact q_ls (by exact ⟨rfl, rfl, rfl, rfl, trivial⟩) (ih12 (i + 1) _ _ (by omega) (by omega) (by omega) (by rw [hs]; unfold pDg; exact pTo_n (by omega) (by rw [decide_eq_true_iff]; omega)) (by intro k a1 a2; by_cases e : k = i <;> first | (subst e; omega) | exact hd k a1 (by omega)) (by have := sMin_l (w * 10 + M 2 0 i - 48) 1000; omega) (by intro q; rw [pV_s _ _ h0, ← hv (by omega)]; have hb9 := pV_b (t := M 2 0) (p := (pSk (M 2 0) (M 1 0 2) (M 1 0 1))) (n := (i - (pSk (M 2 0) (M 1 0 2) (M 1 0 1))).toNat + 1) (by omega) (fun k a1 a2 => by by_cases e : k = i <;> first | (subst e; omega) | exact hd k a1 (by omega)); rw [show (i - (pSk (M 2 0) (M 1 0 2) (M 1 0 1))).toNat + 1 = (i + 1 - (pSk (M 2 0) (M 1 0 2) (M 1 0 1))).toNat by omega, pV_s _ _ h0, ← hv (by omega)] at hb9; unfold sMin; split <;> omega) (by exact q_upUp _ _ _ _ _ _))
  exact q_ls (by exact ⟨rfl, rfl, rfl, rfl, trivial⟩) (L12 1000 (pSk (M 2 0) (M 1 0 2) (M 1 0 1)) 0 _ (by omega) (by omega) (by omega) (by rfl) (by intro k a1 a2; omega) (by omega) (by intro _; rw [Int.sub_self]; rfl) (by rfl))
theorem dX9_expectEnd_0 : decode cX9_expectEnd 0 = .ok (.aload_n 0, 1) := by decide +kernel
theorem dX9_expectEnd_1 : decode cX9_expectEnd 1 = .ok (.invokevirtual 33, 3) := by decide +kernel
theorem dX9_expectEnd_4 : decode cX9_expectEnd 4 = .ok (.bipush 59, 2) := by decide +kernel
theorem dX9_expectEnd_6 : decode cX9_expectEnd 6 = .ok (.if_icmp .ne 16, 3) := by decide +kernel
theorem dX9_expectEnd_9 : decode cX9_expectEnd 9 = .ok (.aload_n 0, 1) := by decide +kernel
theorem dX9_expectEnd_10 : decode cX9_expectEnd 10 = .ok (.dup, 1) := by decide +kernel
theorem dX9_expectEnd_11 : decode cX9_expectEnd 11 = .ok (.getfield 15, 3) := by decide +kernel
theorem dX9_expectEnd_14 : decode cX9_expectEnd 14 = .ok (.iconst 1, 1) := by decide +kernel
theorem dX9_expectEnd_15 : decode cX9_expectEnd 15 = .ok (.iadd, 1) := by decide +kernel
theorem dX9_expectEnd_16 : decode cX9_expectEnd 16 = .ok (.putfield 15, 3) := by decide +kernel
theorem dX9_expectEnd_19 : decode cX9_expectEnd 19 = .ok (.goto 12, 3) := by decide +kernel
theorem dX9_expectEnd_22 : decode cX9_expectEnd 22 = .ok (.aload_n 0, 1) := by decide +kernel
theorem dX9_expectEnd_23 : decode cX9_expectEnd 23 = .ok (.iconst 1, 1) := by decide +kernel
theorem dX9_expectEnd_24 : decode cX9_expectEnd 24 = .ok (.aload_n 0, 1) := by decide +kernel
theorem dX9_expectEnd_25 : decode cX9_expectEnd 25 = .ok (.getfield 15, 3) := by decide +kernel
theorem dX9_expectEnd_28 : decode cX9_expectEnd 28 = .ok (.invokevirtual 45, 3) := by decide +kernel
theorem dX9_expectEnd_31 : decode cX9_expectEnd 31 = .ok (.return_, 1) := by decide +kernel
set_option maxRecDepth 4000 in
set_option maxHeartbeats 4000000 in
theorem m_X9_expectEnd (l : Launch) (g : qGm) (M : qMem) (hL : 0 ≤ M 1 0 2 ∧ M 1 0 2 ≤ 240) (hA : 0 ≤ M 1 0 1 ∧ M 1 0 1 ≤ M 1 0 2) : qOk l g 2 yX9_expectEnd cX9_expectEnd 1 none [qR g 1 0] M (qEv none (xEnd M)) := by
  refine q_ok (by decide +kernel) (Nat.le_of_ble_eq_true rfl) (fun X C' hn => ?_)
  have C := C'.1
  have hpk := pSk_in (t := M 2 0) hA.1 hA.2
  refine q_aloadn C dX9_expectEnd_0 rfl ?_
  refine cv_RX9_33 C (by decide) (m_X9_peek l g _ hL hA) dX9_expectEnd_1 (Nat.le_of_ble_eq_true rfl) (fun r1 => ?_)
  refine q_bipush C dX9_expectEnd_4 (by decide) ?_
  refine q_icmp_ne C 22 dX9_expectEnd_6 (by decide) (by first | assumption | omega | exact q_tin _ | exact q_bIn _) (by first | assumption | omega | exact q_tin _ | exact q_bIn _) (fun h6 => ?_) (fun h6 => ?_)
  · refine q_aloadn C dX9_expectEnd_22 rfl ?_
    refine q_iconst C dX9_expectEnd_23 ?_
    refine q_aloadn C dX9_expectEnd_24 rfl ?_
    refine gf_RX9_15 C dX9_expectEnd_25 (fun r25 => ?_)
    try simp only [q_rd, q_rdS, ↓reduceIte, if_true, if_false, eq_self, Nat.reduceEqDiff, Int.reduceEq, Int.reduceNeg, reduceCtorEq] at r25 ⊢
    refine cv_RX9_45 C (by decide) (m_X9_fail l g _ (by omega) (by omega)) dX9_expectEnd_28 (Nat.le_of_ble_eq_true rfl) ?_
    refine q_vret C' dX9_expectEnd_31 ?_
    refine ⟨rfl, ?_⟩
    unfold xEnd
    first | (have e12 : pEf (M 2 0) (M 1 0 2) (M 1 0 1) = 0 := (by unfold pEf; rw [if_pos (by omega)]); rw [e12, if_pos rfl]; try rw [q_upUp]; done) | (have e12 : pEf (M 2 0) (M 1 0 2) (M 1 0 1) = 1 := (by unfold pEf; rw [if_neg (by omega)]); rw [e12, if_neg (by decide)]; done)
  · refine q_aloadn C dX9_expectEnd_9 rfl ?_
    refine q_dup C dX9_expectEnd_10 rfl ?_
    refine gf_RX9_15 C dX9_expectEnd_11 (fun r11 => ?_)
    try simp only [q_rd, q_rdS, ↓reduceIte, if_true, if_false, eq_self, Nat.reduceEqDiff, Int.reduceEq, Int.reduceNeg, reduceCtorEq] at r11 ⊢
    refine q_iconst C dX9_expectEnd_14 ?_
    refine q_iadd C dX9_expectEnd_15 ?_
    refine pf_RX9_15 C (by first | assumption | omega | exact q_tin _ | exact q_bIn _) dX9_expectEnd_16 ?_
    refine q_goto C (tgt := 31) dX9_expectEnd_19 (by decide) ?_
    refine q_vret C' dX9_expectEnd_31 ?_
    refine ⟨rfl, ?_⟩
    unfold xEnd
    first | (have e12 : pEf (M 2 0) (M 1 0 2) (M 1 0 1) = 0 := (by unfold pEf; rw [if_pos (by omega)]); rw [e12, if_pos rfl]; try rw [q_upUp]; done) | (have e12 : pEf (M 2 0) (M 1 0 2) (M 1 0 1) = 1 := (by unfold pEf; rw [if_neg (by omega)]); rw [e12, if_neg (by decide)]; done)
