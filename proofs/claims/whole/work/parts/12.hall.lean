theorem dJ7_fill_53178_0 : decode cJ7_fill_53178 0 = .ok (.iconst 0, 1) := by decide +kernel
theorem dJ7_fill_53178_1 : decode cJ7_fill_53178 1 = .ok (.istore_n 2, 1) := by decide +kernel
theorem dJ7_fill_53178_2 : decode cJ7_fill_53178 2 = .ok (.aload_n 0, 1) := by decide +kernel
theorem dJ7_fill_53178_3 : decode cJ7_fill_53178 3 = .ok (.arraylength, 1) := by decide +kernel
theorem dJ7_fill_53178_4 : decode cJ7_fill_53178 4 = .ok (.istore_n 3, 1) := by decide +kernel
theorem dJ7_fill_53178_5 : decode cJ7_fill_53178 5 = .ok (.iload_n 2, 1) := by decide +kernel
theorem dJ7_fill_53178_6 : decode cJ7_fill_53178 6 = .ok (.iload_n 3, 1) := by decide +kernel
theorem dJ7_fill_53178_7 : decode cJ7_fill_53178 7 = .ok (.if_icmp .ge 13, 3) := by decide +kernel
theorem dJ7_fill_53178_10 : decode cJ7_fill_53178 10 = .ok (.aload_n 0, 1) := by decide +kernel
theorem dJ7_fill_53178_11 : decode cJ7_fill_53178 11 = .ok (.iload_n 2, 1) := by decide +kernel
theorem dJ7_fill_53178_12 : decode cJ7_fill_53178 12 = .ok (.iload_n 1, 1) := by decide +kernel
theorem dJ7_fill_53178_13 : decode cJ7_fill_53178 13 = .ok (.iastore, 1) := by decide +kernel
theorem dJ7_fill_53178_14 : decode cJ7_fill_53178 14 = .ok (.iinc 2 1, 3) := by decide +kernel
theorem dJ7_fill_53178_17 : decode cJ7_fill_53178 17 = .ok (.goto (-12), 3) := by decide +kernel
theorem dJ7_fill_53178_20 : decode cJ7_fill_53178 20 = .ok (.return_, 1) := by decide +kernel
set_option maxRecDepth 4000 in
set_option maxHeartbeats 4000000 in
theorem m_J7_fill (l : Launch) (g : qGm) (M : qMem) {j u n : Nat} (hu : u < qCnt j) (he : ∀ M, qCell g M j u = qRow g M j u n) (hnn : n ≤ 2147483647) {z : Int} (hz : qIn z) : qOk l g 1 yJ7_fill_53178 cJ7_fill_53178 4 none [qR g j u, qI z] M (qEv none (qSet M j u (fun _ => z))) := by
  refine q_ok (by decide +kernel) (Nat.le_of_ble_eq_true rfl) (fun X C' hn => ?_)
  have C := C'.1
  refine q_iconst C dJ7_fill_53178_0 ?_
  refine q_istoren C dJ7_fill_53178_1 hn (by decide) rfl ?_
  refine q_aloadn C dJ7_fill_53178_2 rfl ?_
  refine q_alen C hu (by exact he _) dJ7_fill_53178_3 ?_
  refine q_istoren C dJ7_fill_53178_4 hn (by decide) rfl ?_
  have L5 : ∀ (n5 : Nat) (i : Int) (N : qMem), n - i < (n5 : Int) → (0 ≤ i) → (i ≤ n) → (N = qPre M j u (fun _ => z) i) → qV l g X N 5 [(0, qR g j u), (1, qI z), (2, qI i), (3, qI (n : Int))] [] := by
    intro n5
    induction n5 with
    | zero => intro i N hm5 h0 h1 hN; exfalso; first | omega | (simp at *; omega)
    | succ n5 ih5 =>
      intro i N hm5 h0 h1 hN
      refine q_iloadn C dJ7_fill_53178_5 rfl ?_
      refine q_iloadn C dJ7_fill_53178_6 rfl ?_
      refine q_icmp_ge C 20 dJ7_fill_53178_7 (by decide) (by first | assumption | omega | exact q_tin _ | exact q_bIn _) (by first | assumption | omega | exact q_tin _ | exact q_bIn _) (fun h7 => ?_) (fun h7 => ?_)
      · rw [hN]
        unfold qPre
        refine q_rowMem he (f' := fun _ => z) (fun k h2 h3 => if_pos (by omega)) (fun _ => hz) ?_
        refine q_vret C' dJ7_fill_53178_20 ?_
        exact ⟨rfl, rfl⟩
      · refine q_aloadn C dJ7_fill_53178_10 rfl ?_
        refine q_iloadn C dJ7_fill_53178_11 rfl ?_
        refine q_iloadn C dJ7_fill_53178_12 rfl ?_
        refine q_iast C hu he dJ7_fill_53178_13 (by omega) (by omega) hnn (by first | assumption | omega | exact q_tin _ | exact q_bIn _) ?_
        refine q_iinc C dJ7_fill_53178_14 rfl hn (by decide) rfl ?_
        refine q_goto C (tgt := 5) dJ7_fill_53178_17 (by decide) ?_
        exact q_ls (by exact ⟨rfl, rfl, rfl, rfl, trivial⟩) (ih5 _ _ (by omega) (by omega) (by omega) (by rw [hN]; exact qPre_s _ _ _ _ h0 rfl))
  exact q_ls (by exact ⟨rfl, rfl, rfl, rfl, trivial⟩) (L5 (n + 1) 0 M (by omega) (by omega) (by omega) (by exact (qPre_0 _ _ _ _).symm))
theorem dX2_pair_0 : decode cX2_pair 0 = .ok (.iload_n 0, 1) := by decide +kernel
theorem dX2_pair_1 : decode cX2_pair 1 = .ok (.bipush 6, 2) := by decide +kernel
theorem dX2_pair_3 : decode cX2_pair 3 = .ok (.imul, 1) := by decide +kernel
theorem dX2_pair_4 : decode cX2_pair 4 = .ok (.iload_n 1, 1) := by decide +kernel
theorem dX2_pair_5 : decode cX2_pair 5 = .ok (.iadd, 1) := by decide +kernel
theorem dX2_pair_6 : decode cX2_pair 6 = .ok (.ireturn, 1) := by decide +kernel
set_option maxRecDepth 4000 in
set_option maxHeartbeats 4000000 in
theorem m_X2_pair (l : Launch) (g : qGm) (M : qMem) {c h : Int} (hc : 0 ≤ c ∧ c < 6) (hh : 0 ≤ h ∧ h < 6) : qOk l g 1 yX2_pair cX2_pair 2 (some .int) [qI c, qI h] M (qEv (some (c * 6 + h)) M) := by
  refine q_ok (by decide +kernel) (Nat.le_of_ble_eq_true rfl) (fun X C' hn => ?_)
  have C := C'.1
  refine q_iloadn C dX2_pair_0 rfl ?_
  refine q_bipush C dX2_pair_1 (by decide) ?_
  refine q_imul C dX2_pair_3 ?_
  refine q_iloadn C dX2_pair_4 rfl ?_
  refine q_iadd C dX2_pair_5 ?_
  refine q_iret C' dX2_pair_6 (by first | assumption | omega | exact q_tin _ | exact q_bIn _) ?_
  exact ⟨rfl, rfl⟩
theorem dX2_callsOf_0 : decode cX2_callsOf 0 = .ok (.aload_n 0, 1) := by decide +kernel
theorem dX2_callsOf_1 : decode cX2_callsOf 1 = .ok (.getfield 31, 3) := by decide +kernel
theorem dX2_callsOf_4 : decode cX2_callsOf 4 = .ok (.iload_n 1, 1) := by decide +kernel
theorem dX2_callsOf_5 : decode cX2_callsOf 5 = .ok (.iload_n 2, 1) := by decide +kernel
theorem dX2_callsOf_6 : decode cX2_callsOf 6 = .ok (.invokestatic 74, 3) := by decide +kernel
theorem dX2_callsOf_9 : decode cX2_callsOf 9 = .ok (.iaload, 1) := by decide +kernel
theorem dX2_callsOf_10 : decode cX2_callsOf 10 = .ok (.ireturn, 1) := by decide +kernel
set_option maxRecDepth 4000 in
set_option maxHeartbeats 4000000 in
theorem m_X2_callsOf (l : Launch) (g : qGm) (M : qMem) {u : Nat} (hu : u < 33) {c h : Int} (hc : 0 ≤ c ∧ c < 6) (hh : 0 ≤ h ∧ h < 6) : qOk l g 2 yX2_callsOf cX2_callsOf 3 (some .int) [qR g 10 u, qI c, qI h] M (qEv (some (M 15 u (c * 6 + h))) M) := by
  refine q_ok (by decide +kernel) (Nat.le_of_ble_eq_true rfl) (fun X C' hn => ?_)
  have C := C'.1
  refine q_aloadn C dX2_callsOf_0 rfl ?_
  refine gf_RX2_31 C (by first | assumption | decide | omega) dX2_callsOf_1 ?_
  refine q_iloadn C dX2_callsOf_4 rfl ?_
  refine q_iloadn C dX2_callsOf_5 rfl ?_
  refine cv_RX2_74 C (by decide) (m_X2_pair l g _ hc hh) dX2_callsOf_6 (Nat.le_of_ble_eq_true rfl) (fun r6 => ?_)
  refine q_iald C (by first | assumption | decide | omega) rfl dX2_callsOf_9 (by omega) (by omega) (by decide) (fun r9 => ?_)
  refine q_iret C' dX2_callsOf_10 (by first | assumption | omega | exact q_tin _ | exact q_bIn _) ?_
  exact ⟨rfl, rfl⟩
def xCalls (M : qMem) (u : Nat) (h : Int) : Int := sSum (fun c => M 15 u (c * 6 + h)) 6
theorem xCalls_in {M : qMem} {u : Nat} (hcb : ∀ k, 0 ≤ k → k < 36 → 0 ≤ M 15 u k ∧ M 15 u k ≤ 999) {h : Int} (hh : 0 ≤ h ∧ h < 6) : 0 ≤ xCalls M u h ∧ xCalls M u h ≤ 5994 := by
  have := sSum_b (f := fun c => M 15 u (c * 6 + h)) (n := 6) (B := 999) (by omega) (fun k h1 h2 => hcb _ (by omega) (by omega))
  unfold xCalls
  omega
theorem dX2_callsAt_0 : decode cX2_callsAt 0 = .ok (.iconst 0, 1) := by decide +kernel
theorem dX2_callsAt_1 : decode cX2_callsAt 1 = .ok (.istore_n 2, 1) := by decide +kernel
theorem dX2_callsAt_2 : decode cX2_callsAt 2 = .ok (.iconst 0, 1) := by decide +kernel
theorem dX2_callsAt_3 : decode cX2_callsAt 3 = .ok (.istore_n 3, 1) := by decide +kernel
theorem dX2_callsAt_4 : decode cX2_callsAt 4 = .ok (.iload_n 3, 1) := by decide +kernel
theorem dX2_callsAt_5 : decode cX2_callsAt 5 = .ok (.bipush 6, 2) := by decide +kernel
theorem dX2_callsAt_7 : decode cX2_callsAt 7 = .ok (.if_icmp .ge 18, 3) := by decide +kernel
theorem dX2_callsAt_10 : decode cX2_callsAt 10 = .ok (.iload_n 2, 1) := by decide +kernel
theorem dX2_callsAt_11 : decode cX2_callsAt 11 = .ok (.aload_n 0, 1) := by decide +kernel
theorem dX2_callsAt_12 : decode cX2_callsAt 12 = .ok (.iload_n 3, 1) := by decide +kernel
theorem dX2_callsAt_13 : decode cX2_callsAt 13 = .ok (.iload_n 1, 1) := by decide +kernel
theorem dX2_callsAt_14 : decode cX2_callsAt 14 = .ok (.invokevirtual 78, 3) := by decide +kernel
theorem dX2_callsAt_17 : decode cX2_callsAt 17 = .ok (.iadd, 1) := by decide +kernel
theorem dX2_callsAt_18 : decode cX2_callsAt 18 = .ok (.istore_n 2, 1) := by decide +kernel
theorem dX2_callsAt_19 : decode cX2_callsAt 19 = .ok (.iinc 3 1, 3) := by decide +kernel
theorem dX2_callsAt_22 : decode cX2_callsAt 22 = .ok (.goto (-18), 3) := by decide +kernel
theorem dX2_callsAt_25 : decode cX2_callsAt 25 = .ok (.iload_n 2, 1) := by decide +kernel
theorem dX2_callsAt_26 : decode cX2_callsAt 26 = .ok (.ireturn, 1) := by decide +kernel
set_option maxRecDepth 4000 in
set_option maxHeartbeats 4000000 in
theorem m_X2_callsAt (l : Launch) (g : qGm) (M : qMem) {u : Nat} (hu : u < 33) {h : Int} (hh : 0 ≤ h ∧ h < 6) (hcb : ∀ k, 0 ≤ k → k < 36 → 0 ≤ M 15 u k ∧ M 15 u k ≤ 999) : qOk l g 3 yX2_callsAt cX2_callsAt 4 (some .int) [qR g 10 u, qI h] M (qEv (some (xCalls M u h)) M) := by
  refine q_ok (by decide +kernel) (Nat.le_of_ble_eq_true rfl) (fun X C' hn => ?_)
  have C := C'.1
  refine q_iconst C dX2_callsAt_0 ?_
  refine q_istoren C dX2_callsAt_1 hn (by decide) rfl ?_
  refine q_iconst C dX2_callsAt_2 ?_
  refine q_istoren C dX2_callsAt_3 hn (by decide) rfl ?_
  have L4 : ∀ (n4 : Nat) (s : Int) (i : Int), 6 - i < (n4 : Int) → (0 ≤ i) → (i ≤ 6) → (s = sSum (fun c => M 15 u (c * 6 + h)) i) → (0 ≤ s ∧ s ≤ 999 * i) → qV l g X M 4 [(0, qR g 10 u), (1, qI h), (2, qI s), (3, qI i)] [] := by
    intro n4
    induction n4 with
    | zero => intro s i hm4 h0 h1 hs hb; exfalso; first | omega | (simp at *; omega)
    | succ n4 ih4 =>
      intro s i hm4 h0 h1 hs hb
      refine q_iloadn C dX2_callsAt_4 rfl ?_
      refine q_bipush C dX2_callsAt_5 (by decide) ?_
      refine q_icmp_ge C 25 dX2_callsAt_7 (by decide) (by first | assumption | omega | exact q_tin _ | exact q_bIn _) (by first | assumption | omega | exact q_tin _ | exact q_bIn _) (fun h7 => ?_) (fun h7 => ?_)
      · refine q_iloadn C dX2_callsAt_25 rfl ?_
        refine q_iret C' dX2_callsAt_26 (by first | assumption | omega | exact q_tin _ | exact q_bIn _) ?_
        have : i = 6 := by omega
        subst this
        exact ⟨congrArg some hs, rfl⟩
      · refine q_iloadn C dX2_callsAt_10 rfl ?_
        refine q_aloadn C dX2_callsAt_11 rfl ?_
        refine q_iloadn C dX2_callsAt_12 rfl ?_
        refine q_iloadn C dX2_callsAt_13 rfl ?_
        refine cv_RX2_78 C (by decide) (by first | assumption | decide | omega) (m_X2_callsOf l g _ hu (by omega) hh) dX2_callsAt_14 (Nat.le_of_ble_eq_true rfl) (fun r14 => ?_)
        refine q_iadd C dX2_callsAt_17 ?_
        refine q_istoren C dX2_callsAt_18 hn (by decide) rfl ?_
        refine q_iinc C dX2_callsAt_19 rfl hn (by decide) rfl ?_
        refine q_goto C (tgt := 4) dX2_callsAt_22 (by decide) ?_
        exact q_ls (by exact ⟨rfl, rfl, rfl, rfl, trivial⟩) (ih4 _ _ (by omega) (by omega) (by omega) (by rw [sSum_s _ (by omega)]; omega) (by have := hcb (i * 6 + h) (by omega) (by omega); omega))
  exact q_ls (by exact ⟨rfl, rfl, rfl, rfl, trivial⟩) (L4 1000 _ _ (by omega) (by omega) (by omega) (by rfl) (by omega))
theorem dX2_callsOfAll_0 : decode cX2_callsOfAll 0 = .ok (.iconst 0, 1) := by decide +kernel
theorem dX2_callsOfAll_1 : decode cX2_callsOfAll 1 = .ok (.istore_n 1, 1) := by decide +kernel
theorem dX2_callsOfAll_2 : decode cX2_callsOfAll 2 = .ok (.iconst 0, 1) := by decide +kernel
theorem dX2_callsOfAll_3 : decode cX2_callsOfAll 3 = .ok (.istore_n 2, 1) := by decide +kernel
theorem dX2_callsOfAll_4 : decode cX2_callsOfAll 4 = .ok (.iload_n 2, 1) := by decide +kernel
theorem dX2_callsOfAll_5 : decode cX2_callsOfAll 5 = .ok (.bipush 6, 2) := by decide +kernel
theorem dX2_callsOfAll_7 : decode cX2_callsOfAll 7 = .ok (.if_icmp .ge 17, 3) := by decide +kernel
theorem dX2_callsOfAll_10 : decode cX2_callsOfAll 10 = .ok (.iload_n 1, 1) := by decide +kernel
theorem dX2_callsOfAll_11 : decode cX2_callsOfAll 11 = .ok (.aload_n 0, 1) := by decide +kernel
theorem dX2_callsOfAll_12 : decode cX2_callsOfAll 12 = .ok (.iload_n 2, 1) := by decide +kernel
theorem dX2_callsOfAll_13 : decode cX2_callsOfAll 13 = .ok (.invokevirtual 81, 3) := by decide +kernel
theorem dX2_callsOfAll_16 : decode cX2_callsOfAll 16 = .ok (.iadd, 1) := by decide +kernel
theorem dX2_callsOfAll_17 : decode cX2_callsOfAll 17 = .ok (.istore_n 1, 1) := by decide +kernel
theorem dX2_callsOfAll_18 : decode cX2_callsOfAll 18 = .ok (.iinc 2 1, 3) := by decide +kernel
theorem dX2_callsOfAll_21 : decode cX2_callsOfAll 21 = .ok (.goto (-17), 3) := by decide +kernel
theorem dX2_callsOfAll_24 : decode cX2_callsOfAll 24 = .ok (.iload_n 1, 1) := by decide +kernel
theorem dX2_callsOfAll_25 : decode cX2_callsOfAll 25 = .ok (.ireturn, 1) := by decide +kernel
set_option maxRecDepth 4000 in
set_option maxHeartbeats 4000000 in
theorem m_X2_callsOfAll (l : Launch) (g : qGm) (M : qMem) {u : Nat} (hu : u < 33) (hcb : ∀ k, 0 ≤ k → k < 36 → 0 ≤ M 15 u k ∧ M 15 u k ≤ 999) : qOk l g 4 yX2_callsOfAll cX2_callsOfAll 3 (some .int) [qR g 10 u] M (qEv (some (sSum (fun h => xCalls M u h) 6)) M) := by
  refine q_ok (by decide +kernel) (Nat.le_of_ble_eq_true rfl) (fun X C' hn => ?_)
  have C := C'.1
  refine q_iconst C dX2_callsOfAll_0 ?_
  refine q_istoren C dX2_callsOfAll_1 hn (by decide) rfl ?_
  refine q_iconst C dX2_callsOfAll_2 ?_
  refine q_istoren C dX2_callsOfAll_3 hn (by decide) rfl ?_
  have L4 : ∀ (n4 : Nat) (s : Int) (i : Int), 6 - i < (n4 : Int) → (0 ≤ i) → (i ≤ 6) → (s = sSum (fun h => xCalls M u h) i) → (0 ≤ s ∧ s ≤ 5994 * i) → qV l g X M 4 [(0, qR g 10 u), (1, qI s), (2, qI i)] [] := by
    intro n4
    induction n4 with
    | zero => intro s i hm4 h0 h1 hs hb; exfalso; first | omega | (simp at *; omega)
    | succ n4 ih4 =>
      intro s i hm4 h0 h1 hs hb
      refine q_iloadn C dX2_callsOfAll_4 rfl ?_
      refine q_bipush C dX2_callsOfAll_5 (by decide) ?_
      refine q_icmp_ge C 24 dX2_callsOfAll_7 (by decide) (by first | assumption | omega | exact q_tin _ | exact q_bIn _) (by first | assumption | omega | exact q_tin _ | exact q_bIn _) (fun h7 => ?_) (fun h7 => ?_)
      · refine q_iloadn C dX2_callsOfAll_24 rfl ?_
        refine q_iret C' dX2_callsOfAll_25 (by first | assumption | omega | exact q_tin _ | exact q_bIn _) ?_
        have : i = 6 := by omega
        subst this
        exact ⟨congrArg some hs, rfl⟩
      · refine q_iloadn C dX2_callsOfAll_10 rfl ?_
        refine q_aloadn C dX2_callsOfAll_11 rfl ?_
        refine q_iloadn C dX2_callsOfAll_12 rfl ?_
        refine cv_RX2_81 C (by decide) (by first | assumption | decide | omega) (m_X2_callsAt l g _ hu (by omega) hcb) dX2_callsOfAll_13 (Nat.le_of_ble_eq_true rfl) (fun r13 => ?_)
        refine q_iadd C dX2_callsOfAll_16 ?_
        refine q_istoren C dX2_callsOfAll_17 hn (by decide) rfl ?_
        refine q_iinc C dX2_callsOfAll_18 rfl hn (by decide) rfl ?_
        refine q_goto C (tgt := 4) dX2_callsOfAll_21 (by decide) ?_
        exact q_ls (by exact ⟨rfl, rfl, rfl, trivial⟩) (ih4 _ _ (by omega) (by omega) (by omega) (by rw [sSum_s _ (by omega)]; omega) (by have := xCalls_in hcb (h := i) (by omega); omega))
  exact q_ls (by exact ⟨rfl, rfl, rfl, trivial⟩) (L4 1000 _ _ (by omega) (by omega) (by omega) (by rfl) (by omega))
theorem dX2_welcome_0 : decode cX2_welcome 0 = .ok (.iconst (-1), 1) := by decide +kernel
theorem dX2_welcome_1 : decode cX2_welcome 1 = .ok (.istore_n 1, 1) := by decide +kernel
theorem dX2_welcome_2 : decode cX2_welcome 2 = .ok (.iconst 0, 1) := by decide +kernel
theorem dX2_welcome_3 : decode cX2_welcome 3 = .ok (.istore_n 2, 1) := by decide +kernel
theorem dX2_welcome_4 : decode cX2_welcome 4 = .ok (.iconst 0, 1) := by decide +kernel
theorem dX2_welcome_5 : decode cX2_welcome 5 = .ok (.istore_n 3, 1) := by decide +kernel
theorem dX2_welcome_6 : decode cX2_welcome 6 = .ok (.iload_n 3, 1) := by decide +kernel
theorem dX2_welcome_7 : decode cX2_welcome 7 = .ok (.bipush 6, 2) := by decide +kernel
theorem dX2_welcome_9 : decode cX2_welcome 9 = .ok (.if_icmp .ge 26, 3) := by decide +kernel
theorem dX2_welcome_12 : decode cX2_welcome 12 = .ok (.aload_n 0, 1) := by decide +kernel
theorem dX2_welcome_13 : decode cX2_welcome 13 = .ok (.iload_n 3, 1) := by decide +kernel
theorem dX2_welcome_14 : decode cX2_welcome 14 = .ok (.invokevirtual 81, 3) := by decide +kernel
theorem dX2_welcome_17 : decode cX2_welcome 17 = .ok (.iload_n 2, 1) := by decide +kernel
theorem dX2_welcome_18 : decode cX2_welcome 18 = .ok (.if_icmp .le 11, 3) := by decide +kernel
theorem dX2_welcome_21 : decode cX2_welcome 21 = .ok (.aload_n 0, 1) := by decide +kernel
theorem dX2_welcome_22 : decode cX2_welcome 22 = .ok (.iload_n 3, 1) := by decide +kernel
theorem dX2_welcome_23 : decode cX2_welcome 23 = .ok (.invokevirtual 81, 3) := by decide +kernel
theorem dX2_welcome_26 : decode cX2_welcome 26 = .ok (.istore_n 2, 1) := by decide +kernel
theorem dX2_welcome_27 : decode cX2_welcome 27 = .ok (.iload_n 3, 1) := by decide +kernel
theorem dX2_welcome_28 : decode cX2_welcome 28 = .ok (.istore_n 1, 1) := by decide +kernel
theorem dX2_welcome_29 : decode cX2_welcome 29 = .ok (.iinc 3 1, 3) := by decide +kernel
theorem dX2_welcome_32 : decode cX2_welcome 32 = .ok (.goto (-26), 3) := by decide +kernel
theorem dX2_welcome_35 : decode cX2_welcome 35 = .ok (.iload_n 1, 1) := by decide +kernel
theorem dX2_welcome_36 : decode cX2_welcome 36 = .ok (.ireturn, 1) := by decide +kernel
set_option maxRecDepth 4000 in
set_option maxHeartbeats 4000000 in
theorem m_X2_welcome (l : Launch) (g : qGm) (M : qMem) {u : Nat} (hu : u < 33) (hcb : ∀ k, 0 ≤ k → k < 36 → 0 ≤ M 15 u k ∧ M 15 u k ≤ 999) : qOk l g 4 yX2_welcome cX2_welcome 4 (some .int) [qR g 10 u] M (qEv (some (sAm (fun h => xCalls M u h) (-1) 0 6).1) M) := by
  refine q_ok (by decide +kernel) (Nat.le_of_ble_eq_true rfl) (fun X C' hn => ?_)
  have C := C'.1
  refine q_iconst C dX2_welcome_0 ?_
  refine q_istoren C dX2_welcome_1 hn (by decide) rfl ?_
  refine q_iconst C dX2_welcome_2 ?_
  refine q_istoren C dX2_welcome_3 hn (by decide) rfl ?_
  refine q_iconst C dX2_welcome_4 ?_
  refine q_istoren C dX2_welcome_5 hn (by decide) rfl ?_
  have L6 : ∀ (n6 : Nat) (s : Int) (t : Int) (i : Int), 6 - i < (n6 : Int) → (0 ≤ i) → (i ≤ 6) → ((s, t) = sAm (fun h => xCalls M u h) (-1) 0 i) → (-1 ≤ s ∧ s ≤ i) → (qIn t) → qV l g X M 6 [(0, qR g 10 u), (1, qI s), (2, qI t), (3, qI i)] [] := by
    intro n6
    induction n6 with
    | zero => intro s t i hm6 h0 h1 hs hb hb2; exfalso; first | omega | (simp at *; omega)
    | succ n6 ih6 =>
      intro s t i hm6 h0 h1 hs hb hb2
      refine q_iloadn C dX2_welcome_6 rfl ?_
      refine q_bipush C dX2_welcome_7 (by decide) ?_
      refine q_icmp_ge C 35 dX2_welcome_9 (by decide) (by first | assumption | omega | exact q_tin _ | exact q_bIn _) (by first | assumption | omega | exact q_tin _ | exact q_bIn _) (fun h9 => ?_) (fun h9 => ?_)
      · refine q_iloadn C dX2_welcome_35 rfl ?_
        refine q_iret C' dX2_welcome_36 (by first | assumption | omega | exact q_tin _ | exact q_bIn _) ?_
        have : i = 6 := by omega
        subst this
        rw [← hs]
        exact ⟨rfl, rfl⟩
      · refine q_aloadn C dX2_welcome_12 rfl ?_
        refine q_iloadn C dX2_welcome_13 rfl ?_
        refine cv_RX2_81 C (by decide) (by first | assumption | decide | omega) (m_X2_callsAt l g _ hu (by omega) hcb) dX2_welcome_14 (Nat.le_of_ble_eq_true rfl) (fun r14 => ?_)
        refine q_iloadn C dX2_welcome_17 rfl ?_
        refine q_icmp_le C 29 dX2_welcome_18 (by decide) (by first | assumption | omega | exact q_tin _ | exact q_bIn _) (by first | assumption | omega | exact q_tin _ | exact q_bIn _) (fun h18 => ?_) (fun h18 => ?_)
        · refine q_iinc C dX2_welcome_29 rfl hn (by decide) rfl ?_
          refine q_goto C (tgt := 6) dX2_welcome_32 (by decide) ?_
          exact q_ls (by exact ⟨rfl, rfl, rfl, rfl, trivial⟩) (ih6 _ _ _ (by omega) (by omega) (by omega) (by rw [sAm_s _ _ _ (by omega), ← hs]; first | (rw [if_pos (by show t < xCalls M u i; omega)]) | (rw [if_neg (by show ¬ t < xCalls M u i; omega)])) (by omega) (by first | assumption | omega))
        · refine q_aloadn C dX2_welcome_21 rfl ?_
          refine q_iloadn C dX2_welcome_22 rfl ?_
          refine cv_RX2_81 C (by decide) (by first | assumption | decide | omega) (m_X2_callsAt l g _ hu (by omega) hcb) dX2_welcome_23 (Nat.le_of_ble_eq_true rfl) (fun r23 => ?_)
          refine q_istoren C dX2_welcome_26 hn (by decide) rfl ?_
          refine q_iloadn C dX2_welcome_27 rfl ?_
          refine q_istoren C dX2_welcome_28 hn (by decide) rfl ?_
          refine q_iinc C dX2_welcome_29 rfl hn (by decide) rfl ?_
          refine q_goto C (tgt := 6) dX2_welcome_32 (by decide) ?_
          exact q_ls (by exact ⟨rfl, rfl, rfl, rfl, trivial⟩) (ih6 _ _ _ (by omega) (by omega) (by omega) (by rw [sAm_s _ _ _ (by omega), ← hs]; first | (rw [if_pos (by show t < xCalls M u i; omega)]) | (rw [if_neg (by show ¬ t < xCalls M u i; omega)])) (by omega) (by first | assumption | omega))
  exact q_ls (by exact ⟨rfl, rfl, rfl, rfl, trivial⟩) (L6 1000 _ _ _ (by omega) (by omega) (by omega) (by rfl) (by omega) (by first | assumption | omega))
theorem dX2_isSham_0 : decode cX2_isSham 0 = .ok (.aload_n 0, 1) := by decide +kernel
theorem dX2_isSham_1 : decode cX2_isSham 1 = .ok (.getfield 25, 3) := by decide +kernel
theorem dX2_isSham_4 : decode cX2_isSham 4 = .ok (.iload_n 1, 1) := by decide +kernel
theorem dX2_isSham_5 : decode cX2_isSham 5 = .ok (.iaload, 1) := by decide +kernel
theorem dX2_isSham_6 : decode cX2_isSham 6 = .ok (.iload_n 2, 1) := by decide +kernel
theorem dX2_isSham_7 : decode cX2_isSham 7 = .ok (.ishr, 1) := by decide +kernel
theorem dX2_isSham_8 : decode cX2_isSham 8 = .ok (.iconst 1, 1) := by decide +kernel
theorem dX2_isSham_9 : decode cX2_isSham 9 = .ok (.iand, 1) := by decide +kernel
theorem dX2_isSham_10 : decode cX2_isSham 10 = .ok (.ifCond .eq 7, 3) := by decide +kernel
theorem dX2_isSham_13 : decode cX2_isSham 13 = .ok (.iconst 1, 1) := by decide +kernel
theorem dX2_isSham_14 : decode cX2_isSham 14 = .ok (.goto 4, 3) := by decide +kernel
theorem dX2_isSham_17 : decode cX2_isSham 17 = .ok (.iconst 0, 1) := by decide +kernel
theorem dX2_isSham_18 : decode cX2_isSham 18 = .ok (.ireturn, 1) := by decide +kernel
set_option maxRecDepth 4000 in
set_option maxHeartbeats 4000000 in
theorem m_X2_isSham (l : Launch) (g : qGm) (M : qMem) {u : Nat} (hu : u < 33) {c h : Int} (hc : 0 ≤ c ∧ c < 6) (hh : 0 ≤ h ∧ h < 6) (hs : 0 ≤ M 13 u c ∧ M 13 u c < 64) : qOk l g 1 yX2_isSham cX2_isSham 3 (some .boolean) [qR g 10 u, qI c, qI h] M (qEv (some (qB (sHas (M 13 u c) h))) M) := by
  refine q_ok (by decide +kernel) (Nat.le_of_ble_eq_true rfl) (fun X C' hn => ?_)
  have C := C'.1
  have e1 := q_shr1 hs.1 hs.2 hh.1 (show h < 8 by omega)
  refine q_aloadn C dX2_isSham_0 rfl ?_
  refine gf_RX2_25 C (by first | assumption | decide | omega) dX2_isSham_1 ?_
  refine q_iloadn C dX2_isSham_4 rfl ?_
  refine q_iald C (by first | assumption | decide | omega) rfl dX2_isSham_5 (by omega) (by omega) (by decide) (fun r5 => ?_)
  refine q_iloadn C dX2_isSham_6 rfl ?_
  refine q_ishr C dX2_isSham_7 ?_
  refine q_iconst C dX2_isSham_8 ?_
  refine q_iand C dX2_isSham_9 ?_
  refine q_if_eq C 17 dX2_isSham_10 (by decide) (by first | assumption | omega | exact q_tin _ | exact q_bIn _) (fun h10 => ?_) (fun h10 => ?_)
  · refine q_iconst C dX2_isSham_17 ?_
    refine q_zret C' dX2_isSham_18 (by first | omega | exact q_b01 _ | simp) ?_
    refine ⟨congrArg some ?_, rfl⟩
    unfold qB sHas
    split <;> first | rfl | (exfalso; omega)
  · refine q_iconst C dX2_isSham_13 ?_
    refine q_goto C (tgt := 18) dX2_isSham_14 (by decide) ?_
    refine q_zret C' dX2_isSham_18 (by first | omega | exact q_b01 _ | simp) ?_
    refine ⟨congrArg some ?_, rfl⟩
    unfold qB sHas
    split <;> first | rfl | (exfalso; omega)
