theorem dX5_firstWaiting_0 : decode cX5_firstWaiting 0 = .ok (.iconst 0, 1) := by decide +kernel
theorem dX5_firstWaiting_1 : decode cX5_firstWaiting 1 = .ok (.istore_n 1, 1) := by decide +kernel
theorem dX5_firstWaiting_2 : decode cX5_firstWaiting 2 = .ok (.iload_n 1, 1) := by decide +kernel
theorem dX5_firstWaiting_3 : decode cX5_firstWaiting 3 = .ok (.aload_n 0, 1) := by decide +kernel
theorem dX5_firstWaiting_4 : decode cX5_firstWaiting 4 = .ok (.getfield 28, 3) := by decide +kernel
theorem dX5_firstWaiting_7 : decode cX5_firstWaiting 7 = .ok (.invokevirtual 56, 3) := by decide +kernel
theorem dX5_firstWaiting_10 : decode cX5_firstWaiting 10 = .ok (.if_icmp .ge 32, 3) := by decide +kernel
theorem dX5_firstWaiting_13 : decode cX5_firstWaiting 13 = .ok (.aload_n 0, 1) := by decide +kernel
theorem dX5_firstWaiting_14 : decode cX5_firstWaiting 14 = .ok (.getfield 18, 3) := by decide +kernel
theorem dX5_firstWaiting_17 : decode cX5_firstWaiting 17 = .ok (.iload_n 1, 1) := by decide +kernel
theorem dX5_firstWaiting_18 : decode cX5_firstWaiting 18 = .ok (.iaload, 1) := by decide +kernel
theorem dX5_firstWaiting_19 : decode cX5_firstWaiting 19 = .ok (.iconst (-1), 1) := by decide +kernel
theorem dX5_firstWaiting_20 : decode cX5_firstWaiting 20 = .ok (.if_icmp .ne 16, 3) := by decide +kernel
theorem dX5_firstWaiting_23 : decode cX5_firstWaiting 23 = .ok (.aload_n 0, 1) := by decide +kernel
theorem dX5_firstWaiting_24 : decode cX5_firstWaiting 24 = .ok (.getfield 24, 3) := by decide +kernel
theorem dX5_firstWaiting_27 : decode cX5_firstWaiting 27 = .ok (.iload_n 1, 1) := by decide +kernel
theorem dX5_firstWaiting_28 : decode cX5_firstWaiting 28 = .ok (.ishr, 1) := by decide +kernel
theorem dX5_firstWaiting_29 : decode cX5_firstWaiting 29 = .ok (.iconst 1, 1) := by decide +kernel
theorem dX5_firstWaiting_30 : decode cX5_firstWaiting 30 = .ok (.iand, 1) := by decide +kernel
theorem dX5_firstWaiting_31 : decode cX5_firstWaiting 31 = .ok (.ifCond .ne 5, 3) := by decide +kernel
theorem dX5_firstWaiting_34 : decode cX5_firstWaiting 34 = .ok (.iload_n 1, 1) := by decide +kernel
theorem dX5_firstWaiting_35 : decode cX5_firstWaiting 35 = .ok (.ireturn, 1) := by decide +kernel
theorem dX5_firstWaiting_36 : decode cX5_firstWaiting 36 = .ok (.iinc 1 1, 3) := by decide +kernel
theorem dX5_firstWaiting_39 : decode cX5_firstWaiting 39 = .ok (.goto (-37), 3) := by decide +kernel
theorem dX5_firstWaiting_42 : decode cX5_firstWaiting 42 = .ok (.iconst (-1), 1) := by decide +kernel
theorem dX5_firstWaiting_43 : decode cX5_firstWaiting 43 = .ok (.ireturn, 1) := by decide +kernel
set_option maxRecDepth 4000 in
set_option maxHeartbeats 4000000 in
theorem m_X5_firstWaiting (l : Launch) (g : qGm) (M : qMem) {sd : sSD} (hs : sRS sd) (hS : xS M sd) (hg : 0 ≤ M 20 0 5 ∧ M 20 0 5 < 64) : qOk l g 2 yX5_firstWaiting cX5_firstWaiting 2 (some .int) [qR g 20 0] M (qEv (some (sFr (fun c => decide (M 23 0 c = -1 ∧ ¬ sHas (M 20 0 5) c)) (sd 4 0) 0)) M) := by
  refine q_ok (by decide +kernel) (Nat.le_of_ble_eq_true rfl) (fun X C' hn => ?_)
  have C := C'.1
  have hm6 := hs.2.1
  have hn6 := hs.2.2.1
  refine q_iconst C dX5_firstWaiting_0 ?_
  refine q_istoren C dX5_firstWaiting_1 hn (by decide) rfl ?_
  have L2 : ∀ (n2 : Nat) (i : Int), sd 4 0 - i < (n2 : Int) → (0 ≤ i) → (i ≤ sd 4 0) → (sFr (fun c => decide (M 23 0 c = -1 ∧ ¬ sHas (M 20 0 5) c)) (sd 4 0) 0 = sFr (fun c => decide (M 23 0 c = -1 ∧ ¬ sHas (M 20 0 5) c)) (sd 4 0) i) → qV l g X M 2 [(0, qR g 20 0), (1, qI i)] [] := by
    intro n2
    induction n2 with
    | zero => intro i hm2 h0 h1 hs2; exfalso; first | omega | (simp at *; omega)
    | succ n2 ih2 =>
      intro i hm2 h0 h1 hs2
      have e1 := fun q : i < 8 => q_shr1 hg.1 hg.2 h0 q
      refine q_iloadn C dX5_firstWaiting_2 rfl ?_
      refine q_aloadn C dX5_firstWaiting_3 rfl ?_
      refine gf_RX5_28 C dX5_firstWaiting_4 ?_
      refine cv_RX5_56 C (by decide) (m_X10_comers l g _ hs hS) dX5_firstWaiting_7 (Nat.le_of_ble_eq_true rfl) (fun r7 => ?_)
      refine q_icmp_ge C 42 dX5_firstWaiting_10 (by decide) (by omega) (by omega) (fun h10 => ?_) (fun h10 => ?_)
      · refine q_iconst C dX5_firstWaiting_42 ?_
        refine q_iret C' dX5_firstWaiting_43 (by first | assumption | omega | exact q_tin _ | exact q_bIn _) ?_
        refine ⟨congrArg some ?_, rfl⟩
        rw [hs2]
        first | (have e9 : i = sd 4 0 := (by omega); rw [e9, sFr_e]; done) | (have e1 := e1 (by omega); rw [sFr_s _ (by omega), if_pos (by rw [decide_eq_true_iff]; refine ⟨by omega, fun q => ?_⟩; have : M 20 0 5 / 2 ^ i.toNat % 2 = 1 := q; omega)])
      · refine q_aloadn C dX5_firstWaiting_13 rfl ?_
        refine gf_RX5_18 C dX5_firstWaiting_14 ?_
        refine q_iloadn C dX5_firstWaiting_17 rfl ?_
        refine q_iald C (by first | assumption | decide | omega) rfl dX5_firstWaiting_18 (by omega) (by omega) (by decide) (fun r18 => ?_)
        refine q_iconst C dX5_firstWaiting_19 ?_
        refine q_icmp_ne C 36 dX5_firstWaiting_20 (by decide) (by first | assumption | omega | exact q_tin _ | exact q_bIn _) (by first | assumption | omega | exact q_tin _ | exact q_bIn _) (fun h20 => ?_) (fun h20 => ?_)
        · refine q_iinc C dX5_firstWaiting_36 rfl hn (by decide) rfl ?_
          refine q_goto C (tgt := 2) dX5_firstWaiting_39 (by decide) ?_
          exact q_ls (by exact ⟨rfl, rfl, trivial⟩) (ih2 _ (by omega) (by omega) (by omega) (by have e1 := e1 (by omega); rw [hs2, sFr_s _ (by omega), if_neg (by rw [decide_eq_true_iff]; rintro ⟨q1, q2⟩; first | omega | (have : M 20 0 5 / 2 ^ i.toNat % 2 = 1 := (by omega); exact q2 this))]))
        · refine q_aloadn C dX5_firstWaiting_23 rfl ?_
          refine gf_RX5_24 C dX5_firstWaiting_24 (fun r24 => ?_)
          refine q_iloadn C dX5_firstWaiting_27 rfl ?_
          refine q_ishr C dX5_firstWaiting_28 ?_
          refine q_iconst C dX5_firstWaiting_29 ?_
          refine q_iand C dX5_firstWaiting_30 ?_
          refine q_if_ne C 36 dX5_firstWaiting_31 (by decide) (by first | assumption | omega | exact q_tin _ | exact q_bIn _) (fun h31 => ?_) (fun h31 => ?_)
          · refine q_iinc C dX5_firstWaiting_36 rfl hn (by decide) rfl ?_
            refine q_goto C (tgt := 2) dX5_firstWaiting_39 (by decide) ?_
            exact q_ls (by exact ⟨rfl, rfl, trivial⟩) (ih2 _ (by omega) (by omega) (by omega) (by have e1 := e1 (by omega); rw [hs2, sFr_s _ (by omega), if_neg (by rw [decide_eq_true_iff]; rintro ⟨q1, q2⟩; first | omega | (have : M 20 0 5 / 2 ^ i.toNat % 2 = 1 := (by omega); exact q2 this))]))
          · refine q_iloadn C dX5_firstWaiting_34 rfl ?_
            refine q_iret C' dX5_firstWaiting_35 (by first | assumption | omega | exact q_tin _ | exact q_bIn _) ?_
            refine ⟨congrArg some ?_, rfl⟩
            rw [hs2]
            first | (have e9 : i = sd 4 0 := (by omega); rw [e9, sFr_e]; done) | (have e1 := e1 (by omega); rw [sFr_s _ (by omega), if_pos (by rw [decide_eq_true_iff]; refine ⟨by omega, fun q => ?_⟩; have : M 20 0 5 / 2 ^ i.toNat % 2 = 1 := q; omega)])
  exact q_ls (by exact ⟨rfl, rfl, trivial⟩) (L2 1000 _ (by omega) (by omega) (by omega) (by rfl))
theorem dX5_bestLeft_0 : decode cX5_bestLeft 0 = .ok (.iconst (-1), 1) := by decide +kernel
theorem dX5_bestLeft_1 : decode cX5_bestLeft 1 = .ok (.istore_n 2, 1) := by decide +kernel
theorem dX5_bestLeft_2 : decode cX5_bestLeft 2 = .ok (.iconst (-1), 1) := by decide +kernel
theorem dX5_bestLeft_3 : decode cX5_bestLeft 3 = .ok (.istore_n 3, 1) := by decide +kernel
theorem dX5_bestLeft_4 : decode cX5_bestLeft 4 = .ok (.iconst 0, 1) := by decide +kernel
theorem dX5_bestLeft_5 : decode cX5_bestLeft 5 = .ok (.istore 4, 2) := by decide +kernel
theorem dX5_bestLeft_7 : decode cX5_bestLeft 7 = .ok (.iload 4, 2) := by decide +kernel
theorem dX5_bestLeft_9 : decode cX5_bestLeft 9 = .ok (.aload_n 0, 1) := by decide +kernel
theorem dX5_bestLeft_10 : decode cX5_bestLeft 10 = .ok (.getfield 28, 3) := by decide +kernel
theorem dX5_bestLeft_13 : decode cX5_bestLeft 13 = .ok (.invokevirtual 61, 3) := by decide +kernel
theorem dX5_bestLeft_16 : decode cX5_bestLeft 16 = .ok (.if_icmp .ge 55, 3) := by decide +kernel
theorem dX5_bestLeft_19 : decode cX5_bestLeft 19 = .ok (.aload_n 0, 1) := by decide +kernel
theorem dX5_bestLeft_20 : decode cX5_bestLeft 20 = .ok (.getfield 15, 3) := by decide +kernel
theorem dX5_bestLeft_23 : decode cX5_bestLeft 23 = .ok (.iload_n 1, 1) := by decide +kernel
theorem dX5_bestLeft_24 : decode cX5_bestLeft 24 = .ok (.iaload, 1) := by decide +kernel
theorem dX5_bestLeft_25 : decode cX5_bestLeft 25 = .ok (.iload 4, 2) := by decide +kernel
theorem dX5_bestLeft_27 : decode cX5_bestLeft 27 = .ok (.ishr, 1) := by decide +kernel
theorem dX5_bestLeft_28 : decode cX5_bestLeft 28 = .ok (.iconst 1, 1) := by decide +kernel
theorem dX5_bestLeft_29 : decode cX5_bestLeft 29 = .ok (.iand, 1) := by decide +kernel
theorem dX5_bestLeft_30 : decode cX5_bestLeft 30 = .ok (.ifCond .ne 35, 3) := by decide +kernel
theorem dX5_bestLeft_33 : decode cX5_bestLeft 33 = .ok (.aload_n 0, 1) := by decide +kernel
theorem dX5_bestLeft_34 : decode cX5_bestLeft 34 = .ok (.getfield 9, 3) := by decide +kernel
theorem dX5_bestLeft_37 : decode cX5_bestLeft 37 = .ok (.iload_n 1, 1) := by decide +kernel
theorem dX5_bestLeft_38 : decode cX5_bestLeft 38 = .ok (.bipush 6, 2) := by decide +kernel
theorem dX5_bestLeft_40 : decode cX5_bestLeft 40 = .ok (.imul, 1) := by decide +kernel
theorem dX5_bestLeft_41 : decode cX5_bestLeft 41 = .ok (.iload 4, 2) := by decide +kernel
theorem dX5_bestLeft_43 : decode cX5_bestLeft 43 = .ok (.iadd, 1) := by decide +kernel
theorem dX5_bestLeft_44 : decode cX5_bestLeft 44 = .ok (.iaload, 1) := by decide +kernel
theorem dX5_bestLeft_45 : decode cX5_bestLeft 45 = .ok (.iload_n 3, 1) := by decide +kernel
theorem dX5_bestLeft_46 : decode cX5_bestLeft 46 = .ok (.if_icmp .le 19, 3) := by decide +kernel
theorem dX5_bestLeft_49 : decode cX5_bestLeft 49 = .ok (.aload_n 0, 1) := by decide +kernel
theorem dX5_bestLeft_50 : decode cX5_bestLeft 50 = .ok (.getfield 9, 3) := by decide +kernel
theorem dX5_bestLeft_53 : decode cX5_bestLeft 53 = .ok (.iload_n 1, 1) := by decide +kernel
theorem dX5_bestLeft_54 : decode cX5_bestLeft 54 = .ok (.bipush 6, 2) := by decide +kernel
theorem dX5_bestLeft_56 : decode cX5_bestLeft 56 = .ok (.imul, 1) := by decide +kernel
theorem dX5_bestLeft_57 : decode cX5_bestLeft 57 = .ok (.iload 4, 2) := by decide +kernel
theorem dX5_bestLeft_59 : decode cX5_bestLeft 59 = .ok (.iadd, 1) := by decide +kernel
theorem dX5_bestLeft_60 : decode cX5_bestLeft 60 = .ok (.iaload, 1) := by decide +kernel
theorem dX5_bestLeft_61 : decode cX5_bestLeft 61 = .ok (.istore_n 3, 1) := by decide +kernel
theorem dX5_bestLeft_62 : decode cX5_bestLeft 62 = .ok (.iload 4, 2) := by decide +kernel
theorem dX5_bestLeft_64 : decode cX5_bestLeft 64 = .ok (.istore_n 2, 1) := by decide +kernel
theorem dX5_bestLeft_65 : decode cX5_bestLeft 65 = .ok (.iinc 4 1, 3) := by decide +kernel
theorem dX5_bestLeft_68 : decode cX5_bestLeft 68 = .ok (.goto (-61), 3) := by decide +kernel
theorem dX5_bestLeft_71 : decode cX5_bestLeft 71 = .ok (.iload_n 2, 1) := by decide +kernel
theorem dX5_bestLeft_72 : decode cX5_bestLeft 72 = .ok (.ireturn, 1) := by decide +kernel
set_option maxRecDepth 4000 in
set_option maxHeartbeats 4000000 in
theorem m_X5_bestLeft (l : Launch) (g : qGm) (M : qMem) {sd : sSD} (hs : sRS sd) (hS : xS M sd) {c : Int} (hc : 0 ≤ c ∧ c < sd 4 0) (hg : 0 ≤ M 22 0 c ∧ M 22 0 c < 64) : qOk l g 2 yX5_bestLeft cX5_bestLeft 5 (some .int) [qR g 20 0, qI c] M (qEv (some (sAm (fun h => if sHas (M 22 0 c) h then -1 else M 21 0 (c * 6 + h)) (-1) (-1) (sd 5 0)).1) M) := by
  refine q_ok (by decide +kernel) (Nat.le_of_ble_eq_true rfl) (fun X C' hn => ?_)
  have C := C'.1
  have hm6 := hs.2.1
  have hn6 := hs.2.2.1
  refine q_iconst C dX5_bestLeft_0 ?_
  refine q_istoren C dX5_bestLeft_1 hn (by decide) rfl ?_
  refine q_iconst C dX5_bestLeft_2 ?_
  refine q_istoren C dX5_bestLeft_3 hn (by decide) rfl ?_
  refine q_iconst C dX5_bestLeft_4 ?_
  refine q_istore C dX5_bestLeft_5 hn (by decide) rfl ?_
  have L7 : ∀ (n7 : Nat) (s : Int) (t : Int) (i : Int), sd 5 0 - i < (n7 : Int) → (0 ≤ i) → (i ≤ sd 5 0) → ((s, t) = sAm (fun h => if sHas (M 22 0 c) h then -1 else M 21 0 (c * 6 + h)) (-1) (-1) i) → (-1 ≤ s ∧ s ≤ i) → (qIn t) → qV l g X M 7 [(0, qR g 20 0), (1, qI c), (2, qI s), (3, qI t), (4, qI i)] [] := by
    intro n7
    induction n7 with
    | zero => intro s t i hm7 h0 h1 hs2 hb2 hb3; exfalso; first | omega | (simp at *; omega)
    | succ n7 ih7 =>
      intro s t i hm7 h0 h1 hs2 hb2 hb3
      have e1 := fun q : i < 8 => q_shr1 hg.1 hg.2 h0 q
      have hb4 : -1 ≤ t := by have := sAm_m (f := (fun h => if sHas (M 22 0 c) h then -1 else M 21 0 (c * 6 + h))) (b := -1) (m := -1) (n := i); rw [← hs2] at this; exact this
      refine q_iload C dX5_bestLeft_7 rfl ?_
      refine q_aloadn C dX5_bestLeft_9 rfl ?_
      refine gf_RX5_28 C dX5_bestLeft_10 ?_
      refine cv_RX5_61 C (by decide) (m_X10_houses l g _ hs hS) dX5_bestLeft_13 (Nat.le_of_ble_eq_true rfl) (fun r13 => ?_)
      refine q_icmp_ge C 71 dX5_bestLeft_16 (by decide) (by first | assumption | omega | exact q_tin _ | exact q_bIn _) (by first | assumption | omega | exact q_tin _ | exact q_bIn _) (fun h16 => ?_) (fun h16 => ?_)
      · refine q_iloadn C dX5_bestLeft_71 rfl ?_
        refine q_iret C' dX5_bestLeft_72 (by first | assumption | omega | exact q_tin _ | exact q_bIn _) ?_
        have : i = sd 5 0 := by omega
        subst this
        rw [← hs2]
        exact ⟨rfl, rfl⟩
      · refine q_aloadn C dX5_bestLeft_19 rfl ?_
        refine gf_RX5_15 C dX5_bestLeft_20 ?_
        refine q_iloadn C dX5_bestLeft_23 rfl ?_
        refine q_iald C (by first | assumption | decide | omega) rfl dX5_bestLeft_24 (by omega) (by omega) (by decide) (fun r24 => ?_)
        refine q_iload C dX5_bestLeft_25 rfl ?_
        refine q_ishr C dX5_bestLeft_27 ?_
        refine q_iconst C dX5_bestLeft_28 ?_
        refine q_iand C dX5_bestLeft_29 ?_
        refine q_if_ne C 65 dX5_bestLeft_30 (by decide) (by first | assumption | omega | exact q_tin _ | exact q_bIn _) (fun h30 => ?_) (fun h30 => ?_)
        · refine q_iinc C dX5_bestLeft_65 rfl hn (by decide) rfl ?_
          refine q_goto C (tgt := 7) dX5_bestLeft_68 (by decide) ?_
          exact q_ls (by exact ⟨rfl, rfl, rfl, rfl, rfl, trivial⟩) (ih7 _ _ _ (by omega) (by omega) (by omega) (by have e1 := e1 (by omega); rw [sAm_s _ _ _ (by omega), ← hs2]; first | (rw [if_neg (show ¬ sHas (M 22 0 c) i from fun q => (by have : M 22 0 c / 2 ^ i.toNat % 2 = 1 := q; omega))]; first | (rw [if_pos (by show t < M 21 0 (c * 6 + i); omega)]; done) | (rw [if_neg (by show ¬ t < M 21 0 (c * 6 + i); omega)]; done)) | (rw [if_pos (show sHas (M 22 0 c) i from (by show M 22 0 c / 2 ^ i.toNat % 2 = 1; omega)), if_neg (by show ¬ t < -1; omega)])) (by omega) (by first | assumption | omega))
        · refine q_aloadn C dX5_bestLeft_33 rfl ?_
          refine gf_RX5_9 C dX5_bestLeft_34 ?_
          refine q_iloadn C dX5_bestLeft_37 rfl ?_
          refine q_bipush C dX5_bestLeft_38 (by decide) ?_
          refine q_imul C dX5_bestLeft_40 ?_
          refine q_iload C dX5_bestLeft_41 rfl ?_
          refine q_iadd C dX5_bestLeft_43 ?_
          refine q_iald C (by first | assumption | decide | omega) rfl dX5_bestLeft_44 (by omega) (by omega) (by decide) (fun r44 => ?_)
          refine q_iloadn C dX5_bestLeft_45 rfl ?_
          refine q_icmp_le C 65 dX5_bestLeft_46 (by decide) (by first | assumption | omega | exact q_tin _ | exact q_bIn _) (by first | assumption | omega | exact q_tin _ | exact q_bIn _) (fun h46 => ?_) (fun h46 => ?_)
          · refine q_iinc C dX5_bestLeft_65 rfl hn (by decide) rfl ?_
            refine q_goto C (tgt := 7) dX5_bestLeft_68 (by decide) ?_
            exact q_ls (by exact ⟨rfl, rfl, rfl, rfl, rfl, trivial⟩) (ih7 _ _ _ (by omega) (by omega) (by omega) (by have e1 := e1 (by omega); rw [sAm_s _ _ _ (by omega), ← hs2]; first | (rw [if_neg (show ¬ sHas (M 22 0 c) i from fun q => (by have : M 22 0 c / 2 ^ i.toNat % 2 = 1 := q; omega))]; first | (rw [if_pos (by show t < M 21 0 (c * 6 + i); omega)]; done) | (rw [if_neg (by show ¬ t < M 21 0 (c * 6 + i); omega)]; done)) | (rw [if_pos (show sHas (M 22 0 c) i from (by show M 22 0 c / 2 ^ i.toNat % 2 = 1; omega)), if_neg (by show ¬ t < -1; omega)])) (by omega) (by first | assumption | omega))
          · refine q_aloadn C dX5_bestLeft_49 rfl ?_
            refine gf_RX5_9 C dX5_bestLeft_50 ?_
            refine q_iloadn C dX5_bestLeft_53 rfl ?_
            refine q_bipush C dX5_bestLeft_54 (by decide) ?_
            refine q_imul C dX5_bestLeft_56 ?_
            refine q_iload C dX5_bestLeft_57 rfl ?_
            refine q_iadd C dX5_bestLeft_59 ?_
            refine q_iald C (by first | assumption | decide | omega) rfl dX5_bestLeft_60 (by omega) (by omega) (by decide) (fun r60 => ?_)
            refine q_istoren C dX5_bestLeft_61 hn (by decide) rfl ?_
            refine q_iload C dX5_bestLeft_62 rfl ?_
            refine q_istoren C dX5_bestLeft_64 hn (by decide) rfl ?_
            refine q_iinc C dX5_bestLeft_65 rfl hn (by decide) rfl ?_
            refine q_goto C (tgt := 7) dX5_bestLeft_68 (by decide) ?_
            exact q_ls (by exact ⟨rfl, rfl, rfl, rfl, rfl, trivial⟩) (ih7 _ _ _ (by omega) (by omega) (by omega) (by have e1 := e1 (by omega); rw [sAm_s _ _ _ (by omega), ← hs2]; first | (rw [if_neg (show ¬ sHas (M 22 0 c) i from fun q => (by have : M 22 0 c / 2 ^ i.toNat % 2 = 1 := q; omega))]; first | (rw [if_pos (by show t < M 21 0 (c * 6 + i); omega)]; done) | (rw [if_neg (by show ¬ t < M 21 0 (c * 6 + i); omega)]; done)) | (rw [if_pos (show sHas (M 22 0 c) i from (by show M 22 0 c / 2 ^ i.toNat % 2 = 1; omega)), if_neg (by show ¬ t < -1; omega)])) (by omega) (by first | assumption | omega))
  exact q_ls (by exact ⟨rfl, rfl, rfl, rfl, rfl, trivial⟩) (L7 1000 _ _ _ (by omega) (by omega) (by omega) (by rfl) (by omega) (by first | assumption | omega))
theorem dX5_isPreferred_0 : decode cX5_isPreferred 0 = .ok (.aload_n 0, 1) := by decide +kernel
theorem dX5_isPreferred_1 : decode cX5_isPreferred 1 = .ok (.getfield 9, 3) := by decide +kernel
theorem dX5_isPreferred_4 : decode cX5_isPreferred 4 = .ok (.iload_n 1, 1) := by decide +kernel
theorem dX5_isPreferred_5 : decode cX5_isPreferred 5 = .ok (.bipush 6, 2) := by decide +kernel
theorem dX5_isPreferred_7 : decode cX5_isPreferred 7 = .ok (.imul, 1) := by decide +kernel
theorem dX5_isPreferred_8 : decode cX5_isPreferred 8 = .ok (.iload_n 3, 1) := by decide +kernel
theorem dX5_isPreferred_9 : decode cX5_isPreferred 9 = .ok (.iadd, 1) := by decide +kernel
theorem dX5_isPreferred_10 : decode cX5_isPreferred 10 = .ok (.iaload, 1) := by decide +kernel
theorem dX5_isPreferred_11 : decode cX5_isPreferred 11 = .ok (.istore 4, 2) := by decide +kernel
theorem dX5_isPreferred_13 : decode cX5_isPreferred 13 = .ok (.aload_n 0, 1) := by decide +kernel
theorem dX5_isPreferred_14 : decode cX5_isPreferred 14 = .ok (.getfield 9, 3) := by decide +kernel
theorem dX5_isPreferred_17 : decode cX5_isPreferred 17 = .ok (.iload_n 2, 1) := by decide +kernel
theorem dX5_isPreferred_18 : decode cX5_isPreferred 18 = .ok (.bipush 6, 2) := by decide +kernel
theorem dX5_isPreferred_20 : decode cX5_isPreferred 20 = .ok (.imul, 1) := by decide +kernel
theorem dX5_isPreferred_21 : decode cX5_isPreferred 21 = .ok (.iload_n 3, 1) := by decide +kernel
theorem dX5_isPreferred_22 : decode cX5_isPreferred 22 = .ok (.iadd, 1) := by decide +kernel
theorem dX5_isPreferred_23 : decode cX5_isPreferred 23 = .ok (.iaload, 1) := by decide +kernel
theorem dX5_isPreferred_24 : decode cX5_isPreferred 24 = .ok (.istore 5, 2) := by decide +kernel
theorem dX5_isPreferred_26 : decode cX5_isPreferred 26 = .ok (.iload 4, 2) := by decide +kernel
theorem dX5_isPreferred_28 : decode cX5_isPreferred 28 = .ok (.iload 5, 2) := by decide +kernel
theorem dX5_isPreferred_30 : decode cX5_isPreferred 30 = .ok (.if_icmp .gt 15, 3) := by decide +kernel
theorem dX5_isPreferred_33 : decode cX5_isPreferred 33 = .ok (.iload 4, 2) := by decide +kernel
theorem dX5_isPreferred_35 : decode cX5_isPreferred 35 = .ok (.iload 5, 2) := by decide +kernel
theorem dX5_isPreferred_37 : decode cX5_isPreferred 37 = .ok (.if_icmp .ne 12, 3) := by decide +kernel
theorem dX5_isPreferred_40 : decode cX5_isPreferred 40 = .ok (.iload_n 1, 1) := by decide +kernel
theorem dX5_isPreferred_41 : decode cX5_isPreferred 41 = .ok (.iload_n 2, 1) := by decide +kernel
theorem dX5_isPreferred_42 : decode cX5_isPreferred 42 = .ok (.if_icmp .ge 7, 3) := by decide +kernel
theorem dX5_isPreferred_45 : decode cX5_isPreferred 45 = .ok (.iconst 1, 1) := by decide +kernel
theorem dX5_isPreferred_46 : decode cX5_isPreferred 46 = .ok (.goto 4, 3) := by decide +kernel
theorem dX5_isPreferred_49 : decode cX5_isPreferred 49 = .ok (.iconst 0, 1) := by decide +kernel
theorem dX5_isPreferred_50 : decode cX5_isPreferred 50 = .ok (.ireturn, 1) := by decide +kernel
set_option maxRecDepth 4000 in
set_option maxHeartbeats 4000000 in
theorem m_X5_isPreferred (l : Launch) (g : qGm) (M : qMem) {c o h : Int} (hc : 0 ≤ c ∧ c < 6) (ho : 0 ≤ o ∧ o < 6) (hh : 0 ≤ h ∧ h < 6) : qOk l g 1 yX5_isPreferred cX5_isPreferred 6 (some .boolean) [qR g 20 0, qI c, qI o, qI h] M (qEv (some (qB (M 21 0 (o * 6 + h) < M 21 0 (c * 6 + h) ∨ (M 21 0 (c * 6 + h) = M 21 0 (o * 6 + h) ∧ c < o)))) M) := by
  refine q_ok (by decide +kernel) (Nat.le_of_ble_eq_true rfl) (fun X C' hn => ?_)
  have C := C'.1
  refine q_aloadn C dX5_isPreferred_0 rfl ?_
  refine gf_RX5_9 C dX5_isPreferred_1 ?_
  refine q_iloadn C dX5_isPreferred_4 rfl ?_
  refine q_bipush C dX5_isPreferred_5 (by decide) ?_
  refine q_imul C dX5_isPreferred_7 ?_
  refine q_iloadn C dX5_isPreferred_8 rfl ?_
  refine q_iadd C dX5_isPreferred_9 ?_
  refine q_iald C (by first | assumption | decide | omega) rfl dX5_isPreferred_10 (by omega) (by omega) (by decide) (fun r10 => ?_)
  refine q_istore C dX5_isPreferred_11 hn (by decide) rfl ?_
  refine q_aloadn C dX5_isPreferred_13 rfl ?_
  refine gf_RX5_9 C dX5_isPreferred_14 ?_
  refine q_iloadn C dX5_isPreferred_17 rfl ?_
  refine q_bipush C dX5_isPreferred_18 (by decide) ?_
  refine q_imul C dX5_isPreferred_20 ?_
  refine q_iloadn C dX5_isPreferred_21 rfl ?_
  refine q_iadd C dX5_isPreferred_22 ?_
  refine q_iald C (by first | assumption | decide | omega) rfl dX5_isPreferred_23 (by omega) (by omega) (by decide) (fun r23 => ?_)
  refine q_istore C dX5_isPreferred_24 hn (by decide) rfl ?_
  refine q_iload C dX5_isPreferred_26 rfl ?_
  refine q_iload C dX5_isPreferred_28 rfl ?_
  refine q_icmp_gt C 45 dX5_isPreferred_30 (by decide) (by first | assumption | omega | exact q_tin _ | exact q_bIn _) (by first | assumption | omega | exact q_tin _ | exact q_bIn _) (fun h30 => ?_) (fun h30 => ?_)
  · refine q_iconst C dX5_isPreferred_45 ?_
    refine q_goto C (tgt := 50) dX5_isPreferred_46 (by decide) ?_
    refine q_zret C' dX5_isPreferred_50 (by first | omega | exact q_b01 _ | simp) ?_
    refine ⟨congrArg some ?_, rfl⟩
    first | (rw [q_bT (by omega)]; done) | (rw [q_bF (by omega)]; done) | exact q_bIff (by omega)
  · refine q_iload C dX5_isPreferred_33 rfl ?_
    refine q_iload C dX5_isPreferred_35 rfl ?_
    refine q_icmp_ne C 49 dX5_isPreferred_37 (by decide) (by first | assumption | omega | exact q_tin _ | exact q_bIn _) (by first | assumption | omega | exact q_tin _ | exact q_bIn _) (fun h37 => ?_) (fun h37 => ?_)
    · refine q_iconst C dX5_isPreferred_49 ?_
      refine q_zret C' dX5_isPreferred_50 (by first | omega | exact q_b01 _ | simp) ?_
      refine ⟨congrArg some ?_, rfl⟩
      first | (rw [q_bT (by omega)]; done) | (rw [q_bF (by omega)]; done) | exact q_bIff (by omega)
    · refine q_iloadn C dX5_isPreferred_40 rfl ?_
      refine q_iloadn C dX5_isPreferred_41 rfl ?_
      refine q_tI_ge C 49 50 dX5_isPreferred_42 dX5_isPreferred_45 dX5_isPreferred_46 dX5_isPreferred_49 (by decide) (by decide) rfl (by first | assumption | omega | exact q_tin _ | exact q_bIn _) (by first | assumption | omega | exact q_tin _ | exact q_bIn _) ?_
      refine q_zret C' dX5_isPreferred_50 (by first | omega | exact q_b01 _ | simp) ?_
      refine ⟨congrArg some ?_, rfl⟩
      first | (rw [q_bT (by omega)]; done) | (rw [q_bF (by omega)]; done) | exact q_bIff (by omega)
theorem dX5_join_0 : decode cX5_join 0 = .ok (.aload_n 0, 1) := by decide +kernel
theorem dX5_join_1 : decode cX5_join 1 = .ok (.getfield 18, 3) := by decide +kernel
theorem dX5_join_4 : decode cX5_join 4 = .ok (.iload_n 1, 1) := by decide +kernel
theorem dX5_join_5 : decode cX5_join 5 = .ok (.iload_n 2, 1) := by decide +kernel
theorem dX5_join_6 : decode cX5_join 6 = .ok (.iastore, 1) := by decide +kernel
theorem dX5_join_7 : decode cX5_join 7 = .ok (.aload_n 0, 1) := by decide +kernel
theorem dX5_join_8 : decode cX5_join 8 = .ok (.getfield 21, 3) := by decide +kernel
theorem dX5_join_11 : decode cX5_join 11 = .ok (.iload_n 2, 1) := by decide +kernel
theorem dX5_join_12 : decode cX5_join 12 = .ok (.iload_n 1, 1) := by decide +kernel
theorem dX5_join_13 : decode cX5_join 13 = .ok (.iastore, 1) := by decide +kernel
theorem dX5_join_14 : decode cX5_join 14 = .ok (.return_, 1) := by decide +kernel
set_option maxRecDepth 4000 in
set_option maxHeartbeats 4000000 in
theorem m_X5_join (l : Launch) (g : qGm) (M : qMem) {c h : Int} (hc : 0 ≤ c ∧ c < 6) (hh : 0 ≤ h ∧ h < 6) : qOk l g 1 yX5_join cX5_join 3 none [qR g 20 0, qI c, qI h] M (qEv none (qUp (qUp M 23 0 c h) 24 0 h c)) := by
  refine q_ok (by decide +kernel) (Nat.le_of_ble_eq_true rfl) (fun X C' hn => ?_)
  have C := C'.1
  refine q_aloadn C dX5_join_0 rfl ?_
  refine gf_RX5_18 C dX5_join_1 ?_
  refine q_iloadn C dX5_join_4 rfl ?_
  refine q_iloadn C dX5_join_5 rfl ?_
  refine q_iast C (by first | assumption | decide | omega) (fun _ => rfl) dX5_join_6 (by omega) (by omega) (by decide) (by first | assumption | omega | exact q_tin _ | exact q_bIn _) ?_
  refine q_aloadn C dX5_join_7 rfl ?_
  refine gf_RX5_21 C dX5_join_8 ?_
  refine q_iloadn C dX5_join_11 rfl ?_
  refine q_iloadn C dX5_join_12 rfl ?_
  refine q_iast C (by first | assumption | decide | omega) (fun _ => rfl) dX5_join_13 (by omega) (by omega) (by decide) (by first | assumption | omega | exact q_tin _ | exact q_bIn _) ?_
  refine q_vret C' dX5_join_14 ?_
  exact ⟨rfl, rfl⟩
/-- the rows of the matching -/
def xMt (M : qMem) (T : sMT) : qMem := qSet (qSet (qSet M 22 0 (T 0)) 23 0 (T 1)) 24 0 (T 2)
theorem xMt_22 (M : qMem) (T : sMT) : xMt M T 22 0 = T 0 := by unfold xMt; simp only [q_rdSR]; rfl
theorem xMt_23 (M : qMem) (T : sMT) : xMt M T 23 0 = T 1 := by unfold xMt; simp only [q_rdSR]; rfl
theorem xMt_24 (M : qMem) (T : sMT) : xMt M T 24 0 = T 2 := by unfold xMt; simp only [q_rdSR]; rfl
theorem xMt_off (M : qMem) (T : sMT) {j : Nat} (h : j < 22 ∨ 24 < j) : xMt M T j = M j := by
  funext u
  unfold xMt
  simp only [q_rdSR]
  rw [if_neg (by omega), if_neg (by omega), if_neg (by omega)]
theorem xMt_join (M : qMem) (T : sMT) (c h : Int) : qUp (qUp (xMt M T) 23 0 c h) 24 0 h c = xMt M (tJoin T c h) := by
  funext j u i
  unfold xMt
  simp only [q_rd, q_rdS, tJoin]
  by_cases h4 : j = 24
  · subst h4; by_cases hu : u = 0
    · subst hu; simp
    · simp [hu]
  · by_cases h3 : j = 23
    · subst h3; by_cases hu : u = 0
      · subst hu; simp
      · simp [hu]
    · simp [h3, h4]
theorem xMt_drop (M : qMem) (T : sMT) (o h : Int) : qUp (qUp (xMt M T) 23 0 o (-1)) 22 0 o (qOr (T 0 o) (qShl 1 h)) = xMt M (tDrop T o h) := by
  funext j u i
  unfold xMt
  simp only [q_rd, q_rdS, tDrop, sAdd]
  by_cases h4 : j = 24
  · subst h4; by_cases hu : u = 0
    · subst hu; simp
    · simp [hu]
  · by_cases h3 : j = 23
    · subst h3; by_cases hu : u = 0
      · subst hu; simp
      · simp [hu]
    · by_cases h2 : j = 22
      · subst h2; by_cases hu : u = 0
        · subst hu; simp
        · simp [hu]
      · simp [h2, h3, h4]
theorem xMt_ref (M : qMem) (T : sMT) (c h : Int) : qUp (xMt M T) 22 0 c (qOr (T 0 c) (qShl 1 h)) = xMt M (tRef T c h) := by
  funext j u i
  unfold xMt
  simp only [q_rd, q_rdS, tRef, sAdd]
  by_cases h4 : j = 24
  · subst h4; by_cases hu : u = 0
    · subst hu; simp
    · simp [hu]
  · by_cases h3 : j = 23
    · subst h3; by_cases hu : u = 0
      · subst hu; simp
      · simp [hu]
    · by_cases h2 : j = 22
      · subst h2; by_cases hu : u = 0
        · subst hu; simp
        · simp [hu]
      · simp [h2, h3, h4]
theorem xMt_21 (M : qMem) (T : sMT) : xMt M T 21 = M 21 := xMt_off M T (by decide)
theorem dX5_ask_0 : decode cX5_ask 0 = .ok (.aload_n 0, 1) := by decide +kernel
theorem dX5_ask_1 : decode cX5_ask 1 = .ok (.getfield 21, 3) := by decide +kernel
theorem dX5_ask_4 : decode cX5_ask 4 = .ok (.iload_n 2, 1) := by decide +kernel
theorem dX5_ask_5 : decode cX5_ask 5 = .ok (.iaload, 1) := by decide +kernel
theorem dX5_ask_6 : decode cX5_ask 6 = .ok (.istore_n 3, 1) := by decide +kernel
theorem dX5_ask_7 : decode cX5_ask 7 = .ok (.iload_n 3, 1) := by decide +kernel
theorem dX5_ask_8 : decode cX5_ask 8 = .ok (.iconst (-1), 1) := by decide +kernel
theorem dX5_ask_9 : decode cX5_ask 9 = .ok (.if_icmp .ne 12, 3) := by decide +kernel
theorem dX5_ask_12 : decode cX5_ask 12 = .ok (.aload_n 0, 1) := by decide +kernel
theorem dX5_ask_13 : decode cX5_ask 13 = .ok (.iload_n 1, 1) := by decide +kernel
theorem dX5_ask_14 : decode cX5_ask 14 = .ok (.iload_n 2, 1) := by decide +kernel
theorem dX5_ask_15 : decode cX5_ask 15 = .ok (.invokevirtual 67, 3) := by decide +kernel
theorem dX5_ask_18 : decode cX5_ask 18 = .ok (.goto 53, 3) := by decide +kernel
theorem dX5_ask_21 : decode cX5_ask 21 = .ok (.aload_n 0, 1) := by decide +kernel
theorem dX5_ask_22 : decode cX5_ask 22 = .ok (.iload_n 1, 1) := by decide +kernel
theorem dX5_ask_23 : decode cX5_ask 23 = .ok (.iload_n 3, 1) := by decide +kernel
theorem dX5_ask_24 : decode cX5_ask 24 = .ok (.iload_n 2, 1) := by decide +kernel
theorem dX5_ask_25 : decode cX5_ask 25 = .ok (.invokevirtual 70, 3) := by decide +kernel
theorem dX5_ask_28 : decode cX5_ask 28 = .ok (.ifCond .eq 31, 3) := by decide +kernel
theorem dX5_ask_31 : decode cX5_ask 31 = .ok (.aload_n 0, 1) := by decide +kernel
theorem dX5_ask_32 : decode cX5_ask 32 = .ok (.getfield 18, 3) := by decide +kernel
theorem dX5_ask_35 : decode cX5_ask 35 = .ok (.iload_n 3, 1) := by decide +kernel
theorem dX5_ask_36 : decode cX5_ask 36 = .ok (.iconst (-1), 1) := by decide +kernel
theorem dX5_ask_37 : decode cX5_ask 37 = .ok (.iastore, 1) := by decide +kernel
theorem dX5_ask_38 : decode cX5_ask 38 = .ok (.aload_n 0, 1) := by decide +kernel
theorem dX5_ask_39 : decode cX5_ask 39 = .ok (.getfield 15, 3) := by decide +kernel
theorem dX5_ask_42 : decode cX5_ask 42 = .ok (.iload_n 3, 1) := by decide +kernel
theorem dX5_ask_43 : decode cX5_ask 43 = .ok (.dup2, 1) := by decide +kernel
theorem dX5_ask_44 : decode cX5_ask 44 = .ok (.iaload, 1) := by decide +kernel
theorem dX5_ask_45 : decode cX5_ask 45 = .ok (.iconst 1, 1) := by decide +kernel
theorem dX5_ask_46 : decode cX5_ask 46 = .ok (.iload_n 2, 1) := by decide +kernel
theorem dX5_ask_47 : decode cX5_ask 47 = .ok (.ishl, 1) := by decide +kernel
theorem dX5_ask_48 : decode cX5_ask 48 = .ok (.ior, 1) := by decide +kernel
theorem dX5_ask_49 : decode cX5_ask 49 = .ok (.iastore, 1) := by decide +kernel
theorem dX5_ask_50 : decode cX5_ask 50 = .ok (.aload_n 0, 1) := by decide +kernel
theorem dX5_ask_51 : decode cX5_ask 51 = .ok (.iload_n 1, 1) := by decide +kernel
theorem dX5_ask_52 : decode cX5_ask 52 = .ok (.iload_n 2, 1) := by decide +kernel
theorem dX5_ask_53 : decode cX5_ask 53 = .ok (.invokevirtual 67, 3) := by decide +kernel
theorem dX5_ask_56 : decode cX5_ask 56 = .ok (.goto 15, 3) := by decide +kernel
theorem dX5_ask_59 : decode cX5_ask 59 = .ok (.aload_n 0, 1) := by decide +kernel
theorem dX5_ask_60 : decode cX5_ask 60 = .ok (.getfield 15, 3) := by decide +kernel
theorem dX5_ask_63 : decode cX5_ask 63 = .ok (.iload_n 1, 1) := by decide +kernel
theorem dX5_ask_64 : decode cX5_ask 64 = .ok (.dup2, 1) := by decide +kernel
theorem dX5_ask_65 : decode cX5_ask 65 = .ok (.iaload, 1) := by decide +kernel
theorem dX5_ask_66 : decode cX5_ask 66 = .ok (.iconst 1, 1) := by decide +kernel
theorem dX5_ask_67 : decode cX5_ask 67 = .ok (.iload_n 2, 1) := by decide +kernel
theorem dX5_ask_68 : decode cX5_ask 68 = .ok (.ishl, 1) := by decide +kernel
theorem dX5_ask_69 : decode cX5_ask 69 = .ok (.ior, 1) := by decide +kernel
theorem dX5_ask_70 : decode cX5_ask 70 = .ok (.iastore, 1) := by decide +kernel
theorem dX5_ask_71 : decode cX5_ask 71 = .ok (.return_, 1) := by decide +kernel
set_option maxRecDepth 4000 in
set_option maxHeartbeats 4000000 in
theorem m_X5_ask (l : Launch) (g : qGm) (M : qMem) {S : Int → Int → Int} {T : sMT} {m n : Int} (hm : m ≤ 6) (hn6 : n ≤ 6) (hT : tInv m n T) (hW : ∀ c h, 0 ≤ c → c < m → 0 ≤ h → h < n → M 21 0 (c * 6 + h) = S c h) {c h : Int} (hc : 0 ≤ c ∧ c < m) (hh : 0 ≤ h ∧ h < n) : qOk l g 2 yX5_ask cX5_ask 4 none [qR g 20 0, qI c, qI h] (xMt M T) (qEv none (xMt M (tAsk S T c h))) := by
  refine q_ok (by decide +kernel) (Nat.le_of_ble_eq_true rfl) (fun X C' hn => ?_)
  have C := C'.1
  have ho := hT.2 h hh.1 hh.2
  have w1 := hW c h hc.1 hc.2 hh.1 hh.2
  have w2 := fun (q : 0 ≤ T 2 h ∧ T 2 h < m) => hW (T 2 h) h q.1 q.2 hh.1 hh.2
  refine q_aloadn C dX5_ask_0 rfl ?_
  refine gf_RX5_21 C dX5_ask_1 ?_
  refine q_iloadn C dX5_ask_4 rfl ?_
  refine q_iald C (by first | assumption | decide | omega) rfl dX5_ask_5 (by omega) (by omega) (by decide) (fun r5 => ?_)
  try simp only [q_rd, q_rdS, ↓reduceIte, if_true, if_false, eq_self, Nat.reduceEqDiff, Int.reduceEq, Int.reduceNeg, reduceCtorEq, xMt_21, xMt_22, xMt_23, xMt_24] at r5 ⊢
  refine q_istoren C dX5_ask_6 hn (by decide) rfl ?_
  refine q_iloadn C dX5_ask_7 rfl ?_
  refine q_iconst C dX5_ask_8 ?_
  refine q_icmp_ne C 21 dX5_ask_9 (by decide) (by first | assumption | omega | exact q_tin _ | exact q_bIn _) (by first | assumption | omega | exact q_tin _ | exact q_bIn _) (fun h9 => ?_) (fun h9 => ?_)
  · refine q_aloadn C dX5_ask_21 rfl ?_
    refine q_iloadn C dX5_ask_22 rfl ?_
    refine q_iloadn C dX5_ask_23 rfl ?_
    refine q_iloadn C dX5_ask_24 rfl ?_
    refine cv_RX5_70 C (by decide) (m_X5_isPreferred l g _ (by omega) (by omega) (by omega)) dX5_ask_25 (Nat.le_of_ble_eq_true rfl) (fun r25 => ?_)
    refine q_ifeqB C 59 dX5_ask_28 (by decide) (fun h28 => ?_) (fun h28 => ?_)
    · refine q_aloadn C dX5_ask_59 rfl ?_
      refine gf_RX5_15 C dX5_ask_60 ?_
      refine q_iloadn C dX5_ask_63 rfl ?_
      refine q_dup2 C dX5_ask_64 rfl rfl ?_
      refine q_iald C (by first | assumption | decide | omega) rfl dX5_ask_65 (by omega) (by omega) (by decide) (fun r65 => ?_)
      try simp only [q_rd, q_rdS, ↓reduceIte, if_true, if_false, eq_self, Nat.reduceEqDiff, Int.reduceEq, Int.reduceNeg, reduceCtorEq, xMt_21, xMt_22, xMt_23, xMt_24] at r65 ⊢
      refine q_iconst C dX5_ask_66 ?_
      refine q_iloadn C dX5_ask_67 rfl ?_
      refine q_ishl C dX5_ask_68 ?_
      refine q_ior C dX5_ask_69 ?_
      refine q_iast C (by first | assumption | decide | omega) (fun _ => rfl) dX5_ask_70 (by omega) (by omega) (by decide) (by first | assumption | omega | exact q_tin _ | exact q_bIn _) ?_
      refine q_vret C' dX5_ask_71 ?_
      refine ⟨rfl, ?_⟩
      unfold tAsk
      first | (rw [if_pos (by omega), xMt_join]; done) | (have w2 := w2 (by omega); try simp only [xMt_21, w1, w2] at h28; first | (rw [if_neg (by omega), if_pos h28, xMt_drop, xMt_join]; done) | (rw [if_neg (by omega), if_neg h28, xMt_ref]; done))
    · refine q_aloadn C dX5_ask_31 rfl ?_
      refine gf_RX5_18 C dX5_ask_32 ?_
      refine q_iloadn C dX5_ask_35 rfl ?_
      refine q_iconst C dX5_ask_36 ?_
      refine q_iast C (by first | assumption | decide | omega) (fun _ => rfl) dX5_ask_37 (by omega) (by omega) (by decide) (by first | assumption | omega | exact q_tin _ | exact q_bIn _) ?_
      refine q_aloadn C dX5_ask_38 rfl ?_
      refine gf_RX5_15 C dX5_ask_39 ?_
      refine q_iloadn C dX5_ask_42 rfl ?_
      refine q_dup2 C dX5_ask_43 rfl rfl ?_
      refine q_iald C (by first | assumption | decide | omega) rfl dX5_ask_44 (by omega) (by omega) (by decide) (fun r44 => ?_)
      try simp only [q_rd, q_rdS, ↓reduceIte, if_true, if_false, eq_self, Nat.reduceEqDiff, Int.reduceEq, Int.reduceNeg, reduceCtorEq, xMt_21, xMt_22, xMt_23, xMt_24] at r44 ⊢
      refine q_iconst C dX5_ask_45 ?_
      refine q_iloadn C dX5_ask_46 rfl ?_
      refine q_ishl C dX5_ask_47 ?_
      refine q_ior C dX5_ask_48 ?_
      refine q_iast C (by first | assumption | decide | omega) (fun _ => rfl) dX5_ask_49 (by omega) (by omega) (by decide) (by first | assumption | omega | exact q_tin _ | exact q_bIn _) ?_
      refine q_aloadn C dX5_ask_50 rfl ?_
      refine q_iloadn C dX5_ask_51 rfl ?_
      refine q_iloadn C dX5_ask_52 rfl ?_
      refine cv_RX5_67 C (by decide) (m_X5_join l g _ (by omega) (by omega)) dX5_ask_53 (Nat.le_of_ble_eq_true rfl) ?_
      refine q_goto C (tgt := 71) dX5_ask_56 (by decide) ?_
      refine q_vret C' dX5_ask_71 ?_
      refine ⟨rfl, ?_⟩
      unfold tAsk
      first | (rw [if_pos (by omega), xMt_join]; done) | (have w2 := w2 (by omega); try simp only [xMt_21, w1, w2] at h28; first | (rw [if_neg (by omega), if_pos h28, xMt_drop, xMt_join]; done) | (rw [if_neg (by omega), if_neg h28, xMt_ref]; done))
  · refine q_aloadn C dX5_ask_12 rfl ?_
    refine q_iloadn C dX5_ask_13 rfl ?_
    refine q_iloadn C dX5_ask_14 rfl ?_
    refine cv_RX5_67 C (by decide) (m_X5_join l g _ (by omega) (by omega)) dX5_ask_15 (Nat.le_of_ble_eq_true rfl) ?_
    refine q_goto C (tgt := 71) dX5_ask_18 (by decide) ?_
    refine q_vret C' dX5_ask_71 ?_
    refine ⟨rfl, ?_⟩
    unfold tAsk
    first | (rw [if_pos (by omega), xMt_join]; done) | (have w2 := w2 (by omega); try simp only [xMt_21, w1, w2] at h28; first | (rw [if_neg (by omega), if_pos h28, xMt_drop, xMt_join]; done) | (rw [if_neg (by omega), if_neg h28, xMt_ref]; done))
