theorem xAddH_1 (M : qMem) (u : Nat) (a f i : Int) : xAddH M u a f 1 0 i = M 1 0 i := by unfold xAddH; simp [q_rd]
theorem xAddH_32 (M : qMem) (a f : Int) : xAddH M 0 a f 3 0 2 = M 3 0 2 + 1 := by unfold xAddH; simp [q_rd]
theorem dX9_readNumbers_0 : decode cX9_readNumbers 0 = .ok (.iload_n 1, 1) := by decide +kernel
theorem dX9_readNumbers_1 : decode cX9_readNumbers 1 = .ok (.bipush 115, 2) := by decide +kernel
theorem dX9_readNumbers_3 : decode cX9_readNumbers 3 = .ok (.if_icmp .ne 15, 3) := by decide +kernel
theorem dX9_readNumbers_6 : decode cX9_readNumbers 6 = .ok (.aload_n 2, 1) := by decide +kernel
theorem dX9_readNumbers_7 : decode cX9_readNumbers 7 = .ok (.aload_n 0, 1) := by decide +kernel
theorem dX9_readNumbers_8 : decode cX9_readNumbers 8 = .ok (.iconst 2, 1) := by decide +kernel
theorem dX9_readNumbers_9 : decode cX9_readNumbers 9 = .ok (.invokevirtual 62, 3) := by decide +kernel
theorem dX9_readNumbers_12 : decode cX9_readNumbers 12 = .ok (.putfield 66, 3) := by decide +kernel
theorem dX9_readNumbers_15 : decode cX9_readNumbers 15 = .ok (.goto 63, 3) := by decide +kernel
theorem dX9_readNumbers_18 : decode cX9_readNumbers 18 = .ok (.iload_n 1, 1) := by decide +kernel
theorem dX9_readNumbers_19 : decode cX9_readNumbers 19 = .ok (.bipush 99, 2) := by decide +kernel
theorem dX9_readNumbers_21 : decode cX9_readNumbers 21 = .ok (.if_icmp .ne 34, 3) := by decide +kernel
theorem dX9_readNumbers_24 : decode cX9_readNumbers 24 = .ok (.aload_n 0, 1) := by decide +kernel
theorem dX9_readNumbers_25 : decode cX9_readNumbers 25 = .ok (.bipush 9, 2) := by decide +kernel
theorem dX9_readNumbers_27 : decode cX9_readNumbers 27 = .ok (.invokevirtual 62, 3) := by decide +kernel
theorem dX9_readNumbers_30 : decode cX9_readNumbers 30 = .ok (.istore_n 3, 1) := by decide +kernel
theorem dX9_readNumbers_31 : decode cX9_readNumbers 31 = .ok (.aload_n 0, 1) := by decide +kernel
theorem dX9_readNumbers_32 : decode cX9_readNumbers 32 = .ok (.bipush 9, 2) := by decide +kernel
theorem dX9_readNumbers_34 : decode cX9_readNumbers 34 = .ok (.invokevirtual 62, 3) := by decide +kernel
theorem dX9_readNumbers_37 : decode cX9_readNumbers 37 = .ok (.istore 4, 2) := by decide +kernel
theorem dX9_readNumbers_39 : decode cX9_readNumbers 39 = .ok (.aload_n 2, 1) := by decide +kernel
theorem dX9_readNumbers_40 : decode cX9_readNumbers 40 = .ok (.iload_n 3, 1) := by decide +kernel
theorem dX9_readNumbers_41 : decode cX9_readNumbers 41 = .ok (.iload 4, 2) := by decide +kernel
theorem dX9_readNumbers_43 : decode cX9_readNumbers 43 = .ok (.aload_n 0, 1) := by decide +kernel
theorem dX9_readNumbers_44 : decode cX9_readNumbers 44 = .ok (.bipush 7, 2) := by decide +kernel
theorem dX9_readNumbers_46 : decode cX9_readNumbers 46 = .ok (.invokevirtual 62, 3) := by decide +kernel
theorem dX9_readNumbers_49 : decode cX9_readNumbers 49 = .ok (.invokevirtual 69, 3) := by decide +kernel
theorem dX9_readNumbers_52 : decode cX9_readNumbers 52 = .ok (.goto 26, 3) := by decide +kernel
theorem dX9_readNumbers_55 : decode cX9_readNumbers 55 = .ok (.aload_n 0, 1) := by decide +kernel
theorem dX9_readNumbers_56 : decode cX9_readNumbers 56 = .ok (.bipush 40, 2) := by decide +kernel
theorem dX9_readNumbers_58 : decode cX9_readNumbers 58 = .ok (.invokevirtual 62, 3) := by decide +kernel
theorem dX9_readNumbers_61 : decode cX9_readNumbers 61 = .ok (.istore_n 3, 1) := by decide +kernel
theorem dX9_readNumbers_62 : decode cX9_readNumbers 62 = .ok (.aload_n 2, 1) := by decide +kernel
theorem dX9_readNumbers_63 : decode cX9_readNumbers 63 = .ok (.iload_n 3, 1) := by decide +kernel
theorem dX9_readNumbers_64 : decode cX9_readNumbers 64 = .ok (.aload_n 0, 1) := by decide +kernel
theorem dX9_readNumbers_65 : decode cX9_readNumbers 65 = .ok (.bipush 40, 2) := by decide +kernel
theorem dX9_readNumbers_67 : decode cX9_readNumbers 67 = .ok (.invokevirtual 62, 3) := by decide +kernel
theorem dX9_readNumbers_70 : decode cX9_readNumbers 70 = .ok (.invokevirtual 73, 3) := by decide +kernel
theorem dX9_readNumbers_73 : decode cX9_readNumbers 73 = .ok (.aload_n 0, 1) := by decide +kernel
theorem dX9_readNumbers_74 : decode cX9_readNumbers 74 = .ok (.aload_n 2, 1) := by decide +kernel
theorem dX9_readNumbers_75 : decode cX9_readNumbers 75 = .ok (.invokevirtual 76, 3) := by decide +kernel
theorem dX9_readNumbers_78 : decode cX9_readNumbers 78 = .ok (.return_, 1) := by decide +kernel
set_option maxRecDepth 4000 in
set_option maxHeartbeats 4000000 in
theorem m_X9_readNumbers (l : Launch) (g : qGm) (M : qMem) (hL : 0 ≤ M 1 0 2 ∧ M 1 0 2 ≤ 240) (hA : 0 ≤ M 1 0 1 ∧ M 1 0 1 ≤ M 1 0 2) (hF0 : M 1 0 3 = 0) {R : sRd} (hX : rX M R) (hR : rB R) {w : Int} (hw : (w = 115 ∧ R 0 0 = -1) ∨ (R 0 0 ≠ -1 ∧ w = 99 ∧ R 1 0 < 6) ∨ (R 0 0 ≠ -1 ∧ w = 104 ∧ R 2 0 < 6)) : qOk l g 4 yX9_readNumbers cX9_readNumbers 5 none [qR g 1 0, qI w, qR g 3 0] M (fun r N => r = none ∧ xBdP M N (pBody (M 2 0) (M 1 0 2) w (M 1 0 1) R)) := by
  refine q_ok (by decide +kernel) (Nat.le_of_ble_eq_true rfl) (fun X C' hn => ?_)
  have C := C'.1
  have q1 := pNq_in (t := M 2 0) (L := M 1 0 2) hA.1 hA.2
  have q2 := pNq_in (t := M 2 0) (L := M 1 0 2) (a := pNq (M 2 0) (M 1 0 2) (M 1 0 1)) (by omega) q1.2.2
  have hr1 := hR.2.1
  have hr2 := hR.2.2.1
  have x2 := hX.2.1
  have x3 := hX.2.2.1
  refine q_iloadn C dX9_readNumbers_0 rfl ?_
  refine q_bipush C dX9_readNumbers_1 (by decide) ?_
  refine q_icmp_ne C 18 dX9_readNumbers_3 (by decide) (by first | assumption | omega | exact q_tin _ | exact q_bIn _) (by first | assumption | omega | exact q_tin _ | exact q_bIn _) (fun h3 => ?_) (fun h3 => ?_)
  · refine q_iloadn C dX9_readNumbers_18 rfl ?_
    refine q_bipush C dX9_readNumbers_19 (by decide) ?_
    refine q_icmp_ne C 55 dX9_readNumbers_21 (by decide) (by first | assumption | omega | exact q_tin _ | exact q_bIn _) (by first | assumption | omega | exact q_tin _ | exact q_bIn _) (fun h21 => ?_) (fun h21 => ?_)
    · refine q_aloadn C dX9_readNumbers_55 rfl ?_
      refine q_bipush C dX9_readNumbers_56 (by decide) ?_
      refine cv_RX9_62 C (by decide) (m_X9_number l g _ (by first | exact hL | (simp only [xNum_2, xNum_3, xNum_L, xNum_at]; exact hL)) (by first | exact hA | (simp only [xNum_2, xNum_3, xNum_L, xNum_at]; omega)) (by omega)) dX9_readNumbers_58 (Nat.le_of_ble_eq_true rfl) (fun r58 => ?_)
      refine q_istoren C dX9_readNumbers_61 hn (by decide) rfl ?_
      refine q_aloadn C dX9_readNumbers_62 rfl ?_
      refine q_iloadn C dX9_readNumbers_63 rfl ?_
      refine q_aloadn C dX9_readNumbers_64 rfl ?_
      refine q_bipush C dX9_readNumbers_65 (by decide) ?_
      refine cv_RX9_62 C (by decide) (m_X9_number l g _ (by first | exact hL | (simp only [xNum_2, xNum_3, xNum_L, xNum_at]; exact hL)) (by first | exact hA | (simp only [xNum_2, xNum_3, xNum_L, xNum_at]; omega)) (by omega)) dX9_readNumbers_67 (Nat.le_of_ble_eq_true rfl) (fun r67 => ?_)
      refine cv_RX9_73 C (by decide) (by decide) (m_X7_addHouse l g _ (by decide) (by assumption) (by assumption) (by simp only [xNum_2, xNum_3, xNum_L, xNum_at]; omega)) dX9_readNumbers_70 (Nat.le_of_ble_eq_true rfl) ?_
      refine q_aloadn C dX9_readNumbers_73 rfl ?_
      refine q_aloadn C dX9_readNumbers_74 rfl ?_
      refine cw_RX9_76 C (by decide) (m_X9_readPrizes l g _ (by simp only [xAddH_1, xNum_2, xNum_3, xNum_L, xNum_at]; exact hL) (by simp only [xAddH_1, xNum_2, xNum_3, xNum_L, xNum_at]; omega) (by simp only [xAddH_32, xNum_2, xNum_3, xNum_L, xNum_at]; omega)) dX9_readNumbers_75 (Nat.le_of_ble_eq_true rfl) (fun r N hz hp => ?_)
      obtain ⟨rfl, hp⟩ := hp
      show qV l g X _ _ _ []
      refine q_vret C' dX9_readNumbers_78 ?_
      refine ⟨rfl, ?_⟩
      unfold pBody
      first | (rw [if_pos (show w = 115 by omega)]; exact xBd_s hA hF0 hX rfl) | (rw [if_neg (show ¬ w = 115 by omega), if_pos (show w = 99 by omega)]; exact xBd_c hA hF0 hX hR rfl (by simp only [xNum_2, xNum_3, xNum_L, xNum_at]) (by simp only [xNum_2, xNum_3, xNum_L, xNum_at])) | (rw [if_neg (show ¬ w = 115 by omega), if_neg (show ¬ w = 99 by omega)]; exact xBd_h hL hA hF0 hX hR (by omega) rfl (by simp only [xNum_2, xNum_3, xNum_L, xNum_at]) hp)
    · refine q_aloadn C dX9_readNumbers_24 rfl ?_
      refine q_bipush C dX9_readNumbers_25 (by decide) ?_
      refine cv_RX9_62 C (by decide) (m_X9_number l g _ (by first | exact hL | (simp only [xNum_2, xNum_3, xNum_L, xNum_at]; exact hL)) (by first | exact hA | (simp only [xNum_2, xNum_3, xNum_L, xNum_at]; omega)) (by omega)) dX9_readNumbers_27 (Nat.le_of_ble_eq_true rfl) (fun r27 => ?_)
      refine q_istoren C dX9_readNumbers_30 hn (by decide) rfl ?_
      refine q_aloadn C dX9_readNumbers_31 rfl ?_
      refine q_bipush C dX9_readNumbers_32 (by decide) ?_
      refine cv_RX9_62 C (by decide) (m_X9_number l g _ (by first | exact hL | (simp only [xNum_2, xNum_3, xNum_L, xNum_at]; exact hL)) (by first | exact hA | (simp only [xNum_2, xNum_3, xNum_L, xNum_at]; omega)) (by omega)) dX9_readNumbers_34 (Nat.le_of_ble_eq_true rfl) (fun r34 => ?_)
      refine q_istore C dX9_readNumbers_37 hn (by decide) rfl ?_
      refine q_aloadn C dX9_readNumbers_39 rfl ?_
      refine q_iloadn C dX9_readNumbers_40 rfl ?_
      refine q_iload C dX9_readNumbers_41 rfl ?_
      refine q_aloadn C dX9_readNumbers_43 rfl ?_
      refine q_bipush C dX9_readNumbers_44 (by decide) ?_
      refine cv_RX9_62 C (by decide) (m_X9_number l g _ (by first | exact hL | (simp only [xNum_2, xNum_3, xNum_L, xNum_at]; exact hL)) (by first | exact hA | (simp only [xNum_2, xNum_3, xNum_L, xNum_at]; omega)) (by omega)) dX9_readNumbers_46 (Nat.le_of_ble_eq_true rfl) (fun r46 => ?_)
      refine cv_RX9_69 C (by decide) (by decide) (m_X7_addComer l g _ (by decide) (by assumption) (by assumption) (by assumption) (by simp only [xNum_2, xNum_3, xNum_L, xNum_at]; omega)) dX9_readNumbers_49 (Nat.le_of_ble_eq_true rfl) ?_
      refine q_goto C (tgt := 78) dX9_readNumbers_52 (by decide) ?_
      refine q_vret C' dX9_readNumbers_78 ?_
      refine ⟨rfl, ?_⟩
      unfold pBody
      first | (rw [if_pos (show w = 115 by omega)]; exact xBd_s hA hF0 hX rfl) | (rw [if_neg (show ¬ w = 115 by omega), if_pos (show w = 99 by omega)]; exact xBd_c hA hF0 hX hR rfl (by simp only [xNum_2, xNum_3, xNum_L, xNum_at]) (by simp only [xNum_2, xNum_3, xNum_L, xNum_at])) | (rw [if_neg (show ¬ w = 115 by omega), if_neg (show ¬ w = 99 by omega)]; exact xBd_h hL hA hF0 hX hR (by omega) rfl (by simp only [xNum_2, xNum_3, xNum_L, xNum_at]) hp)
  · refine q_aloadn C dX9_readNumbers_6 rfl ?_
    refine q_aloadn C dX9_readNumbers_7 rfl ?_
    refine q_iconst C dX9_readNumbers_8 ?_
    refine cv_RX9_62 C (by decide) (m_X9_number l g _ (by first | exact hL | (simp only [xNum_2, xNum_3, xNum_L, xNum_at]; exact hL)) (by first | exact hA | (simp only [xNum_2, xNum_3, xNum_L, xNum_at]; omega)) (by omega)) dX9_readNumbers_9 (Nat.le_of_ble_eq_true rfl) (fun r9 => ?_)
    refine pf_RX9_66 C (by decide) (by first | assumption | omega | exact q_tin _ | exact q_bIn _) dX9_readNumbers_12 ?_
    refine q_goto C (tgt := 78) dX9_readNumbers_15 (by decide) ?_
    refine q_vret C' dX9_readNumbers_78 ?_
    refine ⟨rfl, ?_⟩
    unfold pBody
    first | (rw [if_pos (show w = 115 by omega)]; exact xBd_s hA hF0 hX rfl) | (rw [if_neg (show ¬ w = 115 by omega), if_pos (show w = 99 by omega)]; exact xBd_c hA hF0 hX hR rfl (by simp only [xNum_2, xNum_3, xNum_L, xNum_at]) (by simp only [xNum_2, xNum_3, xNum_L, xNum_at])) | (rw [if_neg (show ¬ w = 115 by omega), if_neg (show ¬ w = 99 by omega)]; exact xBd_h hL hA hF0 hX hR (by omega) rfl (by simp only [xNum_2, xNum_3, xNum_L, xNum_at]) hp)
theorem pSk_id {t : Int → Int} {L a : Int} (h0 : 0 ≤ a) (h : a ≤ L) : pSk t L (pSk t L a) = pSk t L a := by
  have h1 := pTo_in (p := fun k => decide (t k ≠ 32)) h0 h
  by_cases hl : pSk t L a < L
  · exact pTo_y (by have := h1.1; unfold pSk; omega) hl (h1.2.2 hl)
  · have : pSk t L a = L := by have := h1.2.1; unfold pSk at *; omega
    rw [this]
    exact pTo_e _ _
theorem pLt_lt {t : Int → Int} {L a : Int} (h : a < L) : pLt t L a = t a := if_pos h
theorem xCl_f {M : qMem} {R : sRd} {f a : Int} (hA : 0 ≤ M 1 0 1 ∧ M 1 0 1 ≤ M 1 0 2) (h3 : M 1 0 3 = 0) (hf : f ≠ 0) : xBdP M (xFail M f a) (f, a, R) := by
  unfold xFail
  rw [if_pos h3]
  refine ⟨⟨fun j u h1 h2 => ?_, by simp [q_rd], by simp [q_rd]; exact hA⟩, fun e => absurd e hf, fun _ => by simp [q_rd]⟩
  simp only [q_rdR]
  by_cases e1 : j = 1
  · have eu : u ≠ 0 := fun e => h1 ⟨e1, e⟩
    subst e1; simp [eu]
  · simp [e1]
theorem rX_1 {M : qMem} {R : sRd} {i z : Int} (h : rX M R) : rX (qUp M 1 0 i z) R := by
  unfold rX at *
  simp only [q_rd, q_rdR]
  simpa using h
theorem rX_fr {M N : qMem} {R : sRd} (h : rX M R) (hN : ∀ j, 3 ≤ j → j ≤ 9 → N j = M j) : rX N R := by
  unfold rX at *
  rw [hN 3 (by decide) (by decide), hN 4 (by decide) (by decide), hN 5 (by decide) (by decide), hN 6 (by decide) (by decide), hN 7 (by decide) (by decide), hN 8 (by decide) (by decide), hN 9 (by decide) (by decide)]
  exact h
theorem xCl_ok {M N : qMem} {b : Int × Int × sRd} {a : Int} (hL : 0 ≤ M 1 0 2 ∧ M 1 0 2 ≤ 240) (hN : xBdP (qUp M 1 0 1 (a + 1)) N b) (hb : b.1 = 0 → 0 ≤ b.2.1 ∧ b.2.1 ≤ M 1 0 2) : xBdP M (xEnd N) (pFin (M 2 0) (M 1 0 2) b) := by
  obtain ⟨⟨o1, o2, o3⟩, g1, g2⟩ := hN
  have e2 : qUp M 1 0 1 (a + 1) 1 0 2 = M 1 0 2 := by simp [q_rd]
  rw [e2] at o2 o3
  have e20 : N 2 0 = M 2 0 := by rw [o1 2 0 (by omega) (by omega)]; simp only [q_rdR]; simp
  have hsk := pSk_in (t := N 2 0) (L := N 1 0 2) (a := N 1 0 1) o3.1 (by rw [o2]; exact o3.2)
  have fl := xEnd_flt N
  have at' := xEnd_at N
  have hlt : pEf (N 2 0) (N 1 0 2) (N 1 0 1) = 0 → pSk (N 2 0) (N 1 0 2) (N 1 0 1) < N 1 0 2 := by
    intro h
    unfold pEf pLt at h
    split at h
    · split at *
      · assumption
      · omega
    · omega
  rw [e20, o2] at hsk fl at' hlt
  have e14 : qUp M 1 0 1 (a + 1) 1 0 4 = M 1 0 4 := by simp [q_rd]
  refine ⟨⟨fun j u h1 h2 => ?_, by rw [xEnd_L, o2], ?_⟩, fun e => ?_, fun e => ?_⟩
  · by_cases e1 : j = 1
    · have eu : u ≠ 0 := fun e => h1 ⟨e1, e⟩
      subst e1
      rw [xEnd_u _ eu, o1 1 u h1 h2]
      simp only [q_rdR]
      simp [eu]
    · rw [xEnd_off _ e1, o1 j u h1 h2]
      simp only [q_rdR]
      simp [e1]
  · rw [at']
    split
    · have := hlt (by assumption); omega
    · omega
  · unfold pFin at e ⊢
    by_cases n1 : b.1 = 0
    · rw [if_pos n1] at e ⊢
      obtain ⟨k1, k2, k3, k4⟩ := g1 n1
      rw [k3] at at' fl
      by_cases n2 : pEf (M 2 0) (M 1 0 2) b.2.1 = 0
      · rw [if_pos n2]
        have f2 := fl.2 k1
        refine ⟨by rw [f2.1, n2], by rw [f2.2.2 n2, k2, e14], by rw [at', if_pos n2], rX_fr k4 (fun j h1 h2 => xEnd_off _ (by omega))⟩
      · rw [if_neg n2] at e; exact absurd e (show ¬ ((1 : Int) = 0) by decide)
    · rw [if_neg n1] at e; exact absurd e n1
  · unfold pFin at e ⊢
    by_cases n1 : b.1 = 0
    · rw [if_pos n1] at e ⊢
      obtain ⟨k1, k2, k3, k4⟩ := g1 n1
      rw [k3] at fl
      by_cases n2 : pEf (M 2 0) (M 1 0 2) b.2.1 = 0
      · rw [if_pos n2] at e; exact absurd rfl e
      · rw [if_neg n2]
        have f2 := fl.2 k1
        have h1 := (pEf_in (M 2 0) (M 1 0 2) b.2.1).resolve_left n2
        exact ⟨f2.1.trans h1, f2.2.1 n2⟩
    · rw [if_neg n1]
      obtain ⟨k1, k2⟩ := g2 n1
      have f2 := fl.1 (by rw [k1]; exact n1)
      exact ⟨f2.1.trans k1, f2.2.trans k2⟩
theorem dX9_readClause_0 : decode cX9_readClause 0 = .ok (.aload_n 0, 1) := by decide +kernel
theorem dX9_readClause_1 : decode cX9_readClause 1 = .ok (.invokevirtual 33, 3) := by decide +kernel
theorem dX9_readClause_4 : decode cX9_readClause 4 = .ok (.istore_n 2, 1) := by decide +kernel
theorem dX9_readClause_5 : decode cX9_readClause 5 = .ok (.iload_n 2, 1) := by decide +kernel
theorem dX9_readClause_6 : decode cX9_readClause 6 = .ok (.bipush 115, 2) := by decide +kernel
theorem dX9_readClause_8 : decode cX9_readClause 8 = .ok (.if_icmp .eq 34, 3) := by decide +kernel
theorem dX9_readClause_11 : decode cX9_readClause 11 = .ok (.aload_n 1, 1) := by decide +kernel
theorem dX9_readClause_12 : decode cX9_readClause 12 = .ok (.invokevirtual 41, 3) := by decide +kernel
theorem dX9_readClause_15 : decode cX9_readClause 15 = .ok (.ifCond .eq 15, 3) := by decide +kernel
theorem dX9_readClause_18 : decode cX9_readClause 18 = .ok (.iload_n 2, 1) := by decide +kernel
theorem dX9_readClause_19 : decode cX9_readClause 19 = .ok (.bipush 99, 2) := by decide +kernel
theorem dX9_readClause_21 : decode cX9_readClause 21 = .ok (.if_icmp .eq 21, 3) := by decide +kernel
theorem dX9_readClause_24 : decode cX9_readClause 24 = .ok (.iload_n 2, 1) := by decide +kernel
theorem dX9_readClause_25 : decode cX9_readClause 25 = .ok (.bipush 104, 2) := by decide +kernel
theorem dX9_readClause_27 : decode cX9_readClause 27 = .ok (.if_icmp .eq 15, 3) := by decide +kernel
theorem dX9_readClause_30 : decode cX9_readClause 30 = .ok (.aload_n 0, 1) := by decide +kernel
theorem dX9_readClause_31 : decode cX9_readClause 31 = .ok (.iconst 1, 1) := by decide +kernel
theorem dX9_readClause_32 : decode cX9_readClause 32 = .ok (.aload_n 0, 1) := by decide +kernel
theorem dX9_readClause_33 : decode cX9_readClause 33 = .ok (.getfield 15, 3) := by decide +kernel
theorem dX9_readClause_36 : decode cX9_readClause 36 = .ok (.invokevirtual 45, 3) := by decide +kernel
theorem dX9_readClause_39 : decode cX9_readClause 39 = .ok (.goto 78, 3) := by decide +kernel
theorem dX9_readClause_42 : decode cX9_readClause 42 = .ok (.iload_n 2, 1) := by decide +kernel
theorem dX9_readClause_43 : decode cX9_readClause 43 = .ok (.bipush 115, 2) := by decide +kernel
theorem dX9_readClause_45 : decode cX9_readClause 45 = .ok (.if_icmp .ne 10, 3) := by decide +kernel
theorem dX9_readClause_48 : decode cX9_readClause 48 = .ok (.aload_n 1, 1) := by decide +kernel
theorem dX9_readClause_49 : decode cX9_readClause 49 = .ok (.invokevirtual 41, 3) := by decide +kernel
theorem dX9_readClause_52 : decode cX9_readClause 52 = .ok (.ifCond .ne 33, 3) := by decide +kernel
theorem dX9_readClause_55 : decode cX9_readClause 55 = .ok (.iload_n 2, 1) := by decide +kernel
theorem dX9_readClause_56 : decode cX9_readClause 56 = .ok (.bipush 99, 2) := by decide +kernel
theorem dX9_readClause_58 : decode cX9_readClause 58 = .ok (.if_icmp .ne 12, 3) := by decide +kernel
theorem dX9_readClause_61 : decode cX9_readClause 61 = .ok (.aload_n 1, 1) := by decide +kernel
theorem dX9_readClause_62 : decode cX9_readClause 62 = .ok (.getfield 49, 3) := by decide +kernel
theorem dX9_readClause_65 : decode cX9_readClause 65 = .ok (.bipush 6, 2) := by decide +kernel
theorem dX9_readClause_67 : decode cX9_readClause 67 = .ok (.if_icmp .ge 18, 3) := by decide +kernel
theorem dX9_readClause_70 : decode cX9_readClause 70 = .ok (.iload_n 2, 1) := by decide +kernel
theorem dX9_readClause_71 : decode cX9_readClause 71 = .ok (.bipush 104, 2) := by decide +kernel
theorem dX9_readClause_73 : decode cX9_readClause 73 = .ok (.if_icmp .ne 24, 3) := by decide +kernel
theorem dX9_readClause_76 : decode cX9_readClause 76 = .ok (.aload_n 1, 1) := by decide +kernel
theorem dX9_readClause_77 : decode cX9_readClause 77 = .ok (.getfield 52, 3) := by decide +kernel
theorem dX9_readClause_80 : decode cX9_readClause 80 = .ok (.bipush 6, 2) := by decide +kernel
theorem dX9_readClause_82 : decode cX9_readClause 82 = .ok (.if_icmp .lt 15, 3) := by decide +kernel
theorem dX9_readClause_85 : decode cX9_readClause 85 = .ok (.aload_n 0, 1) := by decide +kernel
theorem dX9_readClause_86 : decode cX9_readClause 86 = .ok (.iconst 3, 1) := by decide +kernel
theorem dX9_readClause_87 : decode cX9_readClause 87 = .ok (.aload_n 0, 1) := by decide +kernel
theorem dX9_readClause_88 : decode cX9_readClause 88 = .ok (.getfield 15, 3) := by decide +kernel
theorem dX9_readClause_91 : decode cX9_readClause 91 = .ok (.invokevirtual 45, 3) := by decide +kernel
theorem dX9_readClause_94 : decode cX9_readClause 94 = .ok (.goto 23, 3) := by decide +kernel
theorem dX9_readClause_97 : decode cX9_readClause 97 = .ok (.aload_n 0, 1) := by decide +kernel
theorem dX9_readClause_98 : decode cX9_readClause 98 = .ok (.dup, 1) := by decide +kernel
theorem dX9_readClause_99 : decode cX9_readClause 99 = .ok (.getfield 15, 3) := by decide +kernel
theorem dX9_readClause_102 : decode cX9_readClause 102 = .ok (.iconst 1, 1) := by decide +kernel
theorem dX9_readClause_103 : decode cX9_readClause 103 = .ok (.iadd, 1) := by decide +kernel
theorem dX9_readClause_104 : decode cX9_readClause 104 = .ok (.putfield 15, 3) := by decide +kernel
theorem dX9_readClause_107 : decode cX9_readClause 107 = .ok (.aload_n 0, 1) := by decide +kernel
theorem dX9_readClause_108 : decode cX9_readClause 108 = .ok (.iload_n 2, 1) := by decide +kernel
theorem dX9_readClause_109 : decode cX9_readClause 109 = .ok (.aload_n 1, 1) := by decide +kernel
theorem dX9_readClause_110 : decode cX9_readClause 110 = .ok (.invokevirtual 55, 3) := by decide +kernel
theorem dX9_readClause_113 : decode cX9_readClause 113 = .ok (.aload_n 0, 1) := by decide +kernel
theorem dX9_readClause_114 : decode cX9_readClause 114 = .ok (.invokevirtual 59, 3) := by decide +kernel
theorem dX9_readClause_117 : decode cX9_readClause 117 = .ok (.return_, 1) := by decide +kernel
set_option maxRecDepth 4000 in
set_option maxHeartbeats 4000000 in
theorem m_X9_readClause (l : Launch) (g : qGm) (M : qMem) (hL : 0 ≤ M 1 0 2 ∧ M 1 0 2 ≤ 240) (hA : 0 ≤ M 1 0 1 ∧ M 1 0 1 ≤ M 1 0 2) (hF0 : M 1 0 3 = 0) {R : sRd} (hX : rX M R) (hR : rB R) (hlt : M 1 0 1 < M 1 0 2) (hsk : pSk (M 2 0) (M 1 0 2) (M 1 0 1) = M 1 0 1) : qOk l g 5 yX9_readClause cX9_readClause 3 none [qR g 1 0, qR g 3 0] M (fun r N => r = none ∧ xBdP M N (pCl (M 2 0) (M 1 0 2) (M 1 0 1) R)) := by
  refine q_ok (by decide +kernel) (Nat.le_of_ble_eq_true rfl) (fun X C' hn => ?_)
  have C := C'.1
  have x1 := hX.1
  have x2 := hX.2.1
  have x3 := hX.2.2.1
  have hr1 := hR.2.1
  have hr2 := hR.2.2.1
  refine q_aloadn C dX9_readClause_0 rfl ?_
  refine cv_RX9_33 C (by decide) (m_X9_peek l g _ hL hA) dX9_readClause_1 (Nat.le_of_ble_eq_true rfl) (fun r1 => ?_)
  rw [hsk, q_upId, pLt_lt hlt] at *
  refine q_istoren C dX9_readClause_4 hn (by decide) rfl ?_
  refine q_iloadn C dX9_readClause_5 rfl ?_
  refine q_bipush C dX9_readClause_6 (by decide) ?_
  refine q_icmp_eq C 42 dX9_readClause_8 (by decide) (by first | assumption | omega | exact q_tin _ | exact q_bIn _) (by first | assumption | omega | exact q_tin _ | exact q_bIn _) (fun h8 => ?_) (fun h8 => ?_)
  · refine q_iloadn C dX9_readClause_42 rfl ?_
    refine q_bipush C dX9_readClause_43 (by decide) ?_
    refine q_icmp_ne C 55 dX9_readClause_45 (by decide) (by first | assumption | omega | exact q_tin _ | exact q_bIn _) (by first | assumption | omega | exact q_tin _ | exact q_bIn _) (fun h45 => ?_) (fun h45 => ?_)
    · refine q_iloadn C dX9_readClause_55 rfl ?_
      refine q_bipush C dX9_readClause_56 (by decide) ?_
      refine q_icmp_ne C 70 dX9_readClause_58 (by decide) (by first | assumption | omega | exact q_tin _ | exact q_bIn _) (by first | assumption | omega | exact q_tin _ | exact q_bIn _) (fun h58 => ?_) (fun h58 => ?_)
      · refine q_iloadn C dX9_readClause_70 rfl ?_
        refine q_bipush C dX9_readClause_71 (by decide) ?_
        refine q_icmp_ne C 97 dX9_readClause_73 (by decide) (by first | assumption | omega | exact q_tin _ | exact q_bIn _) (by first | assumption | omega | exact q_tin _ | exact q_bIn _) (fun h73 => ?_) (fun h73 => ?_)
        · refine q_aloadn C dX9_readClause_97 rfl ?_
          refine q_dup C dX9_readClause_98 rfl ?_
          refine gf_RX9_15 C dX9_readClause_99 (fun r99 => ?_)
          try simp only [q_rd, q_rdS, ↓reduceIte, if_true, if_false, eq_self, Nat.reduceEqDiff, Int.reduceEq, Int.reduceNeg, reduceCtorEq] at r99 ⊢
          refine q_iconst C dX9_readClause_102 ?_
          refine q_iadd C dX9_readClause_103 ?_
          refine pf_RX9_15 C (by first | assumption | omega | exact q_tin _ | exact q_bIn _) dX9_readClause_104 ?_
          refine q_aloadn C dX9_readClause_107 rfl ?_
          refine q_iloadn C dX9_readClause_108 rfl ?_
          refine q_aloadn C dX9_readClause_109 rfl ?_
          refine cw_RX9_55 C (by decide) (m_X9_readNumbers l g (qUp M 1 0 1 (M 1 0 1 + 1)) (by simp only [q_rd, ↓reduceIte, Nat.reduceEqDiff, Int.reduceEq]; exact hL) (by simp only [q_rd, ↓reduceIte, Nat.reduceEqDiff, Int.reduceEq]; omega) (by simp only [q_rd, ↓reduceIte, Nat.reduceEqDiff, Int.reduceEq]; exact hF0) (rX_1 hX) hR (by omega)) dX9_readClause_110 (Nat.le_of_ble_eq_true rfl) (fun r N hz hp => ?_)
          obtain ⟨rfl, hp⟩ := hp
          simp only [q_rdR, q_rd, q_rdS, ↓reduceIte, if_true, if_false, eq_self, Nat.reduceEqDiff, Int.reduceEq, Int.reduceNeg, reduceCtorEq] at hp
          show qV l g X _ _ _ []
          refine q_aloadn C dX9_readClause_113 rfl ?_
          refine cv_RX9_59 C (by decide) (m_X9_expectEnd l g _ (by rw [hp.1.2.1]; simp only [q_rd, ↓reduceIte, Nat.reduceEqDiff, Int.reduceEq]; exact hL) (by rw [hp.1.2.1]; exact hp.1.2.2)) dX9_readClause_114 (Nat.le_of_ble_eq_true rfl) ?_
          refine q_vret C' dX9_readClause_117 ?_
          refine ⟨rfl, ?_⟩
          unfold pCl
          first | (rw [if_pos (show (M 2 0 (M 1 0 1) ≠ 115 ∧ (R 0 0 = -1 ∨ (M 2 0 (M 1 0 1) ≠ 99 ∧ M 2 0 (M 1 0 1) ≠ 104))) by omega)]; exact xCl_f hA hF0 (by decide)) | (rw [if_neg (show ¬ (M 2 0 (M 1 0 1) ≠ 115 ∧ (R 0 0 = -1 ∨ (M 2 0 (M 1 0 1) ≠ 99 ∧ M 2 0 (M 1 0 1) ≠ 104))) by omega), if_pos (show ((M 2 0 (M 1 0 1) = 115 ∧ R 0 0 ≠ -1) ∨ (M 2 0 (M 1 0 1) = 99 ∧ 6 ≤ R 1 0) ∨ (M 2 0 (M 1 0 1) = 104 ∧ 6 ≤ R 2 0)) by omega)]; exact xCl_f hA hF0 (by decide)) | (rw [if_neg (show ¬ (M 2 0 (M 1 0 1) ≠ 115 ∧ (R 0 0 = -1 ∨ (M 2 0 (M 1 0 1) ≠ 99 ∧ M 2 0 (M 1 0 1) ≠ 104))) by omega), if_neg (show ¬ ((M 2 0 (M 1 0 1) = 115 ∧ R 0 0 ≠ -1) ∨ (M 2 0 (M 1 0 1) = 99 ∧ 6 ≤ R 1 0) ∨ (M 2 0 (M 1 0 1) = 104 ∧ 6 ≤ R 2 0)) by omega)]; exact xCl_ok hL hp (fun e => by have := pBody_B (by omega) (by omega) hR (by omega) e; omega))
        · refine q_aloadn C dX9_readClause_76 rfl ?_
          refine gf_RX9_52 C (by decide) dX9_readClause_77 (fun r77 => ?_)
          try simp only [q_rd, q_rdS, ↓reduceIte, if_true, if_false, eq_self, Nat.reduceEqDiff, Int.reduceEq, Int.reduceNeg, reduceCtorEq] at r77 ⊢
          refine q_bipush C dX9_readClause_80 (by decide) ?_
          refine q_icmp_lt C 97 dX9_readClause_82 (by decide) (by first | assumption | omega | exact q_tin _ | exact q_bIn _) (by first | assumption | omega | exact q_tin _ | exact q_bIn _) (fun h82 => ?_) (fun h82 => ?_)
          · refine q_aloadn C dX9_readClause_97 rfl ?_
            refine q_dup C dX9_readClause_98 rfl ?_
            refine gf_RX9_15 C dX9_readClause_99 (fun r99 => ?_)
            try simp only [q_rd, q_rdS, ↓reduceIte, if_true, if_false, eq_self, Nat.reduceEqDiff, Int.reduceEq, Int.reduceNeg, reduceCtorEq] at r99 ⊢
            refine q_iconst C dX9_readClause_102 ?_
            refine q_iadd C dX9_readClause_103 ?_
            refine pf_RX9_15 C (by first | assumption | omega | exact q_tin _ | exact q_bIn _) dX9_readClause_104 ?_
            refine q_aloadn C dX9_readClause_107 rfl ?_
            refine q_iloadn C dX9_readClause_108 rfl ?_
            refine q_aloadn C dX9_readClause_109 rfl ?_
            refine cw_RX9_55 C (by decide) (m_X9_readNumbers l g (qUp M 1 0 1 (M 1 0 1 + 1)) (by simp only [q_rd, ↓reduceIte, Nat.reduceEqDiff, Int.reduceEq]; exact hL) (by simp only [q_rd, ↓reduceIte, Nat.reduceEqDiff, Int.reduceEq]; omega) (by simp only [q_rd, ↓reduceIte, Nat.reduceEqDiff, Int.reduceEq]; exact hF0) (rX_1 hX) hR (by omega)) dX9_readClause_110 (Nat.le_of_ble_eq_true rfl) (fun r N hz hp => ?_)
            obtain ⟨rfl, hp⟩ := hp
            simp only [q_rdR, q_rd, q_rdS, ↓reduceIte, if_true, if_false, eq_self, Nat.reduceEqDiff, Int.reduceEq, Int.reduceNeg, reduceCtorEq] at hp
            show qV l g X _ _ _ []
            refine q_aloadn C dX9_readClause_113 rfl ?_
            refine cv_RX9_59 C (by decide) (m_X9_expectEnd l g _ (by rw [hp.1.2.1]; simp only [q_rd, ↓reduceIte, Nat.reduceEqDiff, Int.reduceEq]; exact hL) (by rw [hp.1.2.1]; exact hp.1.2.2)) dX9_readClause_114 (Nat.le_of_ble_eq_true rfl) ?_
            refine q_vret C' dX9_readClause_117 ?_
            refine ⟨rfl, ?_⟩
            unfold pCl
            first | (rw [if_pos (show (M 2 0 (M 1 0 1) ≠ 115 ∧ (R 0 0 = -1 ∨ (M 2 0 (M 1 0 1) ≠ 99 ∧ M 2 0 (M 1 0 1) ≠ 104))) by omega)]; exact xCl_f hA hF0 (by decide)) | (rw [if_neg (show ¬ (M 2 0 (M 1 0 1) ≠ 115 ∧ (R 0 0 = -1 ∨ (M 2 0 (M 1 0 1) ≠ 99 ∧ M 2 0 (M 1 0 1) ≠ 104))) by omega), if_pos (show ((M 2 0 (M 1 0 1) = 115 ∧ R 0 0 ≠ -1) ∨ (M 2 0 (M 1 0 1) = 99 ∧ 6 ≤ R 1 0) ∨ (M 2 0 (M 1 0 1) = 104 ∧ 6 ≤ R 2 0)) by omega)]; exact xCl_f hA hF0 (by decide)) | (rw [if_neg (show ¬ (M 2 0 (M 1 0 1) ≠ 115 ∧ (R 0 0 = -1 ∨ (M 2 0 (M 1 0 1) ≠ 99 ∧ M 2 0 (M 1 0 1) ≠ 104))) by omega), if_neg (show ¬ ((M 2 0 (M 1 0 1) = 115 ∧ R 0 0 ≠ -1) ∨ (M 2 0 (M 1 0 1) = 99 ∧ 6 ≤ R 1 0) ∨ (M 2 0 (M 1 0 1) = 104 ∧ 6 ≤ R 2 0)) by omega)]; exact xCl_ok hL hp (fun e => by have := pBody_B (by omega) (by omega) hR (by omega) e; omega))
          · refine q_aloadn C dX9_readClause_85 rfl ?_
            refine q_iconst C dX9_readClause_86 ?_
            refine q_aloadn C dX9_readClause_87 rfl ?_
            refine gf_RX9_15 C dX9_readClause_88 (fun r88 => ?_)
            try simp only [q_rd, q_rdS, ↓reduceIte, if_true, if_false, eq_self, Nat.reduceEqDiff, Int.reduceEq, Int.reduceNeg, reduceCtorEq] at r88 ⊢
            refine cv_RX9_45 C (by decide) (m_X9_fail l g _ (by omega) (by assumption)) dX9_readClause_91 (Nat.le_of_ble_eq_true rfl) ?_
            refine q_goto C (tgt := 117) dX9_readClause_94 (by decide) ?_
            refine q_vret C' dX9_readClause_117 ?_
            refine ⟨rfl, ?_⟩
            unfold pCl
            first | (rw [if_pos (show (M 2 0 (M 1 0 1) ≠ 115 ∧ (R 0 0 = -1 ∨ (M 2 0 (M 1 0 1) ≠ 99 ∧ M 2 0 (M 1 0 1) ≠ 104))) by omega)]; exact xCl_f hA hF0 (by decide)) | (rw [if_neg (show ¬ (M 2 0 (M 1 0 1) ≠ 115 ∧ (R 0 0 = -1 ∨ (M 2 0 (M 1 0 1) ≠ 99 ∧ M 2 0 (M 1 0 1) ≠ 104))) by omega), if_pos (show ((M 2 0 (M 1 0 1) = 115 ∧ R 0 0 ≠ -1) ∨ (M 2 0 (M 1 0 1) = 99 ∧ 6 ≤ R 1 0) ∨ (M 2 0 (M 1 0 1) = 104 ∧ 6 ≤ R 2 0)) by omega)]; exact xCl_f hA hF0 (by decide)) | (rw [if_neg (show ¬ (M 2 0 (M 1 0 1) ≠ 115 ∧ (R 0 0 = -1 ∨ (M 2 0 (M 1 0 1) ≠ 99 ∧ M 2 0 (M 1 0 1) ≠ 104))) by omega), if_neg (show ¬ ((M 2 0 (M 1 0 1) = 115 ∧ R 0 0 ≠ -1) ∨ (M 2 0 (M 1 0 1) = 99 ∧ 6 ≤ R 1 0) ∨ (M 2 0 (M 1 0 1) = 104 ∧ 6 ≤ R 2 0)) by omega)]; exact xCl_ok hL hp (fun e => by have := pBody_B (by omega) (by omega) hR (by omega) e; omega))
      · refine q_aloadn C dX9_readClause_61 rfl ?_
        refine gf_RX9_49 C (by decide) dX9_readClause_62 (fun r62 => ?_)
        try simp only [q_rd, q_rdS, ↓reduceIte, if_true, if_false, eq_self, Nat.reduceEqDiff, Int.reduceEq, Int.reduceNeg, reduceCtorEq] at r62 ⊢
        refine q_bipush C dX9_readClause_65 (by decide) ?_
        refine q_icmp_ge C 85 dX9_readClause_67 (by decide) (by first | assumption | omega | exact q_tin _ | exact q_bIn _) (by first | assumption | omega | exact q_tin _ | exact q_bIn _) (fun h67 => ?_) (fun h67 => ?_)
        · refine q_aloadn C dX9_readClause_85 rfl ?_
          refine q_iconst C dX9_readClause_86 ?_
          refine q_aloadn C dX9_readClause_87 rfl ?_
          refine gf_RX9_15 C dX9_readClause_88 (fun r88 => ?_)
          try simp only [q_rd, q_rdS, ↓reduceIte, if_true, if_false, eq_self, Nat.reduceEqDiff, Int.reduceEq, Int.reduceNeg, reduceCtorEq] at r88 ⊢
          refine cv_RX9_45 C (by decide) (m_X9_fail l g _ (by omega) (by assumption)) dX9_readClause_91 (Nat.le_of_ble_eq_true rfl) ?_
          refine q_goto C (tgt := 117) dX9_readClause_94 (by decide) ?_
          refine q_vret C' dX9_readClause_117 ?_
          refine ⟨rfl, ?_⟩
          unfold pCl
          first | (rw [if_pos (show (M 2 0 (M 1 0 1) ≠ 115 ∧ (R 0 0 = -1 ∨ (M 2 0 (M 1 0 1) ≠ 99 ∧ M 2 0 (M 1 0 1) ≠ 104))) by omega)]; exact xCl_f hA hF0 (by decide)) | (rw [if_neg (show ¬ (M 2 0 (M 1 0 1) ≠ 115 ∧ (R 0 0 = -1 ∨ (M 2 0 (M 1 0 1) ≠ 99 ∧ M 2 0 (M 1 0 1) ≠ 104))) by omega), if_pos (show ((M 2 0 (M 1 0 1) = 115 ∧ R 0 0 ≠ -1) ∨ (M 2 0 (M 1 0 1) = 99 ∧ 6 ≤ R 1 0) ∨ (M 2 0 (M 1 0 1) = 104 ∧ 6 ≤ R 2 0)) by omega)]; exact xCl_f hA hF0 (by decide)) | (rw [if_neg (show ¬ (M 2 0 (M 1 0 1) ≠ 115 ∧ (R 0 0 = -1 ∨ (M 2 0 (M 1 0 1) ≠ 99 ∧ M 2 0 (M 1 0 1) ≠ 104))) by omega), if_neg (show ¬ ((M 2 0 (M 1 0 1) = 115 ∧ R 0 0 ≠ -1) ∨ (M 2 0 (M 1 0 1) = 99 ∧ 6 ≤ R 1 0) ∨ (M 2 0 (M 1 0 1) = 104 ∧ 6 ≤ R 2 0)) by omega)]; exact xCl_ok hL hp (fun e => by have := pBody_B (by omega) (by omega) hR (by omega) e; omega))
        · refine q_iloadn C dX9_readClause_70 rfl ?_
          refine q_bipush C dX9_readClause_71 (by decide) ?_
          refine q_icmp_ne C 97 dX9_readClause_73 (by decide) (by first | assumption | omega | exact q_tin _ | exact q_bIn _) (by first | assumption | omega | exact q_tin _ | exact q_bIn _) (fun h73 => ?_) (fun h73 => ?_)
          · refine q_aloadn C dX9_readClause_97 rfl ?_
            refine q_dup C dX9_readClause_98 rfl ?_
            refine gf_RX9_15 C dX9_readClause_99 (fun r99 => ?_)
            try simp only [q_rd, q_rdS, ↓reduceIte, if_true, if_false, eq_self, Nat.reduceEqDiff, Int.reduceEq, Int.reduceNeg, reduceCtorEq] at r99 ⊢
            refine q_iconst C dX9_readClause_102 ?_
            refine q_iadd C dX9_readClause_103 ?_
            refine pf_RX9_15 C (by first | assumption | omega | exact q_tin _ | exact q_bIn _) dX9_readClause_104 ?_
            refine q_aloadn C dX9_readClause_107 rfl ?_
            refine q_iloadn C dX9_readClause_108 rfl ?_
            refine q_aloadn C dX9_readClause_109 rfl ?_
            refine cw_RX9_55 C (by decide) (m_X9_readNumbers l g (qUp M 1 0 1 (M 1 0 1 + 1)) (by simp only [q_rd, ↓reduceIte, Nat.reduceEqDiff, Int.reduceEq]; exact hL) (by simp only [q_rd, ↓reduceIte, Nat.reduceEqDiff, Int.reduceEq]; omega) (by simp only [q_rd, ↓reduceIte, Nat.reduceEqDiff, Int.reduceEq]; exact hF0) (rX_1 hX) hR (by omega)) dX9_readClause_110 (Nat.le_of_ble_eq_true rfl) (fun r N hz hp => ?_)
            obtain ⟨rfl, hp⟩ := hp
            simp only [q_rdR, q_rd, q_rdS, ↓reduceIte, if_true, if_false, eq_self, Nat.reduceEqDiff, Int.reduceEq, Int.reduceNeg, reduceCtorEq] at hp
            show qV l g X _ _ _ []
            refine q_aloadn C dX9_readClause_113 rfl ?_
            refine cv_RX9_59 C (by decide) (m_X9_expectEnd l g _ (by rw [hp.1.2.1]; simp only [q_rd, ↓reduceIte, Nat.reduceEqDiff, Int.reduceEq]; exact hL) (by rw [hp.1.2.1]; exact hp.1.2.2)) dX9_readClause_114 (Nat.le_of_ble_eq_true rfl) ?_
            refine q_vret C' dX9_readClause_117 ?_
            refine ⟨rfl, ?_⟩
            unfold pCl
            first | (rw [if_pos (show (M 2 0 (M 1 0 1) ≠ 115 ∧ (R 0 0 = -1 ∨ (M 2 0 (M 1 0 1) ≠ 99 ∧ M 2 0 (M 1 0 1) ≠ 104))) by omega)]; exact xCl_f hA hF0 (by decide)) | (rw [if_neg (show ¬ (M 2 0 (M 1 0 1) ≠ 115 ∧ (R 0 0 = -1 ∨ (M 2 0 (M 1 0 1) ≠ 99 ∧ M 2 0 (M 1 0 1) ≠ 104))) by omega), if_pos (show ((M 2 0 (M 1 0 1) = 115 ∧ R 0 0 ≠ -1) ∨ (M 2 0 (M 1 0 1) = 99 ∧ 6 ≤ R 1 0) ∨ (M 2 0 (M 1 0 1) = 104 ∧ 6 ≤ R 2 0)) by omega)]; exact xCl_f hA hF0 (by decide)) | (rw [if_neg (show ¬ (M 2 0 (M 1 0 1) ≠ 115 ∧ (R 0 0 = -1 ∨ (M 2 0 (M 1 0 1) ≠ 99 ∧ M 2 0 (M 1 0 1) ≠ 104))) by omega), if_neg (show ¬ ((M 2 0 (M 1 0 1) = 115 ∧ R 0 0 ≠ -1) ∨ (M 2 0 (M 1 0 1) = 99 ∧ 6 ≤ R 1 0) ∨ (M 2 0 (M 1 0 1) = 104 ∧ 6 ≤ R 2 0)) by omega)]; exact xCl_ok hL hp (fun e => by have := pBody_B (by omega) (by omega) hR (by omega) e; omega))
          · refine q_aloadn C dX9_readClause_76 rfl ?_
            refine gf_RX9_52 C (by decide) dX9_readClause_77 (fun r77 => ?_)
            try simp only [q_rd, q_rdS, ↓reduceIte, if_true, if_false, eq_self, Nat.reduceEqDiff, Int.reduceEq, Int.reduceNeg, reduceCtorEq] at r77 ⊢
            refine q_bipush C dX9_readClause_80 (by decide) ?_
            refine q_icmp_lt C 97 dX9_readClause_82 (by decide) (by first | assumption | omega | exact q_tin _ | exact q_bIn _) (by first | assumption | omega | exact q_tin _ | exact q_bIn _) (fun h82 => ?_) (fun h82 => ?_)
            · refine q_aloadn C dX9_readClause_97 rfl ?_
              refine q_dup C dX9_readClause_98 rfl ?_
              refine gf_RX9_15 C dX9_readClause_99 (fun r99 => ?_)
              try simp only [q_rd, q_rdS, ↓reduceIte, if_true, if_false, eq_self, Nat.reduceEqDiff, Int.reduceEq, Int.reduceNeg, reduceCtorEq] at r99 ⊢
              refine q_iconst C dX9_readClause_102 ?_
              refine q_iadd C dX9_readClause_103 ?_
              refine pf_RX9_15 C (by first | assumption | omega | exact q_tin _ | exact q_bIn _) dX9_readClause_104 ?_
              refine q_aloadn C dX9_readClause_107 rfl ?_
              refine q_iloadn C dX9_readClause_108 rfl ?_
              refine q_aloadn C dX9_readClause_109 rfl ?_
              refine cw_RX9_55 C (by decide) (m_X9_readNumbers l g (qUp M 1 0 1 (M 1 0 1 + 1)) (by simp only [q_rd, ↓reduceIte, Nat.reduceEqDiff, Int.reduceEq]; exact hL) (by simp only [q_rd, ↓reduceIte, Nat.reduceEqDiff, Int.reduceEq]; omega) (by simp only [q_rd, ↓reduceIte, Nat.reduceEqDiff, Int.reduceEq]; exact hF0) (rX_1 hX) hR (by omega)) dX9_readClause_110 (Nat.le_of_ble_eq_true rfl) (fun r N hz hp => ?_)
              obtain ⟨rfl, hp⟩ := hp
              simp only [q_rdR, q_rd, q_rdS, ↓reduceIte, if_true, if_false, eq_self, Nat.reduceEqDiff, Int.reduceEq, Int.reduceNeg, reduceCtorEq] at hp
              show qV l g X _ _ _ []
              refine q_aloadn C dX9_readClause_113 rfl ?_
              refine cv_RX9_59 C (by decide) (m_X9_expectEnd l g _ (by rw [hp.1.2.1]; simp only [q_rd, ↓reduceIte, Nat.reduceEqDiff, Int.reduceEq]; exact hL) (by rw [hp.1.2.1]; exact hp.1.2.2)) dX9_readClause_114 (Nat.le_of_ble_eq_true rfl) ?_
              refine q_vret C' dX9_readClause_117 ?_
              refine ⟨rfl, ?_⟩
              unfold pCl
              first | (rw [if_pos (show (M 2 0 (M 1 0 1) ≠ 115 ∧ (R 0 0 = -1 ∨ (M 2 0 (M 1 0 1) ≠ 99 ∧ M 2 0 (M 1 0 1) ≠ 104))) by omega)]; exact xCl_f hA hF0 (by decide)) | (rw [if_neg (show ¬ (M 2 0 (M 1 0 1) ≠ 115 ∧ (R 0 0 = -1 ∨ (M 2 0 (M 1 0 1) ≠ 99 ∧ M 2 0 (M 1 0 1) ≠ 104))) by omega), if_pos (show ((M 2 0 (M 1 0 1) = 115 ∧ R 0 0 ≠ -1) ∨ (M 2 0 (M 1 0 1) = 99 ∧ 6 ≤ R 1 0) ∨ (M 2 0 (M 1 0 1) = 104 ∧ 6 ≤ R 2 0)) by omega)]; exact xCl_f hA hF0 (by decide)) | (rw [if_neg (show ¬ (M 2 0 (M 1 0 1) ≠ 115 ∧ (R 0 0 = -1 ∨ (M 2 0 (M 1 0 1) ≠ 99 ∧ M 2 0 (M 1 0 1) ≠ 104))) by omega), if_neg (show ¬ ((M 2 0 (M 1 0 1) = 115 ∧ R 0 0 ≠ -1) ∨ (M 2 0 (M 1 0 1) = 99 ∧ 6 ≤ R 1 0) ∨ (M 2 0 (M 1 0 1) = 104 ∧ 6 ≤ R 2 0)) by omega)]; exact xCl_ok hL hp (fun e => by have := pBody_B (by omega) (by omega) hR (by omega) e; omega))
            · refine q_aloadn C dX9_readClause_85 rfl ?_
              refine q_iconst C dX9_readClause_86 ?_
              refine q_aloadn C dX9_readClause_87 rfl ?_
              refine gf_RX9_15 C dX9_readClause_88 (fun r88 => ?_)
              try simp only [q_rd, q_rdS, ↓reduceIte, if_true, if_false, eq_self, Nat.reduceEqDiff, Int.reduceEq, Int.reduceNeg, reduceCtorEq] at r88 ⊢
              refine cv_RX9_45 C (by decide) (m_X9_fail l g _ (by omega) (by assumption)) dX9_readClause_91 (Nat.le_of_ble_eq_true rfl) ?_
              refine q_goto C (tgt := 117) dX9_readClause_94 (by decide) ?_
              refine q_vret C' dX9_readClause_117 ?_
              refine ⟨rfl, ?_⟩
              unfold pCl
              first | (rw [if_pos (show (M 2 0 (M 1 0 1) ≠ 115 ∧ (R 0 0 = -1 ∨ (M 2 0 (M 1 0 1) ≠ 99 ∧ M 2 0 (M 1 0 1) ≠ 104))) by omega)]; exact xCl_f hA hF0 (by decide)) | (rw [if_neg (show ¬ (M 2 0 (M 1 0 1) ≠ 115 ∧ (R 0 0 = -1 ∨ (M 2 0 (M 1 0 1) ≠ 99 ∧ M 2 0 (M 1 0 1) ≠ 104))) by omega), if_pos (show ((M 2 0 (M 1 0 1) = 115 ∧ R 0 0 ≠ -1) ∨ (M 2 0 (M 1 0 1) = 99 ∧ 6 ≤ R 1 0) ∨ (M 2 0 (M 1 0 1) = 104 ∧ 6 ≤ R 2 0)) by omega)]; exact xCl_f hA hF0 (by decide)) | (rw [if_neg (show ¬ (M 2 0 (M 1 0 1) ≠ 115 ∧ (R 0 0 = -1 ∨ (M 2 0 (M 1 0 1) ≠ 99 ∧ M 2 0 (M 1 0 1) ≠ 104))) by omega), if_neg (show ¬ ((M 2 0 (M 1 0 1) = 115 ∧ R 0 0 ≠ -1) ∨ (M 2 0 (M 1 0 1) = 99 ∧ 6 ≤ R 1 0) ∨ (M 2 0 (M 1 0 1) = 104 ∧ 6 ≤ R 2 0)) by omega)]; exact xCl_ok hL hp (fun e => by have := pBody_B (by omega) (by omega) hR (by omega) e; omega))
    · refine q_aloadn C dX9_readClause_48 rfl ?_
      refine cv_RX9_41 C (by decide) (by decide) (m_X7_isOn l g _ (by decide)) dX9_readClause_49 (Nat.le_of_ble_eq_true rfl) (fun r49 => ?_)
      refine q_ifneB C 85 dX9_readClause_52 (by decide) (fun h52 => ?_) (fun h52 => ?_)
      · refine q_aloadn C dX9_readClause_85 rfl ?_
        refine q_iconst C dX9_readClause_86 ?_
        refine q_aloadn C dX9_readClause_87 rfl ?_
        refine gf_RX9_15 C dX9_readClause_88 (fun r88 => ?_)
        try simp only [q_rd, q_rdS, ↓reduceIte, if_true, if_false, eq_self, Nat.reduceEqDiff, Int.reduceEq, Int.reduceNeg, reduceCtorEq] at r88 ⊢
        refine cv_RX9_45 C (by decide) (m_X9_fail l g _ (by omega) (by assumption)) dX9_readClause_91 (Nat.le_of_ble_eq_true rfl) ?_
        refine q_goto C (tgt := 117) dX9_readClause_94 (by decide) ?_
        refine q_vret C' dX9_readClause_117 ?_
        refine ⟨rfl, ?_⟩
        unfold pCl
        first | (rw [if_pos (show (M 2 0 (M 1 0 1) ≠ 115 ∧ (R 0 0 = -1 ∨ (M 2 0 (M 1 0 1) ≠ 99 ∧ M 2 0 (M 1 0 1) ≠ 104))) by omega)]; exact xCl_f hA hF0 (by decide)) | (rw [if_neg (show ¬ (M 2 0 (M 1 0 1) ≠ 115 ∧ (R 0 0 = -1 ∨ (M 2 0 (M 1 0 1) ≠ 99 ∧ M 2 0 (M 1 0 1) ≠ 104))) by omega), if_pos (show ((M 2 0 (M 1 0 1) = 115 ∧ R 0 0 ≠ -1) ∨ (M 2 0 (M 1 0 1) = 99 ∧ 6 ≤ R 1 0) ∨ (M 2 0 (M 1 0 1) = 104 ∧ 6 ≤ R 2 0)) by omega)]; exact xCl_f hA hF0 (by decide)) | (rw [if_neg (show ¬ (M 2 0 (M 1 0 1) ≠ 115 ∧ (R 0 0 = -1 ∨ (M 2 0 (M 1 0 1) ≠ 99 ∧ M 2 0 (M 1 0 1) ≠ 104))) by omega), if_neg (show ¬ ((M 2 0 (M 1 0 1) = 115 ∧ R 0 0 ≠ -1) ∨ (M 2 0 (M 1 0 1) = 99 ∧ 6 ≤ R 1 0) ∨ (M 2 0 (M 1 0 1) = 104 ∧ 6 ≤ R 2 0)) by omega)]; exact xCl_ok hL hp (fun e => by have := pBody_B (by omega) (by omega) hR (by omega) e; omega))
      · refine q_iloadn C dX9_readClause_55 rfl ?_
        refine q_bipush C dX9_readClause_56 (by decide) ?_
        refine q_icmp_ne C 70 dX9_readClause_58 (by decide) (by first | assumption | omega | exact q_tin _ | exact q_bIn _) (by first | assumption | omega | exact q_tin _ | exact q_bIn _) (fun h58 => ?_) (fun h58 => ?_)
        · refine q_iloadn C dX9_readClause_70 rfl ?_
          refine q_bipush C dX9_readClause_71 (by decide) ?_
          refine q_icmp_ne C 97 dX9_readClause_73 (by decide) (by first | assumption | omega | exact q_tin _ | exact q_bIn _) (by first | assumption | omega | exact q_tin _ | exact q_bIn _) (fun h73 => ?_) (fun h73 => ?_)
          · refine q_aloadn C dX9_readClause_97 rfl ?_
            refine q_dup C dX9_readClause_98 rfl ?_
            refine gf_RX9_15 C dX9_readClause_99 (fun r99 => ?_)
            try simp only [q_rd, q_rdS, ↓reduceIte, if_true, if_false, eq_self, Nat.reduceEqDiff, Int.reduceEq, Int.reduceNeg, reduceCtorEq] at r99 ⊢
            refine q_iconst C dX9_readClause_102 ?_
            refine q_iadd C dX9_readClause_103 ?_
            refine pf_RX9_15 C (by first | assumption | omega | exact q_tin _ | exact q_bIn _) dX9_readClause_104 ?_
            refine q_aloadn C dX9_readClause_107 rfl ?_
            refine q_iloadn C dX9_readClause_108 rfl ?_
            refine q_aloadn C dX9_readClause_109 rfl ?_
            refine cw_RX9_55 C (by decide) (m_X9_readNumbers l g (qUp M 1 0 1 (M 1 0 1 + 1)) (by simp only [q_rd, ↓reduceIte, Nat.reduceEqDiff, Int.reduceEq]; exact hL) (by simp only [q_rd, ↓reduceIte, Nat.reduceEqDiff, Int.reduceEq]; omega) (by simp only [q_rd, ↓reduceIte, Nat.reduceEqDiff, Int.reduceEq]; exact hF0) (rX_1 hX) hR (by omega)) dX9_readClause_110 (Nat.le_of_ble_eq_true rfl) (fun r N hz hp => ?_)
            obtain ⟨rfl, hp⟩ := hp
            simp only [q_rdR, q_rd, q_rdS, ↓reduceIte, if_true, if_false, eq_self, Nat.reduceEqDiff, Int.reduceEq, Int.reduceNeg, reduceCtorEq] at hp
            show qV l g X _ _ _ []
            refine q_aloadn C dX9_readClause_113 rfl ?_
            refine cv_RX9_59 C (by decide) (m_X9_expectEnd l g _ (by rw [hp.1.2.1]; simp only [q_rd, ↓reduceIte, Nat.reduceEqDiff, Int.reduceEq]; exact hL) (by rw [hp.1.2.1]; exact hp.1.2.2)) dX9_readClause_114 (Nat.le_of_ble_eq_true rfl) ?_
            refine q_vret C' dX9_readClause_117 ?_
            refine ⟨rfl, ?_⟩
            unfold pCl
            first | (rw [if_pos (show (M 2 0 (M 1 0 1) ≠ 115 ∧ (R 0 0 = -1 ∨ (M 2 0 (M 1 0 1) ≠ 99 ∧ M 2 0 (M 1 0 1) ≠ 104))) by omega)]; exact xCl_f hA hF0 (by decide)) | (rw [if_neg (show ¬ (M 2 0 (M 1 0 1) ≠ 115 ∧ (R 0 0 = -1 ∨ (M 2 0 (M 1 0 1) ≠ 99 ∧ M 2 0 (M 1 0 1) ≠ 104))) by omega), if_pos (show ((M 2 0 (M 1 0 1) = 115 ∧ R 0 0 ≠ -1) ∨ (M 2 0 (M 1 0 1) = 99 ∧ 6 ≤ R 1 0) ∨ (M 2 0 (M 1 0 1) = 104 ∧ 6 ≤ R 2 0)) by omega)]; exact xCl_f hA hF0 (by decide)) | (rw [if_neg (show ¬ (M 2 0 (M 1 0 1) ≠ 115 ∧ (R 0 0 = -1 ∨ (M 2 0 (M 1 0 1) ≠ 99 ∧ M 2 0 (M 1 0 1) ≠ 104))) by omega), if_neg (show ¬ ((M 2 0 (M 1 0 1) = 115 ∧ R 0 0 ≠ -1) ∨ (M 2 0 (M 1 0 1) = 99 ∧ 6 ≤ R 1 0) ∨ (M 2 0 (M 1 0 1) = 104 ∧ 6 ≤ R 2 0)) by omega)]; exact xCl_ok hL hp (fun e => by have := pBody_B (by omega) (by omega) hR (by omega) e; omega))
          · refine q_aloadn C dX9_readClause_76 rfl ?_
            refine gf_RX9_52 C (by decide) dX9_readClause_77 (fun r77 => ?_)
            try simp only [q_rd, q_rdS, ↓reduceIte, if_true, if_false, eq_self, Nat.reduceEqDiff, Int.reduceEq, Int.reduceNeg, reduceCtorEq] at r77 ⊢
            refine q_bipush C dX9_readClause_80 (by decide) ?_
            refine q_icmp_lt C 97 dX9_readClause_82 (by decide) (by first | assumption | omega | exact q_tin _ | exact q_bIn _) (by first | assumption | omega | exact q_tin _ | exact q_bIn _) (fun h82 => ?_) (fun h82 => ?_)
            · refine q_aloadn C dX9_readClause_97 rfl ?_
              refine q_dup C dX9_readClause_98 rfl ?_
              refine gf_RX9_15 C dX9_readClause_99 (fun r99 => ?_)
              try simp only [q_rd, q_rdS, ↓reduceIte, if_true, if_false, eq_self, Nat.reduceEqDiff, Int.reduceEq, Int.reduceNeg, reduceCtorEq] at r99 ⊢
              refine q_iconst C dX9_readClause_102 ?_
              refine q_iadd C dX9_readClause_103 ?_
              refine pf_RX9_15 C (by first | assumption | omega | exact q_tin _ | exact q_bIn _) dX9_readClause_104 ?_
              refine q_aloadn C dX9_readClause_107 rfl ?_
              refine q_iloadn C dX9_readClause_108 rfl ?_
              refine q_aloadn C dX9_readClause_109 rfl ?_
              refine cw_RX9_55 C (by decide) (m_X9_readNumbers l g (qUp M 1 0 1 (M 1 0 1 + 1)) (by simp only [q_rd, ↓reduceIte, Nat.reduceEqDiff, Int.reduceEq]; exact hL) (by simp only [q_rd, ↓reduceIte, Nat.reduceEqDiff, Int.reduceEq]; omega) (by simp only [q_rd, ↓reduceIte, Nat.reduceEqDiff, Int.reduceEq]; exact hF0) (rX_1 hX) hR (by omega)) dX9_readClause_110 (Nat.le_of_ble_eq_true rfl) (fun r N hz hp => ?_)
              obtain ⟨rfl, hp⟩ := hp
              simp only [q_rdR, q_rd, q_rdS, ↓reduceIte, if_true, if_false, eq_self, Nat.reduceEqDiff, Int.reduceEq, Int.reduceNeg, reduceCtorEq] at hp
              show qV l g X _ _ _ []
              refine q_aloadn C dX9_readClause_113 rfl ?_
              refine cv_RX9_59 C (by decide) (m_X9_expectEnd l g _ (by rw [hp.1.2.1]; simp only [q_rd, ↓reduceIte, Nat.reduceEqDiff, Int.reduceEq]; exact hL) (by rw [hp.1.2.1]; exact hp.1.2.2)) dX9_readClause_114 (Nat.le_of_ble_eq_true rfl) ?_
              refine q_vret C' dX9_readClause_117 ?_
              refine ⟨rfl, ?_⟩
              unfold pCl
              first | (rw [if_pos (show (M 2 0 (M 1 0 1) ≠ 115 ∧ (R 0 0 = -1 ∨ (M 2 0 (M 1 0 1) ≠ 99 ∧ M 2 0 (M 1 0 1) ≠ 104))) by omega)]; exact xCl_f hA hF0 (by decide)) | (rw [if_neg (show ¬ (M 2 0 (M 1 0 1) ≠ 115 ∧ (R 0 0 = -1 ∨ (M 2 0 (M 1 0 1) ≠ 99 ∧ M 2 0 (M 1 0 1) ≠ 104))) by omega), if_pos (show ((M 2 0 (M 1 0 1) = 115 ∧ R 0 0 ≠ -1) ∨ (M 2 0 (M 1 0 1) = 99 ∧ 6 ≤ R 1 0) ∨ (M 2 0 (M 1 0 1) = 104 ∧ 6 ≤ R 2 0)) by omega)]; exact xCl_f hA hF0 (by decide)) | (rw [if_neg (show ¬ (M 2 0 (M 1 0 1) ≠ 115 ∧ (R 0 0 = -1 ∨ (M 2 0 (M 1 0 1) ≠ 99 ∧ M 2 0 (M 1 0 1) ≠ 104))) by omega), if_neg (show ¬ ((M 2 0 (M 1 0 1) = 115 ∧ R 0 0 ≠ -1) ∨ (M 2 0 (M 1 0 1) = 99 ∧ 6 ≤ R 1 0) ∨ (M 2 0 (M 1 0 1) = 104 ∧ 6 ≤ R 2 0)) by omega)]; exact xCl_ok hL hp (fun e => by have := pBody_B (by omega) (by omega) hR (by omega) e; omega))
            · refine q_aloadn C dX9_readClause_85 rfl ?_
              refine q_iconst C dX9_readClause_86 ?_
              refine q_aloadn C dX9_readClause_87 rfl ?_
              refine gf_RX9_15 C dX9_readClause_88 (fun r88 => ?_)
              try simp only [q_rd, q_rdS, ↓reduceIte, if_true, if_false, eq_self, Nat.reduceEqDiff, Int.reduceEq, Int.reduceNeg, reduceCtorEq] at r88 ⊢
              refine cv_RX9_45 C (by decide) (m_X9_fail l g _ (by omega) (by assumption)) dX9_readClause_91 (Nat.le_of_ble_eq_true rfl) ?_
              refine q_goto C (tgt := 117) dX9_readClause_94 (by decide) ?_
              refine q_vret C' dX9_readClause_117 ?_
              refine ⟨rfl, ?_⟩
              unfold pCl
              first | (rw [if_pos (show (M 2 0 (M 1 0 1) ≠ 115 ∧ (R 0 0 = -1 ∨ (M 2 0 (M 1 0 1) ≠ 99 ∧ M 2 0 (M 1 0 1) ≠ 104))) by omega)]; exact xCl_f hA hF0 (by decide)) | (rw [if_neg (show ¬ (M 2 0 (M 1 0 1) ≠ 115 ∧ (R 0 0 = -1 ∨ (M 2 0 (M 1 0 1) ≠ 99 ∧ M 2 0 (M 1 0 1) ≠ 104))) by omega), if_pos (show ((M 2 0 (M 1 0 1) = 115 ∧ R 0 0 ≠ -1) ∨ (M 2 0 (M 1 0 1) = 99 ∧ 6 ≤ R 1 0) ∨ (M 2 0 (M 1 0 1) = 104 ∧ 6 ≤ R 2 0)) by omega)]; exact xCl_f hA hF0 (by decide)) | (rw [if_neg (show ¬ (M 2 0 (M 1 0 1) ≠ 115 ∧ (R 0 0 = -1 ∨ (M 2 0 (M 1 0 1) ≠ 99 ∧ M 2 0 (M 1 0 1) ≠ 104))) by omega), if_neg (show ¬ ((M 2 0 (M 1 0 1) = 115 ∧ R 0 0 ≠ -1) ∨ (M 2 0 (M 1 0 1) = 99 ∧ 6 ≤ R 1 0) ∨ (M 2 0 (M 1 0 1) = 104 ∧ 6 ≤ R 2 0)) by omega)]; exact xCl_ok hL hp (fun e => by have := pBody_B (by omega) (by omega) hR (by omega) e; omega))
        · refine q_aloadn C dX9_readClause_61 rfl ?_
          refine gf_RX9_49 C (by decide) dX9_readClause_62 (fun r62 => ?_)
          try simp only [q_rd, q_rdS, ↓reduceIte, if_true, if_false, eq_self, Nat.reduceEqDiff, Int.reduceEq, Int.reduceNeg, reduceCtorEq] at r62 ⊢
          refine q_bipush C dX9_readClause_65 (by decide) ?_
          refine q_icmp_ge C 85 dX9_readClause_67 (by decide) (by first | assumption | omega | exact q_tin _ | exact q_bIn _) (by first | assumption | omega | exact q_tin _ | exact q_bIn _) (fun h67 => ?_) (fun h67 => ?_)
          · refine q_aloadn C dX9_readClause_85 rfl ?_
            refine q_iconst C dX9_readClause_86 ?_
            refine q_aloadn C dX9_readClause_87 rfl ?_
            refine gf_RX9_15 C dX9_readClause_88 (fun r88 => ?_)
            try simp only [q_rd, q_rdS, ↓reduceIte, if_true, if_false, eq_self, Nat.reduceEqDiff, Int.reduceEq, Int.reduceNeg, reduceCtorEq] at r88 ⊢
            refine cv_RX9_45 C (by decide) (m_X9_fail l g _ (by omega) (by assumption)) dX9_readClause_91 (Nat.le_of_ble_eq_true rfl) ?_
            refine q_goto C (tgt := 117) dX9_readClause_94 (by decide) ?_
            refine q_vret C' dX9_readClause_117 ?_
            refine ⟨rfl, ?_⟩
            unfold pCl
            first | (rw [if_pos (show (M 2 0 (M 1 0 1) ≠ 115 ∧ (R 0 0 = -1 ∨ (M 2 0 (M 1 0 1) ≠ 99 ∧ M 2 0 (M 1 0 1) ≠ 104))) by omega)]; exact xCl_f hA hF0 (by decide)) | (rw [if_neg (show ¬ (M 2 0 (M 1 0 1) ≠ 115 ∧ (R 0 0 = -1 ∨ (M 2 0 (M 1 0 1) ≠ 99 ∧ M 2 0 (M 1 0 1) ≠ 104))) by omega), if_pos (show ((M 2 0 (M 1 0 1) = 115 ∧ R 0 0 ≠ -1) ∨ (M 2 0 (M 1 0 1) = 99 ∧ 6 ≤ R 1 0) ∨ (M 2 0 (M 1 0 1) = 104 ∧ 6 ≤ R 2 0)) by omega)]; exact xCl_f hA hF0 (by decide)) | (rw [if_neg (show ¬ (M 2 0 (M 1 0 1) ≠ 115 ∧ (R 0 0 = -1 ∨ (M 2 0 (M 1 0 1) ≠ 99 ∧ M 2 0 (M 1 0 1) ≠ 104))) by omega), if_neg (show ¬ ((M 2 0 (M 1 0 1) = 115 ∧ R 0 0 ≠ -1) ∨ (M 2 0 (M 1 0 1) = 99 ∧ 6 ≤ R 1 0) ∨ (M 2 0 (M 1 0 1) = 104 ∧ 6 ≤ R 2 0)) by omega)]; exact xCl_ok hL hp (fun e => by have := pBody_B (by omega) (by omega) hR (by omega) e; omega))
          · refine q_iloadn C dX9_readClause_70 rfl ?_
            refine q_bipush C dX9_readClause_71 (by decide) ?_
            refine q_icmp_ne C 97 dX9_readClause_73 (by decide) (by first | assumption | omega | exact q_tin _ | exact q_bIn _) (by first | assumption | omega | exact q_tin _ | exact q_bIn _) (fun h73 => ?_) (fun h73 => ?_)
            · refine q_aloadn C dX9_readClause_97 rfl ?_
              refine q_dup C dX9_readClause_98 rfl ?_
              refine gf_RX9_15 C dX9_readClause_99 (fun r99 => ?_)
              try simp only [q_rd, q_rdS, ↓reduceIte, if_true, if_false, eq_self, Nat.reduceEqDiff, Int.reduceEq, Int.reduceNeg, reduceCtorEq] at r99 ⊢
              refine q_iconst C dX9_readClause_102 ?_
              refine q_iadd C dX9_readClause_103 ?_
              refine pf_RX9_15 C (by first | assumption | omega | exact q_tin _ | exact q_bIn _) dX9_readClause_104 ?_
              refine q_aloadn C dX9_readClause_107 rfl ?_
              refine q_iloadn C dX9_readClause_108 rfl ?_
              refine q_aloadn C dX9_readClause_109 rfl ?_
              refine cw_RX9_55 C (by decide) (m_X9_readNumbers l g (qUp M 1 0 1 (M 1 0 1 + 1)) (by simp only [q_rd, ↓reduceIte, Nat.reduceEqDiff, Int.reduceEq]; exact hL) (by simp only [q_rd, ↓reduceIte, Nat.reduceEqDiff, Int.reduceEq]; omega) (by simp only [q_rd, ↓reduceIte, Nat.reduceEqDiff, Int.reduceEq]; exact hF0) (rX_1 hX) hR (by omega)) dX9_readClause_110 (Nat.le_of_ble_eq_true rfl) (fun r N hz hp => ?_)
              obtain ⟨rfl, hp⟩ := hp
              simp only [q_rdR, q_rd, q_rdS, ↓reduceIte, if_true, if_false, eq_self, Nat.reduceEqDiff, Int.reduceEq, Int.reduceNeg, reduceCtorEq] at hp
              show qV l g X _ _ _ []
              refine q_aloadn C dX9_readClause_113 rfl ?_
              refine cv_RX9_59 C (by decide) (m_X9_expectEnd l g _ (by rw [hp.1.2.1]; simp only [q_rd, ↓reduceIte, Nat.reduceEqDiff, Int.reduceEq]; exact hL) (by rw [hp.1.2.1]; exact hp.1.2.2)) dX9_readClause_114 (Nat.le_of_ble_eq_true rfl) ?_
              refine q_vret C' dX9_readClause_117 ?_
              refine ⟨rfl, ?_⟩
              unfold pCl
              first | (rw [if_pos (show (M 2 0 (M 1 0 1) ≠ 115 ∧ (R 0 0 = -1 ∨ (M 2 0 (M 1 0 1) ≠ 99 ∧ M 2 0 (M 1 0 1) ≠ 104))) by omega)]; exact xCl_f hA hF0 (by decide)) | (rw [if_neg (show ¬ (M 2 0 (M 1 0 1) ≠ 115 ∧ (R 0 0 = -1 ∨ (M 2 0 (M 1 0 1) ≠ 99 ∧ M 2 0 (M 1 0 1) ≠ 104))) by omega), if_pos (show ((M 2 0 (M 1 0 1) = 115 ∧ R 0 0 ≠ -1) ∨ (M 2 0 (M 1 0 1) = 99 ∧ 6 ≤ R 1 0) ∨ (M 2 0 (M 1 0 1) = 104 ∧ 6 ≤ R 2 0)) by omega)]; exact xCl_f hA hF0 (by decide)) | (rw [if_neg (show ¬ (M 2 0 (M 1 0 1) ≠ 115 ∧ (R 0 0 = -1 ∨ (M 2 0 (M 1 0 1) ≠ 99 ∧ M 2 0 (M 1 0 1) ≠ 104))) by omega), if_neg (show ¬ ((M 2 0 (M 1 0 1) = 115 ∧ R 0 0 ≠ -1) ∨ (M 2 0 (M 1 0 1) = 99 ∧ 6 ≤ R 1 0) ∨ (M 2 0 (M 1 0 1) = 104 ∧ 6 ≤ R 2 0)) by omega)]; exact xCl_ok hL hp (fun e => by have := pBody_B (by omega) (by omega) hR (by omega) e; omega))
            · refine q_aloadn C dX9_readClause_76 rfl ?_
              refine gf_RX9_52 C (by decide) dX9_readClause_77 (fun r77 => ?_)
              try simp only [q_rd, q_rdS, ↓reduceIte, if_true, if_false, eq_self, Nat.reduceEqDiff, Int.reduceEq, Int.reduceNeg, reduceCtorEq] at r77 ⊢
              refine q_bipush C dX9_readClause_80 (by decide) ?_
              refine q_icmp_lt C 97 dX9_readClause_82 (by decide) (by first | assumption | omega | exact q_tin _ | exact q_bIn _) (by first | assumption | omega | exact q_tin _ | exact q_bIn _) (fun h82 => ?_) (fun h82 => ?_)
              · refine q_aloadn C dX9_readClause_97 rfl ?_
                refine q_dup C dX9_readClause_98 rfl ?_
                refine gf_RX9_15 C dX9_readClause_99 (fun r99 => ?_)
                try simp only [q_rd, q_rdS, ↓reduceIte, if_true, if_false, eq_self, Nat.reduceEqDiff, Int.reduceEq, Int.reduceNeg, reduceCtorEq] at r99 ⊢
                refine q_iconst C dX9_readClause_102 ?_
                refine q_iadd C dX9_readClause_103 ?_
                refine pf_RX9_15 C (by first | assumption | omega | exact q_tin _ | exact q_bIn _) dX9_readClause_104 ?_
                refine q_aloadn C dX9_readClause_107 rfl ?_
                refine q_iloadn C dX9_readClause_108 rfl ?_
                refine q_aloadn C dX9_readClause_109 rfl ?_
                refine cw_RX9_55 C (by decide) (m_X9_readNumbers l g (qUp M 1 0 1 (M 1 0 1 + 1)) (by simp only [q_rd, ↓reduceIte, Nat.reduceEqDiff, Int.reduceEq]; exact hL) (by simp only [q_rd, ↓reduceIte, Nat.reduceEqDiff, Int.reduceEq]; omega) (by simp only [q_rd, ↓reduceIte, Nat.reduceEqDiff, Int.reduceEq]; exact hF0) (rX_1 hX) hR (by omega)) dX9_readClause_110 (Nat.le_of_ble_eq_true rfl) (fun r N hz hp => ?_)
                obtain ⟨rfl, hp⟩ := hp
                simp only [q_rdR, q_rd, q_rdS, ↓reduceIte, if_true, if_false, eq_self, Nat.reduceEqDiff, Int.reduceEq, Int.reduceNeg, reduceCtorEq] at hp
                show qV l g X _ _ _ []
                refine q_aloadn C dX9_readClause_113 rfl ?_
                refine cv_RX9_59 C (by decide) (m_X9_expectEnd l g _ (by rw [hp.1.2.1]; simp only [q_rd, ↓reduceIte, Nat.reduceEqDiff, Int.reduceEq]; exact hL) (by rw [hp.1.2.1]; exact hp.1.2.2)) dX9_readClause_114 (Nat.le_of_ble_eq_true rfl) ?_
                refine q_vret C' dX9_readClause_117 ?_
                refine ⟨rfl, ?_⟩
                unfold pCl
                first | (rw [if_pos (show (M 2 0 (M 1 0 1) ≠ 115 ∧ (R 0 0 = -1 ∨ (M 2 0 (M 1 0 1) ≠ 99 ∧ M 2 0 (M 1 0 1) ≠ 104))) by omega)]; exact xCl_f hA hF0 (by decide)) | (rw [if_neg (show ¬ (M 2 0 (M 1 0 1) ≠ 115 ∧ (R 0 0 = -1 ∨ (M 2 0 (M 1 0 1) ≠ 99 ∧ M 2 0 (M 1 0 1) ≠ 104))) by omega), if_pos (show ((M 2 0 (M 1 0 1) = 115 ∧ R 0 0 ≠ -1) ∨ (M 2 0 (M 1 0 1) = 99 ∧ 6 ≤ R 1 0) ∨ (M 2 0 (M 1 0 1) = 104 ∧ 6 ≤ R 2 0)) by omega)]; exact xCl_f hA hF0 (by decide)) | (rw [if_neg (show ¬ (M 2 0 (M 1 0 1) ≠ 115 ∧ (R 0 0 = -1 ∨ (M 2 0 (M 1 0 1) ≠ 99 ∧ M 2 0 (M 1 0 1) ≠ 104))) by omega), if_neg (show ¬ ((M 2 0 (M 1 0 1) = 115 ∧ R 0 0 ≠ -1) ∨ (M 2 0 (M 1 0 1) = 99 ∧ 6 ≤ R 1 0) ∨ (M 2 0 (M 1 0 1) = 104 ∧ 6 ≤ R 2 0)) by omega)]; exact xCl_ok hL hp (fun e => by have := pBody_B (by omega) (by omega) hR (by omega) e; omega))
              · refine q_aloadn C dX9_readClause_85 rfl ?_
                refine q_iconst C dX9_readClause_86 ?_
                refine q_aloadn C dX9_readClause_87 rfl ?_
                refine gf_RX9_15 C dX9_readClause_88 (fun r88 => ?_)
                try simp only [q_rd, q_rdS, ↓reduceIte, if_true, if_false, eq_self, Nat.reduceEqDiff, Int.reduceEq, Int.reduceNeg, reduceCtorEq] at r88 ⊢
                refine cv_RX9_45 C (by decide) (m_X9_fail l g _ (by omega) (by assumption)) dX9_readClause_91 (Nat.le_of_ble_eq_true rfl) ?_
                refine q_goto C (tgt := 117) dX9_readClause_94 (by decide) ?_
                refine q_vret C' dX9_readClause_117 ?_
                refine ⟨rfl, ?_⟩
                unfold pCl
                first | (rw [if_pos (show (M 2 0 (M 1 0 1) ≠ 115 ∧ (R 0 0 = -1 ∨ (M 2 0 (M 1 0 1) ≠ 99 ∧ M 2 0 (M 1 0 1) ≠ 104))) by omega)]; exact xCl_f hA hF0 (by decide)) | (rw [if_neg (show ¬ (M 2 0 (M 1 0 1) ≠ 115 ∧ (R 0 0 = -1 ∨ (M 2 0 (M 1 0 1) ≠ 99 ∧ M 2 0 (M 1 0 1) ≠ 104))) by omega), if_pos (show ((M 2 0 (M 1 0 1) = 115 ∧ R 0 0 ≠ -1) ∨ (M 2 0 (M 1 0 1) = 99 ∧ 6 ≤ R 1 0) ∨ (M 2 0 (M 1 0 1) = 104 ∧ 6 ≤ R 2 0)) by omega)]; exact xCl_f hA hF0 (by decide)) | (rw [if_neg (show ¬ (M 2 0 (M 1 0 1) ≠ 115 ∧ (R 0 0 = -1 ∨ (M 2 0 (M 1 0 1) ≠ 99 ∧ M 2 0 (M 1 0 1) ≠ 104))) by omega), if_neg (show ¬ ((M 2 0 (M 1 0 1) = 115 ∧ R 0 0 ≠ -1) ∨ (M 2 0 (M 1 0 1) = 99 ∧ 6 ≤ R 1 0) ∨ (M 2 0 (M 1 0 1) = 104 ∧ 6 ≤ R 2 0)) by omega)]; exact xCl_ok hL hp (fun e => by have := pBody_B (by omega) (by omega) hR (by omega) e; omega))
  · refine q_aloadn C dX9_readClause_11 rfl ?_
    refine cv_RX9_41 C (by decide) (by decide) (m_X7_isOn l g _ (by decide)) dX9_readClause_12 (Nat.le_of_ble_eq_true rfl) (fun r12 => ?_)
    refine q_ifeqB C 30 dX9_readClause_15 (by decide) (fun h15 => ?_) (fun h15 => ?_)
    · refine q_aloadn C dX9_readClause_30 rfl ?_
      refine q_iconst C dX9_readClause_31 ?_
      refine q_aloadn C dX9_readClause_32 rfl ?_
      refine gf_RX9_15 C dX9_readClause_33 (fun r33 => ?_)
      try simp only [q_rd, q_rdS, ↓reduceIte, if_true, if_false, eq_self, Nat.reduceEqDiff, Int.reduceEq, Int.reduceNeg, reduceCtorEq] at r33 ⊢
      refine cv_RX9_45 C (by decide) (m_X9_fail l g _ (by omega) (by assumption)) dX9_readClause_36 (Nat.le_of_ble_eq_true rfl) ?_
      refine q_goto C (tgt := 117) dX9_readClause_39 (by decide) ?_
      refine q_vret C' dX9_readClause_117 ?_
      refine ⟨rfl, ?_⟩
      unfold pCl
      first | (rw [if_pos (show (M 2 0 (M 1 0 1) ≠ 115 ∧ (R 0 0 = -1 ∨ (M 2 0 (M 1 0 1) ≠ 99 ∧ M 2 0 (M 1 0 1) ≠ 104))) by omega)]; exact xCl_f hA hF0 (by decide)) | (rw [if_neg (show ¬ (M 2 0 (M 1 0 1) ≠ 115 ∧ (R 0 0 = -1 ∨ (M 2 0 (M 1 0 1) ≠ 99 ∧ M 2 0 (M 1 0 1) ≠ 104))) by omega), if_pos (show ((M 2 0 (M 1 0 1) = 115 ∧ R 0 0 ≠ -1) ∨ (M 2 0 (M 1 0 1) = 99 ∧ 6 ≤ R 1 0) ∨ (M 2 0 (M 1 0 1) = 104 ∧ 6 ≤ R 2 0)) by omega)]; exact xCl_f hA hF0 (by decide)) | (rw [if_neg (show ¬ (M 2 0 (M 1 0 1) ≠ 115 ∧ (R 0 0 = -1 ∨ (M 2 0 (M 1 0 1) ≠ 99 ∧ M 2 0 (M 1 0 1) ≠ 104))) by omega), if_neg (show ¬ ((M 2 0 (M 1 0 1) = 115 ∧ R 0 0 ≠ -1) ∨ (M 2 0 (M 1 0 1) = 99 ∧ 6 ≤ R 1 0) ∨ (M 2 0 (M 1 0 1) = 104 ∧ 6 ≤ R 2 0)) by omega)]; exact xCl_ok hL hp (fun e => by have := pBody_B (by omega) (by omega) hR (by omega) e; omega))
    · refine q_iloadn C dX9_readClause_18 rfl ?_
      refine q_bipush C dX9_readClause_19 (by decide) ?_
      refine q_icmp_eq C 42 dX9_readClause_21 (by decide) (by first | assumption | omega | exact q_tin _ | exact q_bIn _) (by first | assumption | omega | exact q_tin _ | exact q_bIn _) (fun h21 => ?_) (fun h21 => ?_)
      · refine q_iloadn C dX9_readClause_42 rfl ?_
        refine q_bipush C dX9_readClause_43 (by decide) ?_
        refine q_icmp_ne C 55 dX9_readClause_45 (by decide) (by first | assumption | omega | exact q_tin _ | exact q_bIn _) (by first | assumption | omega | exact q_tin _ | exact q_bIn _) (fun h45 => ?_) (fun h45 => ?_)
        · refine q_iloadn C dX9_readClause_55 rfl ?_
          refine q_bipush C dX9_readClause_56 (by decide) ?_
          refine q_icmp_ne C 70 dX9_readClause_58 (by decide) (by first | assumption | omega | exact q_tin _ | exact q_bIn _) (by first | assumption | omega | exact q_tin _ | exact q_bIn _) (fun h58 => ?_) (fun h58 => ?_)
          · refine q_iloadn C dX9_readClause_70 rfl ?_
            refine q_bipush C dX9_readClause_71 (by decide) ?_
            refine q_icmp_ne C 97 dX9_readClause_73 (by decide) (by first | assumption | omega | exact q_tin _ | exact q_bIn _) (by first | assumption | omega | exact q_tin _ | exact q_bIn _) (fun h73 => ?_) (fun h73 => ?_)
            · refine q_aloadn C dX9_readClause_97 rfl ?_
              refine q_dup C dX9_readClause_98 rfl ?_
              refine gf_RX9_15 C dX9_readClause_99 (fun r99 => ?_)
              try simp only [q_rd, q_rdS, ↓reduceIte, if_true, if_false, eq_self, Nat.reduceEqDiff, Int.reduceEq, Int.reduceNeg, reduceCtorEq] at r99 ⊢
              refine q_iconst C dX9_readClause_102 ?_
              refine q_iadd C dX9_readClause_103 ?_
              refine pf_RX9_15 C (by first | assumption | omega | exact q_tin _ | exact q_bIn _) dX9_readClause_104 ?_
              refine q_aloadn C dX9_readClause_107 rfl ?_
              refine q_iloadn C dX9_readClause_108 rfl ?_
              refine q_aloadn C dX9_readClause_109 rfl ?_
              refine cw_RX9_55 C (by decide) (m_X9_readNumbers l g (qUp M 1 0 1 (M 1 0 1 + 1)) (by simp only [q_rd, ↓reduceIte, Nat.reduceEqDiff, Int.reduceEq]; exact hL) (by simp only [q_rd, ↓reduceIte, Nat.reduceEqDiff, Int.reduceEq]; omega) (by simp only [q_rd, ↓reduceIte, Nat.reduceEqDiff, Int.reduceEq]; exact hF0) (rX_1 hX) hR (by omega)) dX9_readClause_110 (Nat.le_of_ble_eq_true rfl) (fun r N hz hp => ?_)
              obtain ⟨rfl, hp⟩ := hp
              simp only [q_rdR, q_rd, q_rdS, ↓reduceIte, if_true, if_false, eq_self, Nat.reduceEqDiff, Int.reduceEq, Int.reduceNeg, reduceCtorEq] at hp
              show qV l g X _ _ _ []
              refine q_aloadn C dX9_readClause_113 rfl ?_
              refine cv_RX9_59 C (by decide) (m_X9_expectEnd l g _ (by rw [hp.1.2.1]; simp only [q_rd, ↓reduceIte, Nat.reduceEqDiff, Int.reduceEq]; exact hL) (by rw [hp.1.2.1]; exact hp.1.2.2)) dX9_readClause_114 (Nat.le_of_ble_eq_true rfl) ?_
              refine q_vret C' dX9_readClause_117 ?_
              refine ⟨rfl, ?_⟩
              unfold pCl
              first | (rw [if_pos (show (M 2 0 (M 1 0 1) ≠ 115 ∧ (R 0 0 = -1 ∨ (M 2 0 (M 1 0 1) ≠ 99 ∧ M 2 0 (M 1 0 1) ≠ 104))) by omega)]; exact xCl_f hA hF0 (by decide)) | (rw [if_neg (show ¬ (M 2 0 (M 1 0 1) ≠ 115 ∧ (R 0 0 = -1 ∨ (M 2 0 (M 1 0 1) ≠ 99 ∧ M 2 0 (M 1 0 1) ≠ 104))) by omega), if_pos (show ((M 2 0 (M 1 0 1) = 115 ∧ R 0 0 ≠ -1) ∨ (M 2 0 (M 1 0 1) = 99 ∧ 6 ≤ R 1 0) ∨ (M 2 0 (M 1 0 1) = 104 ∧ 6 ≤ R 2 0)) by omega)]; exact xCl_f hA hF0 (by decide)) | (rw [if_neg (show ¬ (M 2 0 (M 1 0 1) ≠ 115 ∧ (R 0 0 = -1 ∨ (M 2 0 (M 1 0 1) ≠ 99 ∧ M 2 0 (M 1 0 1) ≠ 104))) by omega), if_neg (show ¬ ((M 2 0 (M 1 0 1) = 115 ∧ R 0 0 ≠ -1) ∨ (M 2 0 (M 1 0 1) = 99 ∧ 6 ≤ R 1 0) ∨ (M 2 0 (M 1 0 1) = 104 ∧ 6 ≤ R 2 0)) by omega)]; exact xCl_ok hL hp (fun e => by have := pBody_B (by omega) (by omega) hR (by omega) e; omega))
            · refine q_aloadn C dX9_readClause_76 rfl ?_
              refine gf_RX9_52 C (by decide) dX9_readClause_77 (fun r77 => ?_)
              try simp only [q_rd, q_rdS, ↓reduceIte, if_true, if_false, eq_self, Nat.reduceEqDiff, Int.reduceEq, Int.reduceNeg, reduceCtorEq] at r77 ⊢
              refine q_bipush C dX9_readClause_80 (by decide) ?_
              refine q_icmp_lt C 97 dX9_readClause_82 (by decide) (by first | assumption | omega | exact q_tin _ | exact q_bIn _) (by first | assumption | omega | exact q_tin _ | exact q_bIn _) (fun h82 => ?_) (fun h82 => ?_)
              · refine q_aloadn C dX9_readClause_97 rfl ?_
                refine q_dup C dX9_readClause_98 rfl ?_
                refine gf_RX9_15 C dX9_readClause_99 (fun r99 => ?_)
                try simp only [q_rd, q_rdS, ↓reduceIte, if_true, if_false, eq_self, Nat.reduceEqDiff, Int.reduceEq, Int.reduceNeg, reduceCtorEq] at r99 ⊢
                refine q_iconst C dX9_readClause_102 ?_
                refine q_iadd C dX9_readClause_103 ?_
                refine pf_RX9_15 C (by first | assumption | omega | exact q_tin _ | exact q_bIn _) dX9_readClause_104 ?_
                refine q_aloadn C dX9_readClause_107 rfl ?_
                refine q_iloadn C dX9_readClause_108 rfl ?_
                refine q_aloadn C dX9_readClause_109 rfl ?_
                refine cw_RX9_55 C (by decide) (m_X9_readNumbers l g (qUp M 1 0 1 (M 1 0 1 + 1)) (by simp only [q_rd, ↓reduceIte, Nat.reduceEqDiff, Int.reduceEq]; exact hL) (by simp only [q_rd, ↓reduceIte, Nat.reduceEqDiff, Int.reduceEq]; omega) (by simp only [q_rd, ↓reduceIte, Nat.reduceEqDiff, Int.reduceEq]; exact hF0) (rX_1 hX) hR (by omega)) dX9_readClause_110 (Nat.le_of_ble_eq_true rfl) (fun r N hz hp => ?_)
                obtain ⟨rfl, hp⟩ := hp
                simp only [q_rdR, q_rd, q_rdS, ↓reduceIte, if_true, if_false, eq_self, Nat.reduceEqDiff, Int.reduceEq, Int.reduceNeg, reduceCtorEq] at hp
                show qV l g X _ _ _ []
                refine q_aloadn C dX9_readClause_113 rfl ?_
                refine cv_RX9_59 C (by decide) (m_X9_expectEnd l g _ (by rw [hp.1.2.1]; simp only [q_rd, ↓reduceIte, Nat.reduceEqDiff, Int.reduceEq]; exact hL) (by rw [hp.1.2.1]; exact hp.1.2.2)) dX9_readClause_114 (Nat.le_of_ble_eq_true rfl) ?_
                refine q_vret C' dX9_readClause_117 ?_
                refine ⟨rfl, ?_⟩
                unfold pCl
                first | (rw [if_pos (show (M 2 0 (M 1 0 1) ≠ 115 ∧ (R 0 0 = -1 ∨ (M 2 0 (M 1 0 1) ≠ 99 ∧ M 2 0 (M 1 0 1) ≠ 104))) by omega)]; exact xCl_f hA hF0 (by decide)) | (rw [if_neg (show ¬ (M 2 0 (M 1 0 1) ≠ 115 ∧ (R 0 0 = -1 ∨ (M 2 0 (M 1 0 1) ≠ 99 ∧ M 2 0 (M 1 0 1) ≠ 104))) by omega), if_pos (show ((M 2 0 (M 1 0 1) = 115 ∧ R 0 0 ≠ -1) ∨ (M 2 0 (M 1 0 1) = 99 ∧ 6 ≤ R 1 0) ∨ (M 2 0 (M 1 0 1) = 104 ∧ 6 ≤ R 2 0)) by omega)]; exact xCl_f hA hF0 (by decide)) | (rw [if_neg (show ¬ (M 2 0 (M 1 0 1) ≠ 115 ∧ (R 0 0 = -1 ∨ (M 2 0 (M 1 0 1) ≠ 99 ∧ M 2 0 (M 1 0 1) ≠ 104))) by omega), if_neg (show ¬ ((M 2 0 (M 1 0 1) = 115 ∧ R 0 0 ≠ -1) ∨ (M 2 0 (M 1 0 1) = 99 ∧ 6 ≤ R 1 0) ∨ (M 2 0 (M 1 0 1) = 104 ∧ 6 ≤ R 2 0)) by omega)]; exact xCl_ok hL hp (fun e => by have := pBody_B (by omega) (by omega) hR (by omega) e; omega))
              · refine q_aloadn C dX9_readClause_85 rfl ?_
                refine q_iconst C dX9_readClause_86 ?_
                refine q_aloadn C dX9_readClause_87 rfl ?_
                refine gf_RX9_15 C dX9_readClause_88 (fun r88 => ?_)
                try simp only [q_rd, q_rdS, ↓reduceIte, if_true, if_false, eq_self, Nat.reduceEqDiff, Int.reduceEq, Int.reduceNeg, reduceCtorEq] at r88 ⊢
                refine cv_RX9_45 C (by decide) (m_X9_fail l g _ (by omega) (by assumption)) dX9_readClause_91 (Nat.le_of_ble_eq_true rfl) ?_
                refine q_goto C (tgt := 117) dX9_readClause_94 (by decide) ?_
                refine q_vret C' dX9_readClause_117 ?_
                refine ⟨rfl, ?_⟩
                unfold pCl
                first | (rw [if_pos (show (M 2 0 (M 1 0 1) ≠ 115 ∧ (R 0 0 = -1 ∨ (M 2 0 (M 1 0 1) ≠ 99 ∧ M 2 0 (M 1 0 1) ≠ 104))) by omega)]; exact xCl_f hA hF0 (by decide)) | (rw [if_neg (show ¬ (M 2 0 (M 1 0 1) ≠ 115 ∧ (R 0 0 = -1 ∨ (M 2 0 (M 1 0 1) ≠ 99 ∧ M 2 0 (M 1 0 1) ≠ 104))) by omega), if_pos (show ((M 2 0 (M 1 0 1) = 115 ∧ R 0 0 ≠ -1) ∨ (M 2 0 (M 1 0 1) = 99 ∧ 6 ≤ R 1 0) ∨ (M 2 0 (M 1 0 1) = 104 ∧ 6 ≤ R 2 0)) by omega)]; exact xCl_f hA hF0 (by decide)) | (rw [if_neg (show ¬ (M 2 0 (M 1 0 1) ≠ 115 ∧ (R 0 0 = -1 ∨ (M 2 0 (M 1 0 1) ≠ 99 ∧ M 2 0 (M 1 0 1) ≠ 104))) by omega), if_neg (show ¬ ((M 2 0 (M 1 0 1) = 115 ∧ R 0 0 ≠ -1) ∨ (M 2 0 (M 1 0 1) = 99 ∧ 6 ≤ R 1 0) ∨ (M 2 0 (M 1 0 1) = 104 ∧ 6 ≤ R 2 0)) by omega)]; exact xCl_ok hL hp (fun e => by have := pBody_B (by omega) (by omega) hR (by omega) e; omega))
          · refine q_aloadn C dX9_readClause_61 rfl ?_
            refine gf_RX9_49 C (by decide) dX9_readClause_62 (fun r62 => ?_)
            try simp only [q_rd, q_rdS, ↓reduceIte, if_true, if_false, eq_self, Nat.reduceEqDiff, Int.reduceEq, Int.reduceNeg, reduceCtorEq] at r62 ⊢
            refine q_bipush C dX9_readClause_65 (by decide) ?_
            refine q_icmp_ge C 85 dX9_readClause_67 (by decide) (by first | assumption | omega | exact q_tin _ | exact q_bIn _) (by first | assumption | omega | exact q_tin _ | exact q_bIn _) (fun h67 => ?_) (fun h67 => ?_)
            · refine q_aloadn C dX9_readClause_85 rfl ?_
              refine q_iconst C dX9_readClause_86 ?_
              refine q_aloadn C dX9_readClause_87 rfl ?_
              refine gf_RX9_15 C dX9_readClause_88 (fun r88 => ?_)
              try simp only [q_rd, q_rdS, ↓reduceIte, if_true, if_false, eq_self, Nat.reduceEqDiff, Int.reduceEq, Int.reduceNeg, reduceCtorEq] at r88 ⊢
              refine cv_RX9_45 C (by decide) (m_X9_fail l g _ (by omega) (by assumption)) dX9_readClause_91 (Nat.le_of_ble_eq_true rfl) ?_
              refine q_goto C (tgt := 117) dX9_readClause_94 (by decide) ?_
              refine q_vret C' dX9_readClause_117 ?_
              refine ⟨rfl, ?_⟩
              unfold pCl
              first | (rw [if_pos (show (M 2 0 (M 1 0 1) ≠ 115 ∧ (R 0 0 = -1 ∨ (M 2 0 (M 1 0 1) ≠ 99 ∧ M 2 0 (M 1 0 1) ≠ 104))) by omega)]; exact xCl_f hA hF0 (by decide)) | (rw [if_neg (show ¬ (M 2 0 (M 1 0 1) ≠ 115 ∧ (R 0 0 = -1 ∨ (M 2 0 (M 1 0 1) ≠ 99 ∧ M 2 0 (M 1 0 1) ≠ 104))) by omega), if_pos (show ((M 2 0 (M 1 0 1) = 115 ∧ R 0 0 ≠ -1) ∨ (M 2 0 (M 1 0 1) = 99 ∧ 6 ≤ R 1 0) ∨ (M 2 0 (M 1 0 1) = 104 ∧ 6 ≤ R 2 0)) by omega)]; exact xCl_f hA hF0 (by decide)) | (rw [if_neg (show ¬ (M 2 0 (M 1 0 1) ≠ 115 ∧ (R 0 0 = -1 ∨ (M 2 0 (M 1 0 1) ≠ 99 ∧ M 2 0 (M 1 0 1) ≠ 104))) by omega), if_neg (show ¬ ((M 2 0 (M 1 0 1) = 115 ∧ R 0 0 ≠ -1) ∨ (M 2 0 (M 1 0 1) = 99 ∧ 6 ≤ R 1 0) ∨ (M 2 0 (M 1 0 1) = 104 ∧ 6 ≤ R 2 0)) by omega)]; exact xCl_ok hL hp (fun e => by have := pBody_B (by omega) (by omega) hR (by omega) e; omega))
            · refine q_iloadn C dX9_readClause_70 rfl ?_
              refine q_bipush C dX9_readClause_71 (by decide) ?_
              refine q_icmp_ne C 97 dX9_readClause_73 (by decide) (by first | assumption | omega | exact q_tin _ | exact q_bIn _) (by first | assumption | omega | exact q_tin _ | exact q_bIn _) (fun h73 => ?_) (fun h73 => ?_)
              · refine q_aloadn C dX9_readClause_97 rfl ?_
                refine q_dup C dX9_readClause_98 rfl ?_
                refine gf_RX9_15 C dX9_readClause_99 (fun r99 => ?_)
                try simp only [q_rd, q_rdS, ↓reduceIte, if_true, if_false, eq_self, Nat.reduceEqDiff, Int.reduceEq, Int.reduceNeg, reduceCtorEq] at r99 ⊢
                refine q_iconst C dX9_readClause_102 ?_
                refine q_iadd C dX9_readClause_103 ?_
                refine pf_RX9_15 C (by first | assumption | omega | exact q_tin _ | exact q_bIn _) dX9_readClause_104 ?_
                refine q_aloadn C dX9_readClause_107 rfl ?_
                refine q_iloadn C dX9_readClause_108 rfl ?_
                refine q_aloadn C dX9_readClause_109 rfl ?_
                refine cw_RX9_55 C (by decide) (m_X9_readNumbers l g (qUp M 1 0 1 (M 1 0 1 + 1)) (by simp only [q_rd, ↓reduceIte, Nat.reduceEqDiff, Int.reduceEq]; exact hL) (by simp only [q_rd, ↓reduceIte, Nat.reduceEqDiff, Int.reduceEq]; omega) (by simp only [q_rd, ↓reduceIte, Nat.reduceEqDiff, Int.reduceEq]; exact hF0) (rX_1 hX) hR (by omega)) dX9_readClause_110 (Nat.le_of_ble_eq_true rfl) (fun r N hz hp => ?_)
                obtain ⟨rfl, hp⟩ := hp
                simp only [q_rdR, q_rd, q_rdS, ↓reduceIte, if_true, if_false, eq_self, Nat.reduceEqDiff, Int.reduceEq, Int.reduceNeg, reduceCtorEq] at hp
                show qV l g X _ _ _ []
                refine q_aloadn C dX9_readClause_113 rfl ?_
                refine cv_RX9_59 C (by decide) (m_X9_expectEnd l g _ (by rw [hp.1.2.1]; simp only [q_rd, ↓reduceIte, Nat.reduceEqDiff, Int.reduceEq]; exact hL) (by rw [hp.1.2.1]; exact hp.1.2.2)) dX9_readClause_114 (Nat.le_of_ble_eq_true rfl) ?_
                refine q_vret C' dX9_readClause_117 ?_
                refine ⟨rfl, ?_⟩
                unfold pCl
                first | (rw [if_pos (show (M 2 0 (M 1 0 1) ≠ 115 ∧ (R 0 0 = -1 ∨ (M 2 0 (M 1 0 1) ≠ 99 ∧ M 2 0 (M 1 0 1) ≠ 104))) by omega)]; exact xCl_f hA hF0 (by decide)) | (rw [if_neg (show ¬ (M 2 0 (M 1 0 1) ≠ 115 ∧ (R 0 0 = -1 ∨ (M 2 0 (M 1 0 1) ≠ 99 ∧ M 2 0 (M 1 0 1) ≠ 104))) by omega), if_pos (show ((M 2 0 (M 1 0 1) = 115 ∧ R 0 0 ≠ -1) ∨ (M 2 0 (M 1 0 1) = 99 ∧ 6 ≤ R 1 0) ∨ (M 2 0 (M 1 0 1) = 104 ∧ 6 ≤ R 2 0)) by omega)]; exact xCl_f hA hF0 (by decide)) | (rw [if_neg (show ¬ (M 2 0 (M 1 0 1) ≠ 115 ∧ (R 0 0 = -1 ∨ (M 2 0 (M 1 0 1) ≠ 99 ∧ M 2 0 (M 1 0 1) ≠ 104))) by omega), if_neg (show ¬ ((M 2 0 (M 1 0 1) = 115 ∧ R 0 0 ≠ -1) ∨ (M 2 0 (M 1 0 1) = 99 ∧ 6 ≤ R 1 0) ∨ (M 2 0 (M 1 0 1) = 104 ∧ 6 ≤ R 2 0)) by omega)]; exact xCl_ok hL hp (fun e => by have := pBody_B (by omega) (by omega) hR (by omega) e; omega))
              · refine q_aloadn C dX9_readClause_76 rfl ?_
                refine gf_RX9_52 C (by decide) dX9_readClause_77 (fun r77 => ?_)
                try simp only [q_rd, q_rdS, ↓reduceIte, if_true, if_false, eq_self, Nat.reduceEqDiff, Int.reduceEq, Int.reduceNeg, reduceCtorEq] at r77 ⊢
                refine q_bipush C dX9_readClause_80 (by decide) ?_
                refine q_icmp_lt C 97 dX9_readClause_82 (by decide) (by first | assumption | omega | exact q_tin _ | exact q_bIn _) (by first | assumption | omega | exact q_tin _ | exact q_bIn _) (fun h82 => ?_) (fun h82 => ?_)
                · refine q_aloadn C dX9_readClause_97 rfl ?_
                  refine q_dup C dX9_readClause_98 rfl ?_
                  refine gf_RX9_15 C dX9_readClause_99 (fun r99 => ?_)
                  try simp only [q_rd, q_rdS, ↓reduceIte, if_true, if_false, eq_self, Nat.reduceEqDiff, Int.reduceEq, Int.reduceNeg, reduceCtorEq] at r99 ⊢
                  refine q_iconst C dX9_readClause_102 ?_
                  refine q_iadd C dX9_readClause_103 ?_
                  refine pf_RX9_15 C (by first | assumption | omega | exact q_tin _ | exact q_bIn _) dX9_readClause_104 ?_
                  refine q_aloadn C dX9_readClause_107 rfl ?_
                  refine q_iloadn C dX9_readClause_108 rfl ?_
                  refine q_aloadn C dX9_readClause_109 rfl ?_
                  refine cw_RX9_55 C (by decide) (m_X9_readNumbers l g (qUp M 1 0 1 (M 1 0 1 + 1)) (by simp only [q_rd, ↓reduceIte, Nat.reduceEqDiff, Int.reduceEq]; exact hL) (by simp only [q_rd, ↓reduceIte, Nat.reduceEqDiff, Int.reduceEq]; omega) (by simp only [q_rd, ↓reduceIte, Nat.reduceEqDiff, Int.reduceEq]; exact hF0) (rX_1 hX) hR (by omega)) dX9_readClause_110 (Nat.le_of_ble_eq_true rfl) (fun r N hz hp => ?_)
                  obtain ⟨rfl, hp⟩ := hp
                  simp only [q_rdR, q_rd, q_rdS, ↓reduceIte, if_true, if_false, eq_self, Nat.reduceEqDiff, Int.reduceEq, Int.reduceNeg, reduceCtorEq] at hp
                  show qV l g X _ _ _ []
                  refine q_aloadn C dX9_readClause_113 rfl ?_
                  refine cv_RX9_59 C (by decide) (m_X9_expectEnd l g _ (by rw [hp.1.2.1]; simp only [q_rd, ↓reduceIte, Nat.reduceEqDiff, Int.reduceEq]; exact hL) (by rw [hp.1.2.1]; exact hp.1.2.2)) dX9_readClause_114 (Nat.le_of_ble_eq_true rfl) ?_
                  refine q_vret C' dX9_readClause_117 ?_
                  refine ⟨rfl, ?_⟩
                  unfold pCl
                  first | (rw [if_pos (show (M 2 0 (M 1 0 1) ≠ 115 ∧ (R 0 0 = -1 ∨ (M 2 0 (M 1 0 1) ≠ 99 ∧ M 2 0 (M 1 0 1) ≠ 104))) by omega)]; exact xCl_f hA hF0 (by decide)) | (rw [if_neg (show ¬ (M 2 0 (M 1 0 1) ≠ 115 ∧ (R 0 0 = -1 ∨ (M 2 0 (M 1 0 1) ≠ 99 ∧ M 2 0 (M 1 0 1) ≠ 104))) by omega), if_pos (show ((M 2 0 (M 1 0 1) = 115 ∧ R 0 0 ≠ -1) ∨ (M 2 0 (M 1 0 1) = 99 ∧ 6 ≤ R 1 0) ∨ (M 2 0 (M 1 0 1) = 104 ∧ 6 ≤ R 2 0)) by omega)]; exact xCl_f hA hF0 (by decide)) | (rw [if_neg (show ¬ (M 2 0 (M 1 0 1) ≠ 115 ∧ (R 0 0 = -1 ∨ (M 2 0 (M 1 0 1) ≠ 99 ∧ M 2 0 (M 1 0 1) ≠ 104))) by omega), if_neg (show ¬ ((M 2 0 (M 1 0 1) = 115 ∧ R 0 0 ≠ -1) ∨ (M 2 0 (M 1 0 1) = 99 ∧ 6 ≤ R 1 0) ∨ (M 2 0 (M 1 0 1) = 104 ∧ 6 ≤ R 2 0)) by omega)]; exact xCl_ok hL hp (fun e => by have := pBody_B (by omega) (by omega) hR (by omega) e; omega))
                · refine q_aloadn C dX9_readClause_85 rfl ?_
                  refine q_iconst C dX9_readClause_86 ?_
                  refine q_aloadn C dX9_readClause_87 rfl ?_
                  refine gf_RX9_15 C dX9_readClause_88 (fun r88 => ?_)
                  try simp only [q_rd, q_rdS, ↓reduceIte, if_true, if_false, eq_self, Nat.reduceEqDiff, Int.reduceEq, Int.reduceNeg, reduceCtorEq] at r88 ⊢
                  refine cv_RX9_45 C (by decide) (m_X9_fail l g _ (by omega) (by assumption)) dX9_readClause_91 (Nat.le_of_ble_eq_true rfl) ?_
                  refine q_goto C (tgt := 117) dX9_readClause_94 (by decide) ?_
                  refine q_vret C' dX9_readClause_117 ?_
                  refine ⟨rfl, ?_⟩
                  unfold pCl
                  first | (rw [if_pos (show (M 2 0 (M 1 0 1) ≠ 115 ∧ (R 0 0 = -1 ∨ (M 2 0 (M 1 0 1) ≠ 99 ∧ M 2 0 (M 1 0 1) ≠ 104))) by omega)]; exact xCl_f hA hF0 (by decide)) | (rw [if_neg (show ¬ (M 2 0 (M 1 0 1) ≠ 115 ∧ (R 0 0 = -1 ∨ (M 2 0 (M 1 0 1) ≠ 99 ∧ M 2 0 (M 1 0 1) ≠ 104))) by omega), if_pos (show ((M 2 0 (M 1 0 1) = 115 ∧ R 0 0 ≠ -1) ∨ (M 2 0 (M 1 0 1) = 99 ∧ 6 ≤ R 1 0) ∨ (M 2 0 (M 1 0 1) = 104 ∧ 6 ≤ R 2 0)) by omega)]; exact xCl_f hA hF0 (by decide)) | (rw [if_neg (show ¬ (M 2 0 (M 1 0 1) ≠ 115 ∧ (R 0 0 = -1 ∨ (M 2 0 (M 1 0 1) ≠ 99 ∧ M 2 0 (M 1 0 1) ≠ 104))) by omega), if_neg (show ¬ ((M 2 0 (M 1 0 1) = 115 ∧ R 0 0 ≠ -1) ∨ (M 2 0 (M 1 0 1) = 99 ∧ 6 ≤ R 1 0) ∨ (M 2 0 (M 1 0 1) = 104 ∧ 6 ≤ R 2 0)) by omega)]; exact xCl_ok hL hp (fun e => by have := pBody_B (by omega) (by omega) hR (by omega) e; omega))
        · refine q_aloadn C dX9_readClause_48 rfl ?_
          refine cv_RX9_41 C (by decide) (by decide) (m_X7_isOn l g _ (by decide)) dX9_readClause_49 (Nat.le_of_ble_eq_true rfl) (fun r49 => ?_)
          refine q_ifneB C 85 dX9_readClause_52 (by decide) (fun h52 => ?_) (fun h52 => ?_)
          · refine q_aloadn C dX9_readClause_85 rfl ?_
            refine q_iconst C dX9_readClause_86 ?_
            refine q_aloadn C dX9_readClause_87 rfl ?_
            refine gf_RX9_15 C dX9_readClause_88 (fun r88 => ?_)
            try simp only [q_rd, q_rdS, ↓reduceIte, if_true, if_false, eq_self, Nat.reduceEqDiff, Int.reduceEq, Int.reduceNeg, reduceCtorEq] at r88 ⊢
            refine cv_RX9_45 C (by decide) (m_X9_fail l g _ (by omega) (by assumption)) dX9_readClause_91 (Nat.le_of_ble_eq_true rfl) ?_
            refine q_goto C (tgt := 117) dX9_readClause_94 (by decide) ?_
            refine q_vret C' dX9_readClause_117 ?_
            refine ⟨rfl, ?_⟩
            unfold pCl
            first | (rw [if_pos (show (M 2 0 (M 1 0 1) ≠ 115 ∧ (R 0 0 = -1 ∨ (M 2 0 (M 1 0 1) ≠ 99 ∧ M 2 0 (M 1 0 1) ≠ 104))) by omega)]; exact xCl_f hA hF0 (by decide)) | (rw [if_neg (show ¬ (M 2 0 (M 1 0 1) ≠ 115 ∧ (R 0 0 = -1 ∨ (M 2 0 (M 1 0 1) ≠ 99 ∧ M 2 0 (M 1 0 1) ≠ 104))) by omega), if_pos (show ((M 2 0 (M 1 0 1) = 115 ∧ R 0 0 ≠ -1) ∨ (M 2 0 (M 1 0 1) = 99 ∧ 6 ≤ R 1 0) ∨ (M 2 0 (M 1 0 1) = 104 ∧ 6 ≤ R 2 0)) by omega)]; exact xCl_f hA hF0 (by decide)) | (rw [if_neg (show ¬ (M 2 0 (M 1 0 1) ≠ 115 ∧ (R 0 0 = -1 ∨ (M 2 0 (M 1 0 1) ≠ 99 ∧ M 2 0 (M 1 0 1) ≠ 104))) by omega), if_neg (show ¬ ((M 2 0 (M 1 0 1) = 115 ∧ R 0 0 ≠ -1) ∨ (M 2 0 (M 1 0 1) = 99 ∧ 6 ≤ R 1 0) ∨ (M 2 0 (M 1 0 1) = 104 ∧ 6 ≤ R 2 0)) by omega)]; exact xCl_ok hL hp (fun e => by have := pBody_B (by omega) (by omega) hR (by omega) e; omega))
          · refine q_iloadn C dX9_readClause_55 rfl ?_
            refine q_bipush C dX9_readClause_56 (by decide) ?_
            refine q_icmp_ne C 70 dX9_readClause_58 (by decide) (by first | assumption | omega | exact q_tin _ | exact q_bIn _) (by first | assumption | omega | exact q_tin _ | exact q_bIn _) (fun h58 => ?_) (fun h58 => ?_)
            · refine q_iloadn C dX9_readClause_70 rfl ?_
              refine q_bipush C dX9_readClause_71 (by decide) ?_
              refine q_icmp_ne C 97 dX9_readClause_73 (by decide) (by first | assumption | omega | exact q_tin _ | exact q_bIn _) (by first | assumption | omega | exact q_tin _ | exact q_bIn _) (fun h73 => ?_) (fun h73 => ?_)
              · refine q_aloadn C dX9_readClause_97 rfl ?_
                refine q_dup C dX9_readClause_98 rfl ?_
                refine gf_RX9_15 C dX9_readClause_99 (fun r99 => ?_)
                try simp only [q_rd, q_rdS, ↓reduceIte, if_true, if_false, eq_self, Nat.reduceEqDiff, Int.reduceEq, Int.reduceNeg, reduceCtorEq] at r99 ⊢
                refine q_iconst C dX9_readClause_102 ?_
                refine q_iadd C dX9_readClause_103 ?_
                refine pf_RX9_15 C (by first | assumption | omega | exact q_tin _ | exact q_bIn _) dX9_readClause_104 ?_
                refine q_aloadn C dX9_readClause_107 rfl ?_
                refine q_iloadn C dX9_readClause_108 rfl ?_
                refine q_aloadn C dX9_readClause_109 rfl ?_
                refine cw_RX9_55 C (by decide) (m_X9_readNumbers l g (qUp M 1 0 1 (M 1 0 1 + 1)) (by simp only [q_rd, ↓reduceIte, Nat.reduceEqDiff, Int.reduceEq]; exact hL) (by simp only [q_rd, ↓reduceIte, Nat.reduceEqDiff, Int.reduceEq]; omega) (by simp only [q_rd, ↓reduceIte, Nat.reduceEqDiff, Int.reduceEq]; exact hF0) (rX_1 hX) hR (by omega)) dX9_readClause_110 (Nat.le_of_ble_eq_true rfl) (fun r N hz hp => ?_)
                obtain ⟨rfl, hp⟩ := hp
                simp only [q_rdR, q_rd, q_rdS, ↓reduceIte, if_true, if_false, eq_self, Nat.reduceEqDiff, Int.reduceEq, Int.reduceNeg, reduceCtorEq] at hp
                show qV l g X _ _ _ []
                refine q_aloadn C dX9_readClause_113 rfl ?_
                refine cv_RX9_59 C (by decide) (m_X9_expectEnd l g _ (by rw [hp.1.2.1]; simp only [q_rd, ↓reduceIte, Nat.reduceEqDiff, Int.reduceEq]; exact hL) (by rw [hp.1.2.1]; exact hp.1.2.2)) dX9_readClause_114 (Nat.le_of_ble_eq_true rfl) ?_
                refine q_vret C' dX9_readClause_117 ?_
                refine ⟨rfl, ?_⟩
                unfold pCl
                first | (rw [if_pos (show (M 2 0 (M 1 0 1) ≠ 115 ∧ (R 0 0 = -1 ∨ (M 2 0 (M 1 0 1) ≠ 99 ∧ M 2 0 (M 1 0 1) ≠ 104))) by omega)]; exact xCl_f hA hF0 (by decide)) | (rw [if_neg (show ¬ (M 2 0 (M 1 0 1) ≠ 115 ∧ (R 0 0 = -1 ∨ (M 2 0 (M 1 0 1) ≠ 99 ∧ M 2 0 (M 1 0 1) ≠ 104))) by omega), if_pos (show ((M 2 0 (M 1 0 1) = 115 ∧ R 0 0 ≠ -1) ∨ (M 2 0 (M 1 0 1) = 99 ∧ 6 ≤ R 1 0) ∨ (M 2 0 (M 1 0 1) = 104 ∧ 6 ≤ R 2 0)) by omega)]; exact xCl_f hA hF0 (by decide)) | (rw [if_neg (show ¬ (M 2 0 (M 1 0 1) ≠ 115 ∧ (R 0 0 = -1 ∨ (M 2 0 (M 1 0 1) ≠ 99 ∧ M 2 0 (M 1 0 1) ≠ 104))) by omega), if_neg (show ¬ ((M 2 0 (M 1 0 1) = 115 ∧ R 0 0 ≠ -1) ∨ (M 2 0 (M 1 0 1) = 99 ∧ 6 ≤ R 1 0) ∨ (M 2 0 (M 1 0 1) = 104 ∧ 6 ≤ R 2 0)) by omega)]; exact xCl_ok hL hp (fun e => by have := pBody_B (by omega) (by omega) hR (by omega) e; omega))
              · refine q_aloadn C dX9_readClause_76 rfl ?_
                refine gf_RX9_52 C (by decide) dX9_readClause_77 (fun r77 => ?_)
                try simp only [q_rd, q_rdS, ↓reduceIte, if_true, if_false, eq_self, Nat.reduceEqDiff, Int.reduceEq, Int.reduceNeg, reduceCtorEq] at r77 ⊢
                refine q_bipush C dX9_readClause_80 (by decide) ?_
                refine q_icmp_lt C 97 dX9_readClause_82 (by decide) (by first | assumption | omega | exact q_tin _ | exact q_bIn _) (by first | assumption | omega | exact q_tin _ | exact q_bIn _) (fun h82 => ?_) (fun h82 => ?_)
                · refine q_aloadn C dX9_readClause_97 rfl ?_
                  refine q_dup C dX9_readClause_98 rfl ?_
                  refine gf_RX9_15 C dX9_readClause_99 (fun r99 => ?_)
                  try simp only [q_rd, q_rdS, ↓reduceIte, if_true, if_false, eq_self, Nat.reduceEqDiff, Int.reduceEq, Int.reduceNeg, reduceCtorEq] at r99 ⊢
                  refine q_iconst C dX9_readClause_102 ?_
                  refine q_iadd C dX9_readClause_103 ?_
                  refine pf_RX9_15 C (by first | assumption | omega | exact q_tin _ | exact q_bIn _) dX9_readClause_104 ?_
                  refine q_aloadn C dX9_readClause_107 rfl ?_
                  refine q_iloadn C dX9_readClause_108 rfl ?_
                  refine q_aloadn C dX9_readClause_109 rfl ?_
                  refine cw_RX9_55 C (by decide) (m_X9_readNumbers l g (qUp M 1 0 1 (M 1 0 1 + 1)) (by simp only [q_rd, ↓reduceIte, Nat.reduceEqDiff, Int.reduceEq]; exact hL) (by simp only [q_rd, ↓reduceIte, Nat.reduceEqDiff, Int.reduceEq]; omega) (by simp only [q_rd, ↓reduceIte, Nat.reduceEqDiff, Int.reduceEq]; exact hF0) (rX_1 hX) hR (by omega)) dX9_readClause_110 (Nat.le_of_ble_eq_true rfl) (fun r N hz hp => ?_)
                  obtain ⟨rfl, hp⟩ := hp
                  simp only [q_rdR, q_rd, q_rdS, ↓reduceIte, if_true, if_false, eq_self, Nat.reduceEqDiff, Int.reduceEq, Int.reduceNeg, reduceCtorEq] at hp
                  show qV l g X _ _ _ []
                  refine q_aloadn C dX9_readClause_113 rfl ?_
                  refine cv_RX9_59 C (by decide) (m_X9_expectEnd l g _ (by rw [hp.1.2.1]; simp only [q_rd, ↓reduceIte, Nat.reduceEqDiff, Int.reduceEq]; exact hL) (by rw [hp.1.2.1]; exact hp.1.2.2)) dX9_readClause_114 (Nat.le_of_ble_eq_true rfl) ?_
                  refine q_vret C' dX9_readClause_117 ?_
                  refine ⟨rfl, ?_⟩
                  unfold pCl
                  first | (rw [if_pos (show (M 2 0 (M 1 0 1) ≠ 115 ∧ (R 0 0 = -1 ∨ (M 2 0 (M 1 0 1) ≠ 99 ∧ M 2 0 (M 1 0 1) ≠ 104))) by omega)]; exact xCl_f hA hF0 (by decide)) | (rw [if_neg (show ¬ (M 2 0 (M 1 0 1) ≠ 115 ∧ (R 0 0 = -1 ∨ (M 2 0 (M 1 0 1) ≠ 99 ∧ M 2 0 (M 1 0 1) ≠ 104))) by omega), if_pos (show ((M 2 0 (M 1 0 1) = 115 ∧ R 0 0 ≠ -1) ∨ (M 2 0 (M 1 0 1) = 99 ∧ 6 ≤ R 1 0) ∨ (M 2 0 (M 1 0 1) = 104 ∧ 6 ≤ R 2 0)) by omega)]; exact xCl_f hA hF0 (by decide)) | (rw [if_neg (show ¬ (M 2 0 (M 1 0 1) ≠ 115 ∧ (R 0 0 = -1 ∨ (M 2 0 (M 1 0 1) ≠ 99 ∧ M 2 0 (M 1 0 1) ≠ 104))) by omega), if_neg (show ¬ ((M 2 0 (M 1 0 1) = 115 ∧ R 0 0 ≠ -1) ∨ (M 2 0 (M 1 0 1) = 99 ∧ 6 ≤ R 1 0) ∨ (M 2 0 (M 1 0 1) = 104 ∧ 6 ≤ R 2 0)) by omega)]; exact xCl_ok hL hp (fun e => by have := pBody_B (by omega) (by omega) hR (by omega) e; omega))
                · refine q_aloadn C dX9_readClause_85 rfl ?_
                  refine q_iconst C dX9_readClause_86 ?_
                  refine q_aloadn C dX9_readClause_87 rfl ?_
                  refine gf_RX9_15 C dX9_readClause_88 (fun r88 => ?_)
                  try simp only [q_rd, q_rdS, ↓reduceIte, if_true, if_false, eq_self, Nat.reduceEqDiff, Int.reduceEq, Int.reduceNeg, reduceCtorEq] at r88 ⊢
                  refine cv_RX9_45 C (by decide) (m_X9_fail l g _ (by omega) (by assumption)) dX9_readClause_91 (Nat.le_of_ble_eq_true rfl) ?_
                  refine q_goto C (tgt := 117) dX9_readClause_94 (by decide) ?_
                  refine q_vret C' dX9_readClause_117 ?_
                  refine ⟨rfl, ?_⟩
                  unfold pCl
                  first | (rw [if_pos (show (M 2 0 (M 1 0 1) ≠ 115 ∧ (R 0 0 = -1 ∨ (M 2 0 (M 1 0 1) ≠ 99 ∧ M 2 0 (M 1 0 1) ≠ 104))) by omega)]; exact xCl_f hA hF0 (by decide)) | (rw [if_neg (show ¬ (M 2 0 (M 1 0 1) ≠ 115 ∧ (R 0 0 = -1 ∨ (M 2 0 (M 1 0 1) ≠ 99 ∧ M 2 0 (M 1 0 1) ≠ 104))) by omega), if_pos (show ((M 2 0 (M 1 0 1) = 115 ∧ R 0 0 ≠ -1) ∨ (M 2 0 (M 1 0 1) = 99 ∧ 6 ≤ R 1 0) ∨ (M 2 0 (M 1 0 1) = 104 ∧ 6 ≤ R 2 0)) by omega)]; exact xCl_f hA hF0 (by decide)) | (rw [if_neg (show ¬ (M 2 0 (M 1 0 1) ≠ 115 ∧ (R 0 0 = -1 ∨ (M 2 0 (M 1 0 1) ≠ 99 ∧ M 2 0 (M 1 0 1) ≠ 104))) by omega), if_neg (show ¬ ((M 2 0 (M 1 0 1) = 115 ∧ R 0 0 ≠ -1) ∨ (M 2 0 (M 1 0 1) = 99 ∧ 6 ≤ R 1 0) ∨ (M 2 0 (M 1 0 1) = 104 ∧ 6 ≤ R 2 0)) by omega)]; exact xCl_ok hL hp (fun e => by have := pBody_B (by omega) (by omega) hR (by omega) e; omega))
            · refine q_aloadn C dX9_readClause_61 rfl ?_
              refine gf_RX9_49 C (by decide) dX9_readClause_62 (fun r62 => ?_)
              try simp only [q_rd, q_rdS, ↓reduceIte, if_true, if_false, eq_self, Nat.reduceEqDiff, Int.reduceEq, Int.reduceNeg, reduceCtorEq] at r62 ⊢
              refine q_bipush C dX9_readClause_65 (by decide) ?_
              refine q_icmp_ge C 85 dX9_readClause_67 (by decide) (by first | assumption | omega | exact q_tin _ | exact q_bIn _) (by first | assumption | omega | exact q_tin _ | exact q_bIn _) (fun h67 => ?_) (fun h67 => ?_)
              · refine q_aloadn C dX9_readClause_85 rfl ?_
                refine q_iconst C dX9_readClause_86 ?_
                refine q_aloadn C dX9_readClause_87 rfl ?_
                refine gf_RX9_15 C dX9_readClause_88 (fun r88 => ?_)
                try simp only [q_rd, q_rdS, ↓reduceIte, if_true, if_false, eq_self, Nat.reduceEqDiff, Int.reduceEq, Int.reduceNeg, reduceCtorEq] at r88 ⊢
                refine cv_RX9_45 C (by decide) (m_X9_fail l g _ (by omega) (by assumption)) dX9_readClause_91 (Nat.le_of_ble_eq_true rfl) ?_
                refine q_goto C (tgt := 117) dX9_readClause_94 (by decide) ?_
                refine q_vret C' dX9_readClause_117 ?_
                refine ⟨rfl, ?_⟩
                unfold pCl
                first | (rw [if_pos (show (M 2 0 (M 1 0 1) ≠ 115 ∧ (R 0 0 = -1 ∨ (M 2 0 (M 1 0 1) ≠ 99 ∧ M 2 0 (M 1 0 1) ≠ 104))) by omega)]; exact xCl_f hA hF0 (by decide)) | (rw [if_neg (show ¬ (M 2 0 (M 1 0 1) ≠ 115 ∧ (R 0 0 = -1 ∨ (M 2 0 (M 1 0 1) ≠ 99 ∧ M 2 0 (M 1 0 1) ≠ 104))) by omega), if_pos (show ((M 2 0 (M 1 0 1) = 115 ∧ R 0 0 ≠ -1) ∨ (M 2 0 (M 1 0 1) = 99 ∧ 6 ≤ R 1 0) ∨ (M 2 0 (M 1 0 1) = 104 ∧ 6 ≤ R 2 0)) by omega)]; exact xCl_f hA hF0 (by decide)) | (rw [if_neg (show ¬ (M 2 0 (M 1 0 1) ≠ 115 ∧ (R 0 0 = -1 ∨ (M 2 0 (M 1 0 1) ≠ 99 ∧ M 2 0 (M 1 0 1) ≠ 104))) by omega), if_neg (show ¬ ((M 2 0 (M 1 0 1) = 115 ∧ R 0 0 ≠ -1) ∨ (M 2 0 (M 1 0 1) = 99 ∧ 6 ≤ R 1 0) ∨ (M 2 0 (M 1 0 1) = 104 ∧ 6 ≤ R 2 0)) by omega)]; exact xCl_ok hL hp (fun e => by have := pBody_B (by omega) (by omega) hR (by omega) e; omega))
              · refine q_iloadn C dX9_readClause_70 rfl ?_
                refine q_bipush C dX9_readClause_71 (by decide) ?_
                refine q_icmp_ne C 97 dX9_readClause_73 (by decide) (by first | assumption | omega | exact q_tin _ | exact q_bIn _) (by first | assumption | omega | exact q_tin _ | exact q_bIn _) (fun h73 => ?_) (fun h73 => ?_)
                · refine q_aloadn C dX9_readClause_97 rfl ?_
                  refine q_dup C dX9_readClause_98 rfl ?_
                  refine gf_RX9_15 C dX9_readClause_99 (fun r99 => ?_)
                  try simp only [q_rd, q_rdS, ↓reduceIte, if_true, if_false, eq_self, Nat.reduceEqDiff, Int.reduceEq, Int.reduceNeg, reduceCtorEq] at r99 ⊢
                  refine q_iconst C dX9_readClause_102 ?_
                  refine q_iadd C dX9_readClause_103 ?_
                  refine pf_RX9_15 C (by first | assumption | omega | exact q_tin _ | exact q_bIn _) dX9_readClause_104 ?_
                  refine q_aloadn C dX9_readClause_107 rfl ?_
                  refine q_iloadn C dX9_readClause_108 rfl ?_
                  refine q_aloadn C dX9_readClause_109 rfl ?_
                  refine cw_RX9_55 C (by decide) (m_X9_readNumbers l g (qUp M 1 0 1 (M 1 0 1 + 1)) (by simp only [q_rd, ↓reduceIte, Nat.reduceEqDiff, Int.reduceEq]; exact hL) (by simp only [q_rd, ↓reduceIte, Nat.reduceEqDiff, Int.reduceEq]; omega) (by simp only [q_rd, ↓reduceIte, Nat.reduceEqDiff, Int.reduceEq]; exact hF0) (rX_1 hX) hR (by omega)) dX9_readClause_110 (Nat.le_of_ble_eq_true rfl) (fun r N hz hp => ?_)
                  obtain ⟨rfl, hp⟩ := hp
                  simp only [q_rdR, q_rd, q_rdS, ↓reduceIte, if_true, if_false, eq_self, Nat.reduceEqDiff, Int.reduceEq, Int.reduceNeg, reduceCtorEq] at hp
                  show qV l g X _ _ _ []
                  refine q_aloadn C dX9_readClause_113 rfl ?_
                  refine cv_RX9_59 C (by decide) (m_X9_expectEnd l g _ (by rw [hp.1.2.1]; simp only [q_rd, ↓reduceIte, Nat.reduceEqDiff, Int.reduceEq]; exact hL) (by rw [hp.1.2.1]; exact hp.1.2.2)) dX9_readClause_114 (Nat.le_of_ble_eq_true rfl) ?_
                  refine q_vret C' dX9_readClause_117 ?_
                  refine ⟨rfl, ?_⟩
                  unfold pCl
                  first | (rw [if_pos (show (M 2 0 (M 1 0 1) ≠ 115 ∧ (R 0 0 = -1 ∨ (M 2 0 (M 1 0 1) ≠ 99 ∧ M 2 0 (M 1 0 1) ≠ 104))) by omega)]; exact xCl_f hA hF0 (by decide)) | (rw [if_neg (show ¬ (M 2 0 (M 1 0 1) ≠ 115 ∧ (R 0 0 = -1 ∨ (M 2 0 (M 1 0 1) ≠ 99 ∧ M 2 0 (M 1 0 1) ≠ 104))) by omega), if_pos (show ((M 2 0 (M 1 0 1) = 115 ∧ R 0 0 ≠ -1) ∨ (M 2 0 (M 1 0 1) = 99 ∧ 6 ≤ R 1 0) ∨ (M 2 0 (M 1 0 1) = 104 ∧ 6 ≤ R 2 0)) by omega)]; exact xCl_f hA hF0 (by decide)) | (rw [if_neg (show ¬ (M 2 0 (M 1 0 1) ≠ 115 ∧ (R 0 0 = -1 ∨ (M 2 0 (M 1 0 1) ≠ 99 ∧ M 2 0 (M 1 0 1) ≠ 104))) by omega), if_neg (show ¬ ((M 2 0 (M 1 0 1) = 115 ∧ R 0 0 ≠ -1) ∨ (M 2 0 (M 1 0 1) = 99 ∧ 6 ≤ R 1 0) ∨ (M 2 0 (M 1 0 1) = 104 ∧ 6 ≤ R 2 0)) by omega)]; exact xCl_ok hL hp (fun e => by have := pBody_B (by omega) (by omega) hR (by omega) e; omega))
                · refine q_aloadn C dX9_readClause_76 rfl ?_
                  refine gf_RX9_52 C (by decide) dX9_readClause_77 (fun r77 => ?_)
                  try simp only [q_rd, q_rdS, ↓reduceIte, if_true, if_false, eq_self, Nat.reduceEqDiff, Int.reduceEq, Int.reduceNeg, reduceCtorEq] at r77 ⊢
                  refine q_bipush C dX9_readClause_80 (by decide) ?_
                  refine q_icmp_lt C 97 dX9_readClause_82 (by decide) (by first | assumption | omega | exact q_tin _ | exact q_bIn _) (by first | assumption | omega | exact q_tin _ | exact q_bIn _) (fun h82 => ?_) (fun h82 => ?_)
                  · refine q_aloadn C dX9_readClause_97 rfl ?_
                    refine q_dup C dX9_readClause_98 rfl ?_
                    refine gf_RX9_15 C dX9_readClause_99 (fun r99 => ?_)
                    try simp only [q_rd, q_rdS, ↓reduceIte, if_true, if_false, eq_self, Nat.reduceEqDiff, Int.reduceEq, Int.reduceNeg, reduceCtorEq] at r99 ⊢
                    refine q_iconst C dX9_readClause_102 ?_
                    refine q_iadd C dX9_readClause_103 ?_
                    refine pf_RX9_15 C (by first | assumption | omega | exact q_tin _ | exact q_bIn _) dX9_readClause_104 ?_
                    refine q_aloadn C dX9_readClause_107 rfl ?_
                    refine q_iloadn C dX9_readClause_108 rfl ?_
                    refine q_aloadn C dX9_readClause_109 rfl ?_
                    refine cw_RX9_55 C (by decide) (m_X9_readNumbers l g (qUp M 1 0 1 (M 1 0 1 + 1)) (by simp only [q_rd, ↓reduceIte, Nat.reduceEqDiff, Int.reduceEq]; exact hL) (by simp only [q_rd, ↓reduceIte, Nat.reduceEqDiff, Int.reduceEq]; omega) (by simp only [q_rd, ↓reduceIte, Nat.reduceEqDiff, Int.reduceEq]; exact hF0) (rX_1 hX) hR (by omega)) dX9_readClause_110 (Nat.le_of_ble_eq_true rfl) (fun r N hz hp => ?_)
                    obtain ⟨rfl, hp⟩ := hp
                    simp only [q_rdR, q_rd, q_rdS, ↓reduceIte, if_true, if_false, eq_self, Nat.reduceEqDiff, Int.reduceEq, Int.reduceNeg, reduceCtorEq] at hp
                    show qV l g X _ _ _ []
                    refine q_aloadn C dX9_readClause_113 rfl ?_
                    refine cv_RX9_59 C (by decide) (m_X9_expectEnd l g _ (by rw [hp.1.2.1]; simp only [q_rd, ↓reduceIte, Nat.reduceEqDiff, Int.reduceEq]; exact hL) (by rw [hp.1.2.1]; exact hp.1.2.2)) dX9_readClause_114 (Nat.le_of_ble_eq_true rfl) ?_
                    refine q_vret C' dX9_readClause_117 ?_
                    refine ⟨rfl, ?_⟩
                    unfold pCl
                    first | (rw [if_pos (show (M 2 0 (M 1 0 1) ≠ 115 ∧ (R 0 0 = -1 ∨ (M 2 0 (M 1 0 1) ≠ 99 ∧ M 2 0 (M 1 0 1) ≠ 104))) by omega)]; exact xCl_f hA hF0 (by decide)) | (rw [if_neg (show ¬ (M 2 0 (M 1 0 1) ≠ 115 ∧ (R 0 0 = -1 ∨ (M 2 0 (M 1 0 1) ≠ 99 ∧ M 2 0 (M 1 0 1) ≠ 104))) by omega), if_pos (show ((M 2 0 (M 1 0 1) = 115 ∧ R 0 0 ≠ -1) ∨ (M 2 0 (M 1 0 1) = 99 ∧ 6 ≤ R 1 0) ∨ (M 2 0 (M 1 0 1) = 104 ∧ 6 ≤ R 2 0)) by omega)]; exact xCl_f hA hF0 (by decide)) | (rw [if_neg (show ¬ (M 2 0 (M 1 0 1) ≠ 115 ∧ (R 0 0 = -1 ∨ (M 2 0 (M 1 0 1) ≠ 99 ∧ M 2 0 (M 1 0 1) ≠ 104))) by omega), if_neg (show ¬ ((M 2 0 (M 1 0 1) = 115 ∧ R 0 0 ≠ -1) ∨ (M 2 0 (M 1 0 1) = 99 ∧ 6 ≤ R 1 0) ∨ (M 2 0 (M 1 0 1) = 104 ∧ 6 ≤ R 2 0)) by omega)]; exact xCl_ok hL hp (fun e => by have := pBody_B (by omega) (by omega) hR (by omega) e; omega))
                  · refine q_aloadn C dX9_readClause_85 rfl ?_
                    refine q_iconst C dX9_readClause_86 ?_
                    refine q_aloadn C dX9_readClause_87 rfl ?_
                    refine gf_RX9_15 C dX9_readClause_88 (fun r88 => ?_)
                    try simp only [q_rd, q_rdS, ↓reduceIte, if_true, if_false, eq_self, Nat.reduceEqDiff, Int.reduceEq, Int.reduceNeg, reduceCtorEq] at r88 ⊢
                    refine cv_RX9_45 C (by decide) (m_X9_fail l g _ (by omega) (by assumption)) dX9_readClause_91 (Nat.le_of_ble_eq_true rfl) ?_
                    refine q_goto C (tgt := 117) dX9_readClause_94 (by decide) ?_
                    refine q_vret C' dX9_readClause_117 ?_
                    refine ⟨rfl, ?_⟩
                    unfold pCl
                    first | (rw [if_pos (show (M 2 0 (M 1 0 1) ≠ 115 ∧ (R 0 0 = -1 ∨ (M 2 0 (M 1 0 1) ≠ 99 ∧ M 2 0 (M 1 0 1) ≠ 104))) by omega)]; exact xCl_f hA hF0 (by decide)) | (rw [if_neg (show ¬ (M 2 0 (M 1 0 1) ≠ 115 ∧ (R 0 0 = -1 ∨ (M 2 0 (M 1 0 1) ≠ 99 ∧ M 2 0 (M 1 0 1) ≠ 104))) by omega), if_pos (show ((M 2 0 (M 1 0 1) = 115 ∧ R 0 0 ≠ -1) ∨ (M 2 0 (M 1 0 1) = 99 ∧ 6 ≤ R 1 0) ∨ (M 2 0 (M 1 0 1) = 104 ∧ 6 ≤ R 2 0)) by omega)]; exact xCl_f hA hF0 (by decide)) | (rw [if_neg (show ¬ (M 2 0 (M 1 0 1) ≠ 115 ∧ (R 0 0 = -1 ∨ (M 2 0 (M 1 0 1) ≠ 99 ∧ M 2 0 (M 1 0 1) ≠ 104))) by omega), if_neg (show ¬ ((M 2 0 (M 1 0 1) = 115 ∧ R 0 0 ≠ -1) ∨ (M 2 0 (M 1 0 1) = 99 ∧ 6 ≤ R 1 0) ∨ (M 2 0 (M 1 0 1) = 104 ∧ 6 ≤ R 2 0)) by omega)]; exact xCl_ok hL hp (fun e => by have := pBody_B (by omega) (by omega) hR (by omega) e; omega))
      · refine q_iloadn C dX9_readClause_24 rfl ?_
        refine q_bipush C dX9_readClause_25 (by decide) ?_
        refine q_icmp_eq C 42 dX9_readClause_27 (by decide) (by first | assumption | omega | exact q_tin _ | exact q_bIn _) (by first | assumption | omega | exact q_tin _ | exact q_bIn _) (fun h27 => ?_) (fun h27 => ?_)
        · refine q_iloadn C dX9_readClause_42 rfl ?_
          refine q_bipush C dX9_readClause_43 (by decide) ?_
          refine q_icmp_ne C 55 dX9_readClause_45 (by decide) (by first | assumption | omega | exact q_tin _ | exact q_bIn _) (by first | assumption | omega | exact q_tin _ | exact q_bIn _) (fun h45 => ?_) (fun h45 => ?_)
          · refine q_iloadn C dX9_readClause_55 rfl ?_
            refine q_bipush C dX9_readClause_56 (by decide) ?_
            refine q_icmp_ne C 70 dX9_readClause_58 (by decide) (by first | assumption | omega | exact q_tin _ | exact q_bIn _) (by first | assumption | omega | exact q_tin _ | exact q_bIn _) (fun h58 => ?_) (fun h58 => ?_)
            · refine q_iloadn C dX9_readClause_70 rfl ?_
              refine q_bipush C dX9_readClause_71 (by decide) ?_
              refine q_icmp_ne C 97 dX9_readClause_73 (by decide) (by first | assumption | omega | exact q_tin _ | exact q_bIn _) (by first | assumption | omega | exact q_tin _ | exact q_bIn _) (fun h73 => ?_) (fun h73 => ?_)
              · refine q_aloadn C dX9_readClause_97 rfl ?_
                refine q_dup C dX9_readClause_98 rfl ?_
                refine gf_RX9_15 C dX9_readClause_99 (fun r99 => ?_)
                try simp only [q_rd, q_rdS, ↓reduceIte, if_true, if_false, eq_self, Nat.reduceEqDiff, Int.reduceEq, Int.reduceNeg, reduceCtorEq] at r99 ⊢
                refine q_iconst C dX9_readClause_102 ?_
                refine q_iadd C dX9_readClause_103 ?_
                refine pf_RX9_15 C (by first | assumption | omega | exact q_tin _ | exact q_bIn _) dX9_readClause_104 ?_
                refine q_aloadn C dX9_readClause_107 rfl ?_
                refine q_iloadn C dX9_readClause_108 rfl ?_
                refine q_aloadn C dX9_readClause_109 rfl ?_
                refine cw_RX9_55 C (by decide) (m_X9_readNumbers l g (qUp M 1 0 1 (M 1 0 1 + 1)) (by simp only [q_rd, ↓reduceIte, Nat.reduceEqDiff, Int.reduceEq]; exact hL) (by simp only [q_rd, ↓reduceIte, Nat.reduceEqDiff, Int.reduceEq]; omega) (by simp only [q_rd, ↓reduceIte, Nat.reduceEqDiff, Int.reduceEq]; exact hF0) (rX_1 hX) hR (by omega)) dX9_readClause_110 (Nat.le_of_ble_eq_true rfl) (fun r N hz hp => ?_)
                obtain ⟨rfl, hp⟩ := hp
                simp only [q_rdR, q_rd, q_rdS, ↓reduceIte, if_true, if_false, eq_self, Nat.reduceEqDiff, Int.reduceEq, Int.reduceNeg, reduceCtorEq] at hp
                show qV l g X _ _ _ []
                refine q_aloadn C dX9_readClause_113 rfl ?_
                refine cv_RX9_59 C (by decide) (m_X9_expectEnd l g _ (by rw [hp.1.2.1]; simp only [q_rd, ↓reduceIte, Nat.reduceEqDiff, Int.reduceEq]; exact hL) (by rw [hp.1.2.1]; exact hp.1.2.2)) dX9_readClause_114 (Nat.le_of_ble_eq_true rfl) ?_
                refine q_vret C' dX9_readClause_117 ?_
                refine ⟨rfl, ?_⟩
                unfold pCl
                first | (rw [if_pos (show (M 2 0 (M 1 0 1) ≠ 115 ∧ (R 0 0 = -1 ∨ (M 2 0 (M 1 0 1) ≠ 99 ∧ M 2 0 (M 1 0 1) ≠ 104))) by omega)]; exact xCl_f hA hF0 (by decide)) | (rw [if_neg (show ¬ (M 2 0 (M 1 0 1) ≠ 115 ∧ (R 0 0 = -1 ∨ (M 2 0 (M 1 0 1) ≠ 99 ∧ M 2 0 (M 1 0 1) ≠ 104))) by omega), if_pos (show ((M 2 0 (M 1 0 1) = 115 ∧ R 0 0 ≠ -1) ∨ (M 2 0 (M 1 0 1) = 99 ∧ 6 ≤ R 1 0) ∨ (M 2 0 (M 1 0 1) = 104 ∧ 6 ≤ R 2 0)) by omega)]; exact xCl_f hA hF0 (by decide)) | (rw [if_neg (show ¬ (M 2 0 (M 1 0 1) ≠ 115 ∧ (R 0 0 = -1 ∨ (M 2 0 (M 1 0 1) ≠ 99 ∧ M 2 0 (M 1 0 1) ≠ 104))) by omega), if_neg (show ¬ ((M 2 0 (M 1 0 1) = 115 ∧ R 0 0 ≠ -1) ∨ (M 2 0 (M 1 0 1) = 99 ∧ 6 ≤ R 1 0) ∨ (M 2 0 (M 1 0 1) = 104 ∧ 6 ≤ R 2 0)) by omega)]; exact xCl_ok hL hp (fun e => by have := pBody_B (by omega) (by omega) hR (by omega) e; omega))
              · refine q_aloadn C dX9_readClause_76 rfl ?_
                refine gf_RX9_52 C (by decide) dX9_readClause_77 (fun r77 => ?_)
                try simp only [q_rd, q_rdS, ↓reduceIte, if_true, if_false, eq_self, Nat.reduceEqDiff, Int.reduceEq, Int.reduceNeg, reduceCtorEq] at r77 ⊢
                refine q_bipush C dX9_readClause_80 (by decide) ?_
                refine q_icmp_lt C 97 dX9_readClause_82 (by decide) (by first | assumption | omega | exact q_tin _ | exact q_bIn _) (by first | assumption | omega | exact q_tin _ | exact q_bIn _) (fun h82 => ?_) (fun h82 => ?_)
                · refine q_aloadn C dX9_readClause_97 rfl ?_
                  refine q_dup C dX9_readClause_98 rfl ?_
                  refine gf_RX9_15 C dX9_readClause_99 (fun r99 => ?_)
                  try simp only [q_rd, q_rdS, ↓reduceIte, if_true, if_false, eq_self, Nat.reduceEqDiff, Int.reduceEq, Int.reduceNeg, reduceCtorEq] at r99 ⊢
                  refine q_iconst C dX9_readClause_102 ?_
                  refine q_iadd C dX9_readClause_103 ?_
                  refine pf_RX9_15 C (by first | assumption | omega | exact q_tin _ | exact q_bIn _) dX9_readClause_104 ?_
                  refine q_aloadn C dX9_readClause_107 rfl ?_
                  refine q_iloadn C dX9_readClause_108 rfl ?_
                  refine q_aloadn C dX9_readClause_109 rfl ?_
                  refine cw_RX9_55 C (by decide) (m_X9_readNumbers l g (qUp M 1 0 1 (M 1 0 1 + 1)) (by simp only [q_rd, ↓reduceIte, Nat.reduceEqDiff, Int.reduceEq]; exact hL) (by simp only [q_rd, ↓reduceIte, Nat.reduceEqDiff, Int.reduceEq]; omega) (by simp only [q_rd, ↓reduceIte, Nat.reduceEqDiff, Int.reduceEq]; exact hF0) (rX_1 hX) hR (by omega)) dX9_readClause_110 (Nat.le_of_ble_eq_true rfl) (fun r N hz hp => ?_)
                  obtain ⟨rfl, hp⟩ := hp
                  simp only [q_rdR, q_rd, q_rdS, ↓reduceIte, if_true, if_false, eq_self, Nat.reduceEqDiff, Int.reduceEq, Int.reduceNeg, reduceCtorEq] at hp
                  show qV l g X _ _ _ []
                  refine q_aloadn C dX9_readClause_113 rfl ?_
                  refine cv_RX9_59 C (by decide) (m_X9_expectEnd l g _ (by rw [hp.1.2.1]; simp only [q_rd, ↓reduceIte, Nat.reduceEqDiff, Int.reduceEq]; exact hL) (by rw [hp.1.2.1]; exact hp.1.2.2)) dX9_readClause_114 (Nat.le_of_ble_eq_true rfl) ?_
                  refine q_vret C' dX9_readClause_117 ?_
                  refine ⟨rfl, ?_⟩
                  unfold pCl
                  first | (rw [if_pos (show (M 2 0 (M 1 0 1) ≠ 115 ∧ (R 0 0 = -1 ∨ (M 2 0 (M 1 0 1) ≠ 99 ∧ M 2 0 (M 1 0 1) ≠ 104))) by omega)]; exact xCl_f hA hF0 (by decide)) | (rw [if_neg (show ¬ (M 2 0 (M 1 0 1) ≠ 115 ∧ (R 0 0 = -1 ∨ (M 2 0 (M 1 0 1) ≠ 99 ∧ M 2 0 (M 1 0 1) ≠ 104))) by omega), if_pos (show ((M 2 0 (M 1 0 1) = 115 ∧ R 0 0 ≠ -1) ∨ (M 2 0 (M 1 0 1) = 99 ∧ 6 ≤ R 1 0) ∨ (M 2 0 (M 1 0 1) = 104 ∧ 6 ≤ R 2 0)) by omega)]; exact xCl_f hA hF0 (by decide)) | (rw [if_neg (show ¬ (M 2 0 (M 1 0 1) ≠ 115 ∧ (R 0 0 = -1 ∨ (M 2 0 (M 1 0 1) ≠ 99 ∧ M 2 0 (M 1 0 1) ≠ 104))) by omega), if_neg (show ¬ ((M 2 0 (M 1 0 1) = 115 ∧ R 0 0 ≠ -1) ∨ (M 2 0 (M 1 0 1) = 99 ∧ 6 ≤ R 1 0) ∨ (M 2 0 (M 1 0 1) = 104 ∧ 6 ≤ R 2 0)) by omega)]; exact xCl_ok hL hp (fun e => by have := pBody_B (by omega) (by omega) hR (by omega) e; omega))
                · refine q_aloadn C dX9_readClause_85 rfl ?_
                  refine q_iconst C dX9_readClause_86 ?_
                  refine q_aloadn C dX9_readClause_87 rfl ?_
                  refine gf_RX9_15 C dX9_readClause_88 (fun r88 => ?_)
                  try simp only [q_rd, q_rdS, ↓reduceIte, if_true, if_false, eq_self, Nat.reduceEqDiff, Int.reduceEq, Int.reduceNeg, reduceCtorEq] at r88 ⊢
                  refine cv_RX9_45 C (by decide) (m_X9_fail l g _ (by omega) (by assumption)) dX9_readClause_91 (Nat.le_of_ble_eq_true rfl) ?_
                  refine q_goto C (tgt := 117) dX9_readClause_94 (by decide) ?_
                  refine q_vret C' dX9_readClause_117 ?_
                  refine ⟨rfl, ?_⟩
                  unfold pCl
                  first | (rw [if_pos (show (M 2 0 (M 1 0 1) ≠ 115 ∧ (R 0 0 = -1 ∨ (M 2 0 (M 1 0 1) ≠ 99 ∧ M 2 0 (M 1 0 1) ≠ 104))) by omega)]; exact xCl_f hA hF0 (by decide)) | (rw [if_neg (show ¬ (M 2 0 (M 1 0 1) ≠ 115 ∧ (R 0 0 = -1 ∨ (M 2 0 (M 1 0 1) ≠ 99 ∧ M 2 0 (M 1 0 1) ≠ 104))) by omega), if_pos (show ((M 2 0 (M 1 0 1) = 115 ∧ R 0 0 ≠ -1) ∨ (M 2 0 (M 1 0 1) = 99 ∧ 6 ≤ R 1 0) ∨ (M 2 0 (M 1 0 1) = 104 ∧ 6 ≤ R 2 0)) by omega)]; exact xCl_f hA hF0 (by decide)) | (rw [if_neg (show ¬ (M 2 0 (M 1 0 1) ≠ 115 ∧ (R 0 0 = -1 ∨ (M 2 0 (M 1 0 1) ≠ 99 ∧ M 2 0 (M 1 0 1) ≠ 104))) by omega), if_neg (show ¬ ((M 2 0 (M 1 0 1) = 115 ∧ R 0 0 ≠ -1) ∨ (M 2 0 (M 1 0 1) = 99 ∧ 6 ≤ R 1 0) ∨ (M 2 0 (M 1 0 1) = 104 ∧ 6 ≤ R 2 0)) by omega)]; exact xCl_ok hL hp (fun e => by have := pBody_B (by omega) (by omega) hR (by omega) e; omega))
            · refine q_aloadn C dX9_readClause_61 rfl ?_
              refine gf_RX9_49 C (by decide) dX9_readClause_62 (fun r62 => ?_)
              try simp only [q_rd, q_rdS, ↓reduceIte, if_true, if_false, eq_self, Nat.reduceEqDiff, Int.reduceEq, Int.reduceNeg, reduceCtorEq] at r62 ⊢
              refine q_bipush C dX9_readClause_65 (by decide) ?_
              refine q_icmp_ge C 85 dX9_readClause_67 (by decide) (by first | assumption | omega | exact q_tin _ | exact q_bIn _) (by first | assumption | omega | exact q_tin _ | exact q_bIn _) (fun h67 => ?_) (fun h67 => ?_)
              · refine q_aloadn C dX9_readClause_85 rfl ?_
                refine q_iconst C dX9_readClause_86 ?_
                refine q_aloadn C dX9_readClause_87 rfl ?_
                refine gf_RX9_15 C dX9_readClause_88 (fun r88 => ?_)
                try simp only [q_rd, q_rdS, ↓reduceIte, if_true, if_false, eq_self, Nat.reduceEqDiff, Int.reduceEq, Int.reduceNeg, reduceCtorEq] at r88 ⊢
                refine cv_RX9_45 C (by decide) (m_X9_fail l g _ (by omega) (by assumption)) dX9_readClause_91 (Nat.le_of_ble_eq_true rfl) ?_
                refine q_goto C (tgt := 117) dX9_readClause_94 (by decide) ?_
                refine q_vret C' dX9_readClause_117 ?_
                refine ⟨rfl, ?_⟩
                unfold pCl
                first | (rw [if_pos (show (M 2 0 (M 1 0 1) ≠ 115 ∧ (R 0 0 = -1 ∨ (M 2 0 (M 1 0 1) ≠ 99 ∧ M 2 0 (M 1 0 1) ≠ 104))) by omega)]; exact xCl_f hA hF0 (by decide)) | (rw [if_neg (show ¬ (M 2 0 (M 1 0 1) ≠ 115 ∧ (R 0 0 = -1 ∨ (M 2 0 (M 1 0 1) ≠ 99 ∧ M 2 0 (M 1 0 1) ≠ 104))) by omega), if_pos (show ((M 2 0 (M 1 0 1) = 115 ∧ R 0 0 ≠ -1) ∨ (M 2 0 (M 1 0 1) = 99 ∧ 6 ≤ R 1 0) ∨ (M 2 0 (M 1 0 1) = 104 ∧ 6 ≤ R 2 0)) by omega)]; exact xCl_f hA hF0 (by decide)) | (rw [if_neg (show ¬ (M 2 0 (M 1 0 1) ≠ 115 ∧ (R 0 0 = -1 ∨ (M 2 0 (M 1 0 1) ≠ 99 ∧ M 2 0 (M 1 0 1) ≠ 104))) by omega), if_neg (show ¬ ((M 2 0 (M 1 0 1) = 115 ∧ R 0 0 ≠ -1) ∨ (M 2 0 (M 1 0 1) = 99 ∧ 6 ≤ R 1 0) ∨ (M 2 0 (M 1 0 1) = 104 ∧ 6 ≤ R 2 0)) by omega)]; exact xCl_ok hL hp (fun e => by have := pBody_B (by omega) (by omega) hR (by omega) e; omega))
              · refine q_iloadn C dX9_readClause_70 rfl ?_
                refine q_bipush C dX9_readClause_71 (by decide) ?_
                refine q_icmp_ne C 97 dX9_readClause_73 (by decide) (by first | assumption | omega | exact q_tin _ | exact q_bIn _) (by first | assumption | omega | exact q_tin _ | exact q_bIn _) (fun h73 => ?_) (fun h73 => ?_)
                · refine q_aloadn C dX9_readClause_97 rfl ?_
                  refine q_dup C dX9_readClause_98 rfl ?_
                  refine gf_RX9_15 C dX9_readClause_99 (fun r99 => ?_)
                  try simp only [q_rd, q_rdS, ↓reduceIte, if_true, if_false, eq_self, Nat.reduceEqDiff, Int.reduceEq, Int.reduceNeg, reduceCtorEq] at r99 ⊢
                  refine q_iconst C dX9_readClause_102 ?_
                  refine q_iadd C dX9_readClause_103 ?_
                  refine pf_RX9_15 C (by first | assumption | omega | exact q_tin _ | exact q_bIn _) dX9_readClause_104 ?_
                  refine q_aloadn C dX9_readClause_107 rfl ?_
                  refine q_iloadn C dX9_readClause_108 rfl ?_
                  refine q_aloadn C dX9_readClause_109 rfl ?_
                  refine cw_RX9_55 C (by decide) (m_X9_readNumbers l g (qUp M 1 0 1 (M 1 0 1 + 1)) (by simp only [q_rd, ↓reduceIte, Nat.reduceEqDiff, Int.reduceEq]; exact hL) (by simp only [q_rd, ↓reduceIte, Nat.reduceEqDiff, Int.reduceEq]; omega) (by simp only [q_rd, ↓reduceIte, Nat.reduceEqDiff, Int.reduceEq]; exact hF0) (rX_1 hX) hR (by omega)) dX9_readClause_110 (Nat.le_of_ble_eq_true rfl) (fun r N hz hp => ?_)
                  obtain ⟨rfl, hp⟩ := hp
                  simp only [q_rdR, q_rd, q_rdS, ↓reduceIte, if_true, if_false, eq_self, Nat.reduceEqDiff, Int.reduceEq, Int.reduceNeg, reduceCtorEq] at hp
                  show qV l g X _ _ _ []
                  refine q_aloadn C dX9_readClause_113 rfl ?_
                  refine cv_RX9_59 C (by decide) (m_X9_expectEnd l g _ (by rw [hp.1.2.1]; simp only [q_rd, ↓reduceIte, Nat.reduceEqDiff, Int.reduceEq]; exact hL) (by rw [hp.1.2.1]; exact hp.1.2.2)) dX9_readClause_114 (Nat.le_of_ble_eq_true rfl) ?_
                  refine q_vret C' dX9_readClause_117 ?_
                  refine ⟨rfl, ?_⟩
                  unfold pCl
                  first | (rw [if_pos (show (M 2 0 (M 1 0 1) ≠ 115 ∧ (R 0 0 = -1 ∨ (M 2 0 (M 1 0 1) ≠ 99 ∧ M 2 0 (M 1 0 1) ≠ 104))) by omega)]; exact xCl_f hA hF0 (by decide)) | (rw [if_neg (show ¬ (M 2 0 (M 1 0 1) ≠ 115 ∧ (R 0 0 = -1 ∨ (M 2 0 (M 1 0 1) ≠ 99 ∧ M 2 0 (M 1 0 1) ≠ 104))) by omega), if_pos (show ((M 2 0 (M 1 0 1) = 115 ∧ R 0 0 ≠ -1) ∨ (M 2 0 (M 1 0 1) = 99 ∧ 6 ≤ R 1 0) ∨ (M 2 0 (M 1 0 1) = 104 ∧ 6 ≤ R 2 0)) by omega)]; exact xCl_f hA hF0 (by decide)) | (rw [if_neg (show ¬ (M 2 0 (M 1 0 1) ≠ 115 ∧ (R 0 0 = -1 ∨ (M 2 0 (M 1 0 1) ≠ 99 ∧ M 2 0 (M 1 0 1) ≠ 104))) by omega), if_neg (show ¬ ((M 2 0 (M 1 0 1) = 115 ∧ R 0 0 ≠ -1) ∨ (M 2 0 (M 1 0 1) = 99 ∧ 6 ≤ R 1 0) ∨ (M 2 0 (M 1 0 1) = 104 ∧ 6 ≤ R 2 0)) by omega)]; exact xCl_ok hL hp (fun e => by have := pBody_B (by omega) (by omega) hR (by omega) e; omega))
                · refine q_aloadn C dX9_readClause_76 rfl ?_
                  refine gf_RX9_52 C (by decide) dX9_readClause_77 (fun r77 => ?_)
                  try simp only [q_rd, q_rdS, ↓reduceIte, if_true, if_false, eq_self, Nat.reduceEqDiff, Int.reduceEq, Int.reduceNeg, reduceCtorEq] at r77 ⊢
                  refine q_bipush C dX9_readClause_80 (by decide) ?_
                  refine q_icmp_lt C 97 dX9_readClause_82 (by decide) (by first | assumption | omega | exact q_tin _ | exact q_bIn _) (by first | assumption | omega | exact q_tin _ | exact q_bIn _) (fun h82 => ?_) (fun h82 => ?_)
                  · refine q_aloadn C dX9_readClause_97 rfl ?_
                    refine q_dup C dX9_readClause_98 rfl ?_
                    refine gf_RX9_15 C dX9_readClause_99 (fun r99 => ?_)
                    try simp only [q_rd, q_rdS, ↓reduceIte, if_true, if_false, eq_self, Nat.reduceEqDiff, Int.reduceEq, Int.reduceNeg, reduceCtorEq] at r99 ⊢
                    refine q_iconst C dX9_readClause_102 ?_
                    refine q_iadd C dX9_readClause_103 ?_
                    refine pf_RX9_15 C (by first | assumption | omega | exact q_tin _ | exact q_bIn _) dX9_readClause_104 ?_
                    refine q_aloadn C dX9_readClause_107 rfl ?_
                    refine q_iloadn C dX9_readClause_108 rfl ?_
                    refine q_aloadn C dX9_readClause_109 rfl ?_
                    refine cw_RX9_55 C (by decide) (m_X9_readNumbers l g (qUp M 1 0 1 (M 1 0 1 + 1)) (by simp only [q_rd, ↓reduceIte, Nat.reduceEqDiff, Int.reduceEq]; exact hL) (by simp only [q_rd, ↓reduceIte, Nat.reduceEqDiff, Int.reduceEq]; omega) (by simp only [q_rd, ↓reduceIte, Nat.reduceEqDiff, Int.reduceEq]; exact hF0) (rX_1 hX) hR (by omega)) dX9_readClause_110 (Nat.le_of_ble_eq_true rfl) (fun r N hz hp => ?_)
                    obtain ⟨rfl, hp⟩ := hp
                    simp only [q_rdR, q_rd, q_rdS, ↓reduceIte, if_true, if_false, eq_self, Nat.reduceEqDiff, Int.reduceEq, Int.reduceNeg, reduceCtorEq] at hp
                    show qV l g X _ _ _ []
                    refine q_aloadn C dX9_readClause_113 rfl ?_
                    refine cv_RX9_59 C (by decide) (m_X9_expectEnd l g _ (by rw [hp.1.2.1]; simp only [q_rd, ↓reduceIte, Nat.reduceEqDiff, Int.reduceEq]; exact hL) (by rw [hp.1.2.1]; exact hp.1.2.2)) dX9_readClause_114 (Nat.le_of_ble_eq_true rfl) ?_
                    refine q_vret C' dX9_readClause_117 ?_
                    refine ⟨rfl, ?_⟩
                    unfold pCl
                    first | (rw [if_pos (show (M 2 0 (M 1 0 1) ≠ 115 ∧ (R 0 0 = -1 ∨ (M 2 0 (M 1 0 1) ≠ 99 ∧ M 2 0 (M 1 0 1) ≠ 104))) by omega)]; exact xCl_f hA hF0 (by decide)) | (rw [if_neg (show ¬ (M 2 0 (M 1 0 1) ≠ 115 ∧ (R 0 0 = -1 ∨ (M 2 0 (M 1 0 1) ≠ 99 ∧ M 2 0 (M 1 0 1) ≠ 104))) by omega), if_pos (show ((M 2 0 (M 1 0 1) = 115 ∧ R 0 0 ≠ -1) ∨ (M 2 0 (M 1 0 1) = 99 ∧ 6 ≤ R 1 0) ∨ (M 2 0 (M 1 0 1) = 104 ∧ 6 ≤ R 2 0)) by omega)]; exact xCl_f hA hF0 (by decide)) | (rw [if_neg (show ¬ (M 2 0 (M 1 0 1) ≠ 115 ∧ (R 0 0 = -1 ∨ (M 2 0 (M 1 0 1) ≠ 99 ∧ M 2 0 (M 1 0 1) ≠ 104))) by omega), if_neg (show ¬ ((M 2 0 (M 1 0 1) = 115 ∧ R 0 0 ≠ -1) ∨ (M 2 0 (M 1 0 1) = 99 ∧ 6 ≤ R 1 0) ∨ (M 2 0 (M 1 0 1) = 104 ∧ 6 ≤ R 2 0)) by omega)]; exact xCl_ok hL hp (fun e => by have := pBody_B (by omega) (by omega) hR (by omega) e; omega))
                  · refine q_aloadn C dX9_readClause_85 rfl ?_
                    refine q_iconst C dX9_readClause_86 ?_
                    refine q_aloadn C dX9_readClause_87 rfl ?_
                    refine gf_RX9_15 C dX9_readClause_88 (fun r88 => ?_)
                    try simp only [q_rd, q_rdS, ↓reduceIte, if_true, if_false, eq_self, Nat.reduceEqDiff, Int.reduceEq, Int.reduceNeg, reduceCtorEq] at r88 ⊢
                    refine cv_RX9_45 C (by decide) (m_X9_fail l g _ (by omega) (by assumption)) dX9_readClause_91 (Nat.le_of_ble_eq_true rfl) ?_
                    refine q_goto C (tgt := 117) dX9_readClause_94 (by decide) ?_
                    refine q_vret C' dX9_readClause_117 ?_
                    refine ⟨rfl, ?_⟩
                    unfold pCl
                    first | (rw [if_pos (show (M 2 0 (M 1 0 1) ≠ 115 ∧ (R 0 0 = -1 ∨ (M 2 0 (M 1 0 1) ≠ 99 ∧ M 2 0 (M 1 0 1) ≠ 104))) by omega)]; exact xCl_f hA hF0 (by decide)) | (rw [if_neg (show ¬ (M 2 0 (M 1 0 1) ≠ 115 ∧ (R 0 0 = -1 ∨ (M 2 0 (M 1 0 1) ≠ 99 ∧ M 2 0 (M 1 0 1) ≠ 104))) by omega), if_pos (show ((M 2 0 (M 1 0 1) = 115 ∧ R 0 0 ≠ -1) ∨ (M 2 0 (M 1 0 1) = 99 ∧ 6 ≤ R 1 0) ∨ (M 2 0 (M 1 0 1) = 104 ∧ 6 ≤ R 2 0)) by omega)]; exact xCl_f hA hF0 (by decide)) | (rw [if_neg (show ¬ (M 2 0 (M 1 0 1) ≠ 115 ∧ (R 0 0 = -1 ∨ (M 2 0 (M 1 0 1) ≠ 99 ∧ M 2 0 (M 1 0 1) ≠ 104))) by omega), if_neg (show ¬ ((M 2 0 (M 1 0 1) = 115 ∧ R 0 0 ≠ -1) ∨ (M 2 0 (M 1 0 1) = 99 ∧ 6 ≤ R 1 0) ∨ (M 2 0 (M 1 0 1) = 104 ∧ 6 ≤ R 2 0)) by omega)]; exact xCl_ok hL hp (fun e => by have := pBody_B (by omega) (by omega) hR (by omega) e; omega))
          · refine q_aloadn C dX9_readClause_48 rfl ?_
            refine cv_RX9_41 C (by decide) (by decide) (m_X7_isOn l g _ (by decide)) dX9_readClause_49 (Nat.le_of_ble_eq_true rfl) (fun r49 => ?_)
            refine q_ifneB C 85 dX9_readClause_52 (by decide) (fun h52 => ?_) (fun h52 => ?_)
            · refine q_aloadn C dX9_readClause_85 rfl ?_
              refine q_iconst C dX9_readClause_86 ?_
              refine q_aloadn C dX9_readClause_87 rfl ?_
              refine gf_RX9_15 C dX9_readClause_88 (fun r88 => ?_)
              try simp only [q_rd, q_rdS, ↓reduceIte, if_true, if_false, eq_self, Nat.reduceEqDiff, Int.reduceEq, Int.reduceNeg, reduceCtorEq] at r88 ⊢
              refine cv_RX9_45 C (by decide) (m_X9_fail l g _ (by omega) (by assumption)) dX9_readClause_91 (Nat.le_of_ble_eq_true rfl) ?_
              refine q_goto C (tgt := 117) dX9_readClause_94 (by decide) ?_
              refine q_vret C' dX9_readClause_117 ?_
              refine ⟨rfl, ?_⟩
              unfold pCl
              first | (rw [if_pos (show (M 2 0 (M 1 0 1) ≠ 115 ∧ (R 0 0 = -1 ∨ (M 2 0 (M 1 0 1) ≠ 99 ∧ M 2 0 (M 1 0 1) ≠ 104))) by omega)]; exact xCl_f hA hF0 (by decide)) | (rw [if_neg (show ¬ (M 2 0 (M 1 0 1) ≠ 115 ∧ (R 0 0 = -1 ∨ (M 2 0 (M 1 0 1) ≠ 99 ∧ M 2 0 (M 1 0 1) ≠ 104))) by omega), if_pos (show ((M 2 0 (M 1 0 1) = 115 ∧ R 0 0 ≠ -1) ∨ (M 2 0 (M 1 0 1) = 99 ∧ 6 ≤ R 1 0) ∨ (M 2 0 (M 1 0 1) = 104 ∧ 6 ≤ R 2 0)) by omega)]; exact xCl_f hA hF0 (by decide)) | (rw [if_neg (show ¬ (M 2 0 (M 1 0 1) ≠ 115 ∧ (R 0 0 = -1 ∨ (M 2 0 (M 1 0 1) ≠ 99 ∧ M 2 0 (M 1 0 1) ≠ 104))) by omega), if_neg (show ¬ ((M 2 0 (M 1 0 1) = 115 ∧ R 0 0 ≠ -1) ∨ (M 2 0 (M 1 0 1) = 99 ∧ 6 ≤ R 1 0) ∨ (M 2 0 (M 1 0 1) = 104 ∧ 6 ≤ R 2 0)) by omega)]; exact xCl_ok hL hp (fun e => by have := pBody_B (by omega) (by omega) hR (by omega) e; omega))
            · refine q_iloadn C dX9_readClause_55 rfl ?_
              refine q_bipush C dX9_readClause_56 (by decide) ?_
              refine q_icmp_ne C 70 dX9_readClause_58 (by decide) (by first | assumption | omega | exact q_tin _ | exact q_bIn _) (by first | assumption | omega | exact q_tin _ | exact q_bIn _) (fun h58 => ?_) (fun h58 => ?_)
              · refine q_iloadn C dX9_readClause_70 rfl ?_
                refine q_bipush C dX9_readClause_71 (by decide) ?_
                refine q_icmp_ne C 97 dX9_readClause_73 (by decide) (by first | assumption | omega | exact q_tin _ | exact q_bIn _) (by first | assumption | omega | exact q_tin _ | exact q_bIn _) (fun h73 => ?_) (fun h73 => ?_)
                · refine q_aloadn C dX9_readClause_97 rfl ?_
                  refine q_dup C dX9_readClause_98 rfl ?_
                  refine gf_RX9_15 C dX9_readClause_99 (fun r99 => ?_)
                  try simp only [q_rd, q_rdS, ↓reduceIte, if_true, if_false, eq_self, Nat.reduceEqDiff, Int.reduceEq, Int.reduceNeg, reduceCtorEq] at r99 ⊢
                  refine q_iconst C dX9_readClause_102 ?_
                  refine q_iadd C dX9_readClause_103 ?_
                  refine pf_RX9_15 C (by first | assumption | omega | exact q_tin _ | exact q_bIn _) dX9_readClause_104 ?_
                  refine q_aloadn C dX9_readClause_107 rfl ?_
                  refine q_iloadn C dX9_readClause_108 rfl ?_
                  refine q_aloadn C dX9_readClause_109 rfl ?_
                  refine cw_RX9_55 C (by decide) (m_X9_readNumbers l g (qUp M 1 0 1 (M 1 0 1 + 1)) (by simp only [q_rd, ↓reduceIte, Nat.reduceEqDiff, Int.reduceEq]; exact hL) (by simp only [q_rd, ↓reduceIte, Nat.reduceEqDiff, Int.reduceEq]; omega) (by simp only [q_rd, ↓reduceIte, Nat.reduceEqDiff, Int.reduceEq]; exact hF0) (rX_1 hX) hR (by omega)) dX9_readClause_110 (Nat.le_of_ble_eq_true rfl) (fun r N hz hp => ?_)
                  obtain ⟨rfl, hp⟩ := hp
                  simp only [q_rdR, q_rd, q_rdS, ↓reduceIte, if_true, if_false, eq_self, Nat.reduceEqDiff, Int.reduceEq, Int.reduceNeg, reduceCtorEq] at hp
                  show qV l g X _ _ _ []
                  refine q_aloadn C dX9_readClause_113 rfl ?_
                  refine cv_RX9_59 C (by decide) (m_X9_expectEnd l g _ (by rw [hp.1.2.1]; simp only [q_rd, ↓reduceIte, Nat.reduceEqDiff, Int.reduceEq]; exact hL) (by rw [hp.1.2.1]; exact hp.1.2.2)) dX9_readClause_114 (Nat.le_of_ble_eq_true rfl) ?_
                  refine q_vret C' dX9_readClause_117 ?_
                  refine ⟨rfl, ?_⟩
                  unfold pCl
                  first | (rw [if_pos (show (M 2 0 (M 1 0 1) ≠ 115 ∧ (R 0 0 = -1 ∨ (M 2 0 (M 1 0 1) ≠ 99 ∧ M 2 0 (M 1 0 1) ≠ 104))) by omega)]; exact xCl_f hA hF0 (by decide)) | (rw [if_neg (show ¬ (M 2 0 (M 1 0 1) ≠ 115 ∧ (R 0 0 = -1 ∨ (M 2 0 (M 1 0 1) ≠ 99 ∧ M 2 0 (M 1 0 1) ≠ 104))) by omega), if_pos (show ((M 2 0 (M 1 0 1) = 115 ∧ R 0 0 ≠ -1) ∨ (M 2 0 (M 1 0 1) = 99 ∧ 6 ≤ R 1 0) ∨ (M 2 0 (M 1 0 1) = 104 ∧ 6 ≤ R 2 0)) by omega)]; exact xCl_f hA hF0 (by decide)) | (rw [if_neg (show ¬ (M 2 0 (M 1 0 1) ≠ 115 ∧ (R 0 0 = -1 ∨ (M 2 0 (M 1 0 1) ≠ 99 ∧ M 2 0 (M 1 0 1) ≠ 104))) by omega), if_neg (show ¬ ((M 2 0 (M 1 0 1) = 115 ∧ R 0 0 ≠ -1) ∨ (M 2 0 (M 1 0 1) = 99 ∧ 6 ≤ R 1 0) ∨ (M 2 0 (M 1 0 1) = 104 ∧ 6 ≤ R 2 0)) by omega)]; exact xCl_ok hL hp (fun e => by have := pBody_B (by omega) (by omega) hR (by omega) e; omega))
                · refine q_aloadn C dX9_readClause_76 rfl ?_
                  refine gf_RX9_52 C (by decide) dX9_readClause_77 (fun r77 => ?_)
                  try simp only [q_rd, q_rdS, ↓reduceIte, if_true, if_false, eq_self, Nat.reduceEqDiff, Int.reduceEq, Int.reduceNeg, reduceCtorEq] at r77 ⊢
                  refine q_bipush C dX9_readClause_80 (by decide) ?_
                  refine q_icmp_lt C 97 dX9_readClause_82 (by decide) (by first | assumption | omega | exact q_tin _ | exact q_bIn _) (by first | assumption | omega | exact q_tin _ | exact q_bIn _) (fun h82 => ?_) (fun h82 => ?_)
                  · refine q_aloadn C dX9_readClause_97 rfl ?_
                    refine q_dup C dX9_readClause_98 rfl ?_
                    refine gf_RX9_15 C dX9_readClause_99 (fun r99 => ?_)
                    try simp only [q_rd, q_rdS, ↓reduceIte, if_true, if_false, eq_self, Nat.reduceEqDiff, Int.reduceEq, Int.reduceNeg, reduceCtorEq] at r99 ⊢
                    refine q_iconst C dX9_readClause_102 ?_
                    refine q_iadd C dX9_readClause_103 ?_
                    refine pf_RX9_15 C (by first | assumption | omega | exact q_tin _ | exact q_bIn _) dX9_readClause_104 ?_
                    refine q_aloadn C dX9_readClause_107 rfl ?_
                    refine q_iloadn C dX9_readClause_108 rfl ?_
                    refine q_aloadn C dX9_readClause_109 rfl ?_
                    refine cw_RX9_55 C (by decide) (m_X9_readNumbers l g (qUp M 1 0 1 (M 1 0 1 + 1)) (by simp only [q_rd, ↓reduceIte, Nat.reduceEqDiff, Int.reduceEq]; exact hL) (by simp only [q_rd, ↓reduceIte, Nat.reduceEqDiff, Int.reduceEq]; omega) (by simp only [q_rd, ↓reduceIte, Nat.reduceEqDiff, Int.reduceEq]; exact hF0) (rX_1 hX) hR (by omega)) dX9_readClause_110 (Nat.le_of_ble_eq_true rfl) (fun r N hz hp => ?_)
                    obtain ⟨rfl, hp⟩ := hp
                    simp only [q_rdR, q_rd, q_rdS, ↓reduceIte, if_true, if_false, eq_self, Nat.reduceEqDiff, Int.reduceEq, Int.reduceNeg, reduceCtorEq] at hp
                    show qV l g X _ _ _ []
                    refine q_aloadn C dX9_readClause_113 rfl ?_
                    refine cv_RX9_59 C (by decide) (m_X9_expectEnd l g _ (by rw [hp.1.2.1]; simp only [q_rd, ↓reduceIte, Nat.reduceEqDiff, Int.reduceEq]; exact hL) (by rw [hp.1.2.1]; exact hp.1.2.2)) dX9_readClause_114 (Nat.le_of_ble_eq_true rfl) ?_
                    refine q_vret C' dX9_readClause_117 ?_
                    refine ⟨rfl, ?_⟩
                    unfold pCl
                    first | (rw [if_pos (show (M 2 0 (M 1 0 1) ≠ 115 ∧ (R 0 0 = -1 ∨ (M 2 0 (M 1 0 1) ≠ 99 ∧ M 2 0 (M 1 0 1) ≠ 104))) by omega)]; exact xCl_f hA hF0 (by decide)) | (rw [if_neg (show ¬ (M 2 0 (M 1 0 1) ≠ 115 ∧ (R 0 0 = -1 ∨ (M 2 0 (M 1 0 1) ≠ 99 ∧ M 2 0 (M 1 0 1) ≠ 104))) by omega), if_pos (show ((M 2 0 (M 1 0 1) = 115 ∧ R 0 0 ≠ -1) ∨ (M 2 0 (M 1 0 1) = 99 ∧ 6 ≤ R 1 0) ∨ (M 2 0 (M 1 0 1) = 104 ∧ 6 ≤ R 2 0)) by omega)]; exact xCl_f hA hF0 (by decide)) | (rw [if_neg (show ¬ (M 2 0 (M 1 0 1) ≠ 115 ∧ (R 0 0 = -1 ∨ (M 2 0 (M 1 0 1) ≠ 99 ∧ M 2 0 (M 1 0 1) ≠ 104))) by omega), if_neg (show ¬ ((M 2 0 (M 1 0 1) = 115 ∧ R 0 0 ≠ -1) ∨ (M 2 0 (M 1 0 1) = 99 ∧ 6 ≤ R 1 0) ∨ (M 2 0 (M 1 0 1) = 104 ∧ 6 ≤ R 2 0)) by omega)]; exact xCl_ok hL hp (fun e => by have := pBody_B (by omega) (by omega) hR (by omega) e; omega))
                  · refine q_aloadn C dX9_readClause_85 rfl ?_
                    refine q_iconst C dX9_readClause_86 ?_
                    refine q_aloadn C dX9_readClause_87 rfl ?_
                    refine gf_RX9_15 C dX9_readClause_88 (fun r88 => ?_)
                    try simp only [q_rd, q_rdS, ↓reduceIte, if_true, if_false, eq_self, Nat.reduceEqDiff, Int.reduceEq, Int.reduceNeg, reduceCtorEq] at r88 ⊢
                    refine cv_RX9_45 C (by decide) (m_X9_fail l g _ (by omega) (by assumption)) dX9_readClause_91 (Nat.le_of_ble_eq_true rfl) ?_
                    refine q_goto C (tgt := 117) dX9_readClause_94 (by decide) ?_
                    refine q_vret C' dX9_readClause_117 ?_
                    refine ⟨rfl, ?_⟩
                    unfold pCl
                    first | (rw [if_pos (show (M 2 0 (M 1 0 1) ≠ 115 ∧ (R 0 0 = -1 ∨ (M 2 0 (M 1 0 1) ≠ 99 ∧ M 2 0 (M 1 0 1) ≠ 104))) by omega)]; exact xCl_f hA hF0 (by decide)) | (rw [if_neg (show ¬ (M 2 0 (M 1 0 1) ≠ 115 ∧ (R 0 0 = -1 ∨ (M 2 0 (M 1 0 1) ≠ 99 ∧ M 2 0 (M 1 0 1) ≠ 104))) by omega), if_pos (show ((M 2 0 (M 1 0 1) = 115 ∧ R 0 0 ≠ -1) ∨ (M 2 0 (M 1 0 1) = 99 ∧ 6 ≤ R 1 0) ∨ (M 2 0 (M 1 0 1) = 104 ∧ 6 ≤ R 2 0)) by omega)]; exact xCl_f hA hF0 (by decide)) | (rw [if_neg (show ¬ (M 2 0 (M 1 0 1) ≠ 115 ∧ (R 0 0 = -1 ∨ (M 2 0 (M 1 0 1) ≠ 99 ∧ M 2 0 (M 1 0 1) ≠ 104))) by omega), if_neg (show ¬ ((M 2 0 (M 1 0 1) = 115 ∧ R 0 0 ≠ -1) ∨ (M 2 0 (M 1 0 1) = 99 ∧ 6 ≤ R 1 0) ∨ (M 2 0 (M 1 0 1) = 104 ∧ 6 ≤ R 2 0)) by omega)]; exact xCl_ok hL hp (fun e => by have := pBody_B (by omega) (by omega) hR (by omega) e; omega))
              · refine q_aloadn C dX9_readClause_61 rfl ?_
                refine gf_RX9_49 C (by decide) dX9_readClause_62 (fun r62 => ?_)
                try simp only [q_rd, q_rdS, ↓reduceIte, if_true, if_false, eq_self, Nat.reduceEqDiff, Int.reduceEq, Int.reduceNeg, reduceCtorEq] at r62 ⊢
                refine q_bipush C dX9_readClause_65 (by decide) ?_
                refine q_icmp_ge C 85 dX9_readClause_67 (by decide) (by first | assumption | omega | exact q_tin _ | exact q_bIn _) (by first | assumption | omega | exact q_tin _ | exact q_bIn _) (fun h67 => ?_) (fun h67 => ?_)
                · refine q_aloadn C dX9_readClause_85 rfl ?_
                  refine q_iconst C dX9_readClause_86 ?_
                  refine q_aloadn C dX9_readClause_87 rfl ?_
                  refine gf_RX9_15 C dX9_readClause_88 (fun r88 => ?_)
                  try simp only [q_rd, q_rdS, ↓reduceIte, if_true, if_false, eq_self, Nat.reduceEqDiff, Int.reduceEq, Int.reduceNeg, reduceCtorEq] at r88 ⊢
                  refine cv_RX9_45 C (by decide) (m_X9_fail l g _ (by omega) (by assumption)) dX9_readClause_91 (Nat.le_of_ble_eq_true rfl) ?_
                  refine q_goto C (tgt := 117) dX9_readClause_94 (by decide) ?_
                  refine q_vret C' dX9_readClause_117 ?_
                  refine ⟨rfl, ?_⟩
                  unfold pCl
                  first | (rw [if_pos (show (M 2 0 (M 1 0 1) ≠ 115 ∧ (R 0 0 = -1 ∨ (M 2 0 (M 1 0 1) ≠ 99 ∧ M 2 0 (M 1 0 1) ≠ 104))) by omega)]; exact xCl_f hA hF0 (by decide)) | (rw [if_neg (show ¬ (M 2 0 (M 1 0 1) ≠ 115 ∧ (R 0 0 = -1 ∨ (M 2 0 (M 1 0 1) ≠ 99 ∧ M 2 0 (M 1 0 1) ≠ 104))) by omega), if_pos (show ((M 2 0 (M 1 0 1) = 115 ∧ R 0 0 ≠ -1) ∨ (M 2 0 (M 1 0 1) = 99 ∧ 6 ≤ R 1 0) ∨ (M 2 0 (M 1 0 1) = 104 ∧ 6 ≤ R 2 0)) by omega)]; exact xCl_f hA hF0 (by decide)) | (rw [if_neg (show ¬ (M 2 0 (M 1 0 1) ≠ 115 ∧ (R 0 0 = -1 ∨ (M 2 0 (M 1 0 1) ≠ 99 ∧ M 2 0 (M 1 0 1) ≠ 104))) by omega), if_neg (show ¬ ((M 2 0 (M 1 0 1) = 115 ∧ R 0 0 ≠ -1) ∨ (M 2 0 (M 1 0 1) = 99 ∧ 6 ≤ R 1 0) ∨ (M 2 0 (M 1 0 1) = 104 ∧ 6 ≤ R 2 0)) by omega)]; exact xCl_ok hL hp (fun e => by have := pBody_B (by omega) (by omega) hR (by omega) e; omega))
                · refine q_iloadn C dX9_readClause_70 rfl ?_
                  refine q_bipush C dX9_readClause_71 (by decide) ?_
                  refine q_icmp_ne C 97 dX9_readClause_73 (by decide) (by first | assumption | omega | exact q_tin _ | exact q_bIn _) (by first | assumption | omega | exact q_tin _ | exact q_bIn _) (fun h73 => ?_) (fun h73 => ?_)
                  · refine q_aloadn C dX9_readClause_97 rfl ?_
                    refine q_dup C dX9_readClause_98 rfl ?_
                    refine gf_RX9_15 C dX9_readClause_99 (fun r99 => ?_)
                    try simp only [q_rd, q_rdS, ↓reduceIte, if_true, if_false, eq_self, Nat.reduceEqDiff, Int.reduceEq, Int.reduceNeg, reduceCtorEq] at r99 ⊢
                    refine q_iconst C dX9_readClause_102 ?_
                    refine q_iadd C dX9_readClause_103 ?_
                    refine pf_RX9_15 C (by first | assumption | omega | exact q_tin _ | exact q_bIn _) dX9_readClause_104 ?_
                    refine q_aloadn C dX9_readClause_107 rfl ?_
                    refine q_iloadn C dX9_readClause_108 rfl ?_
                    refine q_aloadn C dX9_readClause_109 rfl ?_
                    refine cw_RX9_55 C (by decide) (m_X9_readNumbers l g (qUp M 1 0 1 (M 1 0 1 + 1)) (by simp only [q_rd, ↓reduceIte, Nat.reduceEqDiff, Int.reduceEq]; exact hL) (by simp only [q_rd, ↓reduceIte, Nat.reduceEqDiff, Int.reduceEq]; omega) (by simp only [q_rd, ↓reduceIte, Nat.reduceEqDiff, Int.reduceEq]; exact hF0) (rX_1 hX) hR (by omega)) dX9_readClause_110 (Nat.le_of_ble_eq_true rfl) (fun r N hz hp => ?_)
                    obtain ⟨rfl, hp⟩ := hp
                    simp only [q_rdR, q_rd, q_rdS, ↓reduceIte, if_true, if_false, eq_self, Nat.reduceEqDiff, Int.reduceEq, Int.reduceNeg, reduceCtorEq] at hp
                    show qV l g X _ _ _ []
                    refine q_aloadn C dX9_readClause_113 rfl ?_
                    refine cv_RX9_59 C (by decide) (m_X9_expectEnd l g _ (by rw [hp.1.2.1]; simp only [q_rd, ↓reduceIte, Nat.reduceEqDiff, Int.reduceEq]; exact hL) (by rw [hp.1.2.1]; exact hp.1.2.2)) dX9_readClause_114 (Nat.le_of_ble_eq_true rfl) ?_
                    refine q_vret C' dX9_readClause_117 ?_
                    refine ⟨rfl, ?_⟩
                    unfold pCl
                    first | (rw [if_pos (show (M 2 0 (M 1 0 1) ≠ 115 ∧ (R 0 0 = -1 ∨ (M 2 0 (M 1 0 1) ≠ 99 ∧ M 2 0 (M 1 0 1) ≠ 104))) by omega)]; exact xCl_f hA hF0 (by decide)) | (rw [if_neg (show ¬ (M 2 0 (M 1 0 1) ≠ 115 ∧ (R 0 0 = -1 ∨ (M 2 0 (M 1 0 1) ≠ 99 ∧ M 2 0 (M 1 0 1) ≠ 104))) by omega), if_pos (show ((M 2 0 (M 1 0 1) = 115 ∧ R 0 0 ≠ -1) ∨ (M 2 0 (M 1 0 1) = 99 ∧ 6 ≤ R 1 0) ∨ (M 2 0 (M 1 0 1) = 104 ∧ 6 ≤ R 2 0)) by omega)]; exact xCl_f hA hF0 (by decide)) | (rw [if_neg (show ¬ (M 2 0 (M 1 0 1) ≠ 115 ∧ (R 0 0 = -1 ∨ (M 2 0 (M 1 0 1) ≠ 99 ∧ M 2 0 (M 1 0 1) ≠ 104))) by omega), if_neg (show ¬ ((M 2 0 (M 1 0 1) = 115 ∧ R 0 0 ≠ -1) ∨ (M 2 0 (M 1 0 1) = 99 ∧ 6 ≤ R 1 0) ∨ (M 2 0 (M 1 0 1) = 104 ∧ 6 ≤ R 2 0)) by omega)]; exact xCl_ok hL hp (fun e => by have := pBody_B (by omega) (by omega) hR (by omega) e; omega))
                  · refine q_aloadn C dX9_readClause_76 rfl ?_
                    refine gf_RX9_52 C (by decide) dX9_readClause_77 (fun r77 => ?_)
                    try simp only [q_rd, q_rdS, ↓reduceIte, if_true, if_false, eq_self, Nat.reduceEqDiff, Int.reduceEq, Int.reduceNeg, reduceCtorEq] at r77 ⊢
                    refine q_bipush C dX9_readClause_80 (by decide) ?_
                    refine q_icmp_lt C 97 dX9_readClause_82 (by decide) (by first | assumption | omega | exact q_tin _ | exact q_bIn _) (by first | assumption | omega | exact q_tin _ | exact q_bIn _) (fun h82 => ?_) (fun h82 => ?_)
                    · refine q_aloadn C dX9_readClause_97 rfl ?_
                      refine q_dup C dX9_readClause_98 rfl ?_
                      refine gf_RX9_15 C dX9_readClause_99 (fun r99 => ?_)
                      try simp only [q_rd, q_rdS, ↓reduceIte, if_true, if_false, eq_self, Nat.reduceEqDiff, Int.reduceEq, Int.reduceNeg, reduceCtorEq] at r99 ⊢
                      refine q_iconst C dX9_readClause_102 ?_
                      refine q_iadd C dX9_readClause_103 ?_
                      refine pf_RX9_15 C (by first | assumption | omega | exact q_tin _ | exact q_bIn _) dX9_readClause_104 ?_
                      refine q_aloadn C dX9_readClause_107 rfl ?_
                      refine q_iloadn C dX9_readClause_108 rfl ?_
                      refine q_aloadn C dX9_readClause_109 rfl ?_
                      refine cw_RX9_55 C (by decide) (m_X9_readNumbers l g (qUp M 1 0 1 (M 1 0 1 + 1)) (by simp only [q_rd, ↓reduceIte, Nat.reduceEqDiff, Int.reduceEq]; exact hL) (by simp only [q_rd, ↓reduceIte, Nat.reduceEqDiff, Int.reduceEq]; omega) (by simp only [q_rd, ↓reduceIte, Nat.reduceEqDiff, Int.reduceEq]; exact hF0) (rX_1 hX) hR (by omega)) dX9_readClause_110 (Nat.le_of_ble_eq_true rfl) (fun r N hz hp => ?_)
                      obtain ⟨rfl, hp⟩ := hp
                      simp only [q_rdR, q_rd, q_rdS, ↓reduceIte, if_true, if_false, eq_self, Nat.reduceEqDiff, Int.reduceEq, Int.reduceNeg, reduceCtorEq] at hp
                      show qV l g X _ _ _ []
                      refine q_aloadn C dX9_readClause_113 rfl ?_
                      refine cv_RX9_59 C (by decide) (m_X9_expectEnd l g _ (by rw [hp.1.2.1]; simp only [q_rd, ↓reduceIte, Nat.reduceEqDiff, Int.reduceEq]; exact hL) (by rw [hp.1.2.1]; exact hp.1.2.2)) dX9_readClause_114 (Nat.le_of_ble_eq_true rfl) ?_
                      refine q_vret C' dX9_readClause_117 ?_
                      refine ⟨rfl, ?_⟩
                      unfold pCl
                      first | (rw [if_pos (show (M 2 0 (M 1 0 1) ≠ 115 ∧ (R 0 0 = -1 ∨ (M 2 0 (M 1 0 1) ≠ 99 ∧ M 2 0 (M 1 0 1) ≠ 104))) by omega)]; exact xCl_f hA hF0 (by decide)) | (rw [if_neg (show ¬ (M 2 0 (M 1 0 1) ≠ 115 ∧ (R 0 0 = -1 ∨ (M 2 0 (M 1 0 1) ≠ 99 ∧ M 2 0 (M 1 0 1) ≠ 104))) by omega), if_pos (show ((M 2 0 (M 1 0 1) = 115 ∧ R 0 0 ≠ -1) ∨ (M 2 0 (M 1 0 1) = 99 ∧ 6 ≤ R 1 0) ∨ (M 2 0 (M 1 0 1) = 104 ∧ 6 ≤ R 2 0)) by omega)]; exact xCl_f hA hF0 (by decide)) | (rw [if_neg (show ¬ (M 2 0 (M 1 0 1) ≠ 115 ∧ (R 0 0 = -1 ∨ (M 2 0 (M 1 0 1) ≠ 99 ∧ M 2 0 (M 1 0 1) ≠ 104))) by omega), if_neg (show ¬ ((M 2 0 (M 1 0 1) = 115 ∧ R 0 0 ≠ -1) ∨ (M 2 0 (M 1 0 1) = 99 ∧ 6 ≤ R 1 0) ∨ (M 2 0 (M 1 0 1) = 104 ∧ 6 ≤ R 2 0)) by omega)]; exact xCl_ok hL hp (fun e => by have := pBody_B (by omega) (by omega) hR (by omega) e; omega))
                    · refine q_aloadn C dX9_readClause_85 rfl ?_
                      refine q_iconst C dX9_readClause_86 ?_
                      refine q_aloadn C dX9_readClause_87 rfl ?_
                      refine gf_RX9_15 C dX9_readClause_88 (fun r88 => ?_)
                      try simp only [q_rd, q_rdS, ↓reduceIte, if_true, if_false, eq_self, Nat.reduceEqDiff, Int.reduceEq, Int.reduceNeg, reduceCtorEq] at r88 ⊢
                      refine cv_RX9_45 C (by decide) (m_X9_fail l g _ (by omega) (by assumption)) dX9_readClause_91 (Nat.le_of_ble_eq_true rfl) ?_
                      refine q_goto C (tgt := 117) dX9_readClause_94 (by decide) ?_
                      refine q_vret C' dX9_readClause_117 ?_
                      refine ⟨rfl, ?_⟩
                      unfold pCl
                      first | (rw [if_pos (show (M 2 0 (M 1 0 1) ≠ 115 ∧ (R 0 0 = -1 ∨ (M 2 0 (M 1 0 1) ≠ 99 ∧ M 2 0 (M 1 0 1) ≠ 104))) by omega)]; exact xCl_f hA hF0 (by decide)) | (rw [if_neg (show ¬ (M 2 0 (M 1 0 1) ≠ 115 ∧ (R 0 0 = -1 ∨ (M 2 0 (M 1 0 1) ≠ 99 ∧ M 2 0 (M 1 0 1) ≠ 104))) by omega), if_pos (show ((M 2 0 (M 1 0 1) = 115 ∧ R 0 0 ≠ -1) ∨ (M 2 0 (M 1 0 1) = 99 ∧ 6 ≤ R 1 0) ∨ (M 2 0 (M 1 0 1) = 104 ∧ 6 ≤ R 2 0)) by omega)]; exact xCl_f hA hF0 (by decide)) | (rw [if_neg (show ¬ (M 2 0 (M 1 0 1) ≠ 115 ∧ (R 0 0 = -1 ∨ (M 2 0 (M 1 0 1) ≠ 99 ∧ M 2 0 (M 1 0 1) ≠ 104))) by omega), if_neg (show ¬ ((M 2 0 (M 1 0 1) = 115 ∧ R 0 0 ≠ -1) ∨ (M 2 0 (M 1 0 1) = 99 ∧ 6 ≤ R 1 0) ∨ (M 2 0 (M 1 0 1) = 104 ∧ 6 ≤ R 2 0)) by omega)]; exact xCl_ok hL hp (fun e => by have := pBody_B (by omega) (by omega) hR (by omega) e; omega))
        · refine q_aloadn C dX9_readClause_30 rfl ?_
          refine q_iconst C dX9_readClause_31 ?_
          refine q_aloadn C dX9_readClause_32 rfl ?_
          refine gf_RX9_15 C dX9_readClause_33 (fun r33 => ?_)
          try simp only [q_rd, q_rdS, ↓reduceIte, if_true, if_false, eq_self, Nat.reduceEqDiff, Int.reduceEq, Int.reduceNeg, reduceCtorEq] at r33 ⊢
          refine cv_RX9_45 C (by decide) (m_X9_fail l g _ (by omega) (by assumption)) dX9_readClause_36 (Nat.le_of_ble_eq_true rfl) ?_
          refine q_goto C (tgt := 117) dX9_readClause_39 (by decide) ?_
          refine q_vret C' dX9_readClause_117 ?_
          refine ⟨rfl, ?_⟩
          unfold pCl
          first | (rw [if_pos (show (M 2 0 (M 1 0 1) ≠ 115 ∧ (R 0 0 = -1 ∨ (M 2 0 (M 1 0 1) ≠ 99 ∧ M 2 0 (M 1 0 1) ≠ 104))) by omega)]; exact xCl_f hA hF0 (by decide)) | (rw [if_neg (show ¬ (M 2 0 (M 1 0 1) ≠ 115 ∧ (R 0 0 = -1 ∨ (M 2 0 (M 1 0 1) ≠ 99 ∧ M 2 0 (M 1 0 1) ≠ 104))) by omega), if_pos (show ((M 2 0 (M 1 0 1) = 115 ∧ R 0 0 ≠ -1) ∨ (M 2 0 (M 1 0 1) = 99 ∧ 6 ≤ R 1 0) ∨ (M 2 0 (M 1 0 1) = 104 ∧ 6 ≤ R 2 0)) by omega)]; exact xCl_f hA hF0 (by decide)) | (rw [if_neg (show ¬ (M 2 0 (M 1 0 1) ≠ 115 ∧ (R 0 0 = -1 ∨ (M 2 0 (M 1 0 1) ≠ 99 ∧ M 2 0 (M 1 0 1) ≠ 104))) by omega), if_neg (show ¬ ((M 2 0 (M 1 0 1) = 115 ∧ R 0 0 ≠ -1) ∨ (M 2 0 (M 1 0 1) = 99 ∧ 6 ≤ R 1 0) ∨ (M 2 0 (M 1 0 1) = 104 ∧ 6 ≤ R 2 0)) by omega)]; exact xCl_ok hL hp (fun e => by have := pBody_B (by omega) (by omega) hR (by omega) e; omega))
