def xRd0 (M : qMem) : qMem := qUp (qUp (qUp (xEmp M 0) 1 0 1 0) 1 0 3 0) 1 0 4 (-1)
theorem xRd0_fr (M : qMem) : ∀ j u, ¬ (j = 1 ∧ u = 0) → ¬ (3 ≤ j ∧ j ≤ 9 ∧ u = 0) → xRd0 M j u = M j u := by
  intro j u h1 h2
  unfold xRd0 xEmp
  simp only [q_rdR, q_rdSR]
  by_cases hu : u = 0
  · subst hu
    by_cases e1 : j = 1
    · exact absurd ⟨e1, rfl⟩ h1
    · by_cases e3 : j = 3
      · exact absurd ⟨by omega, by omega, rfl⟩ h2
      · by_cases e9 : j = 9
        · exact absurd ⟨by omega, by omega, rfl⟩ h2
        · simp [e1, e3, e9]
  · simp [hu]
theorem xRd0_1 (M : qMem) : xRd0 M 1 0 1 = 0 ∧ xRd0 M 1 0 2 = M 1 0 2 ∧ xRd0 M 1 0 3 = 0 ∧ xRd0 M 1 0 4 = -1 := by
  unfold xRd0 xEmp
  simp [q_rd, q_rdS]
theorem xRd0_X (M : qMem) : rX (xRd0 M) rInit := by
  unfold rX xRd0 xEmp rInit
  simp only [q_rd, q_rdS, q_rdR, q_rdSR]
  simp
  refine ⟨fun c a b => ?_, fun c a b => ?_⟩ <;> omega
/-- the reading goes on: all is well so far, or the first fault is told -/
def xRdI (t : Int → Int) (L : Int) (N : qMem) (i : Int) (R : sRd) : Prop := (N 1 0 3 = 0 ∧ N 1 0 4 = -1 ∧ rX N R ∧ rB R ∧ i ≤ N 1 0 1 ∧ pRes t L = pAll t L (241 - i).toNat (N 1 0 1) R) ∨ (N 1 0 3 ≠ 0 ∧ (pRes t L).1 = N 1 0 3 ∧ (pRes t L).2.1 = N 1 0 4)
def xRdF (M N : qMem) : Prop := (∀ j u, ¬ (j = 1 ∧ u = 0) → ¬ (3 ≤ j ∧ j ≤ 9 ∧ u = 0) → N j u = M j u) ∧ N 1 0 2 = M 1 0 2 ∧ (0 ≤ N 1 0 1 ∧ N 1 0 1 ≤ M 1 0 2)
/-- what a reading leaves -/
def xRdP (M : qMem) (r : Option Int) (N : qMem) : Prop := r = some (qB ((pRes (M 2 0) (M 1 0 2)).1 = 0)) ∧ (∀ j u, ¬ (j = 1 ∧ u = 0) → ¬ (3 ≤ j ∧ j ≤ 9 ∧ u = 0) → N j u = M j u) ∧ N 1 0 2 = 0 ∧ N 1 0 3 = (pRes (M 2 0) (M 1 0 2)).1 ∧ N 1 0 4 = (if (pRes (M 2 0) (M 1 0 2)).1 = 0 then -1 else (pRes (M 2 0) (M 1 0 2)).2.1) ∧ ((pRes (M 2 0) (M 1 0 2)).1 = 0 → rX N (pRes (M 2 0) (M 1 0 2)).2.2 ∧ rB (pRes (M 2 0) (M 1 0 2)).2.2)
theorem xRd_end {M N : qMem} {R : sRd} {p : Int} {r : Int} (hf : ∀ j u, ¬ (j = 1 ∧ u = 0) → ¬ (3 ≤ j ∧ j ≤ 9 ∧ u = 0) → N j u = M j u) (h : (N 1 0 3 = 0 ∧ N 1 0 4 = -1 ∧ rX N R ∧ rB R ∧ pRes (M 2 0) (M 1 0 2) = (0, p, R)) ∨ (N 1 0 3 ≠ 0 ∧ (pRes (M 2 0) (M 1 0 2)).1 = N 1 0 3 ∧ (pRes (M 2 0) (M 1 0 2)).2.1 = N 1 0 4)) (hr : r = qB (N 1 0 3 = 0)) : xRdP M (some r) (qUp N 1 0 2 0) := by
  have e3 : qUp N 1 0 2 0 1 0 3 = N 1 0 3 := by simp [q_rd]
  have e4 : qUp N 1 0 2 0 1 0 4 = N 1 0 4 := by simp [q_rd]
  have e2 : qUp N 1 0 2 0 1 0 2 = 0 := by simp [q_rd]
  have ef : ∀ j u, ¬ (j = 1 ∧ u = 0) → ¬ (3 ≤ j ∧ j ≤ 9 ∧ u = 0) → qUp N 1 0 2 0 j u = M j u := by
    intro j u h1 h2
    rw [← hf j u h1 h2]
    simp only [q_rdR]
    by_cases e1 : j = 1
    · have eu : u ≠ 0 := fun e => h1 ⟨e1, e⟩
      simp [e1, eu]
    · simp [e1]
  unfold xRdP
  rw [e3, e4, e2]
  rcases h with ⟨h1, h2, h3, h4, h5⟩ | ⟨h1, h2, h3⟩
  · rw [h5]
    exact ⟨by rw [hr]; exact congrArg some (q_bIff (by rw [h1])), ef, rfl, h1, by rw [if_pos rfl]; exact h2, fun _ => ⟨rX_1 h3, h4⟩⟩
  · refine ⟨by rw [hr]; exact congrArg some (q_bIff (by rw [h2])), ef, rfl, h2.symm, by rw [if_neg (by rw [h2]; exact h1)]; exact h3.symm, fun e => absurd (h2.symm.trans e) h1⟩
theorem xRd_s {M N N2 : qMem} {R : sRd} {i s : Int} (hi : 0 ≤ i ∧ i < 240) (hF : xRdF M N) (hs : s = pSk (M 2 0) (M 1 0 2) (N 1 0 1)) (hlt : s < M 1 0 2) (g : N 1 0 3 = 0 ∧ N 1 0 4 = -1 ∧ rX N R ∧ rB R ∧ i ≤ N 1 0 1 ∧ pRes (M 2 0) (M 1 0 2) = pAll (M 2 0) (M 1 0 2) (241 - i).toNat (N 1 0 1) R) (hN : xBdP (qUp N 1 0 1 s) N2 (pCl (M 2 0) (M 1 0 2) s R)) : xRdF M N2 ∧ xRdI (M 2 0) (M 1 0 2) N2 (i + 1) (pCl (M 2 0) (M 1 0 2) s R).2.2 := by
  obtain ⟨f1, f2, f3⟩ := hF
  obtain ⟨⟨o1, o2, o3⟩, b1, b2⟩ := hN
  obtain ⟨g1, g2, g3, g4, g5, g6⟩ := g
  have e2 : qUp N 1 0 1 s 1 0 2 = M 1 0 2 := by simp [q_rd, f2]
  have e4 : qUp N 1 0 1 s 1 0 4 = -1 := by simp [q_rd, g2]
  rw [e2] at o2 o3
  have hsk := pSk_in (t := M 2 0) (L := M 1 0 2) (a := N 1 0 1) f3.1 f3.2
  refine ⟨⟨fun j u h1 h2 => ?_, o2, o3⟩, ?_⟩
  · rw [o1 j u h1 h2, ← f1 j u h1 h2]
    simp only [q_rdR]
    by_cases e1 : j = 1
    · have eu : u ≠ 0 := fun e => h1 ⟨e1, e⟩
      simp [e1, eu]
    · simp [e1]
  · have hp : pRes (M 2 0) (M 1 0 2) = if (pCl (M 2 0) (M 1 0 2) s R).1 = 0 then pAll (M 2 0) (M 1 0 2) (241 - (i + 1)).toNat (pCl (M 2 0) (M 1 0 2) s R).2.1 (pCl (M 2 0) (M 1 0 2) s R).2.2 else pCl (M 2 0) (M 1 0 2) s R := by
      rw [g6, show (241 - i).toNat = (241 - (i + 1)).toNat + 1 by omega, pAll, ← hs, if_pos hlt]
    by_cases n1 : (pCl (M 2 0) (M 1 0 2) s R).1 = 0
    · left
      rw [if_pos n1] at hp
      obtain ⟨k1, k2, k3, k4⟩ := b1 n1
      have hb := pCl_B (show 0 ≤ s by omega) hlt g4 n1
      exact ⟨k1, k2.trans e4, k4, hb.1, by rw [k3]; omega, by rw [k3]; exact hp⟩
    · right
      rw [if_neg n1] at hp
      obtain ⟨k1, k2⟩ := b2 n1
      rw [hp]
      exact ⟨by rw [k1]; exact n1, k1.symm, k2.symm⟩
theorem dX9_read_0 : decode cX9_read 0 = .ok (.aload_n 1, 1) := by decide +kernel
theorem dX9_read_1 : decode cX9_read 1 = .ok (.invokevirtual 28, 3) := by decide +kernel
theorem dX9_read_4 : decode cX9_read 4 = .ok (.aload_n 0, 1) := by decide +kernel
theorem dX9_read_5 : decode cX9_read 5 = .ok (.iconst 0, 1) := by decide +kernel
theorem dX9_read_6 : decode cX9_read 6 = .ok (.putfield 15, 3) := by decide +kernel
theorem dX9_read_9 : decode cX9_read 9 = .ok (.aload_n 0, 1) := by decide +kernel
theorem dX9_read_10 : decode cX9_read 10 = .ok (.iconst 0, 1) := by decide +kernel
theorem dX9_read_11 : decode cX9_read 11 = .ok (.putfield 22, 3) := by decide +kernel
theorem dX9_read_14 : decode cX9_read 14 = .ok (.aload_n 0, 1) := by decide +kernel
theorem dX9_read_15 : decode cX9_read 15 = .ok (.iconst (-1), 1) := by decide +kernel
theorem dX9_read_16 : decode cX9_read 16 = .ok (.putfield 25, 3) := by decide +kernel
theorem dX9_read_19 : decode cX9_read 19 = .ok (.iconst 0, 1) := by decide +kernel
theorem dX9_read_20 : decode cX9_read 20 = .ok (.istore_n 2, 1) := by decide +kernel
theorem dX9_read_21 : decode cX9_read 21 = .ok (.iload_n 2, 1) := by decide +kernel
theorem dX9_read_22 : decode cX9_read 22 = .ok (.sipush 240, 3) := by decide +kernel
theorem dX9_read_25 : decode cX9_read 25 = .ok (.if_icmp .ge 29, 3) := by decide +kernel
theorem dX9_read_28 : decode cX9_read 28 = .ok (.aload_n 0, 1) := by decide +kernel
theorem dX9_read_29 : decode cX9_read 29 = .ok (.getfield 22, 3) := by decide +kernel
theorem dX9_read_32 : decode cX9_read 32 = .ok (.ifCond .ne 22, 3) := by decide +kernel
theorem dX9_read_35 : decode cX9_read 35 = .ok (.aload_n 0, 1) := by decide +kernel
theorem dX9_read_36 : decode cX9_read 36 = .ok (.invokevirtual 33, 3) := by decide +kernel
theorem dX9_read_39 : decode cX9_read 39 = .ok (.iconst (-1), 1) := by decide +kernel
theorem dX9_read_40 : decode cX9_read 40 = .ok (.if_icmp .eq 14, 3) := by decide +kernel
theorem dX9_read_43 : decode cX9_read 43 = .ok (.aload_n 0, 1) := by decide +kernel
theorem dX9_read_44 : decode cX9_read 44 = .ok (.aload_n 1, 1) := by decide +kernel
theorem dX9_read_45 : decode cX9_read 45 = .ok (.invokevirtual 37, 3) := by decide +kernel
theorem dX9_read_48 : decode cX9_read 48 = .ok (.iinc 2 1, 3) := by decide +kernel
theorem dX9_read_51 : decode cX9_read 51 = .ok (.goto (-30), 3) := by decide +kernel
theorem dX9_read_54 : decode cX9_read 54 = .ok (.aload_n 0, 1) := by decide +kernel
theorem dX9_read_55 : decode cX9_read 55 = .ok (.iconst 0, 1) := by decide +kernel
theorem dX9_read_56 : decode cX9_read 56 = .ok (.putfield 19, 3) := by decide +kernel
theorem dX9_read_59 : decode cX9_read 59 = .ok (.aload_n 0, 1) := by decide +kernel
theorem dX9_read_60 : decode cX9_read 60 = .ok (.getfield 22, 3) := by decide +kernel
theorem dX9_read_63 : decode cX9_read 63 = .ok (.ifCond .ne 7, 3) := by decide +kernel
theorem dX9_read_66 : decode cX9_read 66 = .ok (.iconst 1, 1) := by decide +kernel
theorem dX9_read_67 : decode cX9_read 67 = .ok (.goto 4, 3) := by decide +kernel
theorem dX9_read_70 : decode cX9_read 70 = .ok (.iconst 0, 1) := by decide +kernel
theorem dX9_read_71 : decode cX9_read 71 = .ok (.ireturn, 1) := by decide +kernel
set_option maxRecDepth 4000 in
set_option maxHeartbeats 4000000 in
theorem m_X9_read (l : Launch) (g : qGm) (M : qMem) (hL : 0 ≤ M 1 0 2 ∧ M 1 0 2 ≤ 240) (ht : ∀ k, 0 ≤ k → k < M 1 0 2 → 0 ≤ M 2 0 k) : qOk l g 6 yX9_read cX9_read 3 (some .boolean) [qR g 1 0, qR g 3 0] M (fun r N => xRdP M r N) := by
  refine q_ok (by decide +kernel) (Nat.le_of_ble_eq_true rfl) (fun X C' hn => ?_)
  have C := C'.1
  refine q_aloadn C dX9_read_0 rfl ?_
  refine cv_RX9_28 C (by decide) (by decide) (m_X7_empty l g _ (by decide)) dX9_read_1 (Nat.le_of_ble_eq_true rfl) ?_
  refine q_aloadn C dX9_read_4 rfl ?_
  refine q_iconst C dX9_read_5 ?_
  refine pf_RX9_15 C (by first | assumption | omega | exact q_tin _ | exact q_bIn _) dX9_read_6 ?_
  refine q_aloadn C dX9_read_9 rfl ?_
  refine q_iconst C dX9_read_10 ?_
  refine pf_RX9_22 C (by first | assumption | omega | exact q_tin _ | exact q_bIn _) dX9_read_11 ?_
  refine q_aloadn C dX9_read_14 rfl ?_
  refine q_iconst C dX9_read_15 ?_
  refine pf_RX9_25 C (by first | assumption | omega | exact q_tin _ | exact q_bIn _) dX9_read_16 ?_
  refine q_iconst C dX9_read_19 ?_
  refine q_istoren C dX9_read_20 hn (by decide) rfl ?_
  have L21 : ∀ (n21 : Nat) (i : Int) (R : sRd) (N : qMem), 240 - i < (n21 : Int) → (0 ≤ i ∧ i ≤ 240) → (xRdF M N) → (xRdI (M 2 0) (M 1 0 2) N i R) → qV l g X N 21 [(0, qR g 1 0), (1, qR g 3 0), (2, qI i)] [] := by
    intro n21
    induction n21 with
    | zero => intro i R N hm21 h0 hF hI; exfalso; first | omega | (simp at *; omega)
    | succ n21 ih21 =>
      intro i R N hm21 h0 hF hI
      have e2 : N 2 0 = M 2 0 := hF.1 2 0 (by omega) (by omega)
      have ho3 := hF.2.2
      refine q_iloadn C dX9_read_21 rfl ?_
      refine q_sipush C dX9_read_22 (by decide) ?_
      refine q_icmp_ge C 54 dX9_read_25 (by decide) (by first | assumption | omega | exact q_tin _ | exact q_bIn _) (by first | assumption | omega | exact q_tin _ | exact q_bIn _) (fun h25 => ?_) (fun h25 => ?_)
      · refine q_aloadn C dX9_read_54 rfl ?_
        refine q_iconst C dX9_read_55 ?_
        refine pf_RX9_19 C (by first | assumption | omega | exact q_tin _ | exact q_bIn _) dX9_read_56 ?_
        refine q_aloadn C dX9_read_59 rfl ?_
        refine gf_RX9_22 C dX9_read_60 (fun r60 => ?_)
        try simp only [q_rd, q_rdS, ↓reduceIte, if_true, if_false, eq_self, Nat.reduceEqDiff, Int.reduceEq, Int.reduceNeg, reduceCtorEq] at r60 ⊢
        refine q_tZ_ne C 70 71 dX9_read_63 dX9_read_66 dX9_read_67 dX9_read_70 (by decide) (by decide) rfl (by first | assumption | omega | exact q_tin _ | exact q_bIn _) ?_
        refine q_zret C' dX9_read_71 (by first | omega | exact q_b01 _ | simp) ?_
        refine xRd_end (R := R) (p := M 1 0 2) hF.1 ?_ rfl
        rcases hI with ⟨g1, g2, g3, g4, g5, g6⟩ | hb
        · left
          have e9 : N 1 0 1 = M 1 0 2 := by omega
          have e10 : i = 240 := by omega
          refine ⟨g1, g2, g3, g4, ?_⟩
          rw [g6, e10, e9]
          show pAll (M 2 0) (M 1 0 2) 1 (M 1 0 2) R = _
          rw [pAll, show pSk (M 2 0) (M 1 0 2) (M 1 0 2) = M 1 0 2 from pTo_e _ _, if_neg (by omega)]
        · exact Or.inr hb
      · refine q_aloadn C dX9_read_28 rfl ?_
        refine gf_RX9_22 C dX9_read_29 (fun r29 => ?_)
        try simp only [q_rd, q_rdS, ↓reduceIte, if_true, if_false, eq_self, Nat.reduceEqDiff, Int.reduceEq, Int.reduceNeg, reduceCtorEq] at r29 ⊢
        refine q_if_ne C 54 dX9_read_32 (by decide) (by first | assumption | omega | exact q_tin _ | exact q_bIn _) (fun h32 => ?_) (fun h32 => ?_)
        · refine q_aloadn C dX9_read_54 rfl ?_
          refine q_iconst C dX9_read_55 ?_
          refine pf_RX9_19 C (by first | assumption | omega | exact q_tin _ | exact q_bIn _) dX9_read_56 ?_
          refine q_aloadn C dX9_read_59 rfl ?_
          refine gf_RX9_22 C dX9_read_60 (fun r60 => ?_)
          try simp only [q_rd, q_rdS, ↓reduceIte, if_true, if_false, eq_self, Nat.reduceEqDiff, Int.reduceEq, Int.reduceNeg, reduceCtorEq] at r60 ⊢
          refine q_tZ_ne C 70 71 dX9_read_63 dX9_read_66 dX9_read_67 dX9_read_70 (by decide) (by decide) rfl (by first | assumption | omega | exact q_tin _ | exact q_bIn _) ?_
          refine q_zret C' dX9_read_71 (by first | omega | exact q_b01 _ | simp) ?_
          exact xRd_end (R := R) (p := 0) hF.1 (Or.inr (hI.resolve_left (fun q => h32 q.1))) rfl
        · refine q_aloadn C dX9_read_35 rfl ?_
          refine cv_RX9_33 C (by decide) (m_X9_peek l g _ (by rw [hF.2.1]; exact hL) (by rw [hF.2.1]; exact hF.2.2)) dX9_read_36 (Nat.le_of_ble_eq_true rfl) (fun r36 => ?_)
          simp only [e2, hF.2.1] at r36 ⊢
          have hsk := pSk_in (t := M 2 0) (L := M 1 0 2) (a := N 1 0 1) hF.2.2.1 hF.2.2.2
          obtain ⟨s, hs2⟩ : ∃ s, s = pSk (M 2 0) (M 1 0 2) (N 1 0 1) := ⟨_, rfl⟩
          rw [← hs2] at hsk r36 ⊢
          have hgd := hI.resolve_right (fun q => q.1 (by omega))
          refine q_iconst C dX9_read_39 ?_
          refine q_icmp_eq C 54 dX9_read_40 (by decide) (by first | assumption | omega | exact q_tin _ | exact q_bIn _) (by first | assumption | omega | exact q_tin _ | exact q_bIn _) (fun h40 => ?_) (fun h40 => ?_)
          · refine q_aloadn C dX9_read_54 rfl ?_
            refine q_iconst C dX9_read_55 ?_
            refine pf_RX9_19 C (by first | assumption | omega | exact q_tin _ | exact q_bIn _) dX9_read_56 ?_
            refine q_aloadn C dX9_read_59 rfl ?_
            refine gf_RX9_22 C dX9_read_60 (fun r60 => ?_)
            try simp only [q_rd, q_rdS, ↓reduceIte, if_true, if_false, eq_self, Nat.reduceEqDiff, Int.reduceEq, Int.reduceNeg, reduceCtorEq] at r60 ⊢
            refine q_tZ_ne C 70 71 dX9_read_63 dX9_read_66 dX9_read_67 dX9_read_70 (by decide) (by decide) rfl (by first | assumption | omega | exact q_tin _ | exact q_bIn _) ?_
            refine q_zret C' dX9_read_71 (by first | omega | exact q_b01 _ | simp) ?_
            have hsL : ¬ s < M 1 0 2 := fun q => by
              have h41 := ht s (by omega) q
              rw [pLt_lt q] at h40
              omega
            refine xRd_end (R := R) (p := s) (N := qUp N 1 0 1 s) (fun j u a1 a2 => ?_) (Or.inl ⟨by simp [q_rd]; exact hgd.1, by simp [q_rd]; exact hgd.2.1, rX_1 hgd.2.2.1, hgd.2.2.2.1, ?_⟩) (by simp [q_rd])
            · rw [← hF.1 j u a1 a2]
              simp only [q_rdR]
              by_cases e1 : j = 1
              · have eu : u ≠ 0 := fun e => a1 ⟨e1, e⟩
                simp [e1, eu]
              · simp [e1]
            · rw [hgd.2.2.2.2.2, show (241 - i).toNat = (240 - i).toNat + 1 by omega, pAll, ← hs2, if_neg hsL]
          · have hlt : s < M 1 0 2 := Int.not_le.mp (fun q => h40 (by unfold pLt; rw [if_neg (by omega)]))
            refine q_aloadn C dX9_read_43 rfl ?_
            refine q_aloadn C dX9_read_44 rfl ?_
            refine cw_RX9_37 C (by decide) (m_X9_readClause l g (qUp N 1 0 1 s) (R := R) (by simp only [q_rd, ↓reduceIte, Nat.reduceEqDiff, Int.reduceEq]; rw [hF.2.1]; exact hL) (by simp only [q_rd, ↓reduceIte, Nat.reduceEqDiff, Int.reduceEq]; rw [hF.2.1]; omega) (by simp only [q_rd, ↓reduceIte, Nat.reduceEqDiff, Int.reduceEq]; exact hgd.1) (rX_1 hgd.2.2.1) hgd.2.2.2.1 (by simp only [q_rd, ↓reduceIte, Nat.reduceEqDiff, Int.reduceEq]; rw [hF.2.1]; exact hlt) (by simp only [q_rd, q_rdR, ↓reduceIte, Nat.reduceEqDiff, Int.reduceEq]; rw [hF.2.1, e2, hs2]; exact pSk_id hF.2.2.1 hF.2.2.2)) dX9_read_45 (Nat.le_of_ble_eq_true rfl) (fun r N2 hz hp => ?_)
            obtain ⟨rfl, hp⟩ := hp
            simp only [q_rdR, q_rd, q_rdS, ↓reduceIte, if_true, if_false, eq_self, Nat.reduceEqDiff, Int.reduceEq, Int.reduceNeg, reduceCtorEq] at hp
            rw [hF.2.1, e2] at hp
            have hst := xRd_s (show 0 ≤ i ∧ i < 240 by omega) hF hs2 hlt hgd hp
            show qV l g X _ _ _ []
            refine q_iinc C dX9_read_48 rfl hn (by decide) rfl ?_
            refine q_goto C (tgt := 21) dX9_read_51 (by decide) ?_
            exact q_ls (by exact ⟨rfl, rfl, rfl, trivial⟩) (ih21 _ _ _ (by omega) (by omega) (by exact hst.1) (by exact hst.2))
  exact q_ls (by exact ⟨rfl, rfl, rfl, trivial⟩) (L21 1000 0 rInit _ (by omega) (by omega) (by exact ⟨xRd0_fr M, (xRd0_1 M).2.1, by have := xRd0_1 M; exact ⟨Int.le_of_eq this.1.symm, by show xRd0 M 1 0 1 ≤ _; omega⟩⟩) (by have hx := xRd0_1 M; exact Or.inl ⟨hx.2.2.1, hx.2.2.2, xRd0_X M, rInit_B, by show 0 ≤ xRd0 M 1 0 1; omega, by show pRes _ _ = pAll _ _ 241 (xRd0 M 1 0 1) rInit; rw [hx.1]; rfl⟩))
