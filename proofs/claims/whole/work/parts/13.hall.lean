theorem dX2_coldest_0 : decode cX2_coldest 0 = .ok (.iconst (-1), 1) := by decide +kernel
theorem dX2_coldest_1 : decode cX2_coldest 1 = .ok (.istore_n 2, 1) := by decide +kernel
theorem dX2_coldest_2 : decode cX2_coldest 2 = .ok (.iconst 0, 1) := by decide +kernel
theorem dX2_coldest_3 : decode cX2_coldest 3 = .ok (.istore_n 3, 1) := by decide +kernel
theorem dX2_coldest_4 : decode cX2_coldest 4 = .ok (.iload_n 3, 1) := by decide +kernel
theorem dX2_coldest_5 : decode cX2_coldest 5 = .ok (.iload_n 1, 1) := by decide +kernel
theorem dX2_coldest_6 : decode cX2_coldest 6 = .ok (.if_icmp .ge 37, 3) := by decide +kernel
theorem dX2_coldest_9 : decode cX2_coldest 9 = .ok (.iload_n 3, 1) := by decide +kernel
theorem dX2_coldest_10 : decode cX2_coldest 10 = .ok (.bipush 6, 2) := by decide +kernel
theorem dX2_coldest_12 : decode cX2_coldest 12 = .ok (.if_icmp .ge 31, 3) := by decide +kernel
theorem dX2_coldest_15 : decode cX2_coldest 15 = .ok (.iload_n 2, 1) := by decide +kernel
theorem dX2_coldest_16 : decode cX2_coldest 16 = .ok (.iconst (-1), 1) := by decide +kernel
theorem dX2_coldest_17 : decode cX2_coldest 17 = .ok (.if_icmp .eq 18, 3) := by decide +kernel
theorem dX2_coldest_20 : decode cX2_coldest 20 = .ok (.aload_n 0, 1) := by decide +kernel
theorem dX2_coldest_21 : decode cX2_coldest 21 = .ok (.getfield 28, 3) := by decide +kernel
theorem dX2_coldest_24 : decode cX2_coldest 24 = .ok (.iload_n 3, 1) := by decide +kernel
theorem dX2_coldest_25 : decode cX2_coldest 25 = .ok (.iaload, 1) := by decide +kernel
theorem dX2_coldest_26 : decode cX2_coldest 26 = .ok (.aload_n 0, 1) := by decide +kernel
theorem dX2_coldest_27 : decode cX2_coldest 27 = .ok (.getfield 28, 3) := by decide +kernel
theorem dX2_coldest_30 : decode cX2_coldest 30 = .ok (.iload_n 2, 1) := by decide +kernel
theorem dX2_coldest_31 : decode cX2_coldest 31 = .ok (.iaload, 1) := by decide +kernel
theorem dX2_coldest_32 : decode cX2_coldest 32 = .ok (.if_icmp .le 5, 3) := by decide +kernel
theorem dX2_coldest_35 : decode cX2_coldest 35 = .ok (.iload_n 3, 1) := by decide +kernel
theorem dX2_coldest_36 : decode cX2_coldest 36 = .ok (.istore_n 2, 1) := by decide +kernel
theorem dX2_coldest_37 : decode cX2_coldest 37 = .ok (.iinc 3 1, 3) := by decide +kernel
theorem dX2_coldest_40 : decode cX2_coldest 40 = .ok (.goto (-36), 3) := by decide +kernel
theorem dX2_coldest_43 : decode cX2_coldest 43 = .ok (.iload_n 2, 1) := by decide +kernel
theorem dX2_coldest_44 : decode cX2_coldest 44 = .ok (.ireturn, 1) := by decide +kernel
set_option maxRecDepth 4000 in
set_option maxHeartbeats 4000000 in
theorem m_X2_coldest (l : Launch) (g : qGm) (M : qMem) {u : Nat} (hu : u < 33) {n : Int} (hn6 : 0 ≤ n ∧ n ≤ 6) (hb : ∀ h, 0 ≤ h → h < n → 0 ≤ M 14 u h) : qOk l g 1 yX2_coldest cX2_coldest 4 (some .int) [qR g 10 u, qI n] M (qEv (some (sAm (fun h => M 14 u h) (-1) (-1) n).1) M) := by
  refine q_ok (by decide +kernel) (Nat.le_of_ble_eq_true rfl) (fun X C' hn => ?_)
  have C := C'.1
  refine q_iconst C dX2_coldest_0 ?_
  refine q_istoren C dX2_coldest_1 hn (by decide) rfl ?_
  refine q_iconst C dX2_coldest_2 ?_
  refine q_istoren C dX2_coldest_3 hn (by decide) rfl ?_
  have L4 : ∀ (n4 : Nat) (s : Int) (i : Int), n - i < (n4 : Int) → (0 ≤ i) → (i ≤ n) → (s = (sAm (fun h => M 14 u h) (-1) (-1) i).1) → qV l g X M 4 [(0, qR g 10 u), (1, qI n), (2, qI s), (3, qI i)] [] := by
    intro n4
    induction n4 with
    | zero => intro s i hm4 h0 h1 hs; exfalso; first | omega | (simp at *; omega)
    | succ n4 ih4 =>
      intro s i hm4 h0 h1 hs
      have hb2 := sAm_b (f := fun h => M 14 u h) (b := -1) (m := -1) (n := i) h0
      rw [← hs] at hb2
      have hb3 : (s = -1 ∧ (sAm (fun h => M 14 u h) (-1) (-1) i).2 = -1) ∨ (0 ≤ s ∧ s < i ∧ (sAm (fun h => M 14 u h) (-1) (-1) i).2 = M 14 u s) := by
        rcases hb2 with h | h
        · left; rw [hs, h]; exact ⟨rfl, rfl⟩
        · exact Or.inr h
      clear hb2
      refine q_iloadn C dX2_coldest_4 rfl ?_
      refine q_iloadn C dX2_coldest_5 rfl ?_
      refine q_icmp_ge C 43 dX2_coldest_6 (by decide) (by first | assumption | omega | exact q_tin _ | exact q_bIn _) (by first | assumption | omega | exact q_tin _ | exact q_bIn _) (fun h6 => ?_) (fun h6 => ?_)
      · refine q_iloadn C dX2_coldest_43 rfl ?_
        refine q_iret C' dX2_coldest_44 (by first | assumption | omega | exact q_tin _ | exact q_bIn _) ?_
        first | (have e9 : i = n := (by omega); subst e9; exact ⟨congrArg some hs, rfl⟩) | (exfalso; omega)
      · refine q_iloadn C dX2_coldest_9 rfl ?_
        refine q_bipush C dX2_coldest_10 (by decide) ?_
        refine q_icmp_ge C 43 dX2_coldest_12 (by decide) (by first | assumption | omega | exact q_tin _ | exact q_bIn _) (by first | assumption | omega | exact q_tin _ | exact q_bIn _) (fun h12 => ?_) (fun h12 => ?_)
        · refine q_iloadn C dX2_coldest_43 rfl ?_
          refine q_iret C' dX2_coldest_44 (by first | assumption | omega | exact q_tin _ | exact q_bIn _) ?_
          first | (have e9 : i = n := (by omega); subst e9; exact ⟨congrArg some hs, rfl⟩) | (exfalso; omega)
        · refine q_iloadn C dX2_coldest_15 rfl ?_
          refine q_iconst C dX2_coldest_16 ?_
          refine q_icmp_eq C 35 dX2_coldest_17 (by decide) (by first | assumption | omega | exact q_tin _ | exact q_bIn _) (by first | assumption | omega | exact q_tin _ | exact q_bIn _) (fun h17 => ?_) (fun h17 => ?_)
          · refine q_iloadn C dX2_coldest_35 rfl ?_
            refine q_istoren C dX2_coldest_36 hn (by decide) rfl ?_
            refine q_iinc C dX2_coldest_37 rfl hn (by decide) rfl ?_
            refine q_goto C (tgt := 4) dX2_coldest_40 (by decide) ?_
            exact q_ls (by exact ⟨rfl, rfl, rfl, rfl, trivial⟩) (ih4 _ _ (by omega) (by omega) (by omega) (by rw [sAm_s _ _ _ (by omega)]; have := hb i (by omega) (by omega); first | (rw [if_pos (by show _ < M 14 u i; omega)]) | (rw [if_neg (by show ¬ _ < M 14 u i; omega)]; exact hs)))
          · refine q_aloadn C dX2_coldest_20 rfl ?_
            refine gf_RX2_28 C (by first | assumption | decide | omega) dX2_coldest_21 ?_
            refine q_iloadn C dX2_coldest_24 rfl ?_
            refine q_iald C (by first | assumption | decide | omega) rfl dX2_coldest_25 (by omega) (by omega) (by decide) (fun r25 => ?_)
            refine q_aloadn C dX2_coldest_26 rfl ?_
            refine gf_RX2_28 C (by first | assumption | decide | omega) dX2_coldest_27 ?_
            refine q_iloadn C dX2_coldest_30 rfl ?_
            refine q_iald C (by first | assumption | decide | omega) rfl dX2_coldest_31 (by omega) (by omega) (by decide) (fun r31 => ?_)
            refine q_icmp_le C 37 dX2_coldest_32 (by decide) (by first | assumption | omega | exact q_tin _ | exact q_bIn _) (by first | assumption | omega | exact q_tin _ | exact q_bIn _) (fun h32 => ?_) (fun h32 => ?_)
            · refine q_iinc C dX2_coldest_37 rfl hn (by decide) rfl ?_
              refine q_goto C (tgt := 4) dX2_coldest_40 (by decide) ?_
              exact q_ls (by exact ⟨rfl, rfl, rfl, rfl, trivial⟩) (ih4 _ _ (by omega) (by omega) (by omega) (by rw [sAm_s _ _ _ (by omega)]; have := hb i (by omega) (by omega); first | (rw [if_pos (by show _ < M 14 u i; omega)]) | (rw [if_neg (by show ¬ _ < M 14 u i; omega)]; exact hs)))
            · refine q_iloadn C dX2_coldest_35 rfl ?_
              refine q_istoren C dX2_coldest_36 hn (by decide) rfl ?_
              refine q_iinc C dX2_coldest_37 rfl hn (by decide) rfl ?_
              refine q_goto C (tgt := 4) dX2_coldest_40 (by decide) ?_
              exact q_ls (by exact ⟨rfl, rfl, rfl, rfl, trivial⟩) (ih4 _ _ (by omega) (by omega) (by omega) (by rw [sAm_s _ _ _ (by omega)]; have := hb i (by omega) (by omega); first | (rw [if_pos (by show _ < M 14 u i; omega)]) | (rw [if_neg (by show ¬ _ < M 14 u i; omega)]; exact hs)))
  exact q_ls (by exact ⟨rfl, rfl, rfl, rfl, trivial⟩) (L4 1000 _ _ (by omega) (by omega) (by omega) (by rfl))
/-- a hall behind a visit by which a comer was let in -/
def xWel (M : qMem) (u : Nat) (c h : Int) : qMem :=
  if M 11 u c < 5 then qUp (qUp M 10 u 1 (sAdd (M 10 u 1) h)) 15 u (c * 6 + h) (sMin (M 15 u (c * 6 + h) + 1) 999)
  else if sMin (M 16 u (c * 6 + h) + 1) 3 < 3 then qUp (qUp (qUp M 10 u 1 (sAdd (M 10 u 1) h)) 15 u (c * 6 + h) (sMin (M 15 u (c * 6 + h) + 1) 999)) 16 u (c * 6 + h) (sMin (M 16 u (c * 6 + h) + 1) 3)
  else qUp (qUp (qUp (qUp M 10 u 1 (sAdd (M 10 u 1) h)) 15 u (c * 6 + h) (sMin (M 15 u (c * 6 + h) + 1) 999)) 16 u (c * 6 + h) (sMin (M 16 u (c * 6 + h) + 1) 3)) 13 u c (sAdd (M 13 u c) h)
theorem dX2_welcomeIn_0 : decode cX2_welcomeIn 0 = .ok (.iload_n 1, 1) := by decide +kernel
theorem dX2_welcomeIn_1 : decode cX2_welcomeIn 1 = .ok (.iload_n 2, 1) := by decide +kernel
theorem dX2_welcomeIn_2 : decode cX2_welcomeIn 2 = .ok (.invokestatic 74, 3) := by decide +kernel
theorem dX2_welcomeIn_5 : decode cX2_welcomeIn 5 = .ok (.istore_n 3, 1) := by decide +kernel
theorem dX2_welcomeIn_6 : decode cX2_welcomeIn 6 = .ok (.aload_n 0, 1) := by decide +kernel
theorem dX2_welcomeIn_7 : decode cX2_welcomeIn 7 = .ok (.dup, 1) := by decide +kernel
theorem dX2_welcomeIn_8 : decode cX2_welcomeIn 8 = .ok (.getfield 15, 3) := by decide +kernel
theorem dX2_welcomeIn_11 : decode cX2_welcomeIn 11 = .ok (.iconst 1, 1) := by decide +kernel
theorem dX2_welcomeIn_12 : decode cX2_welcomeIn 12 = .ok (.iload_n 2, 1) := by decide +kernel
theorem dX2_welcomeIn_13 : decode cX2_welcomeIn 13 = .ok (.ishl, 1) := by decide +kernel
theorem dX2_welcomeIn_14 : decode cX2_welcomeIn 14 = .ok (.ior, 1) := by decide +kernel
theorem dX2_welcomeIn_15 : decode cX2_welcomeIn 15 = .ok (.putfield 15, 3) := by decide +kernel
theorem dX2_welcomeIn_18 : decode cX2_welcomeIn 18 = .ok (.aload_n 0, 1) := by decide +kernel
theorem dX2_welcomeIn_19 : decode cX2_welcomeIn 19 = .ok (.getfield 31, 3) := by decide +kernel
theorem dX2_welcomeIn_22 : decode cX2_welcomeIn 22 = .ok (.iload_n 3, 1) := by decide +kernel
theorem dX2_welcomeIn_23 : decode cX2_welcomeIn 23 = .ok (.aload_n 0, 1) := by decide +kernel
theorem dX2_welcomeIn_24 : decode cX2_welcomeIn 24 = .ok (.getfield 31, 3) := by decide +kernel
theorem dX2_welcomeIn_27 : decode cX2_welcomeIn 27 = .ok (.iload_n 3, 1) := by decide +kernel
theorem dX2_welcomeIn_28 : decode cX2_welcomeIn 28 = .ok (.iaload, 1) := by decide +kernel
theorem dX2_welcomeIn_29 : decode cX2_welcomeIn 29 = .ok (.iconst 1, 1) := by decide +kernel
theorem dX2_welcomeIn_30 : decode cX2_welcomeIn 30 = .ok (.iadd, 1) := by decide +kernel
theorem dX2_welcomeIn_31 : decode cX2_welcomeIn 31 = .ok (.sipush 999, 3) := by decide +kernel
theorem dX2_welcomeIn_34 : decode cX2_welcomeIn 34 = .ok (.invokestatic 85, 3) := by decide +kernel
theorem dX2_welcomeIn_37 : decode cX2_welcomeIn 37 = .ok (.iastore, 1) := by decide +kernel
theorem dX2_welcomeIn_38 : decode cX2_welcomeIn 38 = .ok (.aload_n 0, 1) := by decide +kernel
theorem dX2_welcomeIn_39 : decode cX2_welcomeIn 39 = .ok (.getfield 18, 3) := by decide +kernel
theorem dX2_welcomeIn_42 : decode cX2_welcomeIn 42 = .ok (.iload_n 1, 1) := by decide +kernel
theorem dX2_welcomeIn_43 : decode cX2_welcomeIn 43 = .ok (.iaload, 1) := by decide +kernel
theorem dX2_welcomeIn_44 : decode cX2_welcomeIn 44 = .ok (.iconst 5, 1) := by decide +kernel
theorem dX2_welcomeIn_45 : decode cX2_welcomeIn 45 = .ok (.if_icmp .ge 4, 3) := by decide +kernel
theorem dX2_welcomeIn_48 : decode cX2_welcomeIn 48 = .ok (.return_, 1) := by decide +kernel
theorem dX2_welcomeIn_49 : decode cX2_welcomeIn 49 = .ok (.aload_n 0, 1) := by decide +kernel
theorem dX2_welcomeIn_50 : decode cX2_welcomeIn 50 = .ok (.getfield 34, 3) := by decide +kernel
theorem dX2_welcomeIn_53 : decode cX2_welcomeIn 53 = .ok (.iload_n 3, 1) := by decide +kernel
theorem dX2_welcomeIn_54 : decode cX2_welcomeIn 54 = .ok (.aload_n 0, 1) := by decide +kernel
theorem dX2_welcomeIn_55 : decode cX2_welcomeIn 55 = .ok (.getfield 34, 3) := by decide +kernel
theorem dX2_welcomeIn_58 : decode cX2_welcomeIn 58 = .ok (.iload_n 3, 1) := by decide +kernel
theorem dX2_welcomeIn_59 : decode cX2_welcomeIn 59 = .ok (.iaload, 1) := by decide +kernel
theorem dX2_welcomeIn_60 : decode cX2_welcomeIn 60 = .ok (.iconst 1, 1) := by decide +kernel
theorem dX2_welcomeIn_61 : decode cX2_welcomeIn 61 = .ok (.iadd, 1) := by decide +kernel
theorem dX2_welcomeIn_62 : decode cX2_welcomeIn 62 = .ok (.iconst 3, 1) := by decide +kernel
theorem dX2_welcomeIn_63 : decode cX2_welcomeIn 63 = .ok (.invokestatic 85, 3) := by decide +kernel
theorem dX2_welcomeIn_66 : decode cX2_welcomeIn 66 = .ok (.iastore, 1) := by decide +kernel
theorem dX2_welcomeIn_67 : decode cX2_welcomeIn 67 = .ok (.aload_n 0, 1) := by decide +kernel
theorem dX2_welcomeIn_68 : decode cX2_welcomeIn 68 = .ok (.getfield 34, 3) := by decide +kernel
theorem dX2_welcomeIn_71 : decode cX2_welcomeIn 71 = .ok (.iload_n 3, 1) := by decide +kernel
theorem dX2_welcomeIn_72 : decode cX2_welcomeIn 72 = .ok (.iaload, 1) := by decide +kernel
theorem dX2_welcomeIn_73 : decode cX2_welcomeIn 73 = .ok (.iconst 3, 1) := by decide +kernel
theorem dX2_welcomeIn_74 : decode cX2_welcomeIn 74 = .ok (.if_icmp .lt 15, 3) := by decide +kernel
theorem dX2_welcomeIn_77 : decode cX2_welcomeIn 77 = .ok (.aload_n 0, 1) := by decide +kernel
theorem dX2_welcomeIn_78 : decode cX2_welcomeIn 78 = .ok (.getfield 25, 3) := by decide +kernel
theorem dX2_welcomeIn_81 : decode cX2_welcomeIn 81 = .ok (.iload_n 1, 1) := by decide +kernel
theorem dX2_welcomeIn_82 : decode cX2_welcomeIn 82 = .ok (.dup2, 1) := by decide +kernel
theorem dX2_welcomeIn_83 : decode cX2_welcomeIn 83 = .ok (.iaload, 1) := by decide +kernel
theorem dX2_welcomeIn_84 : decode cX2_welcomeIn 84 = .ok (.iconst 1, 1) := by decide +kernel
theorem dX2_welcomeIn_85 : decode cX2_welcomeIn 85 = .ok (.iload_n 2, 1) := by decide +kernel
theorem dX2_welcomeIn_86 : decode cX2_welcomeIn 86 = .ok (.ishl, 1) := by decide +kernel
theorem dX2_welcomeIn_87 : decode cX2_welcomeIn 87 = .ok (.ior, 1) := by decide +kernel
theorem dX2_welcomeIn_88 : decode cX2_welcomeIn 88 = .ok (.iastore, 1) := by decide +kernel
theorem dX2_welcomeIn_89 : decode cX2_welcomeIn 89 = .ok (.return_, 1) := by decide +kernel
set_option maxRecDepth 4000 in
set_option maxHeartbeats 4000000 in
theorem m_X2_welcomeIn (l : Launch) (g : qGm) (M : qMem) {u : Nat} (hu : u < 33) {c h : Int} (hc : 0 ≤ c ∧ c < 6) (hh : 0 ≤ h ∧ h < 6) (hcb : M 15 u (c * 6 + h) ≤ 999) (hsb : M 16 u (c * 6 + h) ≤ 3) : qOk l g 2 yX2_welcomeIn cX2_welcomeIn 4 none [qR g 10 u, qI c, qI h] M (qEv none (xWel M u c h)) := by
  refine q_ok (by decide +kernel) (Nat.le_of_ble_eq_true rfl) (fun X C' hn => ?_)
  have C := C'.1
  refine q_iloadn C dX2_welcomeIn_0 rfl ?_
  refine q_iloadn C dX2_welcomeIn_1 rfl ?_
  refine cv_RX2_74 C (by decide) (m_X2_pair l g _ hc hh) dX2_welcomeIn_2 (Nat.le_of_ble_eq_true rfl) (fun r2 => ?_)
  refine q_istoren C dX2_welcomeIn_5 hn (by decide) rfl ?_
  refine q_aloadn C dX2_welcomeIn_6 rfl ?_
  refine q_dup C dX2_welcomeIn_7 rfl ?_
  refine gf_RX2_15 C (by first | assumption | decide | omega) dX2_welcomeIn_8 (fun r8 => ?_)
  refine q_iconst C dX2_welcomeIn_11 ?_
  refine q_iloadn C dX2_welcomeIn_12 rfl ?_
  refine q_ishl C dX2_welcomeIn_13 ?_
  refine q_ior C dX2_welcomeIn_14 ?_
  refine pf_RX2_15 C (by first | assumption | decide | omega) (by first | assumption | omega | exact q_tin _ | exact q_bIn _) dX2_welcomeIn_15 ?_
  refine q_aloadn C dX2_welcomeIn_18 rfl ?_
  refine gf_RX2_31 C (by first | assumption | decide | omega) dX2_welcomeIn_19 ?_
  refine q_iloadn C dX2_welcomeIn_22 rfl ?_
  refine q_aloadn C dX2_welcomeIn_23 rfl ?_
  refine gf_RX2_31 C (by first | assumption | decide | omega) dX2_welcomeIn_24 ?_
  refine q_iloadn C dX2_welcomeIn_27 rfl ?_
  refine q_iald C (by first | assumption | decide | omega) rfl dX2_welcomeIn_28 (by omega) (by omega) (by decide) (fun r28 => ?_)
  try simp only [q_rd, q_rdS, ↓reduceIte, if_true, if_false, eq_self, Nat.reduceEqDiff, Int.reduceEq, Int.reduceNeg, reduceCtorEq] at r28 ⊢
  refine q_iconst C dX2_welcomeIn_29 ?_
  refine q_iadd C dX2_welcomeIn_30 ?_
  refine q_sipush C dX2_welcomeIn_31 (by decide) ?_
  refine q_mmin C q_ml_RX2_85 (by first | assumption | omega | exact q_tin _ | exact q_bIn _) (by first | assumption | omega | exact q_tin _ | exact q_bIn _) (by decide) (Nat.le_of_ble_eq_true rfl) dX2_welcomeIn_34 (fun r34 => ?_)
  refine q_iast C (by first | assumption | decide | omega) (fun _ => rfl) dX2_welcomeIn_37 (by omega) (by omega) (by decide) (by first | assumption | omega | exact q_tin _ | exact q_bIn _) ?_
  refine q_aloadn C dX2_welcomeIn_38 rfl ?_
  refine gf_RX2_18 C (by first | assumption | decide | omega) dX2_welcomeIn_39 ?_
  refine q_iloadn C dX2_welcomeIn_42 rfl ?_
  refine q_iald C (by first | assumption | decide | omega) rfl dX2_welcomeIn_43 (by omega) (by omega) (by decide) (fun r43 => ?_)
  try simp only [q_rd, q_rdS, ↓reduceIte, if_true, if_false, eq_self, Nat.reduceEqDiff, Int.reduceEq, Int.reduceNeg, reduceCtorEq] at r43 ⊢
  refine q_iconst C dX2_welcomeIn_44 ?_
  refine q_icmp_ge C 49 dX2_welcomeIn_45 (by decide) (by first | assumption | omega | exact q_tin _ | exact q_bIn _) (by first | assumption | omega | exact q_tin _ | exact q_bIn _) (fun h45 => ?_) (fun h45 => ?_)
  · refine q_aloadn C dX2_welcomeIn_49 rfl ?_
    refine gf_RX2_34 C (by first | assumption | decide | omega) dX2_welcomeIn_50 ?_
    refine q_iloadn C dX2_welcomeIn_53 rfl ?_
    refine q_aloadn C dX2_welcomeIn_54 rfl ?_
    refine gf_RX2_34 C (by first | assumption | decide | omega) dX2_welcomeIn_55 ?_
    refine q_iloadn C dX2_welcomeIn_58 rfl ?_
    refine q_iald C (by first | assumption | decide | omega) rfl dX2_welcomeIn_59 (by omega) (by omega) (by decide) (fun r59 => ?_)
    try simp only [q_rd, q_rdS, ↓reduceIte, if_true, if_false, eq_self, Nat.reduceEqDiff, Int.reduceEq, Int.reduceNeg, reduceCtorEq] at r59 ⊢
    refine q_iconst C dX2_welcomeIn_60 ?_
    refine q_iadd C dX2_welcomeIn_61 ?_
    refine q_iconst C dX2_welcomeIn_62 ?_
    refine q_mmin C q_ml_RX2_85 (by first | assumption | omega | exact q_tin _ | exact q_bIn _) (by first | assumption | omega | exact q_tin _ | exact q_bIn _) (by decide) (Nat.le_of_ble_eq_true rfl) dX2_welcomeIn_63 (fun r63 => ?_)
    refine q_iast C (by first | assumption | decide | omega) (fun _ => rfl) dX2_welcomeIn_66 (by omega) (by omega) (by decide) (by first | assumption | omega | exact q_tin _ | exact q_bIn _) ?_
    refine q_aloadn C dX2_welcomeIn_67 rfl ?_
    refine gf_RX2_34 C (by first | assumption | decide | omega) dX2_welcomeIn_68 ?_
    refine q_iloadn C dX2_welcomeIn_71 rfl ?_
    refine q_iald C (by first | assumption | decide | omega) rfl dX2_welcomeIn_72 (by omega) (by omega) (by decide) (fun r72 => ?_)
    try simp only [q_rd, q_rdS, ↓reduceIte, if_true, if_false, eq_self, Nat.reduceEqDiff, Int.reduceEq, Int.reduceNeg, reduceCtorEq] at r72 ⊢
    refine q_iconst C dX2_welcomeIn_73 ?_
    refine q_icmp_lt C 89 dX2_welcomeIn_74 (by decide) (by first | assumption | omega | exact q_tin _ | exact q_bIn _) (by first | assumption | omega | exact q_tin _ | exact q_bIn _) (fun h74 => ?_) (fun h74 => ?_)
    · refine q_vret C' dX2_welcomeIn_89 ?_
      refine ⟨rfl, ?_⟩
      unfold xWel
      first | (rw [if_pos (by omega)]; rfl) | (rw [if_neg (by omega), if_pos (by omega)]; rfl) | (rw [if_neg (by omega), if_neg (by omega)]; rfl)
    · refine q_aloadn C dX2_welcomeIn_77 rfl ?_
      refine gf_RX2_25 C (by first | assumption | decide | omega) dX2_welcomeIn_78 ?_
      refine q_iloadn C dX2_welcomeIn_81 rfl ?_
      refine q_dup2 C dX2_welcomeIn_82 rfl rfl ?_
      refine q_iald C (by first | assumption | decide | omega) rfl dX2_welcomeIn_83 (by omega) (by omega) (by decide) (fun r83 => ?_)
      try simp only [q_rd, q_rdS, ↓reduceIte, if_true, if_false, eq_self, Nat.reduceEqDiff, Int.reduceEq, Int.reduceNeg, reduceCtorEq] at r83 ⊢
      refine q_iconst C dX2_welcomeIn_84 ?_
      refine q_iloadn C dX2_welcomeIn_85 rfl ?_
      refine q_ishl C dX2_welcomeIn_86 ?_
      refine q_ior C dX2_welcomeIn_87 ?_
      refine q_iast C (by first | assumption | decide | omega) (fun _ => rfl) dX2_welcomeIn_88 (by omega) (by omega) (by decide) (by first | assumption | omega | exact q_tin _ | exact q_bIn _) ?_
      refine q_vret C' dX2_welcomeIn_89 ?_
      refine ⟨rfl, ?_⟩
      unfold xWel
      first | (rw [if_pos (by omega)]; rfl) | (rw [if_neg (by omega), if_pos (by omega)]; rfl) | (rw [if_neg (by omega), if_neg (by omega)]; rfl)
  · refine q_vret C' dX2_welcomeIn_48 ?_
    refine ⟨rfl, ?_⟩
    unfold xWel
    first | (rw [if_pos (by omega)]; rfl) | (rw [if_neg (by omega), if_pos (by omega)]; rfl) | (rw [if_neg (by omega), if_neg (by omega)]; rfl)
theorem dX2_forgive_0 : decode cX2_forgive 0 = .ok (.aload_n 0, 1) := by decide +kernel
theorem dX2_forgive_1 : decode cX2_forgive 1 = .ok (.getfield 25, 3) := by decide +kernel
theorem dX2_forgive_4 : decode cX2_forgive 4 = .ok (.iload_n 1, 1) := by decide +kernel
theorem dX2_forgive_5 : decode cX2_forgive 5 = .ok (.dup2, 1) := by decide +kernel
theorem dX2_forgive_6 : decode cX2_forgive 6 = .ok (.iaload, 1) := by decide +kernel
theorem dX2_forgive_7 : decode cX2_forgive 7 = .ok (.iconst 1, 1) := by decide +kernel
theorem dX2_forgive_8 : decode cX2_forgive 8 = .ok (.iload_n 2, 1) := by decide +kernel
theorem dX2_forgive_9 : decode cX2_forgive 9 = .ok (.ishl, 1) := by decide +kernel
theorem dX2_forgive_10 : decode cX2_forgive 10 = .ok (.iconst (-1), 1) := by decide +kernel
theorem dX2_forgive_11 : decode cX2_forgive 11 = .ok (.ixor, 1) := by decide +kernel
theorem dX2_forgive_12 : decode cX2_forgive 12 = .ok (.iand, 1) := by decide +kernel
theorem dX2_forgive_13 : decode cX2_forgive 13 = .ok (.iastore, 1) := by decide +kernel
theorem dX2_forgive_14 : decode cX2_forgive 14 = .ok (.aload_n 0, 1) := by decide +kernel
theorem dX2_forgive_15 : decode cX2_forgive 15 = .ok (.getfield 31, 3) := by decide +kernel
theorem dX2_forgive_18 : decode cX2_forgive 18 = .ok (.iload_n 1, 1) := by decide +kernel
theorem dX2_forgive_19 : decode cX2_forgive 19 = .ok (.iload_n 2, 1) := by decide +kernel
theorem dX2_forgive_20 : decode cX2_forgive 20 = .ok (.invokestatic 74, 3) := by decide +kernel
theorem dX2_forgive_23 : decode cX2_forgive 23 = .ok (.iconst 0, 1) := by decide +kernel
theorem dX2_forgive_24 : decode cX2_forgive 24 = .ok (.iastore, 1) := by decide +kernel
theorem dX2_forgive_25 : decode cX2_forgive 25 = .ok (.aload_n 0, 1) := by decide +kernel
theorem dX2_forgive_26 : decode cX2_forgive 26 = .ok (.getfield 34, 3) := by decide +kernel
theorem dX2_forgive_29 : decode cX2_forgive 29 = .ok (.iload_n 1, 1) := by decide +kernel
theorem dX2_forgive_30 : decode cX2_forgive 30 = .ok (.iload_n 2, 1) := by decide +kernel
theorem dX2_forgive_31 : decode cX2_forgive 31 = .ok (.invokestatic 74, 3) := by decide +kernel
theorem dX2_forgive_34 : decode cX2_forgive 34 = .ok (.iconst 0, 1) := by decide +kernel
theorem dX2_forgive_35 : decode cX2_forgive 35 = .ok (.iastore, 1) := by decide +kernel
theorem dX2_forgive_36 : decode cX2_forgive 36 = .ok (.return_, 1) := by decide +kernel
set_option maxRecDepth 4000 in
set_option maxHeartbeats 4000000 in
theorem m_X2_forgive (l : Launch) (g : qGm) (M : qMem) {u : Nat} (hu : u < 33) {c h : Int} (hc : 0 ≤ c ∧ c < 6) (hh : 0 ≤ h ∧ h < 6) : qOk l g 2 yX2_forgive cX2_forgive 3 none [qR g 10 u, qI c, qI h] M (qEv none (qUp (qUp (qUp M 13 u c (sDel (M 13 u c) h)) 15 u (c * 6 + h) 0) 16 u (c * 6 + h) 0)) := by
  refine q_ok (by decide +kernel) (Nat.le_of_ble_eq_true rfl) (fun X C' hn => ?_)
  have C := C'.1
  refine q_aloadn C dX2_forgive_0 rfl ?_
  refine gf_RX2_25 C (by first | assumption | decide | omega) dX2_forgive_1 ?_
  refine q_iloadn C dX2_forgive_4 rfl ?_
  refine q_dup2 C dX2_forgive_5 rfl rfl ?_
  refine q_iald C (by first | assumption | decide | omega) rfl dX2_forgive_6 (by omega) (by omega) (by decide) (fun r6 => ?_)
  refine q_iconst C dX2_forgive_7 ?_
  refine q_iloadn C dX2_forgive_8 rfl ?_
  refine q_ishl C dX2_forgive_9 ?_
  refine q_iconst C dX2_forgive_10 ?_
  refine q_ixor C dX2_forgive_11 ?_
  refine q_iand C dX2_forgive_12 ?_
  refine q_iast C (by first | assumption | decide | omega) (fun _ => rfl) dX2_forgive_13 (by omega) (by omega) (by decide) (by first | assumption | omega | exact q_tin _ | exact q_bIn _) ?_
  refine q_aloadn C dX2_forgive_14 rfl ?_
  refine gf_RX2_31 C (by first | assumption | decide | omega) dX2_forgive_15 ?_
  refine q_iloadn C dX2_forgive_18 rfl ?_
  refine q_iloadn C dX2_forgive_19 rfl ?_
  refine cv_RX2_74 C (by decide) (m_X2_pair l g _ hc hh) dX2_forgive_20 (Nat.le_of_ble_eq_true rfl) (fun r20 => ?_)
  refine q_iconst C dX2_forgive_23 ?_
  refine q_iast C (by first | assumption | decide | omega) (fun _ => rfl) dX2_forgive_24 (by omega) (by omega) (by decide) (by first | assumption | omega | exact q_tin _ | exact q_bIn _) ?_
  refine q_aloadn C dX2_forgive_25 rfl ?_
  refine gf_RX2_34 C (by first | assumption | decide | omega) dX2_forgive_26 ?_
  refine q_iloadn C dX2_forgive_29 rfl ?_
  refine q_iloadn C dX2_forgive_30 rfl ?_
  refine cv_RX2_74 C (by decide) (m_X2_pair l g _ hc hh) dX2_forgive_31 (Nat.le_of_ble_eq_true rfl) (fun r31 => ?_)
  refine q_iconst C dX2_forgive_34 ?_
  refine q_iast C (by first | assumption | decide | omega) (fun _ => rfl) dX2_forgive_35 (by omega) (by omega) (by decide) (by first | assumption | omega | exact q_tin _ | exact q_bIn _) ?_
  refine q_vret C' dX2_forgive_36 ?_
  exact ⟨rfl, rfl⟩
def xHard (o x h : Int) : Int := if sHas o h then sMin (x + 1) 40 else sMax (x - 1) 0
def xDay (M : qMem) (u : Nat) (n : Int) : qMem := qUp (qUp (qPre M 14 u (fun h => xHard (M 10 u 1) (M 14 u h) h) n) 10 u 1 0) 10 u 0 (M 10 u 0 + 1)
theorem dX2_endDay_0 : decode cX2_endDay 0 = .ok (.iconst 0, 1) := by decide +kernel
theorem dX2_endDay_1 : decode cX2_endDay 1 = .ok (.istore_n 2, 1) := by decide +kernel
theorem dX2_endDay_2 : decode cX2_endDay 2 = .ok (.iload_n 2, 1) := by decide +kernel
theorem dX2_endDay_3 : decode cX2_endDay 3 = .ok (.iload_n 1, 1) := by decide +kernel
theorem dX2_endDay_4 : decode cX2_endDay 4 = .ok (.if_icmp .ge 70, 3) := by decide +kernel
theorem dX2_endDay_7 : decode cX2_endDay 7 = .ok (.iload_n 2, 1) := by decide +kernel
theorem dX2_endDay_8 : decode cX2_endDay 8 = .ok (.bipush 6, 2) := by decide +kernel
theorem dX2_endDay_10 : decode cX2_endDay 10 = .ok (.if_icmp .ge 64, 3) := by decide +kernel
theorem dX2_endDay_13 : decode cX2_endDay 13 = .ok (.aload_n 0, 1) := by decide +kernel
theorem dX2_endDay_14 : decode cX2_endDay 14 = .ok (.getfield 15, 3) := by decide +kernel
theorem dX2_endDay_17 : decode cX2_endDay 17 = .ok (.iload_n 2, 1) := by decide +kernel
theorem dX2_endDay_18 : decode cX2_endDay 18 = .ok (.ishr, 1) := by decide +kernel
theorem dX2_endDay_19 : decode cX2_endDay 19 = .ok (.iconst 1, 1) := by decide +kernel
theorem dX2_endDay_20 : decode cX2_endDay 20 = .ok (.iand, 1) := by decide +kernel
theorem dX2_endDay_21 : decode cX2_endDay 21 = .ok (.ifCond .eq 7, 3) := by decide +kernel
theorem dX2_endDay_24 : decode cX2_endDay 24 = .ok (.iconst 1, 1) := by decide +kernel
theorem dX2_endDay_25 : decode cX2_endDay 25 = .ok (.goto 4, 3) := by decide +kernel
theorem dX2_endDay_28 : decode cX2_endDay 28 = .ok (.iconst 0, 1) := by decide +kernel
theorem dX2_endDay_29 : decode cX2_endDay 29 = .ok (.istore_n 3, 1) := by decide +kernel
theorem dX2_endDay_30 : decode cX2_endDay 30 = .ok (.aload_n 0, 1) := by decide +kernel
theorem dX2_endDay_31 : decode cX2_endDay 31 = .ok (.getfield 28, 3) := by decide +kernel
theorem dX2_endDay_34 : decode cX2_endDay 34 = .ok (.iload_n 2, 1) := by decide +kernel
theorem dX2_endDay_35 : decode cX2_endDay 35 = .ok (.iload_n 3, 1) := by decide +kernel
theorem dX2_endDay_36 : decode cX2_endDay 36 = .ok (.ifCond .eq 19, 3) := by decide +kernel
theorem dX2_endDay_39 : decode cX2_endDay 39 = .ok (.aload_n 0, 1) := by decide +kernel
theorem dX2_endDay_40 : decode cX2_endDay 40 = .ok (.getfield 28, 3) := by decide +kernel
theorem dX2_endDay_43 : decode cX2_endDay 43 = .ok (.iload_n 2, 1) := by decide +kernel
theorem dX2_endDay_44 : decode cX2_endDay 44 = .ok (.iaload, 1) := by decide +kernel
theorem dX2_endDay_45 : decode cX2_endDay 45 = .ok (.iconst 1, 1) := by decide +kernel
theorem dX2_endDay_46 : decode cX2_endDay 46 = .ok (.iadd, 1) := by decide +kernel
theorem dX2_endDay_47 : decode cX2_endDay 47 = .ok (.bipush 40, 2) := by decide +kernel
theorem dX2_endDay_49 : decode cX2_endDay 49 = .ok (.invokestatic 85, 3) := by decide +kernel
theorem dX2_endDay_52 : decode cX2_endDay 52 = .ok (.goto 15, 3) := by decide +kernel
theorem dX2_endDay_55 : decode cX2_endDay 55 = .ok (.aload_n 0, 1) := by decide +kernel
theorem dX2_endDay_56 : decode cX2_endDay 56 = .ok (.getfield 28, 3) := by decide +kernel
theorem dX2_endDay_59 : decode cX2_endDay 59 = .ok (.iload_n 2, 1) := by decide +kernel
theorem dX2_endDay_60 : decode cX2_endDay 60 = .ok (.iaload, 1) := by decide +kernel
theorem dX2_endDay_61 : decode cX2_endDay 61 = .ok (.iconst 1, 1) := by decide +kernel
theorem dX2_endDay_62 : decode cX2_endDay 62 = .ok (.isub, 1) := by decide +kernel
theorem dX2_endDay_63 : decode cX2_endDay 63 = .ok (.iconst 0, 1) := by decide +kernel
theorem dX2_endDay_64 : decode cX2_endDay 64 = .ok (.invokestatic 90, 3) := by decide +kernel
theorem dX2_endDay_67 : decode cX2_endDay 67 = .ok (.iastore, 1) := by decide +kernel
theorem dX2_endDay_68 : decode cX2_endDay 68 = .ok (.iinc 2 1, 3) := by decide +kernel
theorem dX2_endDay_71 : decode cX2_endDay 71 = .ok (.goto (-69), 3) := by decide +kernel
theorem dX2_endDay_74 : decode cX2_endDay 74 = .ok (.aload_n 0, 1) := by decide +kernel
theorem dX2_endDay_75 : decode cX2_endDay 75 = .ok (.iconst 0, 1) := by decide +kernel
theorem dX2_endDay_76 : decode cX2_endDay 76 = .ok (.putfield 15, 3) := by decide +kernel
theorem dX2_endDay_79 : decode cX2_endDay 79 = .ok (.aload_n 0, 1) := by decide +kernel
theorem dX2_endDay_80 : decode cX2_endDay 80 = .ok (.dup, 1) := by decide +kernel
theorem dX2_endDay_81 : decode cX2_endDay 81 = .ok (.getfield 9, 3) := by decide +kernel
theorem dX2_endDay_84 : decode cX2_endDay 84 = .ok (.iconst 1, 1) := by decide +kernel
theorem dX2_endDay_85 : decode cX2_endDay 85 = .ok (.iadd, 1) := by decide +kernel
theorem dX2_endDay_86 : decode cX2_endDay 86 = .ok (.putfield 9, 3) := by decide +kernel
theorem dX2_endDay_89 : decode cX2_endDay 89 = .ok (.return_, 1) := by decide +kernel
set_option maxRecDepth 4000 in
set_option maxHeartbeats 4000000 in
theorem m_X2_endDay (l : Launch) (g : qGm) (M : qMem) {u : Nat} (hu : u < 33) {n : Int} (hn6 : 0 ≤ n ∧ n ≤ 6) (ho : 0 ≤ M 10 u 1 ∧ M 10 u 1 < 64) (hb : ∀ h, 0 ≤ h → h < n → 0 ≤ M 14 u h ∧ M 14 u h ≤ 40) (hd : 0 ≤ M 10 u 0 ∧ M 10 u 0 ≤ 90030) : qOk l g 2 yX2_endDay cX2_endDay 4 none [qR g 10 u, qI n] M (qEv none (xDay M u n)) := by
  refine q_ok (by decide +kernel) (Nat.le_of_ble_eq_true rfl) (fun X C' hn => ?_)
  have C := C'.1
  refine q_iconst C dX2_endDay_0 ?_
  refine q_istoren C dX2_endDay_1 hn (by decide) rfl ?_
  have L2 : ∀ (n2 : Nat) (i : Int) (N : qMem), n - i < (n2 : Int) → (0 ≤ i) → (i ≤ n) → (N = qPre M 14 u (fun h => xHard (M 10 u 1) (M 14 u h) h) i) → qV l g X N 2 [(0, qR g 10 u), (1, qI n), (2, qI i)] [] := by
    intro n2
    induction n2 with
    | zero => intro i N hm2 h0 h1 hN; exfalso; first | omega | (simp at *; omega)
    | succ n2 ih2 =>
      intro i N hm2 h0 h1 hN
      subst hN
      have hbi := hb i h0
      have e1 := q_shr1 ho.1 ho.2 h0 (show i < 8 by omega)
      refine q_iloadn C dX2_endDay_2 rfl ?_
      refine q_iloadn C dX2_endDay_3 rfl ?_
      refine q_icmp_ge C 74 dX2_endDay_4 (by decide) (by first | assumption | omega | exact q_tin _ | exact q_bIn _) (by first | assumption | omega | exact q_tin _ | exact q_bIn _) (fun h4 => ?_) (fun h4 => ?_)
      · refine q_aloadn C dX2_endDay_74 rfl ?_
        refine q_iconst C dX2_endDay_75 ?_
        refine pf_RX2_15 C (by first | assumption | decide | omega) (by first | assumption | omega | exact q_tin _ | exact q_bIn _) dX2_endDay_76 ?_
        refine q_aloadn C dX2_endDay_79 rfl ?_
        refine q_dup C dX2_endDay_80 rfl ?_
        refine gf_RX2_9 C (by first | assumption | decide | omega) dX2_endDay_81 (fun r81 => ?_)
        try simp only [q_rd, q_rdS, ↓reduceIte, if_true, if_false, eq_self, Nat.reduceEqDiff, Int.reduceEq, Int.reduceNeg, reduceCtorEq, qPre_rd, q_ii] at r81 ⊢
        refine q_iconst C dX2_endDay_84 ?_
        refine q_iadd C dX2_endDay_85 ?_
        refine pf_RX2_9 C (by first | assumption | decide | omega) (by first | assumption | omega | exact q_tin _ | exact q_bIn _) dX2_endDay_86 ?_
        refine q_vret C' dX2_endDay_89 ?_
        first | (have e9 : i = n := (by omega); subst e9; exact ⟨rfl, rfl⟩) | (exfalso; omega)
      · refine q_iloadn C dX2_endDay_7 rfl ?_
        refine q_bipush C dX2_endDay_8 (by decide) ?_
        refine q_icmp_ge C 74 dX2_endDay_10 (by decide) (by first | assumption | omega | exact q_tin _ | exact q_bIn _) (by first | assumption | omega | exact q_tin _ | exact q_bIn _) (fun h10 => ?_) (fun h10 => ?_)
        · refine q_aloadn C dX2_endDay_74 rfl ?_
          refine q_iconst C dX2_endDay_75 ?_
          refine pf_RX2_15 C (by first | assumption | decide | omega) (by first | assumption | omega | exact q_tin _ | exact q_bIn _) dX2_endDay_76 ?_
          refine q_aloadn C dX2_endDay_79 rfl ?_
          refine q_dup C dX2_endDay_80 rfl ?_
          refine gf_RX2_9 C (by first | assumption | decide | omega) dX2_endDay_81 (fun r81 => ?_)
          try simp only [q_rd, q_rdS, ↓reduceIte, if_true, if_false, eq_self, Nat.reduceEqDiff, Int.reduceEq, Int.reduceNeg, reduceCtorEq, qPre_rd, q_ii] at r81 ⊢
          refine q_iconst C dX2_endDay_84 ?_
          refine q_iadd C dX2_endDay_85 ?_
          refine pf_RX2_9 C (by first | assumption | decide | omega) (by first | assumption | omega | exact q_tin _ | exact q_bIn _) dX2_endDay_86 ?_
          refine q_vret C' dX2_endDay_89 ?_
          first | (have e9 : i = n := (by omega); subst e9; exact ⟨rfl, rfl⟩) | (exfalso; omega)
        · refine q_aloadn C dX2_endDay_13 rfl ?_
          refine gf_RX2_15 C (by first | assumption | decide | omega) dX2_endDay_14 (fun r14 => ?_)
          try simp only [q_rd, q_rdS, ↓reduceIte, if_true, if_false, eq_self, Nat.reduceEqDiff, Int.reduceEq, Int.reduceNeg, reduceCtorEq, qPre_rd, q_ii] at r14 ⊢
          refine q_iloadn C dX2_endDay_17 rfl ?_
          refine q_ishr C dX2_endDay_18 ?_
          refine q_iconst C dX2_endDay_19 ?_
          refine q_iand C dX2_endDay_20 ?_
          refine q_if_eq C 28 dX2_endDay_21 (by decide) (by first | assumption | omega | exact q_tin _ | exact q_bIn _) (fun h21 => ?_) (fun h21 => ?_)
          · refine q_iconst C dX2_endDay_28 ?_
            refine q_istoren C dX2_endDay_29 hn (by decide) rfl ?_
            refine q_aloadn C dX2_endDay_30 rfl ?_
            refine gf_RX2_28 C (by first | assumption | decide | omega) dX2_endDay_31 ?_
            refine q_iloadn C dX2_endDay_34 rfl ?_
            refine q_iloadn C dX2_endDay_35 rfl ?_
            refine q_if_eq C 55 dX2_endDay_36 (by decide) (by first | assumption | omega | exact q_tin _ | exact q_bIn _) (fun h36 => ?_) (fun h36 => ?_)
            · refine q_aloadn C dX2_endDay_55 rfl ?_
              refine gf_RX2_28 C (by first | assumption | decide | omega) dX2_endDay_56 ?_
              refine q_iloadn C dX2_endDay_59 rfl ?_
              refine q_iald C (by first | assumption | decide | omega) rfl dX2_endDay_60 (by omega) (by omega) (by decide) (fun r60 => ?_)
              try simp only [q_rd, q_rdS, ↓reduceIte, if_true, if_false, eq_self, Nat.reduceEqDiff, Int.reduceEq, Int.reduceNeg, reduceCtorEq, qPre_rd, q_ii] at r60 ⊢
              refine q_iconst C dX2_endDay_61 ?_
              refine q_isub C dX2_endDay_62 ?_
              refine q_iconst C dX2_endDay_63 ?_
              refine q_mmax C q_ml_RX2_90 (by first | assumption | omega | exact q_tin _ | exact q_bIn _) (by first | assumption | omega | exact q_tin _ | exact q_bIn _) (by decide) (Nat.le_of_ble_eq_true rfl) dX2_endDay_64 (fun r64 => ?_)
              refine q_iast C (by first | assumption | decide | omega) (fun _ => rfl) dX2_endDay_67 (by omega) (by omega) (by decide) (by first | assumption | omega | exact q_tin _ | exact q_bIn _) ?_
              refine q_iinc C dX2_endDay_68 rfl hn (by decide) rfl ?_
              refine q_goto C (tgt := 2) dX2_endDay_71 (by decide) ?_
              exact q_ls (by exact ⟨rfl, rfl, rfl, trivial⟩) (ih2 _ _ (by omega) (by omega) (by omega) (by refine qPre_s _ _ _ _ h0 ?_; unfold xHard; first | (rw [if_pos (by show _ / _ % 2 = 1; omega)]; done) | (rw [if_neg (by show ¬ _ / _ % 2 = 1; omega)]; done) | (exfalso; omega)))
            · refine q_aloadn C dX2_endDay_39 rfl ?_
              refine gf_RX2_28 C (by first | assumption | decide | omega) dX2_endDay_40 ?_
              refine q_iloadn C dX2_endDay_43 rfl ?_
              refine q_iald C (by first | assumption | decide | omega) rfl dX2_endDay_44 (by omega) (by omega) (by decide) (fun r44 => ?_)
              try simp only [q_rd, q_rdS, ↓reduceIte, if_true, if_false, eq_self, Nat.reduceEqDiff, Int.reduceEq, Int.reduceNeg, reduceCtorEq, qPre_rd, q_ii] at r44 ⊢
              refine q_iconst C dX2_endDay_45 ?_
              refine q_iadd C dX2_endDay_46 ?_
              refine q_bipush C dX2_endDay_47 (by decide) ?_
              refine q_mmin C q_ml_RX2_85 (by first | assumption | omega | exact q_tin _ | exact q_bIn _) (by first | assumption | omega | exact q_tin _ | exact q_bIn _) (by decide) (Nat.le_of_ble_eq_true rfl) dX2_endDay_49 (fun r49 => ?_)
              refine q_goto C (tgt := 67) dX2_endDay_52 (by decide) ?_
              refine q_iast C (by first | assumption | decide | omega) (fun _ => rfl) dX2_endDay_67 (by omega) (by omega) (by decide) (by first | assumption | omega | exact q_tin _ | exact q_bIn _) ?_
              refine q_iinc C dX2_endDay_68 rfl hn (by decide) rfl ?_
              refine q_goto C (tgt := 2) dX2_endDay_71 (by decide) ?_
              exact q_ls (by exact ⟨rfl, rfl, rfl, trivial⟩) (ih2 _ _ (by omega) (by omega) (by omega) (by refine qPre_s _ _ _ _ h0 ?_; unfold xHard; first | (rw [if_pos (by show _ / _ % 2 = 1; omega)]; done) | (rw [if_neg (by show ¬ _ / _ % 2 = 1; omega)]; done) | (exfalso; omega)))
          · refine q_iconst C dX2_endDay_24 ?_
            refine q_goto C (tgt := 29) dX2_endDay_25 (by decide) ?_
            refine q_istoren C dX2_endDay_29 hn (by decide) rfl ?_
            refine q_aloadn C dX2_endDay_30 rfl ?_
            refine gf_RX2_28 C (by first | assumption | decide | omega) dX2_endDay_31 ?_
            refine q_iloadn C dX2_endDay_34 rfl ?_
            refine q_iloadn C dX2_endDay_35 rfl ?_
            refine q_if_eq C 55 dX2_endDay_36 (by decide) (by first | assumption | omega | exact q_tin _ | exact q_bIn _) (fun h36 => ?_) (fun h36 => ?_)
            · refine q_aloadn C dX2_endDay_55 rfl ?_
              refine gf_RX2_28 C (by first | assumption | decide | omega) dX2_endDay_56 ?_
              refine q_iloadn C dX2_endDay_59 rfl ?_
              refine q_iald C (by first | assumption | decide | omega) rfl dX2_endDay_60 (by omega) (by omega) (by decide) (fun r60 => ?_)
              try simp only [q_rd, q_rdS, ↓reduceIte, if_true, if_false, eq_self, Nat.reduceEqDiff, Int.reduceEq, Int.reduceNeg, reduceCtorEq, qPre_rd, q_ii] at r60 ⊢
              refine q_iconst C dX2_endDay_61 ?_
              refine q_isub C dX2_endDay_62 ?_
              refine q_iconst C dX2_endDay_63 ?_
              refine q_mmax C q_ml_RX2_90 (by first | assumption | omega | exact q_tin _ | exact q_bIn _) (by first | assumption | omega | exact q_tin _ | exact q_bIn _) (by decide) (Nat.le_of_ble_eq_true rfl) dX2_endDay_64 (fun r64 => ?_)
              refine q_iast C (by first | assumption | decide | omega) (fun _ => rfl) dX2_endDay_67 (by omega) (by omega) (by decide) (by first | assumption | omega | exact q_tin _ | exact q_bIn _) ?_
              refine q_iinc C dX2_endDay_68 rfl hn (by decide) rfl ?_
              refine q_goto C (tgt := 2) dX2_endDay_71 (by decide) ?_
              exact q_ls (by exact ⟨rfl, rfl, rfl, trivial⟩) (ih2 _ _ (by omega) (by omega) (by omega) (by refine qPre_s _ _ _ _ h0 ?_; unfold xHard; first | (rw [if_pos (by show _ / _ % 2 = 1; omega)]; done) | (rw [if_neg (by show ¬ _ / _ % 2 = 1; omega)]; done) | (exfalso; omega)))
            · refine q_aloadn C dX2_endDay_39 rfl ?_
              refine gf_RX2_28 C (by first | assumption | decide | omega) dX2_endDay_40 ?_
              refine q_iloadn C dX2_endDay_43 rfl ?_
              refine q_iald C (by first | assumption | decide | omega) rfl dX2_endDay_44 (by omega) (by omega) (by decide) (fun r44 => ?_)
              try simp only [q_rd, q_rdS, ↓reduceIte, if_true, if_false, eq_self, Nat.reduceEqDiff, Int.reduceEq, Int.reduceNeg, reduceCtorEq, qPre_rd, q_ii] at r44 ⊢
              refine q_iconst C dX2_endDay_45 ?_
              refine q_iadd C dX2_endDay_46 ?_
              refine q_bipush C dX2_endDay_47 (by decide) ?_
              refine q_mmin C q_ml_RX2_85 (by first | assumption | omega | exact q_tin _ | exact q_bIn _) (by first | assumption | omega | exact q_tin _ | exact q_bIn _) (by decide) (Nat.le_of_ble_eq_true rfl) dX2_endDay_49 (fun r49 => ?_)
              refine q_goto C (tgt := 67) dX2_endDay_52 (by decide) ?_
              refine q_iast C (by first | assumption | decide | omega) (fun _ => rfl) dX2_endDay_67 (by omega) (by omega) (by decide) (by first | assumption | omega | exact q_tin _ | exact q_bIn _) ?_
              refine q_iinc C dX2_endDay_68 rfl hn (by decide) rfl ?_
              refine q_goto C (tgt := 2) dX2_endDay_71 (by decide) ?_
              exact q_ls (by exact ⟨rfl, rfl, rfl, trivial⟩) (ih2 _ _ (by omega) (by omega) (by omega) (by refine qPre_s _ _ _ _ h0 ?_; unfold xHard; first | (rw [if_pos (by show _ / _ % 2 = 1; omega)]; done) | (rw [if_neg (by show ¬ _ / _ % 2 = 1; omega)]; done) | (exfalso; omega)))
  exact q_ls (by exact ⟨rfl, rfl, rfl, trivial⟩) (L2 1000 0 M (by omega) (by omega) (by omega) (by exact (qPre_0 _ _ _ _).symm))
/-- a hall as a season begins -/
def xOpen (M : qMem) (u w : Nat) : qMem := qUp (qUp (qSet (qSet (qSet (qSet (qSet (qSet (qUp (qUp M 10 u 0 0) 10 u 1 0) 11 u (M 5 w)) 12 u (M 6 w)) 14 u (M 7 w)) 13 u (fun _ => 0)) 15 u (fun _ => 0)) 16 u (fun _ => 0)) 17 u 1 0) 17 u 2 0
/-- a hall becomes another -/
def xBec (M : qMem) (u w : Nat) : qMem := qSet (qUp (qUp (qSet (qSet (qSet (qSet (qSet (qSet (qUp (qUp M 10 u 0 (M 10 w 0)) 10 u 1 (M 10 w 1)) 11 u (M 11 w)) 12 u (M 12 w)) 13 u (M 13 w)) 14 u (M 14 w)) 15 u (M 15 w)) 16 u (M 16 w)) 17 u 1 (M 17 w 1)) 17 u 2 (M 17 w 2)) 18 u (M 18 w)
theorem dX2_open_0 : decode cX2_open 0 = .ok (.aload_n 0, 1) := by decide +kernel
theorem dX2_open_1 : decode cX2_open 1 = .ok (.iconst 0, 1) := by decide +kernel
theorem dX2_open_2 : decode cX2_open 2 = .ok (.putfield 9, 3) := by decide +kernel
theorem dX2_open_5 : decode cX2_open 5 = .ok (.aload_n 0, 1) := by decide +kernel
theorem dX2_open_6 : decode cX2_open 6 = .ok (.iconst 0, 1) := by decide +kernel
theorem dX2_open_7 : decode cX2_open 7 = .ok (.putfield 15, 3) := by decide +kernel
theorem dX2_open_10 : decode cX2_open 10 = .ok (.aload_n 1, 1) := by decide +kernel
theorem dX2_open_11 : decode cX2_open 11 = .ok (.getfield 44, 3) := by decide +kernel
theorem dX2_open_14 : decode cX2_open 14 = .ok (.iconst 0, 1) := by decide +kernel
theorem dX2_open_15 : decode cX2_open 15 = .ok (.aload_n 0, 1) := by decide +kernel
theorem dX2_open_16 : decode cX2_open 16 = .ok (.getfield 18, 3) := by decide +kernel
theorem dX2_open_19 : decode cX2_open 19 = .ok (.iconst 0, 1) := by decide +kernel
theorem dX2_open_20 : decode cX2_open 20 = .ok (.bipush 6, 2) := by decide +kernel
theorem dX2_open_22 : decode cX2_open 22 = .ok (.invokestatic 49, 3) := by decide +kernel
theorem dX2_open_25 : decode cX2_open 25 = .ok (.aload_n 1, 1) := by decide +kernel
theorem dX2_open_26 : decode cX2_open 26 = .ok (.getfield 55, 3) := by decide +kernel
theorem dX2_open_29 : decode cX2_open 29 = .ok (.iconst 0, 1) := by decide +kernel
theorem dX2_open_30 : decode cX2_open 30 = .ok (.aload_n 0, 1) := by decide +kernel
theorem dX2_open_31 : decode cX2_open 31 = .ok (.getfield 22, 3) := by decide +kernel
theorem dX2_open_34 : decode cX2_open 34 = .ok (.iconst 0, 1) := by decide +kernel
theorem dX2_open_35 : decode cX2_open 35 = .ok (.bipush 6, 2) := by decide +kernel
theorem dX2_open_37 : decode cX2_open 37 = .ok (.invokestatic 49, 3) := by decide +kernel
theorem dX2_open_40 : decode cX2_open 40 = .ok (.aload_n 1, 1) := by decide +kernel
theorem dX2_open_41 : decode cX2_open 41 = .ok (.getfield 58, 3) := by decide +kernel
theorem dX2_open_44 : decode cX2_open 44 = .ok (.iconst 0, 1) := by decide +kernel
theorem dX2_open_45 : decode cX2_open 45 = .ok (.aload_n 0, 1) := by decide +kernel
theorem dX2_open_46 : decode cX2_open 46 = .ok (.getfield 28, 3) := by decide +kernel
theorem dX2_open_49 : decode cX2_open 49 = .ok (.iconst 0, 1) := by decide +kernel
theorem dX2_open_50 : decode cX2_open 50 = .ok (.bipush 6, 2) := by decide +kernel
theorem dX2_open_52 : decode cX2_open 52 = .ok (.invokestatic 49, 3) := by decide +kernel
theorem dX2_open_55 : decode cX2_open 55 = .ok (.aload_n 0, 1) := by decide +kernel
theorem dX2_open_56 : decode cX2_open 56 = .ok (.getfield 25, 3) := by decide +kernel
theorem dX2_open_59 : decode cX2_open 59 = .ok (.iconst 0, 1) := by decide +kernel
theorem dX2_open_60 : decode cX2_open 60 = .ok (.invokestatic 61, 3) := by decide +kernel
theorem dX2_open_63 : decode cX2_open 63 = .ok (.aload_n 0, 1) := by decide +kernel
theorem dX2_open_64 : decode cX2_open 64 = .ok (.getfield 31, 3) := by decide +kernel
theorem dX2_open_67 : decode cX2_open 67 = .ok (.iconst 0, 1) := by decide +kernel
theorem dX2_open_68 : decode cX2_open 68 = .ok (.invokestatic 61, 3) := by decide +kernel
theorem dX2_open_71 : decode cX2_open 71 = .ok (.aload_n 0, 1) := by decide +kernel
theorem dX2_open_72 : decode cX2_open 72 = .ok (.getfield 34, 3) := by decide +kernel
theorem dX2_open_75 : decode cX2_open 75 = .ok (.iconst 0, 1) := by decide +kernel
theorem dX2_open_76 : decode cX2_open 76 = .ok (.invokestatic 61, 3) := by decide +kernel
theorem dX2_open_79 : decode cX2_open 79 = .ok (.aload_n 0, 1) := by decide +kernel
theorem dX2_open_80 : decode cX2_open 80 = .ok (.getfield 40, 3) := by decide +kernel
theorem dX2_open_83 : decode cX2_open 83 = .ok (.invokevirtual 67, 3) := by decide +kernel
theorem dX2_open_86 : decode cX2_open 86 = .ok (.return_, 1) := by decide +kernel
set_option maxRecDepth 4000 in
set_option maxHeartbeats 4000000 in
theorem m_X2_open (l : Launch) (g : qGm) (M : qMem) {u : Nat} (hu : u < 33) {w : Nat} (hw : w < 2) : qOk l g 2 yX2_open cX2_open 2 none [qR g 10 u, qR g 3 w] M (qEv none (xOpen M u w)) := by
  refine q_ok (by decide +kernel) (Nat.le_of_ble_eq_true rfl) (fun X C' hn => ?_)
  have C := C'.1
  refine q_aloadn C dX2_open_0 rfl ?_
  refine q_iconst C dX2_open_1 ?_
  refine pf_RX2_9 C (by first | assumption | decide | omega) (by first | assumption | omega | exact q_tin _ | exact q_bIn _) dX2_open_2 ?_
  refine q_aloadn C dX2_open_5 rfl ?_
  refine q_iconst C dX2_open_6 ?_
  refine pf_RX2_15 C (by first | assumption | decide | omega) (by first | assumption | omega | exact q_tin _ | exact q_bIn _) dX2_open_7 ?_
  refine q_aloadn C dX2_open_10 rfl ?_
  refine gf_RX2_44 C (by first | assumption | decide | omega) dX2_open_11 ?_
  refine q_iconst C dX2_open_14 ?_
  refine q_aloadn C dX2_open_15 rfl ?_
  refine gf_RX2_18 C (by first | assumption | decide | omega) dX2_open_16 ?_
  refine q_iconst C dX2_open_19 ?_
  refine q_bipush C dX2_open_20 (by decide) ?_
  refine q_copy C (by first | assumption | decide) (by first | assumption | decide) rfl (fun _ => rfl) (by decide) q_ml_RX2_49 q_nat q_sta q_sin (by decide) (Nat.le_of_ble_eq_true rfl) dX2_open_22 ?_
  simp only [q_rdR, q_rdSR, q_rd, q_rdS, ↓reduceIte, if_true, if_false, eq_self, Nat.reduceEqDiff, Int.reduceEq, Int.reduceNeg, reduceCtorEq]
  refine q_aloadn C dX2_open_25 rfl ?_
  refine gf_RX2_55 C (by first | assumption | decide | omega) dX2_open_26 ?_
  refine q_iconst C dX2_open_29 ?_
  refine q_aloadn C dX2_open_30 rfl ?_
  refine gf_RX2_22 C (by first | assumption | decide | omega) dX2_open_31 ?_
  refine q_iconst C dX2_open_34 ?_
  refine q_bipush C dX2_open_35 (by decide) ?_
  refine q_copy C (by first | assumption | decide) (by first | assumption | decide) rfl (fun _ => rfl) (by decide) q_ml_RX2_49 q_nat q_sta q_sin (by decide) (Nat.le_of_ble_eq_true rfl) dX2_open_37 ?_
  simp only [q_rdR, q_rdSR, q_rd, q_rdS, ↓reduceIte, if_true, if_false, eq_self, Nat.reduceEqDiff, Int.reduceEq, Int.reduceNeg, reduceCtorEq]
  refine q_aloadn C dX2_open_40 rfl ?_
  refine gf_RX2_58 C (by first | assumption | decide | omega) dX2_open_41 ?_
  refine q_iconst C dX2_open_44 ?_
  refine q_aloadn C dX2_open_45 rfl ?_
  refine gf_RX2_28 C (by first | assumption | decide | omega) dX2_open_46 ?_
  refine q_iconst C dX2_open_49 ?_
  refine q_bipush C dX2_open_50 (by decide) ?_
  refine q_copy C (by first | assumption | decide) (by first | assumption | decide) rfl (fun _ => rfl) (by decide) q_ml_RX2_49 q_nat q_sta q_sin (by decide) (Nat.le_of_ble_eq_true rfl) dX2_open_52 ?_
  simp only [q_rdR, q_rdSR, q_rd, q_rdS, ↓reduceIte, if_true, if_false, eq_self, Nat.reduceEqDiff, Int.reduceEq, Int.reduceNeg, reduceCtorEq]
  refine q_aloadn C dX2_open_55 rfl ?_
  refine gf_RX2_25 C (by first | assumption | decide | omega) dX2_open_56 ?_
  refine q_iconst C dX2_open_59 ?_
  refine cv_RX2_61 C (by decide) (m_J7_fill l g _ (by assumption) (fun _ => rfl) (by decide) (by omega)) dX2_open_60 (Nat.le_of_ble_eq_true rfl) ?_
  refine q_aloadn C dX2_open_63 rfl ?_
  refine gf_RX2_31 C (by first | assumption | decide | omega) dX2_open_64 ?_
  refine q_iconst C dX2_open_67 ?_
  refine cv_RX2_61 C (by decide) (m_J7_fill l g _ (by assumption) (fun _ => rfl) (by decide) (by omega)) dX2_open_68 (Nat.le_of_ble_eq_true rfl) ?_
  refine q_aloadn C dX2_open_71 rfl ?_
  refine gf_RX2_34 C (by first | assumption | decide | omega) dX2_open_72 ?_
  refine q_iconst C dX2_open_75 ?_
  refine cv_RX2_61 C (by decide) (m_J7_fill l g _ (by assumption) (fun _ => rfl) (by decide) (by omega)) dX2_open_76 (Nat.le_of_ble_eq_true rfl) ?_
  refine q_aloadn C dX2_open_79 rfl ?_
  refine gf_RX2_40 C (by first | assumption | decide | omega) dX2_open_80 ?_
  refine cv_RX2_67 C (by decide) (by first | assumption | decide | omega) (m_X4_empty l g _ hu) dX2_open_83 (Nat.le_of_ble_eq_true rfl) ?_
  refine q_vret C' dX2_open_86 ?_
  exact ⟨rfl, rfl⟩
theorem dX2_become_0 : decode cX2_become 0 = .ok (.aload_n 0, 1) := by decide +kernel
theorem dX2_become_1 : decode cX2_become 1 = .ok (.aload_n 1, 1) := by decide +kernel
theorem dX2_become_2 : decode cX2_become 2 = .ok (.getfield 9, 3) := by decide +kernel
theorem dX2_become_5 : decode cX2_become 5 = .ok (.putfield 9, 3) := by decide +kernel
theorem dX2_become_8 : decode cX2_become 8 = .ok (.aload_n 0, 1) := by decide +kernel
theorem dX2_become_9 : decode cX2_become 9 = .ok (.aload_n 1, 1) := by decide +kernel
theorem dX2_become_10 : decode cX2_become 10 = .ok (.getfield 15, 3) := by decide +kernel
theorem dX2_become_13 : decode cX2_become 13 = .ok (.putfield 15, 3) := by decide +kernel
theorem dX2_become_16 : decode cX2_become 16 = .ok (.aload_n 1, 1) := by decide +kernel
theorem dX2_become_17 : decode cX2_become 17 = .ok (.getfield 18, 3) := by decide +kernel
theorem dX2_become_20 : decode cX2_become 20 = .ok (.iconst 0, 1) := by decide +kernel
theorem dX2_become_21 : decode cX2_become 21 = .ok (.aload_n 0, 1) := by decide +kernel
theorem dX2_become_22 : decode cX2_become 22 = .ok (.getfield 18, 3) := by decide +kernel
theorem dX2_become_25 : decode cX2_become 25 = .ok (.iconst 0, 1) := by decide +kernel
theorem dX2_become_26 : decode cX2_become 26 = .ok (.bipush 6, 2) := by decide +kernel
theorem dX2_become_28 : decode cX2_become 28 = .ok (.invokestatic 49, 3) := by decide +kernel
theorem dX2_become_31 : decode cX2_become 31 = .ok (.aload_n 1, 1) := by decide +kernel
theorem dX2_become_32 : decode cX2_become 32 = .ok (.getfield 22, 3) := by decide +kernel
theorem dX2_become_35 : decode cX2_become 35 = .ok (.iconst 0, 1) := by decide +kernel
theorem dX2_become_36 : decode cX2_become 36 = .ok (.aload_n 0, 1) := by decide +kernel
theorem dX2_become_37 : decode cX2_become 37 = .ok (.getfield 22, 3) := by decide +kernel
theorem dX2_become_40 : decode cX2_become 40 = .ok (.iconst 0, 1) := by decide +kernel
theorem dX2_become_41 : decode cX2_become 41 = .ok (.bipush 6, 2) := by decide +kernel
theorem dX2_become_43 : decode cX2_become 43 = .ok (.invokestatic 49, 3) := by decide +kernel
theorem dX2_become_46 : decode cX2_become 46 = .ok (.aload_n 1, 1) := by decide +kernel
theorem dX2_become_47 : decode cX2_become 47 = .ok (.getfield 25, 3) := by decide +kernel
theorem dX2_become_50 : decode cX2_become 50 = .ok (.iconst 0, 1) := by decide +kernel
theorem dX2_become_51 : decode cX2_become 51 = .ok (.aload_n 0, 1) := by decide +kernel
theorem dX2_become_52 : decode cX2_become 52 = .ok (.getfield 25, 3) := by decide +kernel
theorem dX2_become_55 : decode cX2_become 55 = .ok (.iconst 0, 1) := by decide +kernel
theorem dX2_become_56 : decode cX2_become 56 = .ok (.bipush 6, 2) := by decide +kernel
theorem dX2_become_58 : decode cX2_become 58 = .ok (.invokestatic 49, 3) := by decide +kernel
theorem dX2_become_61 : decode cX2_become 61 = .ok (.aload_n 1, 1) := by decide +kernel
theorem dX2_become_62 : decode cX2_become 62 = .ok (.getfield 28, 3) := by decide +kernel
theorem dX2_become_65 : decode cX2_become 65 = .ok (.iconst 0, 1) := by decide +kernel
theorem dX2_become_66 : decode cX2_become 66 = .ok (.aload_n 0, 1) := by decide +kernel
theorem dX2_become_67 : decode cX2_become 67 = .ok (.getfield 28, 3) := by decide +kernel
theorem dX2_become_70 : decode cX2_become 70 = .ok (.iconst 0, 1) := by decide +kernel
theorem dX2_become_71 : decode cX2_become 71 = .ok (.bipush 6, 2) := by decide +kernel
theorem dX2_become_73 : decode cX2_become 73 = .ok (.invokestatic 49, 3) := by decide +kernel
theorem dX2_become_76 : decode cX2_become 76 = .ok (.aload_n 1, 1) := by decide +kernel
theorem dX2_become_77 : decode cX2_become 77 = .ok (.getfield 31, 3) := by decide +kernel
theorem dX2_become_80 : decode cX2_become 80 = .ok (.iconst 0, 1) := by decide +kernel
theorem dX2_become_81 : decode cX2_become 81 = .ok (.aload_n 0, 1) := by decide +kernel
theorem dX2_become_82 : decode cX2_become 82 = .ok (.getfield 31, 3) := by decide +kernel
theorem dX2_become_85 : decode cX2_become 85 = .ok (.iconst 0, 1) := by decide +kernel
theorem dX2_become_86 : decode cX2_become 86 = .ok (.bipush 36, 2) := by decide +kernel
theorem dX2_become_88 : decode cX2_become 88 = .ok (.invokestatic 49, 3) := by decide +kernel
theorem dX2_become_91 : decode cX2_become 91 = .ok (.aload_n 1, 1) := by decide +kernel
theorem dX2_become_92 : decode cX2_become 92 = .ok (.getfield 34, 3) := by decide +kernel
theorem dX2_become_95 : decode cX2_become 95 = .ok (.iconst 0, 1) := by decide +kernel
theorem dX2_become_96 : decode cX2_become 96 = .ok (.aload_n 0, 1) := by decide +kernel
theorem dX2_become_97 : decode cX2_become 97 = .ok (.getfield 34, 3) := by decide +kernel
theorem dX2_become_100 : decode cX2_become 100 = .ok (.iconst 0, 1) := by decide +kernel
theorem dX2_become_101 : decode cX2_become 101 = .ok (.bipush 36, 2) := by decide +kernel
theorem dX2_become_103 : decode cX2_become 103 = .ok (.invokestatic 49, 3) := by decide +kernel
theorem dX2_become_106 : decode cX2_become 106 = .ok (.aload_n 0, 1) := by decide +kernel
theorem dX2_become_107 : decode cX2_become 107 = .ok (.getfield 40, 3) := by decide +kernel
theorem dX2_become_110 : decode cX2_become 110 = .ok (.aload_n 1, 1) := by decide +kernel
theorem dX2_become_111 : decode cX2_become 111 = .ok (.getfield 40, 3) := by decide +kernel
theorem dX2_become_114 : decode cX2_become 114 = .ok (.invokevirtual 70, 3) := by decide +kernel
theorem dX2_become_117 : decode cX2_become 117 = .ok (.return_, 1) := by decide +kernel
set_option maxRecDepth 4000 in
set_option maxHeartbeats 4000000 in
theorem m_X2_become (l : Launch) (g : qGm) (M : qMem) {u : Nat} (hu : u < 33) {w : Nat} (hw : w < 33) (hne : ¬ w = u) : qOk l g 2 yX2_become cX2_become 2 none [qR g 10 u, qR g 10 w] M (qEv none (xBec M u w)) := by
  refine q_ok (by decide +kernel) (Nat.le_of_ble_eq_true rfl) (fun X C' hn => ?_)
  have C := C'.1
  refine q_aloadn C dX2_become_0 rfl ?_
  refine q_aloadn C dX2_become_1 rfl ?_
  refine gf_RX2_9 C (by first | assumption | decide | omega) dX2_become_2 (fun r2 => ?_)
  refine pf_RX2_9 C (by first | assumption | decide | omega) (by first | assumption | omega | exact q_tin _ | exact q_bIn _) dX2_become_5 ?_
  refine q_aloadn C dX2_become_8 rfl ?_
  refine q_aloadn C dX2_become_9 rfl ?_
  refine gf_RX2_15 C (by first | assumption | decide | omega) dX2_become_10 (fun r10 => ?_)
  try simp only [q_rd, q_rdS, ↓reduceIte, if_true, if_false, eq_self, Nat.reduceEqDiff, Int.reduceEq, Int.reduceNeg, reduceCtorEq, if_neg hne] at r10 ⊢
  refine pf_RX2_15 C (by first | assumption | decide | omega) (by first | assumption | omega | exact q_tin _ | exact q_bIn _) dX2_become_13 ?_
  refine q_aloadn C dX2_become_16 rfl ?_
  refine gf_RX2_18 C (by first | assumption | decide | omega) dX2_become_17 ?_
  refine q_iconst C dX2_become_20 ?_
  refine q_aloadn C dX2_become_21 rfl ?_
  refine gf_RX2_18 C (by first | assumption | decide | omega) dX2_become_22 ?_
  refine q_iconst C dX2_become_25 ?_
  refine q_bipush C dX2_become_26 (by decide) ?_
  refine q_copy C (by first | assumption | decide) (by first | assumption | decide) rfl (fun _ => rfl) (by decide) q_ml_RX2_49 q_nat q_sta q_sin (by decide) (Nat.le_of_ble_eq_true rfl) dX2_become_28 ?_
  simp only [q_rdR, q_rdSR, q_rd, q_rdS, ↓reduceIte, if_true, if_false, eq_self, Nat.reduceEqDiff, Int.reduceEq, Int.reduceNeg, reduceCtorEq, if_neg hne]
  refine q_aloadn C dX2_become_31 rfl ?_
  refine gf_RX2_22 C (by first | assumption | decide | omega) dX2_become_32 ?_
  refine q_iconst C dX2_become_35 ?_
  refine q_aloadn C dX2_become_36 rfl ?_
  refine gf_RX2_22 C (by first | assumption | decide | omega) dX2_become_37 ?_
  refine q_iconst C dX2_become_40 ?_
  refine q_bipush C dX2_become_41 (by decide) ?_
  refine q_copy C (by first | assumption | decide) (by first | assumption | decide) rfl (fun _ => rfl) (by decide) q_ml_RX2_49 q_nat q_sta q_sin (by decide) (Nat.le_of_ble_eq_true rfl) dX2_become_43 ?_
  simp only [q_rdR, q_rdSR, q_rd, q_rdS, ↓reduceIte, if_true, if_false, eq_self, Nat.reduceEqDiff, Int.reduceEq, Int.reduceNeg, reduceCtorEq, if_neg hne]
  refine q_aloadn C dX2_become_46 rfl ?_
  refine gf_RX2_25 C (by first | assumption | decide | omega) dX2_become_47 ?_
  refine q_iconst C dX2_become_50 ?_
  refine q_aloadn C dX2_become_51 rfl ?_
  refine gf_RX2_25 C (by first | assumption | decide | omega) dX2_become_52 ?_
  refine q_iconst C dX2_become_55 ?_
  refine q_bipush C dX2_become_56 (by decide) ?_
  refine q_copy C (by first | assumption | decide) (by first | assumption | decide) rfl (fun _ => rfl) (by decide) q_ml_RX2_49 q_nat q_sta q_sin (by decide) (Nat.le_of_ble_eq_true rfl) dX2_become_58 ?_
  simp only [q_rdR, q_rdSR, q_rd, q_rdS, ↓reduceIte, if_true, if_false, eq_self, Nat.reduceEqDiff, Int.reduceEq, Int.reduceNeg, reduceCtorEq, if_neg hne]
  refine q_aloadn C dX2_become_61 rfl ?_
  refine gf_RX2_28 C (by first | assumption | decide | omega) dX2_become_62 ?_
  refine q_iconst C dX2_become_65 ?_
  refine q_aloadn C dX2_become_66 rfl ?_
  refine gf_RX2_28 C (by first | assumption | decide | omega) dX2_become_67 ?_
  refine q_iconst C dX2_become_70 ?_
  refine q_bipush C dX2_become_71 (by decide) ?_
  refine q_copy C (by first | assumption | decide) (by first | assumption | decide) rfl (fun _ => rfl) (by decide) q_ml_RX2_49 q_nat q_sta q_sin (by decide) (Nat.le_of_ble_eq_true rfl) dX2_become_73 ?_
  simp only [q_rdR, q_rdSR, q_rd, q_rdS, ↓reduceIte, if_true, if_false, eq_self, Nat.reduceEqDiff, Int.reduceEq, Int.reduceNeg, reduceCtorEq, if_neg hne]
  refine q_aloadn C dX2_become_76 rfl ?_
  refine gf_RX2_31 C (by first | assumption | decide | omega) dX2_become_77 ?_
  refine q_iconst C dX2_become_80 ?_
  refine q_aloadn C dX2_become_81 rfl ?_
  refine gf_RX2_31 C (by first | assumption | decide | omega) dX2_become_82 ?_
  refine q_iconst C dX2_become_85 ?_
  refine q_bipush C dX2_become_86 (by decide) ?_
  refine q_copy C (by first | assumption | decide) (by first | assumption | decide) rfl (fun _ => rfl) (by decide) q_ml_RX2_49 q_nat q_sta q_sin (by decide) (Nat.le_of_ble_eq_true rfl) dX2_become_88 ?_
  simp only [q_rdR, q_rdSR, q_rd, q_rdS, ↓reduceIte, if_true, if_false, eq_self, Nat.reduceEqDiff, Int.reduceEq, Int.reduceNeg, reduceCtorEq, if_neg hne]
  refine q_aloadn C dX2_become_91 rfl ?_
  refine gf_RX2_34 C (by first | assumption | decide | omega) dX2_become_92 ?_
  refine q_iconst C dX2_become_95 ?_
  refine q_aloadn C dX2_become_96 rfl ?_
  refine gf_RX2_34 C (by first | assumption | decide | omega) dX2_become_97 ?_
  refine q_iconst C dX2_become_100 ?_
  refine q_bipush C dX2_become_101 (by decide) ?_
  refine q_copy C (by first | assumption | decide) (by first | assumption | decide) rfl (fun _ => rfl) (by decide) q_ml_RX2_49 q_nat q_sta q_sin (by decide) (Nat.le_of_ble_eq_true rfl) dX2_become_103 ?_
  simp only [q_rdR, q_rdSR, q_rd, q_rdS, ↓reduceIte, if_true, if_false, eq_self, Nat.reduceEqDiff, Int.reduceEq, Int.reduceNeg, reduceCtorEq, if_neg hne]
  refine q_aloadn C dX2_become_106 rfl ?_
  refine gf_RX2_40 C (by first | assumption | decide | omega) dX2_become_107 ?_
  refine q_aloadn C dX2_become_110 rfl ?_
  refine gf_RX2_40 C (by first | assumption | decide | omega) dX2_become_111 ?_
  refine cv_RX2_70 C (by decide) (by first | assumption | decide | omega) (m_X4_become l g _ hu hw hne) dX2_become_114 (Nat.le_of_ble_eq_true rfl) ?_
  refine q_vret C' dX2_become_117 ?_
  exact ⟨rfl, rfl⟩
