theorem dX12_matches_0 : decode cX12_matches 0 = .ok (.iconst 0, 1) := by decide +kernel
theorem dX12_matches_1 : decode cX12_matches 1 = .ok (.istore_n 1, 1) := by decide +kernel
theorem dX12_matches_2 : decode cX12_matches 2 = .ok (.iload_n 1, 1) := by decide +kernel
theorem dX12_matches_3 : decode cX12_matches 3 = .ok (.bipush 6, 2) := by decide +kernel
theorem dX12_matches_5 : decode cX12_matches 5 = .ok (.if_icmp .ge 30, 3) := by decide +kernel
theorem dX12_matches_8 : decode cX12_matches 8 = .ok (.aload_n 0, 1) := by decide +kernel
theorem dX12_matches_9 : decode cX12_matches 9 = .ok (.getfield 50, 3) := by decide +kernel
theorem dX12_matches_12 : decode cX12_matches 12 = .ok (.iload_n 1, 1) := by decide +kernel
theorem dX12_matches_13 : decode cX12_matches 13 = .ok (.iconst (-1), 1) := by decide +kernel
theorem dX12_matches_14 : decode cX12_matches 14 = .ok (.iastore, 1) := by decide +kernel
theorem dX12_matches_15 : decode cX12_matches 15 = .ok (.aload_n 0, 1) := by decide +kernel
theorem dX12_matches_16 : decode cX12_matches 16 = .ok (.getfield 53, 3) := by decide +kernel
theorem dX12_matches_19 : decode cX12_matches 19 = .ok (.iload_n 1, 1) := by decide +kernel
theorem dX12_matches_20 : decode cX12_matches 20 = .ok (.iconst (-1), 1) := by decide +kernel
theorem dX12_matches_21 : decode cX12_matches 21 = .ok (.iastore, 1) := by decide +kernel
theorem dX12_matches_22 : decode cX12_matches 22 = .ok (.aload_n 0, 1) := by decide +kernel
theorem dX12_matches_23 : decode cX12_matches 23 = .ok (.getfield 56, 3) := by decide +kernel
theorem dX12_matches_26 : decode cX12_matches 26 = .ok (.iload_n 1, 1) := by decide +kernel
theorem dX12_matches_27 : decode cX12_matches 27 = .ok (.iconst 0, 1) := by decide +kernel
theorem dX12_matches_28 : decode cX12_matches 28 = .ok (.iastore, 1) := by decide +kernel
theorem dX12_matches_29 : decode cX12_matches 29 = .ok (.iinc 1 1, 3) := by decide +kernel
theorem dX12_matches_32 : decode cX12_matches 32 = .ok (.goto (-30), 3) := by decide +kernel
theorem dX12_matches_35 : decode cX12_matches 35 = .ok (.iconst 1, 1) := by decide +kernel
theorem dX12_matches_36 : decode cX12_matches 36 = .ok (.istore_n 1, 1) := by decide +kernel
theorem dX12_matches_37 : decode cX12_matches 37 = .ok (.iload_n 1, 1) := by decide +kernel
theorem dX12_matches_38 : decode cX12_matches 38 = .ok (.ifCond .eq 61, 3) := by decide +kernel
theorem dX12_matches_41 : decode cX12_matches 41 = .ok (.iconst 0, 1) := by decide +kernel
theorem dX12_matches_42 : decode cX12_matches 42 = .ok (.istore_n 1, 1) := by decide +kernel
theorem dX12_matches_43 : decode cX12_matches 43 = .ok (.iconst 0, 1) := by decide +kernel
theorem dX12_matches_44 : decode cX12_matches 44 = .ok (.istore_n 2, 1) := by decide +kernel
theorem dX12_matches_45 : decode cX12_matches 45 = .ok (.iload_n 2, 1) := by decide +kernel
theorem dX12_matches_46 : decode cX12_matches 46 = .ok (.aload_n 0, 1) := by decide +kernel
theorem dX12_matches_47 : decode cX12_matches 47 = .ok (.getfield 147, 3) := by decide +kernel
theorem dX12_matches_50 : decode cX12_matches 50 = .ok (.if_icmp .ge 46, 3) := by decide +kernel
theorem dX12_matches_53 : decode cX12_matches 53 = .ok (.iload_n 1, 1) := by decide +kernel
theorem dX12_matches_54 : decode cX12_matches 54 = .ok (.ifCond .ne 42, 3) := by decide +kernel
theorem dX12_matches_57 : decode cX12_matches 57 = .ok (.aload_n 0, 1) := by decide +kernel
theorem dX12_matches_58 : decode cX12_matches 58 = .ok (.getfield 50, 3) := by decide +kernel
theorem dX12_matches_61 : decode cX12_matches 61 = .ok (.iload_n 2, 1) := by decide +kernel
theorem dX12_matches_62 : decode cX12_matches 62 = .ok (.iaload, 1) := by decide +kernel
theorem dX12_matches_63 : decode cX12_matches 63 = .ok (.iconst (-1), 1) := by decide +kernel
theorem dX12_matches_64 : decode cX12_matches 64 = .ok (.if_icmp .ne 11, 3) := by decide +kernel
theorem dX12_matches_67 : decode cX12_matches 67 = .ok (.aload_n 0, 1) := by decide +kernel
theorem dX12_matches_68 : decode cX12_matches 68 = .ok (.iload_n 2, 1) := by decide +kernel
theorem dX12_matches_69 : decode cX12_matches 69 = .ok (.invokevirtual 207, 3) := by decide +kernel
theorem dX12_matches_72 : decode cX12_matches 72 = .ok (.goto 4, 3) := by decide +kernel
theorem dX12_matches_75 : decode cX12_matches 75 = .ok (.iconst (-1), 1) := by decide +kernel
theorem dX12_matches_76 : decode cX12_matches 76 = .ok (.istore_n 3, 1) := by decide +kernel
theorem dX12_matches_77 : decode cX12_matches 77 = .ok (.iload_n 3, 1) := by decide +kernel
theorem dX12_matches_78 : decode cX12_matches 78 = .ok (.iconst (-1), 1) := by decide +kernel
theorem dX12_matches_79 : decode cX12_matches 79 = .ok (.if_icmp .eq 11, 3) := by decide +kernel
theorem dX12_matches_82 : decode cX12_matches 82 = .ok (.aload_n 0, 1) := by decide +kernel
theorem dX12_matches_83 : decode cX12_matches 83 = .ok (.iload_n 2, 1) := by decide +kernel
theorem dX12_matches_84 : decode cX12_matches 84 = .ok (.iload_n 3, 1) := by decide +kernel
theorem dX12_matches_85 : decode cX12_matches 85 = .ok (.invokevirtual 210, 3) := by decide +kernel
theorem dX12_matches_88 : decode cX12_matches 88 = .ok (.iconst 1, 1) := by decide +kernel
theorem dX12_matches_89 : decode cX12_matches 89 = .ok (.istore_n 1, 1) := by decide +kernel
theorem dX12_matches_90 : decode cX12_matches 90 = .ok (.iinc 2 1, 3) := by decide +kernel
theorem dX12_matches_93 : decode cX12_matches 93 = .ok (.goto (-48), 3) := by decide +kernel
theorem dX12_matches_96 : decode cX12_matches 96 = .ok (.goto (-59), 3) := by decide +kernel
theorem dX12_matches_99 : decode cX12_matches 99 = .ok (.return_, 1) := by decide +kernel
set_option maxRecDepth 4000 in
set_option maxHeartbeats 4000000 in
theorem m_X12_matches (l : Launch) (g : qGm) (M : qMem) {sd : sSD} (hs : sRS sd) (hS : mS M sd) (hv : sRR (sd 4 0) (sd 5 0) (M 61 0)) : qOk l g 7 yX12_matches cX12_matches 4 none [qR g 35 0] M (qEv none (mMt M (tEnd (fun c h => sSuit sd (M 61 0) c h) (sd 4 0) (sd 5 0)))) := by
  refine q_ok (by decide +kernel) (Nat.le_of_ble_eq_true rfl) (fun X C' hn => ?_)
  have C := C'.1
  have km := hs.2.1
  have kn := hs.2.2.1
  have hmn := hs.1
  have w0 := hS.1
  have w1 := hS.2.1
  have w2 := hS.2.2.1
  refine q_iconst C dX12_matches_0 ?_
  refine q_istoren C dX12_matches_1 hn (by decide) rfl ?_
  have L2 : ∀ (n2 : Nat) (i : Int) (N : qMem), 6 - i < (n2 : Int) → (0 ≤ i ∧ i ≤ 6) → (N = mMt M (tPre M i)) → qV l g X N 2 [(0, qR g 35 0), (1, qI i)] [] := by
    intro n2
    induction n2 with
    | zero => intro i N hm2 c0 hN; exfalso; first | omega | (simp at *; omega)
    | succ n2 ih2 =>
      intro i N hm2 c0 hN
      subst hN
      refine q_iloadn C dX12_matches_2 rfl ?_
      refine q_bipush C dX12_matches_3 (by decide) ?_
      refine q_icmp_ge C 35 dX12_matches_5 (by decide) (by first | assumption | omega | exact q_tin _ | exact q_bIn _) (by first | assumption | omega | exact q_tin _ | exact q_bIn _) (fun h5 => ?_) (fun h5 => ?_)
      · obtain rfl : i = 6 := by omega
        refine mMt_init (fun a i e1 e2 => by unfold tPre; exact if_pos ⟨e1, e2⟩) ?_
        refine q_memEq (N := mMt M (tRun (fun c h => sSuit sd (M 61 0) c h) (sd 4 0) (sd 5 0) 0)) rfl ?_
        refine q_iconst C dX12_matches_35 ?_
        refine q_istoren C dX12_matches_36 hn (by decide) rfl ?_
        have L37 : ∀ (n37 : Nat) (k : Nat) (mo : Int), 74 - 2 * (k : Int) + mo < (n37 : Int) → (mo = 0 ∨ mo = 1) → (mo = 0 → tNext (fun c h => sSuit sd (M 61 0) c h) (sd 4 0) (sd 5 0) (tRun (fun c h => sSuit sd (M 61 0) c h) (sd 4 0) (sd 5 0) k) = -1) → (k ≤ 36) → qV l g X (mMt M (tRun (fun c h => sSuit sd (M 61 0) c h) (sd 4 0) (sd 5 0) k)) 37 [(0, qR g 35 0), (1, qI mo)] [] := by
          intro n37
          induction n37 with
          | zero => intro k mo hm37 im kt kk; exfalso; first | omega | (simp at *; omega)
          | succ n37 ih37 =>
            intro k mo hm37 im kt kk
            refine q_iloadn C dX12_matches_37 rfl ?_
            refine q_if_eq C 99 dX12_matches_38 (by decide) (by first | assumption | omega | exact q_tin _ | exact q_bIn _) (fun h38 => ?_) (fun h38 => ?_)
            · refine q_vret C' dX12_matches_99 ?_
              exact ⟨rfl, by rw [tEnd_of km kn (kt h38) kk]⟩
            · refine q_iconst C dX12_matches_41 ?_
              refine q_istoren C dX12_matches_42 hn (by decide) rfl ?_
              refine q_iconst C dX12_matches_43 ?_
              refine q_istoren C dX12_matches_44 hn (by decide) rfl ?_
              have L45 : ∀ (n45 : Nat) (c : Int) (mo2 : Int) (V : sMT), sd 4 0 - c < (n45 : Int) → (0 ≤ c ∧ c ≤ sd 4 0) → (mo2 = 0 ∨ mo2 = 1) → ((mo2 = 0 ∧ V = tRun (fun c h => sSuit sd (M 61 0) c h) (sd 4 0) (sd 5 0) k ∧ (∀ j, 0 ≤ j → j < c → V 1 j = -1 → tBest (fun c h => sSuit sd (M 61 0) c h) (sd 5 0) (V 0 j) j = -1)) ∨ (mo2 = 1 ∧ V = tRun (fun c h => sSuit sd (M 61 0) c h) (sd 4 0) (sd 5 0) (k + 1) ∧ tNext (fun c h => sSuit sd (M 61 0) c h) (sd 4 0) (sd 5 0) (tRun (fun c h => sSuit sd (M 61 0) c h) (sd 4 0) (sd 5 0) k) ≠ -1)) → qV l g X (mMt M V) 45 [(0, qR g 35 0), (1, qI mo2), (2, qI c)] [] := by
                intro n45
                induction n45 with
                | zero => intro c mo2 V hm45 c0 im2 ki; exfalso; first | omega | (simp at *; omega)
                | succ n45 ih45 =>
                  intro c mo2 V hm45 c0 im2 ki
                  have tV : tInv (sd 4 0) (sd 5 0) V := by
                    rcases ki with ⟨-, q, -⟩ | ⟨-, q, -⟩
                    · rw [q]; exact tRun_inv km.2 kn k
                    · rw [q]; exact tRun_inv km.2 kn (k + 1)
                  refine q_iloadn C dX12_matches_45 rfl ?_
                  refine q_aloadn C dX12_matches_46 rfl ?_
                  refine gf_RX12_147 C dX12_matches_47 (fun r47 => ?_)
                  try simp only [q_rd, q_rdS, ↓reduceIte, if_true, if_false, eq_self, Nat.reduceEqDiff, Int.reduceEq, Int.reduceNeg, reduceCtorEq, mMt_35, mMt_62] at r47 ⊢
                  rw [w1] at r47 ⊢
                  refine q_icmp_ge C 96 dX12_matches_50 (by decide) (by first | assumption | omega | exact q_tin _ | exact q_bIn _) (by first | assumption | omega | exact q_tin _ | exact q_bIn _) (fun h50 => ?_) (fun h50 => ?_)
                  · rcases ki with ⟨a1, rfl, a3⟩ | ⟨a1, rfl, a3⟩
                    · refine q_goto C (tgt := 37) dX12_matches_96 (by decide) ?_
                      exact q_ls (by exact ⟨rfl, rfl, trivial⟩) (ih37 k mo2 (by omega) (by omega) (fun _ => tNext_none km.1 (fun j e1 e2 e3 => a3 j e1 (by omega) e3)) kk)
                    · refine q_goto C (tgt := 37) dX12_matches_96 (by decide) ?_
                      exact q_ls (by exact ⟨rfl, rfl, trivial⟩) (ih37 (k + 1) mo2 (by omega) (by omega) (fun q => by omega) (tRun_lt km kn a3))
                  · refine q_iloadn C dX12_matches_53 rfl ?_
                    refine q_if_ne C 96 dX12_matches_54 (by decide) (by first | assumption | omega | exact q_tin _ | exact q_bIn _) (fun h54 => ?_) (fun h54 => ?_)
                    · obtain ⟨a1, rfl, a3⟩ := ki.resolve_left (fun q => by omega)
                      refine q_goto C (tgt := 37) dX12_matches_96 (by decide) ?_
                      exact q_ls (by exact ⟨rfl, rfl, trivial⟩) (ih37 (k + 1) mo2 (by omega) (by omega) (fun q => by omega) (tRun_lt km kn a3))
                    · obtain ⟨a1, a2, a3⟩ := ki.resolve_right (fun q => by omega)
                      have tc := tV.1 c c0.1 (by omega)
                      refine q_aloadn C dX12_matches_57 rfl ?_
                      refine gf_RX12_50 C dX12_matches_58 ?_
                      refine q_iloadn C dX12_matches_61 rfl ?_
                      refine q_iald C (by first | assumption | decide | omega) rfl dX12_matches_62 (by omega) (by omega) (by decide) (fun r62 => ?_)
                      try simp only [q_rd, q_rdS, ↓reduceIte, if_true, if_false, eq_self, Nat.reduceEqDiff, Int.reduceEq, Int.reduceNeg, reduceCtorEq, mMt_35, mMt_62] at r62 ⊢
                      refine q_iconst C dX12_matches_63 ?_
                      refine q_icmp_ne C 75 dX12_matches_64 (by decide) (by first | assumption | omega | exact q_tin _ | exact q_bIn _) (by first | assumption | omega | exact q_tin _ | exact q_bIn _) (fun h64 => ?_) (fun h64 => ?_)
                      · refine q_iconst C dX12_matches_75 ?_
                        refine q_istoren C dX12_matches_76 hn (by decide) rfl ?_
                        refine q_iloadn C dX12_matches_77 rfl ?_
                        refine q_iconst C dX12_matches_78 ?_
                        refine q_icmp_eq C 90 dX12_matches_79 (by decide) (by first | exact r69 | decide) (by decide) (fun h79 => ?_) (fun h79 => ?_)
                        · refine q_iinc C dX12_matches_90 rfl hn (by decide) rfl ?_
                          refine q_goto C (tgt := 45) dX12_matches_93 (by decide) ?_
                          exact q_ls (by exact ⟨rfl, rfl, rfl, trivial⟩) (ih45 _ _ _ (by omega) (by omega) (by omega) (by exact Or.inl ⟨a1, a2, fun j e1 e2 e3 => by
                by_cases e : j = c
                · rw [e] at e3; exact absurd e3 h64
                · exact a3 j e1 (by omega) e3⟩))
                        · exact absurd rfl h79
                      · refine q_aloadn C dX12_matches_67 rfl ?_
                        refine q_iloadn C dX12_matches_68 rfl ?_
                        refine cv_RX12_207 C (by decide) (m_X12_bestMt l g M V hs hS hv (by omega) tc.1) dX12_matches_69 (Nat.le_of_ble_eq_true rfl) (fun r69 => ?_)
                        refine q_goto C (tgt := 76) dX12_matches_72 (by decide) ?_
                        refine q_istoren C dX12_matches_76 hn (by decide) rfl ?_
                        refine q_iloadn C dX12_matches_77 rfl ?_
                        refine q_iconst C dX12_matches_78 ?_
                        refine q_icmp_eq C 90 dX12_matches_79 (by decide) (by first | exact r69 | decide) (by decide) (fun h79 => ?_) (fun h79 => ?_)
                        · refine q_iinc C dX12_matches_90 rfl hn (by decide) rfl ?_
                          refine q_goto C (tgt := 45) dX12_matches_93 (by decide) ?_
                          exact q_ls (by exact ⟨rfl, rfl, rfl, trivial⟩) (ih45 _ _ _ (by omega) (by omega) (by omega) (by exact Or.inl ⟨a1, a2, fun j e1 e2 e3 => by
                by_cases e : j = c
                · rw [e]; exact h79
                · exact a3 j e1 (by omega) e3⟩))
                        · have hb := (tBest_in kn.1).resolve_left h79
                          have en := tNext_of (m := sd 4 0) (T := V) ⟨c0.1, by omega⟩ (by omega) h79 (fun j e1 e2 e3 => a3 j e1 e2 e3)
                          refine q_aloadn C dX12_matches_82 rfl ?_
                          refine q_iloadn C dX12_matches_83 rfl ?_
                          refine q_iloadn C dX12_matches_84 rfl ?_
                          refine cv_RX12_210 C (by decide) (m_X12_asks l g M hs hS hv tV (by omega) ⟨hb.1, hb.2.1⟩) dX12_matches_85 (Nat.le_of_ble_eq_true rfl) ?_
                          refine q_iconst C dX12_matches_88 ?_
                          refine q_istoren C dX12_matches_89 hn (by decide) rfl ?_
                          refine q_iinc C dX12_matches_90 rfl hn (by decide) rfl ?_
                          refine q_goto C (tgt := 45) dX12_matches_93 (by decide) ?_
                          exact q_ls (by exact ⟨rfl, rfl, rfl, trivial⟩) (ih45 _ _ _ (by omega) (by omega) (by omega) (by exact Or.inr ⟨rfl, by rw [tRun, tStep, ← a2, if_neg (by rw [en]; omega), en], by rw [← a2, en]; omega⟩))
              exact q_ls (by exact ⟨rfl, rfl, rfl, trivial⟩) (L45 1000 0 0 _ (by omega) (by omega) (by omega) (by exact Or.inl ⟨rfl, rfl, fun j e1 e2 => by omega⟩))
        exact q_ls (by exact ⟨rfl, rfl, trivial⟩) (L37 1000 0 1 (by omega) (by omega) (by intro q; omega) (by omega))
      · refine q_aloadn C dX12_matches_8 rfl ?_
        refine gf_RX12_50 C dX12_matches_9 ?_
        refine q_iloadn C dX12_matches_12 rfl ?_
        refine q_iconst C dX12_matches_13 ?_
        refine q_iast C (by first | assumption | decide | omega) (fun _ => rfl) dX12_matches_14 (by omega) (by omega) (by decide) (by first | assumption | omega | exact q_tin _ | exact q_bIn _) ?_
        refine q_aloadn C dX12_matches_15 rfl ?_
        refine gf_RX12_53 C dX12_matches_16 ?_
        refine q_iloadn C dX12_matches_19 rfl ?_
        refine q_iconst C dX12_matches_20 ?_
        refine q_iast C (by first | assumption | decide | omega) (fun _ => rfl) dX12_matches_21 (by omega) (by omega) (by decide) (by first | assumption | omega | exact q_tin _ | exact q_bIn _) ?_
        refine q_aloadn C dX12_matches_22 rfl ?_
        refine gf_RX12_56 C dX12_matches_23 ?_
        refine q_iloadn C dX12_matches_26 rfl ?_
        refine q_iconst C dX12_matches_27 ?_
        refine q_iast C (by first | assumption | decide | omega) (fun _ => rfl) dX12_matches_28 (by omega) (by omega) (by decide) (by first | assumption | omega | exact q_tin _ | exact q_bIn _) ?_
        refine q_iinc C dX12_matches_29 rfl hn (by decide) rfl ?_
        refine q_goto C (tgt := 2) dX12_matches_32 (by decide) ?_
        exact q_ls (by exact ⟨rfl, rfl, trivial⟩) (ih2 _ _ (by omega) (by omega) (by exact mMt_pre (by omega)))
  exact q_ls (by exact ⟨rfl, rfl, trivial⟩) (L2 1000 _ _ (by omega) (by omega) (by exact mMt_pre0 M))
def mMF (M N : qMem) : Prop := ∀ j u, ¬ (62 ≤ j ∧ j ≤ 64 ∧ u = 0) → N j u = M j u
theorem dX12_comer_0 : decode cX12_comer 0 = .ok (.aload_n 0, 1) := by decide +kernel
theorem dX12_comer_1 : decode cX12_comer 1 = .ok (.iload_n 1, 1) := by decide +kernel
theorem dX12_comer_2 : decode cX12_comer 2 = .ok (.invokevirtual 162, 3) := by decide +kernel
theorem dX12_comer_5 : decode cX12_comer 5 = .ok (.ifCond .ne 6, 3) := by decide +kernel
theorem dX12_comer_8 : decode cX12_comer 8 = .ok (.ldc 214, 2) := by decide +kernel
theorem dX12_comer_10 : decode cX12_comer 10 = .ok (.ireturn, 1) := by decide +kernel
theorem dX12_comer_11 : decode cX12_comer 11 = .ok (.iload_n 2, 1) := by decide +kernel
theorem dX12_comer_12 : decode cX12_comer 12 = .ok (.tableswitch 84 0 4 #[36, 43, 53, 63, 73], 36) := by decide +kernel
theorem dX12_comer_48 : decode cX12_comer 48 = .ok (.aload_n 0, 1) := by decide +kernel
theorem dX12_comer_49 : decode cX12_comer 49 = .ok (.getfield 38, 3) := by decide +kernel
theorem dX12_comer_52 : decode cX12_comer 52 = .ok (.iload_n 1, 1) := by decide +kernel
theorem dX12_comer_53 : decode cX12_comer 53 = .ok (.iaload, 1) := by decide +kernel
theorem dX12_comer_54 : decode cX12_comer 54 = .ok (.ireturn, 1) := by decide +kernel
theorem dX12_comer_55 : decode cX12_comer 55 = .ok (.aload_n 0, 1) := by decide +kernel
theorem dX12_comer_56 : decode cX12_comer 56 = .ok (.getfield 47, 3) := by decide +kernel
theorem dX12_comer_59 : decode cX12_comer 59 = .ok (.bipush 14, 2) := by decide +kernel
theorem dX12_comer_61 : decode cX12_comer 61 = .ok (.iload_n 1, 1) := by decide +kernel
theorem dX12_comer_62 : decode cX12_comer 62 = .ok (.iadd, 1) := by decide +kernel
theorem dX12_comer_63 : decode cX12_comer 63 = .ok (.iaload, 1) := by decide +kernel
theorem dX12_comer_64 : decode cX12_comer 64 = .ok (.ireturn, 1) := by decide +kernel
theorem dX12_comer_65 : decode cX12_comer 65 = .ok (.aload_n 0, 1) := by decide +kernel
theorem dX12_comer_66 : decode cX12_comer 66 = .ok (.getfield 47, 3) := by decide +kernel
theorem dX12_comer_69 : decode cX12_comer 69 = .ok (.bipush 8, 2) := by decide +kernel
theorem dX12_comer_71 : decode cX12_comer 71 = .ok (.iload_n 1, 1) := by decide +kernel
theorem dX12_comer_72 : decode cX12_comer 72 = .ok (.iadd, 1) := by decide +kernel
theorem dX12_comer_73 : decode cX12_comer 73 = .ok (.iaload, 1) := by decide +kernel
theorem dX12_comer_74 : decode cX12_comer 74 = .ok (.ireturn, 1) := by decide +kernel
theorem dX12_comer_75 : decode cX12_comer 75 = .ok (.aload_n 0, 1) := by decide +kernel
theorem dX12_comer_76 : decode cX12_comer 76 = .ok (.getfield 47, 3) := by decide +kernel
theorem dX12_comer_79 : decode cX12_comer 79 = .ok (.bipush 92, 2) := by decide +kernel
theorem dX12_comer_81 : decode cX12_comer 81 = .ok (.iload_n 1, 1) := by decide +kernel
theorem dX12_comer_82 : decode cX12_comer 82 = .ok (.iadd, 1) := by decide +kernel
theorem dX12_comer_83 : decode cX12_comer 83 = .ok (.iaload, 1) := by decide +kernel
theorem dX12_comer_84 : decode cX12_comer 84 = .ok (.ireturn, 1) := by decide +kernel
theorem dX12_comer_85 : decode cX12_comer 85 = .ok (.aload_n 0, 1) := by decide +kernel
theorem dX12_comer_86 : decode cX12_comer 86 = .ok (.invokevirtual 215, 3) := by decide +kernel
theorem dX12_comer_89 : decode cX12_comer 89 = .ok (.aload_n 0, 1) := by decide +kernel
theorem dX12_comer_90 : decode cX12_comer 90 = .ok (.getfield 50, 3) := by decide +kernel
theorem dX12_comer_93 : decode cX12_comer 93 = .ok (.iload_n 1, 1) := by decide +kernel
theorem dX12_comer_94 : decode cX12_comer 94 = .ok (.iaload, 1) := by decide +kernel
theorem dX12_comer_95 : decode cX12_comer 95 = .ok (.ireturn, 1) := by decide +kernel
theorem dX12_comer_96 : decode cX12_comer 96 = .ok (.ldc 89, 2) := by decide +kernel
theorem dX12_comer_98 : decode cX12_comer 98 = .ok (.ireturn, 1) := by decide +kernel
set_option maxRecDepth 4000 in
set_option maxHeartbeats 4000000 in
theorem m_X12_comer (l : Launch) (g : qGm) (M : qMem) {sd : sSD} (hs : sRS sd) (hS : mS M sd) (hv : sRR (sd 4 0) (sd 5 0) (M 61 0)) {c : Int} (hcq : qIn c) {w : Int} (hwq : qIn w) : qOk l g 8 yX12_comer cX12_comer 3 (some .int) [qR g 35 0, qI c, qI w] M (fun r N => r = some (sComer sd (M 61 0) c w) ∧ mMF M N) := by
  refine q_ok (by decide +kernel) (Nat.le_of_ble_eq_true rfl) (fun X C' hn => ?_)
  have C := C'.1
  have km := hs.2.1
  have kn := hs.2.2.1
  have hmn := hs.1
  have w0 := hS.1
  have w1 := hS.2.1
  have w2 := hS.2.2.1
  refine q_aloadn C dX12_comer_0 rfl ?_
  refine q_iloadn C dX12_comer_1 rfl ?_
  refine cv_RX12_162 C (by decide) (m_X12_isComer l g _ hs hS hcq) dX12_comer_2 (Nat.le_of_ble_eq_true rfl) (fun r2 => ?_)
  refine q_ifneB C 11 dX12_comer_5 (by decide) (fun h5 => ?_) (fun h5 => ?_)
  · refine q_iloadn C dX12_comer_11 rfl ?_
    by_cases ht12 : w < 0 ∨ 4 < w
    · refine q_tsOut C 96 dX12_comer_12 (by first | assumption | omega | exact q_tin _ | exact q_bIn _) ht12 (by decide) ?_
      refine q_ldc C (z := -1000000002) q_ci_RX12_89 (by decide) dX12_comer_96 ?_
      refine q_iret C' dX12_comer_98 (by first | assumption | omega | exact q_tin _ | exact q_bIn _) ?_
      refine ⟨congrArg some ?_, fun _ _ _ => rfl⟩
      unfold sComer
      rw [if_pos (by omega), if_neg (by omega), if_neg (by omega), if_neg (by omega), if_neg (by omega), if_neg (by omega)]
    obtain rfl | rfl | rfl | rfl | rfl : w = 0 ∨ w = 1 ∨ w = 2 ∨ w = 3 ∨ w = 4 := by omega
    · refine q_tsIn C (off := 36) 48 dX12_comer_12 (by decide) (by decide) (by decide) (by decide) (by decide) ?_
      refine q_aloadn C dX12_comer_48 rfl ?_
      refine gf_RX12_38 C dX12_comer_49 ?_
      refine q_iloadn C dX12_comer_52 rfl ?_
      refine q_iald C (by first | assumption | decide | omega) rfl dX12_comer_53 (by omega) (by omega) (by decide) (fun r53 => ?_)
      refine q_iret C' dX12_comer_54 (by first | assumption | omega | exact q_tin _ | exact q_bIn _) ?_
      refine ⟨congrArg some ?_, fun _ _ _ => rfl⟩
      unfold sComer
      rw [if_pos (by omega), if_pos rfl]
      exact hS.2.2.2.1 c (by omega) (by omega)
    · refine q_tsIn C (off := 43) 55 dX12_comer_12 (by decide) (by decide) (by decide) (by decide) (by decide) ?_
      refine q_aloadn C dX12_comer_55 rfl ?_
      refine gf_RX12_47 C dX12_comer_56 ?_
      refine q_bipush C dX12_comer_59 (by decide) ?_
      refine q_iloadn C dX12_comer_61 rfl ?_
      refine q_iadd C dX12_comer_62 ?_
      refine q_iald C (by first | assumption | decide | omega) rfl dX12_comer_63 (by omega) (by omega) (by decide) (fun r63 => ?_)
      refine q_iret C' dX12_comer_64 (by first | assumption | omega | exact q_tin _ | exact q_bIn _) ?_
      refine ⟨congrArg some ?_, fun _ _ _ => rfl⟩
      unfold sComer
      rw [if_pos (by omega), if_neg (by decide), if_pos rfl]
    · refine q_tsIn C (off := 53) 65 dX12_comer_12 (by decide) (by decide) (by decide) (by decide) (by decide) ?_
      refine q_aloadn C dX12_comer_65 rfl ?_
      refine gf_RX12_47 C dX12_comer_66 ?_
      refine q_bipush C dX12_comer_69 (by decide) ?_
      refine q_iloadn C dX12_comer_71 rfl ?_
      refine q_iadd C dX12_comer_72 ?_
      refine q_iald C (by first | assumption | decide | omega) rfl dX12_comer_73 (by omega) (by omega) (by decide) (fun r73 => ?_)
      refine q_iret C' dX12_comer_74 (by first | assumption | omega | exact q_tin _ | exact q_bIn _) ?_
      refine ⟨congrArg some ?_, fun _ _ _ => rfl⟩
      unfold sComer
      rw [if_pos (by omega), if_neg (by decide), if_neg (by decide), if_pos rfl]
    · refine q_tsIn C (off := 63) 75 dX12_comer_12 (by decide) (by decide) (by decide) (by decide) (by decide) ?_
      refine q_aloadn C dX12_comer_75 rfl ?_
      refine gf_RX12_47 C dX12_comer_76 ?_
      refine q_bipush C dX12_comer_79 (by decide) ?_
      refine q_iloadn C dX12_comer_81 rfl ?_
      refine q_iadd C dX12_comer_82 ?_
      refine q_iald C (by first | assumption | decide | omega) rfl dX12_comer_83 (by omega) (by omega) (by decide) (fun r83 => ?_)
      refine q_iret C' dX12_comer_84 (by first | assumption | omega | exact q_tin _ | exact q_bIn _) ?_
      refine ⟨congrArg some ?_, fun _ _ _ => rfl⟩
      unfold sComer
      rw [if_pos (by omega), if_neg (by decide), if_neg (by decide), if_neg (by decide), if_pos rfl]
    · refine q_tsIn C (off := 73) 85 dX12_comer_12 (by decide) (by decide) (by decide) (by decide) (by decide) ?_
      refine q_aloadn C dX12_comer_85 rfl ?_
      refine cv_RX12_215 C (by decide) (m_X12_matches l g _ hs hS hv) dX12_comer_86 (Nat.le_of_ble_eq_true rfl) ?_
      refine q_aloadn C dX12_comer_89 rfl ?_
      refine gf_RX12_50 C dX12_comer_90 ?_
      refine q_iloadn C dX12_comer_93 rfl ?_
      refine q_iald C (by first | assumption | decide | omega) rfl dX12_comer_94 (by omega) (by omega) (by decide) (fun r94 => ?_)
      try simp only [q_rd, q_rdS, ↓reduceIte, if_true, if_false, eq_self, Nat.reduceEqDiff, Int.reduceEq, Int.reduceNeg, reduceCtorEq, mMt_62] at r94 ⊢
      refine q_iret C' dX12_comer_95 (by first | assumption | omega | exact q_tin _ | exact q_bIn _) ?_
      refine ⟨congrArg some ?_, fun j u q => mMt_off _ _ q⟩
      unfold sComer
      rw [if_pos (by omega), if_neg (by decide), if_neg (by decide), if_neg (by decide), if_neg (by decide), if_pos rfl]
  · refine q_ldc C (z := -1000000001) q_ci_RX12_214 (by decide) dX12_comer_8 ?_
    refine q_iret C' dX12_comer_10 (by first | assumption | omega | exact q_tin _ | exact q_bIn _) ?_
    refine ⟨congrArg some ?_, fun _ _ _ => rfl⟩
    unfold sComer
    rw [if_neg (by omega)]
theorem dX12_house_0 : decode cX12_house 0 = .ok (.aload_n 0, 1) := by decide +kernel
theorem dX12_house_1 : decode cX12_house 1 = .ok (.iload_n 1, 1) := by decide +kernel
theorem dX12_house_2 : decode cX12_house 2 = .ok (.invokevirtual 165, 3) := by decide +kernel
theorem dX12_house_5 : decode cX12_house 5 = .ok (.ifCond .ne 6, 3) := by decide +kernel
theorem dX12_house_8 : decode cX12_house 8 = .ok (.ldc 214, 2) := by decide +kernel
theorem dX12_house_10 : decode cX12_house 10 = .ok (.ireturn, 1) := by decide +kernel
theorem dX12_house_11 : decode cX12_house 11 = .ok (.iload_n 2, 1) := by decide +kernel
theorem dX12_house_12 : decode cX12_house 12 = .ok (.tableswitch 65 0 3 #[32, 41, 48, 59], 32) := by decide +kernel
theorem dX12_house_44 : decode cX12_house 44 = .ok (.aload_n 0, 1) := by decide +kernel
theorem dX12_house_45 : decode cX12_house 45 = .ok (.getfield 47, 3) := by decide +kernel
theorem dX12_house_48 : decode cX12_house 48 = .ok (.iconst 2, 1) := by decide +kernel
theorem dX12_house_49 : decode cX12_house 49 = .ok (.iload_n 1, 1) := by decide +kernel
theorem dX12_house_50 : decode cX12_house 50 = .ok (.iadd, 1) := by decide +kernel
theorem dX12_house_51 : decode cX12_house 51 = .ok (.iaload, 1) := by decide +kernel
theorem dX12_house_52 : decode cX12_house 52 = .ok (.ireturn, 1) := by decide +kernel
theorem dX12_house_53 : decode cX12_house 53 = .ok (.aload_n 0, 1) := by decide +kernel
theorem dX12_house_54 : decode cX12_house 54 = .ok (.getfield 41, 3) := by decide +kernel
theorem dX12_house_57 : decode cX12_house 57 = .ok (.iload_n 1, 1) := by decide +kernel
theorem dX12_house_58 : decode cX12_house 58 = .ok (.iaload, 1) := by decide +kernel
theorem dX12_house_59 : decode cX12_house 59 = .ok (.ireturn, 1) := by decide +kernel
theorem dX12_house_60 : decode cX12_house 60 = .ok (.aload_n 0, 1) := by decide +kernel
theorem dX12_house_61 : decode cX12_house 61 = .ok (.invokevirtual 215, 3) := by decide +kernel
theorem dX12_house_64 : decode cX12_house 64 = .ok (.aload_n 0, 1) := by decide +kernel
theorem dX12_house_65 : decode cX12_house 65 = .ok (.getfield 53, 3) := by decide +kernel
theorem dX12_house_68 : decode cX12_house 68 = .ok (.iload_n 1, 1) := by decide +kernel
theorem dX12_house_69 : decode cX12_house 69 = .ok (.iaload, 1) := by decide +kernel
theorem dX12_house_70 : decode cX12_house 70 = .ok (.ireturn, 1) := by decide +kernel
theorem dX12_house_71 : decode cX12_house 71 = .ok (.aload_n 0, 1) := by decide +kernel
theorem dX12_house_72 : decode cX12_house 72 = .ok (.iload_n 1, 1) := by decide +kernel
theorem dX12_house_73 : decode cX12_house 73 = .ok (.invokevirtual 186, 3) := by decide +kernel
theorem dX12_house_76 : decode cX12_house 76 = .ok (.ireturn, 1) := by decide +kernel
theorem dX12_house_77 : decode cX12_house 77 = .ok (.ldc 89, 2) := by decide +kernel
theorem dX12_house_79 : decode cX12_house 79 = .ok (.ireturn, 1) := by decide +kernel
set_option maxRecDepth 4000 in
set_option maxHeartbeats 4000000 in
theorem m_X12_house (l : Launch) (g : qGm) (M : qMem) {sd : sSD} (hs : sRS sd) (hS : mS M sd) (hv : sRR (sd 4 0) (sd 5 0) (M 61 0)) {h : Int} (hhq : qIn h) {w : Int} (hwq : qIn w) : qOk l g 8 yX12_house cX12_house 3 (some .int) [qR g 35 0, qI h, qI w] M (fun r N => r = some (sHouse sd (M 61 0) h w) ∧ mMF M N) := by
  refine q_ok (by decide +kernel) (Nat.le_of_ble_eq_true rfl) (fun X C' hn => ?_)
  have C := C'.1
  have km := hs.2.1
  have kn := hs.2.2.1
  have hmn := hs.1
  have w0 := hS.1
  have w1 := hS.2.1
  have w2 := hS.2.2.1
  refine q_aloadn C dX12_house_0 rfl ?_
  refine q_iloadn C dX12_house_1 rfl ?_
  refine cv_RX12_165 C (by decide) (m_X12_isHouse l g _ hs hS hhq) dX12_house_2 (Nat.le_of_ble_eq_true rfl) (fun r2 => ?_)
  refine q_ifneB C 11 dX12_house_5 (by decide) (fun h5 => ?_) (fun h5 => ?_)
  · refine q_iloadn C dX12_house_11 rfl ?_
    by_cases ht12 : w < 0 ∨ 3 < w
    · refine q_tsOut C 77 dX12_house_12 (by first | assumption | omega | exact q_tin _ | exact q_bIn _) ht12 (by decide) ?_
      refine q_ldc C (z := -1000000002) q_ci_RX12_89 (by decide) dX12_house_77 ?_
      refine q_iret C' dX12_house_79 (by first | assumption | omega | exact q_tin _ | exact q_bIn _) ?_
      refine ⟨congrArg some ?_, fun _ _ _ => rfl⟩
      unfold sHouse
      rw [if_pos (by omega), if_neg (by omega), if_neg (by omega), if_neg (by omega), if_neg (by omega)]
    obtain rfl | rfl | rfl | rfl : w = 0 ∨ w = 1 ∨ w = 2 ∨ w = 3 := by omega
    · refine q_tsIn C (off := 32) 44 dX12_house_12 (by decide) (by decide) (by decide) (by decide) (by decide) ?_
      refine q_aloadn C dX12_house_44 rfl ?_
      refine gf_RX12_47 C dX12_house_45 ?_
      refine q_iconst C dX12_house_48 ?_
      refine q_iloadn C dX12_house_49 rfl ?_
      refine q_iadd C dX12_house_50 ?_
      refine q_iald C (by first | assumption | decide | omega) rfl dX12_house_51 (by omega) (by omega) (by decide) (fun r51 => ?_)
      refine q_iret C' dX12_house_52 (by first | assumption | omega | exact q_tin _ | exact q_bIn _) ?_
      refine ⟨congrArg some ?_, fun _ _ _ => rfl⟩
      unfold sHouse
      rw [if_pos (by omega), if_pos rfl]
    · refine q_tsIn C (off := 41) 53 dX12_house_12 (by decide) (by decide) (by decide) (by decide) (by decide) ?_
      refine q_aloadn C dX12_house_53 rfl ?_
      refine gf_RX12_41 C dX12_house_54 ?_
      refine q_iloadn C dX12_house_57 rfl ?_
      refine q_iald C (by first | assumption | decide | omega) rfl dX12_house_58 (by omega) (by omega) (by decide) (fun r58 => ?_)
      refine q_iret C' dX12_house_59 (by first | assumption | omega | exact q_tin _ | exact q_bIn _) ?_
      refine ⟨congrArg some ?_, fun _ _ _ => rfl⟩
      unfold sHouse
      rw [if_pos (by omega), if_neg (by decide), if_pos rfl]
      exact hS.2.2.2.2.1 h (by omega) (by omega)
    · refine q_tsIn C (off := 48) 60 dX12_house_12 (by decide) (by decide) (by decide) (by decide) (by decide) ?_
      refine q_aloadn C dX12_house_60 rfl ?_
      refine cv_RX12_215 C (by decide) (m_X12_matches l g _ hs hS hv) dX12_house_61 (Nat.le_of_ble_eq_true rfl) ?_
      refine q_aloadn C dX12_house_64 rfl ?_
      refine gf_RX12_53 C dX12_house_65 ?_
      refine q_iloadn C dX12_house_68 rfl ?_
      refine q_iald C (by first | assumption | decide | omega) rfl dX12_house_69 (by omega) (by omega) (by decide) (fun r69 => ?_)
      try simp only [q_rd, q_rdS, ↓reduceIte, if_true, if_false, eq_self, Nat.reduceEqDiff, Int.reduceEq, Int.reduceNeg, reduceCtorEq, mMt_63] at r69 ⊢
      refine q_iret C' dX12_house_70 (by first | assumption | omega | exact q_tin _ | exact q_bIn _) ?_
      refine ⟨congrArg some ?_, fun j u q => mMt_off _ _ q⟩
      unfold sHouse
      rw [if_pos (by omega), if_neg (by decide), if_neg (by decide), if_pos rfl]
    · refine q_tsIn C (off := 59) 71 dX12_house_12 (by decide) (by decide) (by decide) (by decide) (by decide) ?_
      refine q_aloadn C dX12_house_71 rfl ?_
      refine q_iloadn C dX12_house_72 rfl ?_
      refine cv_RX12_186 C (by decide) (m_X12_callsAt l g _ hs hS hv (by omega)) dX12_house_73 (Nat.le_of_ble_eq_true rfl) (fun r73 => ?_)
      refine q_iret C' dX12_house_76 (by first | assumption | omega | exact q_tin _ | exact q_bIn _) ?_
      refine ⟨congrArg some ?_, fun _ _ _ => rfl⟩
      unfold sHouse
      rw [if_pos (by omega), if_neg (by decide), if_neg (by decide), if_neg (by decide), if_pos rfl]
  · refine q_ldc C (z := -1000000001) q_ci_RX12_214 (by decide) dX12_house_8 ?_
    refine q_iret C' dX12_house_10 (by first | assumption | omega | exact q_tin _ | exact q_bIn _) ?_
    refine ⟨congrArg some ?_, fun _ _ _ => rfl⟩
    unfold sHouse
    rw [if_neg (by omega)]
