theorem dX12_drift_0 : decode cX12_drift 0 = .ok (.aload_n 0, 1) := by decide +kernel
theorem dX12_drift_1 : decode cX12_drift 1 = .ok (.iload_n 1, 1) := by decide +kernel
theorem dX12_drift_2 : decode cX12_drift 2 = .ok (.invokevirtual 242, 3) := by decide +kernel
theorem dX12_drift_5 : decode cX12_drift 5 = .ok (.istore_n 2, 1) := by decide +kernel
theorem dX12_drift_6 : decode cX12_drift 6 = .ok (.iload_n 2, 1) := by decide +kernel
theorem dX12_drift_7 : decode cX12_drift 7 = .ok (.ifCond .ge 5, 3) := by decide +kernel
theorem dX12_drift_10 : decode cX12_drift 10 = .ok (.iload_n 2, 1) := by decide +kernel
theorem dX12_drift_11 : decode cX12_drift 11 = .ok (.ireturn, 1) := by decide +kernel
theorem dX12_drift_12 : decode cX12_drift 12 = .ok (.iconst 0, 1) := by decide +kernel
theorem dX12_drift_13 : decode cX12_drift 13 = .ok (.istore_n 3, 1) := by decide +kernel
theorem dX12_drift_14 : decode cX12_drift 14 = .ok (.iload_n 3, 1) := by decide +kernel
theorem dX12_drift_15 : decode cX12_drift 15 = .ok (.iload_n 1, 1) := by decide +kernel
theorem dX12_drift_16 : decode cX12_drift 16 = .ok (.if_icmp .ge 81, 3) := by decide +kernel
theorem dX12_drift_19 : decode cX12_drift 19 = .ok (.aload_n 0, 1) := by decide +kernel
theorem dX12_drift_20 : decode cX12_drift 20 = .ok (.invokevirtual 235, 3) := by decide +kernel
theorem dX12_drift_23 : decode cX12_drift 23 = .ok (.iconst 0, 1) := by decide +kernel
theorem dX12_drift_24 : decode cX12_drift 24 = .ok (.istore 4, 2) := by decide +kernel
theorem dX12_drift_26 : decode cX12_drift 26 = .ok (.iload 4, 2) := by decide +kernel
theorem dX12_drift_28 : decode cX12_drift 28 = .ok (.iconst 2, 1) := by decide +kernel
theorem dX12_drift_29 : decode cX12_drift 29 = .ok (.if_icmp .ge 58, 3) := by decide +kernel
theorem dX12_drift_32 : decode cX12_drift 32 = .ok (.aload_n 0, 1) := by decide +kernel
theorem dX12_drift_33 : decode cX12_drift 33 = .ok (.getfield 147, 3) := by decide +kernel
theorem dX12_drift_36 : decode cX12_drift 36 = .ok (.ifCond .le 51, 3) := by decide +kernel
theorem dX12_drift_39 : decode cX12_drift 39 = .ok (.aload_n 0, 1) := by decide +kernel
theorem dX12_drift_40 : decode cX12_drift 40 = .ok (.getfield 150, 3) := by decide +kernel
theorem dX12_drift_43 : decode cX12_drift 43 = .ok (.ifCond .le 44, 3) := by decide +kernel
theorem dX12_drift_46 : decode cX12_drift 46 = .ok (.aload_n 0, 1) := by decide +kernel
theorem dX12_drift_47 : decode cX12_drift 47 = .ok (.aload_n 0, 1) := by decide +kernel
theorem dX12_drift_48 : decode cX12_drift 48 = .ok (.getfield 147, 3) := by decide +kernel
theorem dX12_drift_51 : decode cX12_drift 51 = .ok (.invokevirtual 263, 3) := by decide +kernel
theorem dX12_drift_54 : decode cX12_drift 54 = .ok (.istore 5, 2) := by decide +kernel
theorem dX12_drift_56 : decode cX12_drift 56 = .ok (.aload_n 0, 1) := by decide +kernel
theorem dX12_drift_57 : decode cX12_drift 57 = .ok (.aload_n 0, 1) := by decide +kernel
theorem dX12_drift_58 : decode cX12_drift 58 = .ok (.getfield 150, 3) := by decide +kernel
theorem dX12_drift_61 : decode cX12_drift 61 = .ok (.invokevirtual 263, 3) := by decide +kernel
theorem dX12_drift_64 : decode cX12_drift 64 = .ok (.istore 6, 2) := by decide +kernel
theorem dX12_drift_66 : decode cX12_drift 66 = .ok (.aload_n 0, 1) := by decide +kernel
theorem dX12_drift_67 : decode cX12_drift 67 = .ok (.iload 5, 2) := by decide +kernel
theorem dX12_drift_69 : decode cX12_drift 69 = .ok (.iload 6, 2) := by decide +kernel
theorem dX12_drift_71 : decode cX12_drift 71 = .ok (.aload_n 0, 1) := by decide +kernel
theorem dX12_drift_72 : decode cX12_drift 72 = .ok (.bipush 48, 2) := by decide +kernel
theorem dX12_drift_74 : decode cX12_drift 74 = .ok (.invokevirtual 263, 3) := by decide +kernel
theorem dX12_drift_77 : decode cX12_drift 77 = .ok (.invokevirtual 238, 3) := by decide +kernel
theorem dX12_drift_80 : decode cX12_drift 80 = .ok (.pop, 1) := by decide +kernel
theorem dX12_drift_81 : decode cX12_drift 81 = .ok (.iinc 4 1, 3) := by decide +kernel
theorem dX12_drift_84 : decode cX12_drift 84 = .ok (.goto (-58), 3) := by decide +kernel
theorem dX12_drift_87 : decode cX12_drift 87 = .ok (.aload_n 0, 1) := by decide +kernel
theorem dX12_drift_88 : decode cX12_drift 88 = .ok (.invokevirtual 245, 3) := by decide +kernel
theorem dX12_drift_91 : decode cX12_drift 91 = .ok (.iinc 3 1, 3) := by decide +kernel
theorem dX12_drift_94 : decode cX12_drift 94 = .ok (.goto (-80), 3) := by decide +kernel
theorem dX12_drift_97 : decode cX12_drift 97 = .ok (.aload_n 0, 1) := by decide +kernel
theorem dX12_drift_98 : decode cX12_drift 98 = .ok (.getfield 47, 3) := by decide +kernel
theorem dX12_drift_101 : decode cX12_drift 101 = .ok (.iconst 0, 1) := by decide +kernel
theorem dX12_drift_102 : decode cX12_drift 102 = .ok (.iaload, 1) := by decide +kernel
theorem dX12_drift_103 : decode cX12_drift 103 = .ok (.ireturn, 1) := by decide +kernel
set_option maxRecDepth 4000 in
set_option maxHeartbeats 4000000 in
theorem m_X12_drift (l : Launch) (g : qGm) (M : qMem) {sd : sSD} (hs : sRS sd) (hS : mS M sd) (hv : sRR (sd 4 0) (sd 5 0) (M 61 0)) (hk : mK M) {k : Int} (hkq : qIn k) : qOk l g 7 yX12_drift cX12_drift 7 (some .int) [qR g 35 0, qI k] M (fun r N => mD M (dDrift sd (zM M) k) r N) := by
  refine q_ok (by decide +kernel) (Nat.le_of_ble_eq_true rfl) (fun X C' hn => ?_)
  have C := C'.1
  have km := hs.2.1
  have kn := hs.2.2.1
  have hmn := hs.1
  have w0 := hS.1
  have w1 := hS.2.1
  have w2 := hS.2.2.1
  have ye := dNo_in sd (zM M) k
  refine q_aloadn C dX12_drift_0 rfl ?_
  refine q_iloadn C dX12_drift_1 rfl ?_
  refine cv_RX12_242 C (by decide) (m_X12_needDays l g _ hs hS hv hkq) dX12_drift_2 (Nat.le_of_ble_eq_true rfl) (fun r2 => ?_)
  refine q_istoren C dX12_drift_5 hn (by decide) rfl ?_
  refine q_iloadn C dX12_drift_6 rfl ?_
  refine q_if_ge C 12 dX12_drift_7 (by decide) (by first | assumption | omega | exact q_tin _ | exact q_bIn _) (fun h7 => ?_) (fun h7 => ?_)
  · refine q_iconst C dX12_drift_12 ?_
    have hd0 := dNo_0 (show dNo sd (zM M) k = 0 by omega)
    refine q_istoren C dX12_drift_13 hn (by decide) rfl ?_
    have L14 : ∀ (n14 : Nat) (i : Int) (N : qMem), k - i < (n14 : Int) → (0 ≤ i) → (i ≤ k) → (zF (zM N) (zDrift sd (zM M) i.toNat)) → (mDP M N) → (sRR (sd 4 0) (sd 5 0) (N 61 0)) → (mK N) → (dNo sd (zM M) k = 0) → qV l g X N 14 [(0, qR g 35 0), (1, qI k), (3, qI i)] [] := by
      intro n14
      induction n14 with
      | zero => intro i N hm14 i0 i1 kz kd kv kk kn0; exfalso; first | omega | (simp at *; omega)
      | succ n14 ih14 =>
        intro i N hm14 i0 i1 kz kd kv kk kn0
        have vS := kd.mS hS
        obtain ⟨kr, dr⟩ := mRem_z kk.1 kk.2.1
        have d0 := dNo_0 kn0
        have x0 : N 61 0 0 = M 61 0 0 + i.toNat := (congrFun (congrFun kz.1 0) 0).trans (zDrift_0 sd (zM M) i.toNat)
        have z0 : zM M 0 0 0 = M 61 0 0 := rfl
        refine q_iloadn C dX12_drift_14 rfl ?_
        refine q_iloadn C dX12_drift_15 rfl ?_
        refine q_icmp_ge C 97 dX12_drift_16 (by decide) (by first | assumption | omega | exact q_tin _ | exact q_bIn _) (by first | assumption | omega | exact q_tin _ | exact q_bIn _) (fun h16 => ?_) (fun h16 => ?_)
        · refine q_aloadn C dX12_drift_97 rfl ?_
          refine gf_RX12_47 C dX12_drift_98 ?_
          refine q_iconst C dX12_drift_101 ?_
          refine q_iald C (by first | assumption | decide | omega) rfl dX12_drift_102 (by omega) (by omega) (by decide) (fun r102 => ?_)
          refine q_iret C' dX12_drift_103 (by first | assumption | omega | exact q_tin _ | exact q_bIn _) ?_
          first | (refine ⟨congrArg some ?_, ?_, mDP.rf⟩; (unfold dDrift; rw [if_neg (by omega)]); (unfold dDrift; rw [if_neg (by omega)]; exact zF.rf)) | (have ei : i = k := (by omega); refine ⟨congrArg some ?_, ?_, kd⟩; (unfold dDrift; rw [if_pos kn0, x0, ei]; show _ = M 61 0 0 + k; omega); (unfold dDrift; rw [if_pos kn0, ← ei]; exact kz))
        · refine q_aloadn C dX12_drift_19 rfl ?_
          refine cv_RX12_235 C (by decide) (m_X12_remember l g _ kk.1 kk.2.1) dX12_drift_20 (Nat.le_of_ble_eq_true rfl) ?_
          refine q_iconst C dX12_drift_23 ?_
          refine q_istore C dX12_drift_24 hn (by decide) rfl ?_
          have L26 : ∀ (n26 : Nat) (t : Int) (K : qMem), 2 - t < (n26 : Int) → (0 ≤ t ∧ t ≤ 2) → (zF (zM K) (zLs sd (zRem (zDrift sd (zM M) i.toNat)) t.toNat)) → (mDP M K) → (sRR (sd 4 0) (sd 5 0) (K 61 0)) → (mK K) → (K 61 0 0 = N 61 0 0) → qV l g X K 26 [(0, qR g 35 0), (1, qI k), (3, qI i), (4, qI t)] [] := by
            intro n26
            induction n26 with
            | zero => intro t K hm26 t0 tz td tv tk tx; exfalso; first | omega | (simp at *; omega)
            | succ n26 ih26 =>
              intro t K hm26 t0 tz td tv tk tx
              have uS := td.mS hS
              have u1 := uS.2.1
              have u2 := uS.2.2.1
              refine q_iload C dX12_drift_26 rfl ?_
              refine q_iconst C dX12_drift_28 ?_
              refine q_icmp_ge C 87 dX12_drift_29 (by decide) (by first | assumption | omega | exact q_tin _ | exact q_bIn _) (by first | assumption | omega | exact q_tin _ | exact q_bIn _) (fun h29 => ?_) (fun h29 => ?_)
              · refine q_aloadn C dX12_drift_87 rfl ?_
                refine cv_RX12_245 C (by decide) (m_X12_days l g _ hs uS tv (by omega)) dX12_drift_88 (Nat.le_of_ble_eq_true rfl) ?_
                refine q_iinc C dX12_drift_91 rfl hn (by decide) rfl ?_
                refine q_goto C (tgt := 14) dX12_drift_94 (by decide) ?_
                exact q_ls (by exact ⟨rfl, rfl, rfl, trivial⟩) (ih14 _ _ (by omega) (by omega) (by omega) (by rw [show (i + 1).toNat = i.toNat + 1 by omega, zDrift, mRow_z, ← zLs_2]; refine zF.day ?_ (sd 5 0); first | (have e2 : t = 2 := (by omega); rw [e2] at tz; exact tz) | (rw [zLs_n (by omega)] at tz; rw [zLs_n (by omega)]; exact tz)) (by exact td.tr (mRow_dp _ _)) (by rw [q_setOn']; exact sRR_day tv km.2 kn (by omega)) (by exact mRow_k tk) (by exact kn0))
              · refine q_aloadn C dX12_drift_32 rfl ?_
                refine gf_RX12_147 C dX12_drift_33 (fun r33 => ?_)
                try simp only [q_rd, q_rdS, ↓reduceIte, if_true, if_false, eq_self, Nat.reduceEqDiff, Int.reduceEq, Int.reduceNeg, reduceCtorEq] at r33 ⊢
                refine q_if_le C 87 dX12_drift_36 (by decide) (by first | assumption | omega | exact q_tin _ | exact q_bIn _) (fun h36 => ?_) (fun h36 => ?_)
                · refine q_aloadn C dX12_drift_87 rfl ?_
                  refine cv_RX12_245 C (by decide) (m_X12_days l g _ hs uS tv (by omega)) dX12_drift_88 (Nat.le_of_ble_eq_true rfl) ?_
                  refine q_iinc C dX12_drift_91 rfl hn (by decide) rfl ?_
                  refine q_goto C (tgt := 14) dX12_drift_94 (by decide) ?_
                  exact q_ls (by exact ⟨rfl, rfl, rfl, trivial⟩) (ih14 _ _ (by omega) (by omega) (by omega) (by rw [show (i + 1).toNat = i.toNat + 1 by omega, zDrift, mRow_z, ← zLs_2]; refine zF.day ?_ (sd 5 0); first | (have e2 : t = 2 := (by omega); rw [e2] at tz; exact tz) | (rw [zLs_n (by omega)] at tz; rw [zLs_n (by omega)]; exact tz)) (by exact td.tr (mRow_dp _ _)) (by rw [q_setOn']; exact sRR_day tv km.2 kn (by omega)) (by exact mRow_k tk) (by exact kn0))
                · refine q_aloadn C dX12_drift_39 rfl ?_
                  refine gf_RX12_150 C dX12_drift_40 (fun r40 => ?_)
                  try simp only [q_rd, q_rdS, ↓reduceIte, if_true, if_false, eq_self, Nat.reduceEqDiff, Int.reduceEq, Int.reduceNeg, reduceCtorEq] at r40 ⊢
                  refine q_if_le C 87 dX12_drift_43 (by decide) (by first | assumption | omega | exact q_tin _ | exact q_bIn _) (fun h43 => ?_) (fun h43 => ?_)
                  · refine q_aloadn C dX12_drift_87 rfl ?_
                    refine cv_RX12_245 C (by decide) (m_X12_days l g _ hs uS tv (by omega)) dX12_drift_88 (Nat.le_of_ble_eq_true rfl) ?_
                    refine q_iinc C dX12_drift_91 rfl hn (by decide) rfl ?_
                    refine q_goto C (tgt := 14) dX12_drift_94 (by decide) ?_
                    exact q_ls (by exact ⟨rfl, rfl, rfl, trivial⟩) (ih14 _ _ (by omega) (by omega) (by omega) (by rw [show (i + 1).toNat = i.toNat + 1 by omega, zDrift, mRow_z, ← zLs_2]; refine zF.day ?_ (sd 5 0); first | (have e2 : t = 2 := (by omega); rw [e2] at tz; exact tz) | (rw [zLs_n (by omega)] at tz; rw [zLs_n (by omega)]; exact tz)) (by exact td.tr (mRow_dp _ _)) (by rw [q_setOn']; exact sRR_day tv km.2 kn (by omega)) (by exact mRow_k tk) (by exact kn0))
                  · refine q_aloadn C dX12_drift_46 rfl ?_
                    refine q_aloadn C dX12_drift_47 rfl ?_
                    refine gf_RX12_147 C dX12_drift_48 (fun r48 => ?_)
                    try simp only [q_rd, q_rdS, ↓reduceIte, if_true, if_false, eq_self, Nat.reduceEqDiff, Int.reduceEq, Int.reduceNeg, reduceCtorEq] at r48 ⊢
                    refine cw_RX12_263 C (by decide) (m_X12_drawZ l g _ tk (by omega)) dX12_drift_51 (Nat.le_of_ble_eq_true rfl) (fun r N1 hz hp => ?_)
                    obtain ⟨rfl, z1, g1, k1, f1⟩ := hp
                    have q1 := hz _ rfl
                    show qV l g X _ _ _ (qI _ :: [])
                    have v2 : N1 35 0 17 = sd 5 0 := (g1.mS uS).2.2.1
                    have c1 : 0 ≤ zVal (zDraw (zM K)) (K 35 0 16) ∧ zVal (zDraw (zM K)) (K 35 0 16) < sd 4 0 := ⟨Int.emod_nonneg _ (by omega), by rw [← u1]; exact Int.emod_lt_of_pos _ (by omega)⟩
                    refine q_istore C dX12_drift_54 hn (by decide) rfl ?_
                    refine q_aloadn C dX12_drift_56 rfl ?_
                    refine q_aloadn C dX12_drift_57 rfl ?_
                    refine gf_RX12_150 C dX12_drift_58 (fun r58 => ?_)
                    try simp only [q_rd, q_rdS, ↓reduceIte, if_true, if_false, eq_self, Nat.reduceEqDiff, Int.reduceEq, Int.reduceNeg, reduceCtorEq] at r58 ⊢
                    refine cw_RX12_263 C (by decide) (m_X12_drawZ l g _ k1 (by omega)) dX12_drift_61 (Nat.le_of_ble_eq_true rfl) (fun r N2 hz hp => ?_)
                    obtain ⟨rfl, z2, g2, k2, f2⟩ := hp
                    have q2 := hz _ rfl
                    show qV l g X _ _ _ (qI _ :: [])
                    have c2 : 0 ≤ zVal (zDraw (zM N1)) (N1 35 0 17) ∧ zVal (zDraw (zM N1)) (N1 35 0 17) < sd 5 0 := ⟨Int.emod_nonneg _ (by omega), by rw [← v2]; exact Int.emod_lt_of_pos _ (by omega)⟩
                    refine q_istore C dX12_drift_64 hn (by decide) rfl ?_
                    refine q_aloadn C dX12_drift_66 rfl ?_
                    refine q_iload C dX12_drift_67 rfl ?_
                    refine q_iload C dX12_drift_69 rfl ?_
                    refine q_aloadn C dX12_drift_71 rfl ?_
                    refine q_bipush C dX12_drift_72 (by decide) ?_
                    refine cw_RX12_263 C (by decide) (m_X12_drawZ l g _ k2 (by omega)) dX12_drift_74 (Nat.le_of_ble_eq_true rfl) (fun r N3 hz hp => ?_)
                    obtain ⟨rfl, z3, g3, k3, f3⟩ := hp
                    have q3 := hz _ rfl
                    show qV l g X _ _ _ (qI _ :: qI _ :: qI _ :: qR g 35 0 :: [])
                    have c3 : 0 ≤ zVal (zDraw (zM N2)) 48 ∧ zVal (zDraw (zM N2)) 48 < 48 := ⟨Int.emod_nonneg _ (by omega), Int.emod_lt_of_pos _ (by omega)⟩
                    have e3 : N3 61 0 = K 61 0 := f3.trans (f2.trans f1)
                    refine cv_RX12_238 C (by decide) (m_X12_visits l g _ hs (((g1.tr g2).tr g3).mS uS) (by rw [e3]; exact tv) c1 c2 c3) dX12_drift_77 (Nat.le_of_ble_eq_true rfl) (fun r77 => ?_)
                    refine q_pop C dX12_drift_80 rfl ?_
                    refine q_iinc C dX12_drift_81 rfl hn (by decide) rfl ?_
                    refine q_goto C (tgt := 26) dX12_drift_84 (by decide) ?_
                    exact q_ls (by exact ⟨rfl, rfl, rfl, rfl, trivial⟩) (ih26 _ _ (by omega) (by omega) (by rw [show (t + 1).toNat = t.toNat + 1 by omega, zLs, mLbd2 (K := K) ⟨by omega, by omega⟩ z1 z2 z3 e3 (by rw [u1]) (by rw [v2]) rfl]; exact tz.lbd sd) (by exact (((td.tr g1).tr g2).tr g3).tr (mRow_dp _ _)) (by unfold mVisit; rw [q_setOn', e3]; exact sRR_visit hs tv c1 c2) (by unfold mVisit; exact mRow_k k3) (by unfold mVisit; rw [q_setOn', e3, ← tx]; exact vVisit_0 sd _ c1.1 c2.1))
          exact q_ls (by exact ⟨rfl, rfl, rfl, rfl, trivial⟩) (L26 1000 _ (mRem N) (by omega) (by omega) (by exact kr.tr kz.rem) (by exact kd.tr dr) (by rw [mRem_61]; exact kv) (by exact mRem_k kk) (by rw [mRem_61]))
    exact q_ls (by exact ⟨rfl, rfl, rfl, trivial⟩) (L14 1000 _ M (by omega) (by omega) (by omega) (by exact zF.rf) (by exact mDP.rf) (by exact hv) (by exact hk) (by omega))
  · refine q_iloadn C dX12_drift_10 rfl ?_
    refine q_iret C' dX12_drift_11 (by first | assumption | omega | exact q_tin _ | exact q_bIn _) ?_
    first | (refine ⟨congrArg some ?_, ?_, mDP.rf⟩; (unfold dDrift; rw [if_neg (by omega)]); (unfold dDrift; rw [if_neg (by omega)]; exact zF.rf)) | (have ei : i = k := (by omega); refine ⟨congrArg some ?_, ?_, kd⟩; (unfold dDrift; rw [if_pos kn0, x0, ei]; show _ = M 61 0 0 + k; omega); (unfold dDrift; rw [if_pos kn0, ← ei]; exact kz))
