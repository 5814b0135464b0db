theorem xUp12_fr (N : qMem) {k : Nat} (hk : 10 ≤ k ∧ k ≤ 18) (c z : Int) {j u : Nat} (h : ¬ (10 ≤ j ∧ j ≤ 18 ∧ u = 0)) : qUp N k 0 c z j u = N j u := by
  simp only [q_rdR]
  by_cases hu : u = 0
  · simp [show ¬ j = k by omega]
  · simp [hu]
theorem xZ_mean {N : qMem} {m n : Int} {W : sZ} (hZ : xZ N m n W) {c z : Int} (hm : m ≤ 6) (hn : n ≤ 6) (hc : 0 ≤ c ∧ c < m) (hz : 0 ≤ z ∧ z ≤ 7) : xZ (qUp N 12 0 c z) m n (zRow W (vSet (W 0 0) (8 + c) z)) ∧ xDP N (qUp N 12 0 c z) := by
  obtain ⟨z1, z1'⟩ := hZ.1
  exact ⟨xZ_row hZ (xH_mean z1 z1' hm hn hc) (sRR_mean z1' hm hn hc hz) (fun j u a1 a2 a3 => xUp12_fr N (by decide) c z (by omega)) (xUp12_fr N (by decide) c z (by omega)) (by rw [xUp12_fr N (by decide) c z (by omega)]), fun j u a1 a2 a3 => xUp12_fr N (by decide) c z (by omega)⟩
theorem xZ_stuff {N : qMem} {m n : Int} {W : sZ} (hZ : xZ N m n W) {c z : Int} (hm : m ≤ 6) (hn : n ≤ 6) (hc : 0 ≤ c ∧ c < m) (hz : 0 ≤ z ∧ z ≤ 9) : xZ (qUp N 11 0 c z) m n (zRow W (vSet (W 0 0) (14 + c) z)) ∧ xDP N (qUp N 11 0 c z) := by
  obtain ⟨z1, z1'⟩ := hZ.1
  exact ⟨xZ_row hZ (xH_stuff z1 z1' hm hn hc) (sRR_stuff z1' hm hn hc hz) (fun j u a1 a2 a3 => xUp12_fr N (by decide) c z (by omega)) (xUp12_fr N (by decide) c z (by omega)) (by rw [xUp12_fr N (by decide) c z (by omega)]), fun j u a1 a2 a3 => xUp12_fr N (by decide) c z (by omega)⟩
theorem xZ_pard {N : qMem} {m n : Int} {W : sZ} (hZ : xZ N m n W) {c h : Int} (hm : m ≤ 6) (hn : n ≤ 6) (hc : 0 ≤ c ∧ c < m) (hh : 0 ≤ h ∧ h < n) : xZ (qUp (qUp (qUp N 13 0 c (sDel (N 13 0 c) h)) 15 0 (c * 6 + h) 0) 16 0 (c * 6 + h) 0) m n (zRow W (vPard (W 0 0) c h)) ∧ xDP N (qUp (qUp (qUp N 13 0 c (sDel (N 13 0 c) h)) 15 0 (c * 6 + h) 0) 16 0 (c * 6 + h) 0) := by
  obtain ⟨z1, z1'⟩ := hZ.1
  have fr : ∀ j u, ¬ (10 ≤ j ∧ j ≤ 18 ∧ u = 0) → qUp (qUp (qUp N 13 0 c (sDel (N 13 0 c) h)) 15 0 (c * 6 + h) 0) 16 0 (c * 6 + h) 0 j u = N j u := fun j u q => by
    rw [xUp12_fr _ (by decide) _ _ q, xUp12_fr _ (by decide) _ _ q, xUp12_fr _ (by decide) _ _ q]
  exact ⟨xZ_row hZ (xH_pard z1 z1' hm hn hc hh) (sRR_pard z1' hm hn hc hh) (fun j u a1 a2 a3 => fr j u (by omega)) (fr 26 0 (by omega)) (by rw [fr 0 0 (by omega)]), fun j u a1 a2 a3 => fr j u (by omega)⟩
theorem xLog_15 (M : qMem) (dy c h a r : Int) : xLog M 0 dy c h a r 15 0 = M 15 0 ∧ xLog M 0 dy c h a r 16 0 = M 16 0 := by
  unfold xLog
  simp [q_rdR]
theorem dX11_lay_0 : decode cX11_lay 0 = .ok (.aload_n 0, 1) := by decide +kernel
theorem dX11_lay_1 : decode cX11_lay 1 = .ok (.getfield 38, 3) := by decide +kernel
theorem dX11_lay_4 : decode cX11_lay 4 = .ok (.iload_n 1, 1) := by decide +kernel
theorem dX11_lay_5 : decode cX11_lay 5 = .ok (.iload_n 2, 1) := by decide +kernel
theorem dX11_lay_6 : decode cX11_lay 6 = .ok (.iload_n 3, 1) := by decide +kernel
theorem dX11_lay_7 : decode cX11_lay 7 = .ok (.invokevirtual 259, 3) := by decide +kernel
theorem dX11_lay_10 : decode cX11_lay 10 = .ok (.istore 4, 2) := by decide +kernel
theorem dX11_lay_12 : decode cX11_lay 12 = .ok (.aload_n 0, 1) := by decide +kernel
theorem dX11_lay_13 : decode cX11_lay 13 = .ok (.getfield 34, 3) := by decide +kernel
theorem dX11_lay_16 : decode cX11_lay 16 = .ok (.getfield 156, 3) := by decide +kernel
theorem dX11_lay_19 : decode cX11_lay 19 = .ok (.aload_n 0, 1) := by decide +kernel
theorem dX11_lay_20 : decode cX11_lay 20 = .ok (.getfield 34, 3) := by decide +kernel
theorem dX11_lay_23 : decode cX11_lay 23 = .ok (.getfield 134, 3) := by decide +kernel
theorem dX11_lay_26 : decode cX11_lay 26 = .ok (.iload_n 1, 1) := by decide +kernel
theorem dX11_lay_27 : decode cX11_lay 27 = .ok (.iload_n 2, 1) := by decide +kernel
theorem dX11_lay_28 : decode cX11_lay 28 = .ok (.iload_n 3, 1) := by decide +kernel
theorem dX11_lay_29 : decode cX11_lay 29 = .ok (.iload 4, 2) := by decide +kernel
theorem dX11_lay_31 : decode cX11_lay 31 = .ok (.invokevirtual 324, 3) := by decide +kernel
theorem dX11_lay_34 : decode cX11_lay 34 = .ok (.iload 4, 2) := by decide +kernel
theorem dX11_lay_36 : decode cX11_lay 36 = .ok (.ifCond .eq 12, 3) := by decide +kernel
theorem dX11_lay_39 : decode cX11_lay 39 = .ok (.aload_n 0, 1) := by decide +kernel
theorem dX11_lay_40 : decode cX11_lay 40 = .ok (.getfield 34, 3) := by decide +kernel
theorem dX11_lay_43 : decode cX11_lay 43 = .ok (.iload_n 1, 1) := by decide +kernel
theorem dX11_lay_44 : decode cX11_lay 44 = .ok (.iload_n 2, 1) := by decide +kernel
theorem dX11_lay_45 : decode cX11_lay 45 = .ok (.invokevirtual 327, 3) := by decide +kernel
theorem dX11_lay_48 : decode cX11_lay 48 = .ok (.iload 4, 2) := by decide +kernel
theorem dX11_lay_50 : decode cX11_lay 50 = .ok (.ireturn, 1) := by decide +kernel
set_option maxRecDepth 4000 in
set_option maxHeartbeats 4000000 in
theorem m_X11_lay (l : Launch) (g : qGm) (M : qMem) {sd : sSD} (hs : sRS sd) (hS : xS M sd) {Z : sZ} (hZ : xZ M (sd 4 0) (sd 5 0) Z) {c : Int} (hc : 0 ≤ c ∧ c < sd 4 0) {h : Int} (hh : 0 ≤ h ∧ h < sd 5 0) {a : Int} (ha : 0 ≤ a ∧ a < 48) : qOk l g 5 yX11_lay cX11_lay 5 (some .int) [qR g 0 0, qI c, qI h, qI a] M (fun r N => r = some (sAns sd (Z 0 0) c h a) ∧ xZ N (sd 4 0) (sd 5 0) (zRow Z (vVisit sd (Z 0 0) c h a)) ∧ xDP M N) := by
  refine q_ok (by decide +kernel) (Nat.le_of_ble_eq_true rfl) (fun X C' hn => ?_)
  have C := C'.1
  have hm6 := hs.2.1
  have hn6 := hs.2.2.1
  have w0 := hS.1
  have w1 := hS.2.1
  have w2 := hS.2.2.1
  have y1 := hZ.1.1
  have y2 := hZ.1.2
  have y3 := hZ.2.1
  have y4 := hZ.2.2.1
  have y5 := hZ.2.2.2.2
  have ya := sAns_in sd (Z 0 0) c h a
  have yl := y1.2.2.2.2.2.1
  have yn := y1.2.2.2.2.2.2.1
  have yv := y2.2.2.2.2.2
  have yk := (y1.2.2.2.2.1 c h hc.1 (by omega) hh.1 (by omega)).1 (by omega)
  have yb := y2.2.2.2.2.1 c h hc.1 hc.2 hh.1 hh.2
  have yz := xZ_lay hs hZ hc hh (a := a)
  have yf := xLog_15 M (M 10 0 0) c h a (sAns sd (Z 0 0) c h a)
  unfold xLay at yz
  refine q_aloadn C dX11_lay_0 rfl ?_
  refine gf_RX11_38 C dX11_lay_1 ?_
  refine q_iloadn C dX11_lay_4 rfl ?_
  refine q_iloadn C dX11_lay_5 rfl ?_
  refine q_iloadn C dX11_lay_6 rfl ?_
  refine cv_RX11_259 C (by decide) (m_X10_answer l g _ hs hS y2 y1 hc hh ha) dX11_lay_7 (Nat.le_of_ble_eq_true rfl) (fun r7 => ?_)
  refine q_istore C dX11_lay_10 hn (by decide) rfl ?_
  refine q_aloadn C dX11_lay_12 rfl ?_
  refine gf_RX11_34 C dX11_lay_13 ?_
  refine gf_RX11_156 C (by decide) dX11_lay_16 ?_
  refine q_aloadn C dX11_lay_19 rfl ?_
  refine gf_RX11_34 C dX11_lay_20 ?_
  refine gf_RX11_134 C (by decide) dX11_lay_23 (fun r23 => ?_)
  refine q_iloadn C dX11_lay_26 rfl ?_
  refine q_iloadn C dX11_lay_27 rfl ?_
  refine q_iloadn C dX11_lay_28 rfl ?_
  refine q_iload C dX11_lay_29 rfl ?_
  refine cv_RX11_324 C (by decide) (by decide) (m_X4_append l g _ (by decide) (by omega) (by omega) (by omega) (by omega) (by omega) (by omega) (by omega)) dX11_lay_31 (Nat.le_of_ble_eq_true rfl) ?_
  refine q_iload C dX11_lay_34 rfl ?_
  refine q_if_eq C 48 dX11_lay_36 (by decide) (by first | assumption | omega | exact q_tin _ | exact q_bIn _) (fun h36 => ?_) (fun h36 => ?_)
  · refine q_iload C dX11_lay_48 rfl ?_
    refine q_iret C' dX11_lay_50 (by first | assumption | omega | exact q_tin _ | exact q_bIn _) ?_
    refine ⟨rfl, ?_⟩
    first | (rw [if_pos h36] at yz; exact yz) | (rw [if_neg h36] at yz; exact yz)
  · refine q_aloadn C dX11_lay_39 rfl ?_
    refine gf_RX11_34 C dX11_lay_40 ?_
    refine q_iloadn C dX11_lay_43 rfl ?_
    refine q_iloadn C dX11_lay_44 rfl ?_
    refine cv_RX11_327 C (by decide) (by decide) (m_X2_welcomeIn l g _ (by decide) (by omega) (by omega) (by rw [yf.1]; omega) (by rw [yf.2]; omega)) dX11_lay_45 (Nat.le_of_ble_eq_true rfl) ?_
    refine q_iload C dX11_lay_48 rfl ?_
    refine q_iret C' dX11_lay_50 (by first | assumption | omega | exact q_tin _ | exact q_bIn _) ?_
    refine ⟨rfl, ?_⟩
    first | (rw [if_pos h36] at yz; exact yz) | (rw [if_neg h36] at yz; exact yz)
theorem dX11_draw_0 : decode cX11_draw 0 = .ok (.aload_n 0, 1) := by decide +kernel
theorem dX11_draw_1 : decode cX11_draw 1 = .ok (.aload_n 0, 1) := by decide +kernel
theorem dX11_draw_2 : decode cX11_draw 2 = .ok (.getfield 82, 3) := by decide +kernel
theorem dX11_draw_5 : decode cX11_draw 5 = .ok (.ldc_w 333, 3) := by decide +kernel
theorem dX11_draw_8 : decode cX11_draw 8 = .ok (.imul, 1) := by decide +kernel
theorem dX11_draw_9 : decode cX11_draw 9 = .ok (.sipush 12345, 3) := by decide +kernel
theorem dX11_draw_12 : decode cX11_draw 12 = .ok (.iadd, 1) := by decide +kernel
theorem dX11_draw_13 : decode cX11_draw 13 = .ok (.ldc_w 334, 3) := by decide +kernel
theorem dX11_draw_16 : decode cX11_draw 16 = .ok (.iand, 1) := by decide +kernel
theorem dX11_draw_17 : decode cX11_draw 17 = .ok (.putfield 82, 3) := by decide +kernel
theorem dX11_draw_20 : decode cX11_draw 20 = .ok (.iload_n 1, 1) := by decide +kernel
theorem dX11_draw_21 : decode cX11_draw 21 = .ok (.iconst 1, 1) := by decide +kernel
theorem dX11_draw_22 : decode cX11_draw 22 = .ok (.if_icmp .ge 7, 3) := by decide +kernel
theorem dX11_draw_25 : decode cX11_draw 25 = .ok (.iconst 0, 1) := by decide +kernel
theorem dX11_draw_26 : decode cX11_draw 26 = .ok (.goto 13, 3) := by decide +kernel
theorem dX11_draw_29 : decode cX11_draw 29 = .ok (.aload_n 0, 1) := by decide +kernel
theorem dX11_draw_30 : decode cX11_draw 30 = .ok (.getfield 82, 3) := by decide +kernel
theorem dX11_draw_33 : decode cX11_draw 33 = .ok (.ldc_w 335, 3) := by decide +kernel
theorem dX11_draw_36 : decode cX11_draw 36 = .ok (.idiv, 1) := by decide +kernel
theorem dX11_draw_37 : decode cX11_draw 37 = .ok (.iload_n 1, 1) := by decide +kernel
theorem dX11_draw_38 : decode cX11_draw 38 = .ok (.irem, 1) := by decide +kernel
theorem dX11_draw_39 : decode cX11_draw 39 = .ok (.ireturn, 1) := by decide +kernel
set_option maxRecDepth 4000 in
set_option maxHeartbeats 4000000 in
theorem m_X11_draw (l : Launch) (g : qGm) (M : qMem) {m n : Int} {Z : sZ} (hZ : xZ M m n Z) {k : Int} (hk : 1 ≤ k ∧ k ≤ 48) : qOk l g 1 yX11_draw cX11_draw 2 (some .int) [qR g 0 0, qI k] M (fun r N => r = some (zVal (zDraw Z) k) ∧ xZ N m n (zDraw Z) ∧ xDP M N) := by
  refine q_ok (by decide +kernel) (Nat.le_of_ble_eq_true rfl) (fun X C' hn => ?_)
  have C := C'.1
  have y5 := hZ.2.2.2.2
  have ys := y5.1
  refine q_aloadn C dX11_draw_0 rfl ?_
  refine q_aloadn C dX11_draw_1 rfl ?_
  refine gf_RX11_82 C dX11_draw_2 (fun r2 => ?_)
  refine q_ldcw C (z := 1103515245) q_ci_RX11_333 (by decide) dX11_draw_5 ?_
  refine q_imul C dX11_draw_8 ?_
  refine q_sipush C dX11_draw_9 (by decide) ?_
  refine q_iadd C dX11_draw_12 ?_
  refine q_ldcw C (z := 2147483647) q_ci_RX11_334 (by decide) dX11_draw_13 ?_
  refine q_iand C dX11_draw_16 ?_
  rw [q_and31, ys]
  have yb : 0 ≤ ((Z 2 0 2 * 1103515245 + 12345) % 2147483648) ∧ ((Z 2 0 2 * 1103515245 + 12345) % 2147483648) ≤ 2147483647 := by omega
  have yz := xZ_seed hZ yb
  have yv : zVal (zDraw Z) k = ((Z 2 0 2 * 1103515245 + 12345) % 2147483648) / 65536 % k := by unfold zVal zDraw; simp [zSeed]
  generalize hS1 : ((Z 2 0 2 * 1103515245 + 12345) % 2147483648) = S1 at *
  refine pf_RX11_82 C (by first | assumption | omega | exact q_tin _ | exact q_bIn _) dX11_draw_17 ?_
  refine q_iloadn C dX11_draw_20 rfl ?_
  refine q_iconst C dX11_draw_21 ?_
  refine q_icmp_ge C 29 dX11_draw_22 (by decide) (by first | assumption | omega | exact q_tin _ | exact q_bIn _) (by first | assumption | omega | exact q_tin _ | exact q_bIn _) (fun h22 => ?_) (fun h22 => ?_)
  · refine q_aloadn C dX11_draw_29 rfl ?_
    refine gf_RX11_82 C dX11_draw_30 (fun r30 => ?_)
    try simp only [q_rd, q_rdS, ↓reduceIte, if_true, if_false, eq_self, Nat.reduceEqDiff, Int.reduceEq, Int.reduceNeg, reduceCtorEq] at r30 ⊢
    refine q_ldcw C (z := 65536) q_ci_RX11_335 (by decide) dX11_draw_33 ?_
    refine q_idiv C dX11_draw_36 (by omega) (by omega) (by omega) (by omega) ?_
    refine q_iloadn C dX11_draw_37 rfl ?_
    refine q_irem C dX11_draw_38 (by omega) (by omega) (by omega) (by omega) ?_
    refine q_iret C' dX11_draw_39 (by first | omega | (have a1 := Int.emod_nonneg (S1 / 65536) (show k ≠ 0 by omega); have a2 := Int.emod_lt_of_pos (S1 / 65536) (show 0 < k by omega); omega)) ?_
    first | (exfalso; omega) | (refine ⟨congrArg some ?_, ?_⟩; (rw [yv]); (rw [← hS1] at yz ⊢; exact yz))
  · refine q_iconst C dX11_draw_25 ?_
    refine q_goto C (tgt := 39) dX11_draw_26 (by decide) ?_
    refine q_iret C' dX11_draw_39 (by first | omega | (have a1 := Int.emod_nonneg (S1 / 65536) (show k ≠ 0 by omega); have a2 := Int.emod_lt_of_pos (S1 / 65536) (show 0 < k by omega); omega)) ?_
    first | (exfalso; omega) | (refine ⟨congrArg some ?_, ?_⟩; (rw [yv]); (rw [← hS1] at yz ⊢; exact yz))
theorem dX11_layByDraws_0 : decode cX11_layByDraws 0 = .ok (.aload_n 0, 1) := by decide +kernel
theorem dX11_layByDraws_1 : decode cX11_layByDraws 1 = .ok (.getfield 31, 3) := by decide +kernel
theorem dX11_layByDraws_4 : decode cX11_layByDraws 4 = .ok (.getfield 122, 3) := by decide +kernel
theorem dX11_layByDraws_7 : decode cX11_layByDraws 7 = .ok (.iconst 1, 1) := by decide +kernel
theorem dX11_layByDraws_8 : decode cX11_layByDraws 8 = .ok (.if_icmp .lt 14, 3) := by decide +kernel
theorem dX11_layByDraws_11 : decode cX11_layByDraws 11 = .ok (.aload_n 0, 1) := by decide +kernel
theorem dX11_layByDraws_12 : decode cX11_layByDraws 12 = .ok (.getfield 31, 3) := by decide +kernel
theorem dX11_layByDraws_15 : decode cX11_layByDraws 15 = .ok (.getfield 131, 3) := by decide +kernel
theorem dX11_layByDraws_18 : decode cX11_layByDraws 18 = .ok (.iconst 1, 1) := by decide +kernel
theorem dX11_layByDraws_19 : decode cX11_layByDraws 19 = .ok (.if_icmp .ge 4, 3) := by decide +kernel
theorem dX11_layByDraws_22 : decode cX11_layByDraws 22 = .ok (.return_, 1) := by decide +kernel
theorem dX11_layByDraws_23 : decode cX11_layByDraws 23 = .ok (.aload_n 0, 1) := by decide +kernel
theorem dX11_layByDraws_24 : decode cX11_layByDraws 24 = .ok (.aload_n 0, 1) := by decide +kernel
theorem dX11_layByDraws_25 : decode cX11_layByDraws 25 = .ok (.getfield 31, 3) := by decide +kernel
theorem dX11_layByDraws_28 : decode cX11_layByDraws 28 = .ok (.getfield 122, 3) := by decide +kernel
theorem dX11_layByDraws_31 : decode cX11_layByDraws 31 = .ok (.invokevirtual 330, 3) := by decide +kernel
theorem dX11_layByDraws_34 : decode cX11_layByDraws 34 = .ok (.istore_n 1, 1) := by decide +kernel
theorem dX11_layByDraws_35 : decode cX11_layByDraws 35 = .ok (.aload_n 0, 1) := by decide +kernel
theorem dX11_layByDraws_36 : decode cX11_layByDraws 36 = .ok (.aload_n 0, 1) := by decide +kernel
theorem dX11_layByDraws_37 : decode cX11_layByDraws 37 = .ok (.getfield 31, 3) := by decide +kernel
theorem dX11_layByDraws_40 : decode cX11_layByDraws 40 = .ok (.getfield 131, 3) := by decide +kernel
theorem dX11_layByDraws_43 : decode cX11_layByDraws 43 = .ok (.invokevirtual 330, 3) := by decide +kernel
theorem dX11_layByDraws_46 : decode cX11_layByDraws 46 = .ok (.istore_n 2, 1) := by decide +kernel
theorem dX11_layByDraws_47 : decode cX11_layByDraws 47 = .ok (.aload_n 0, 1) := by decide +kernel
theorem dX11_layByDraws_48 : decode cX11_layByDraws 48 = .ok (.bipush 48, 2) := by decide +kernel
theorem dX11_layByDraws_50 : decode cX11_layByDraws 50 = .ok (.invokevirtual 330, 3) := by decide +kernel
theorem dX11_layByDraws_53 : decode cX11_layByDraws 53 = .ok (.istore_n 3, 1) := by decide +kernel
theorem dX11_layByDraws_54 : decode cX11_layByDraws 54 = .ok (.aload_n 0, 1) := by decide +kernel
theorem dX11_layByDraws_55 : decode cX11_layByDraws 55 = .ok (.iload_n 1, 1) := by decide +kernel
theorem dX11_layByDraws_56 : decode cX11_layByDraws 56 = .ok (.iload_n 2, 1) := by decide +kernel
theorem dX11_layByDraws_57 : decode cX11_layByDraws 57 = .ok (.iload_n 3, 1) := by decide +kernel
theorem dX11_layByDraws_58 : decode cX11_layByDraws 58 = .ok (.invokevirtual 231, 3) := by decide +kernel
theorem dX11_layByDraws_61 : decode cX11_layByDraws 61 = .ok (.pop, 1) := by decide +kernel
theorem dX11_layByDraws_62 : decode cX11_layByDraws 62 = .ok (.return_, 1) := by decide +kernel
set_option maxRecDepth 4000 in
set_option maxHeartbeats 4000000 in
theorem m_X11_layByDraws (l : Launch) (g : qGm) (M : qMem) {sd : sSD} (hs : sRS sd) (hS : xS M sd) {Z : sZ} (hZ : xZ M (sd 4 0) (sd 5 0) Z) : qOk l g 6 yX11_layByDraws cX11_layByDraws 4 none [qR g 0 0] M (fun r N => r = none ∧ xZ N (sd 4 0) (sd 5 0) (zLbd sd Z) ∧ xDP M N) := by
  refine q_ok (by decide +kernel) (Nat.le_of_ble_eq_true rfl) (fun X C' hn => ?_)
  have C := C'.1
  have hm6 := hs.2.1
  have hn6 := hs.2.2.1
  have w0 := hS.1
  have w1 := hS.2.1
  have w2 := hS.2.2.1
  have y1 := hZ.1.1
  have y2 := hZ.1.2
  have y3 := hZ.2.1
  have y4 := hZ.2.2.1
  have y5 := hZ.2.2.2.2
  refine q_aloadn C dX11_layByDraws_0 rfl ?_
  refine gf_RX11_31 C dX11_layByDraws_1 ?_
  refine gf_RX11_122 C (by decide) dX11_layByDraws_4 (fun r4 => ?_)
  refine q_iconst C dX11_layByDraws_7 ?_
  refine q_icmp_lt C 22 dX11_layByDraws_8 (by decide) (by first | assumption | omega | exact q_tin _ | exact q_bIn _) (by first | assumption | omega | exact q_tin _ | exact q_bIn _) (fun h8 => ?_) (fun h8 => ?_)
  · refine q_vret C' dX11_layByDraws_22 ?_
    refine ⟨rfl, ?_, xDP.rf⟩
    unfold zLbd
    rw [if_neg (by omega)]
    exact hZ
  · refine q_aloadn C dX11_layByDraws_11 rfl ?_
    refine gf_RX11_31 C dX11_layByDraws_12 ?_
    refine gf_RX11_131 C (by decide) dX11_layByDraws_15 (fun r15 => ?_)
    refine q_iconst C dX11_layByDraws_18 ?_
    refine q_icmp_ge C 23 dX11_layByDraws_19 (by decide) (by first | assumption | omega | exact q_tin _ | exact q_bIn _) (by first | assumption | omega | exact q_tin _ | exact q_bIn _) (fun h19 => ?_) (fun h19 => ?_)
    · refine q_aloadn C dX11_layByDraws_23 rfl ?_
      refine q_aloadn C dX11_layByDraws_24 rfl ?_
      refine gf_RX11_31 C dX11_layByDraws_25 ?_
      refine gf_RX11_122 C (by decide) dX11_layByDraws_28 (fun r28 => ?_)
      refine cw_RX11_330 C (by decide) (m_X11_draw l g _ hZ (by omega)) dX11_layByDraws_31 (Nat.le_of_ble_eq_true rfl) (fun r N1 hz hp => ?_)
      obtain ⟨rfl, k1, d1⟩ := hp
      have q1 := hz _ rfl
      show qV l g X _ _ _ (qI _ :: [])
      have w1 : N1 3 1 1 = sd 4 0 := (d1.xS hS).2.1
      have w2 : N1 3 1 2 = sd 5 0 := (d1.xS hS).2.2.1
      refine q_istoren C dX11_layByDraws_34 hn (by decide) rfl ?_
      refine q_aloadn C dX11_layByDraws_35 rfl ?_
      refine q_aloadn C dX11_layByDraws_36 rfl ?_
      refine gf_RX11_31 C dX11_layByDraws_37 ?_
      refine gf_RX11_131 C (by decide) dX11_layByDraws_40 (fun r40 => ?_)
      refine cw_RX11_330 C (by decide) (m_X11_draw l g _ k1 (by omega)) dX11_layByDraws_43 (Nat.le_of_ble_eq_true rfl) (fun r N2 hz hp => ?_)
      obtain ⟨rfl, k2, d2⟩ := hp
      have q2 := hz _ rfl
      show qV l g X _ _ _ (qI _ :: [])
      refine q_istoren C dX11_layByDraws_46 hn (by decide) rfl ?_
      refine q_aloadn C dX11_layByDraws_47 rfl ?_
      refine q_bipush C dX11_layByDraws_48 (by decide) ?_
      refine cw_RX11_330 C (by decide) (m_X11_draw l g _ k2 (by omega)) dX11_layByDraws_50 (Nat.le_of_ble_eq_true rfl) (fun r N3 hz hp => ?_)
      obtain ⟨rfl, k3, d3⟩ := hp
      have q3 := hz _ rfl
      show qV l g X _ _ _ (qI _ :: [])
      have b1 : 0 ≤ zVal (zDraw Z) (M 3 1 1) ∧ zVal (zDraw Z) (M 3 1 1) < sd 4 0 := ⟨Int.emod_nonneg _ (by omega), by rw [← hS.2.1]; exact Int.emod_lt_of_pos _ (by omega)⟩
      have b2 : 0 ≤ zVal (zDraw (zDraw Z)) (N1 3 1 2) ∧ zVal (zDraw (zDraw Z)) (N1 3 1 2) < sd 5 0 := ⟨Int.emod_nonneg _ (by omega), by rw [← w2]; exact Int.emod_lt_of_pos _ (by omega)⟩
      have b3 : 0 ≤ zVal (zDraw (zDraw (zDraw Z))) 48 ∧ zVal (zDraw (zDraw (zDraw Z))) 48 < 48 := ⟨Int.emod_nonneg _ (by omega), Int.emod_lt_of_pos _ (by omega)⟩
      refine q_istoren C dX11_layByDraws_53 hn (by decide) rfl ?_
      refine q_aloadn C dX11_layByDraws_54 rfl ?_
      refine q_iloadn C dX11_layByDraws_55 rfl ?_
      refine q_iloadn C dX11_layByDraws_56 rfl ?_
      refine q_iloadn C dX11_layByDraws_57 rfl ?_
      refine cw_RX11_231 C (by decide) (m_X11_lay l g _ hs (((d1.tr d2).tr d3).xS hS) k3 b1 b2 b3) dX11_layByDraws_58 (Nat.le_of_ble_eq_true rfl) (fun r N4 hz hp => ?_)
      obtain ⟨rfl, k4, d4⟩ := hp
      have q4 := hz _ rfl
      show qV l g X _ _ _ (qI _ :: [])
      refine q_pop C dX11_layByDraws_61 rfl ?_
      refine q_vret C' dX11_layByDraws_62 ?_
      refine ⟨rfl, ?_, ((d1.tr d2).tr d3).tr d4⟩
      unfold zLbd
      rw [if_pos (by omega)]
      rw [hS.2.1, w2, zDraw_r, zDraw_r, zDraw_r] at k4
      exact k4
    · refine q_vret C' dX11_layByDraws_22 ?_
      refine ⟨rfl, ?_, xDP.rf⟩
      unfold zLbd
      rw [if_neg (by omega)]
      exact hZ
theorem dX11_refusalOfDays_0 : decode cX11_refusalOfDays 0 = .ok (.iload_n 1, 1) := by decide +kernel
theorem dX11_refusalOfDays_1 : decode cX11_refusalOfDays 1 = .ok (.iconst 1, 1) := by decide +kernel
theorem dX11_refusalOfDays_2 : decode cX11_refusalOfDays 2 = .ok (.if_icmp .lt 9, 3) := by decide +kernel
theorem dX11_refusalOfDays_5 : decode cX11_refusalOfDays 5 = .ok (.iload_n 1, 1) := by decide +kernel
theorem dX11_refusalOfDays_6 : decode cX11_refusalOfDays 6 = .ok (.bipush 30, 2) := by decide +kernel
theorem dX11_refusalOfDays_8 : decode cX11_refusalOfDays 8 = .ok (.if_icmp .le 6, 3) := by decide +kernel
theorem dX11_refusalOfDays_11 : decode cX11_refusalOfDays 11 = .ok (.ldc 90, 2) := by decide +kernel
theorem dX11_refusalOfDays_13 : decode cX11_refusalOfDays 13 = .ok (.ireturn, 1) := by decide +kernel
theorem dX11_refusalOfDays_14 : decode cX11_refusalOfDays 14 = .ok (.aload_n 0, 1) := by decide +kernel
theorem dX11_refusalOfDays_15 : decode cX11_refusalOfDays 15 = .ok (.getfield 31, 3) := by decide +kernel
theorem dX11_refusalOfDays_18 : decode cX11_refusalOfDays 18 = .ok (.invokevirtual 214, 3) := by decide +kernel
theorem dX11_refusalOfDays_21 : decode cX11_refusalOfDays 21 = .ok (.ifCond .ne 6, 3) := by decide +kernel
theorem dX11_refusalOfDays_24 : decode cX11_refusalOfDays 24 = .ok (.ldc 218, 2) := by decide +kernel
theorem dX11_refusalOfDays_26 : decode cX11_refusalOfDays 26 = .ok (.ireturn, 1) := by decide +kernel
theorem dX11_refusalOfDays_27 : decode cX11_refusalOfDays 27 = .ok (.aload_n 0, 1) := by decide +kernel
theorem dX11_refusalOfDays_28 : decode cX11_refusalOfDays 28 = .ok (.getfield 34, 3) := by decide +kernel
theorem dX11_refusalOfDays_31 : decode cX11_refusalOfDays 31 = .ok (.getfield 134, 3) := by decide +kernel
theorem dX11_refusalOfDays_34 : decode cX11_refusalOfDays 34 = .ok (.ldc_w 323, 3) := by decide +kernel
theorem dX11_refusalOfDays_37 : decode cX11_refusalOfDays 37 = .ok (.if_icmp .le 8, 3) := by decide +kernel
theorem dX11_refusalOfDays_40 : decode cX11_refusalOfDays 40 = .ok (.ldc 98, 2) := by decide +kernel
theorem dX11_refusalOfDays_42 : decode cX11_refusalOfDays 42 = .ok (.goto 4, 3) := by decide +kernel
theorem dX11_refusalOfDays_45 : decode cX11_refusalOfDays 45 = .ok (.iconst 0, 1) := by decide +kernel
theorem dX11_refusalOfDays_46 : decode cX11_refusalOfDays 46 = .ok (.ireturn, 1) := by decide +kernel
set_option maxRecDepth 4000 in
set_option maxHeartbeats 4000000 in
theorem m_X11_refusalOfDays (l : Launch) (g : qGm) (M : qMem) {sd : sSD} (hs : sRS sd) (hS : xS M sd) {Z : sZ} (hZ : xZ M (sd 4 0) (sd 5 0) Z) {k : Int} (hkq : qIn k) : qOk l g 2 yX11_refusalOfDays cX11_refusalOfDays 2 (some .int) [qR g 0 0, qI k] M (qEv (some (dNo sd Z k)) M) := by
  refine q_ok (by decide +kernel) (Nat.le_of_ble_eq_true rfl) (fun X C' hn => ?_)
  have C := C'.1
  have hm6 := hs.2.1
  have hn6 := hs.2.2.1
  have w0 := hS.1
  have w1 := hS.2.1
  have w2 := hS.2.2.1
  have y1 := hZ.1.1
  have y2 := hZ.1.2
  have y3 := hZ.2.1
  have y4 := hZ.2.2.1
  have y5 := hZ.2.2.2.2
  have yd := y1.1
  have ye := y2.1
  refine q_iloadn C dX11_refusalOfDays_0 rfl ?_
  refine q_iconst C dX11_refusalOfDays_1 ?_
  refine q_icmp_lt C 11 dX11_refusalOfDays_2 (by decide) (by first | assumption | omega | exact q_tin _ | exact q_bIn _) (by first | assumption | omega | exact q_tin _ | exact q_bIn _) (fun h2 => ?_) (fun h2 => ?_)
  · refine q_ldc C (z := -1000000002) q_ci_RX11_90 (by decide) dX11_refusalOfDays_11 ?_
    refine q_iret C' dX11_refusalOfDays_13 (by first | assumption | omega | exact q_tin _ | exact q_bIn _) ?_
    refine ⟨congrArg some ?_, rfl⟩
    unfold dNo
    first | (rw [if_neg (by omega)]; done) | (rw [if_pos (by omega), if_pos (by omega)]; done) | (rw [if_pos (by omega), if_neg (by omega), if_pos (by omega)]; done) | (rw [if_pos (by omega), if_neg (by omega), if_neg (by omega)]; done)
  · refine q_iloadn C dX11_refusalOfDays_5 rfl ?_
    refine q_bipush C dX11_refusalOfDays_6 (by decide) ?_
    refine q_icmp_le C 14 dX11_refusalOfDays_8 (by decide) (by first | assumption | omega | exact q_tin _ | exact q_bIn _) (by first | assumption | omega | exact q_tin _ | exact q_bIn _) (fun h8 => ?_) (fun h8 => ?_)
    · refine q_aloadn C dX11_refusalOfDays_14 rfl ?_
      refine gf_RX11_31 C dX11_refusalOfDays_15 ?_
      refine cv_RX11_214 C (by decide) (by decide) (m_X7_isOn l g _ (by decide)) dX11_refusalOfDays_18 (Nat.le_of_ble_eq_true rfl) (fun r18 => ?_)
      refine q_ifneB C 27 dX11_refusalOfDays_21 (by decide) (fun h21 => ?_) (fun h21 => ?_)
      · refine q_aloadn C dX11_refusalOfDays_27 rfl ?_
        refine gf_RX11_34 C dX11_refusalOfDays_28 ?_
        refine gf_RX11_134 C (by decide) dX11_refusalOfDays_31 (fun r31 => ?_)
        refine q_ldcw C (z := 90000) q_ci_RX11_323 (by decide) dX11_refusalOfDays_34 ?_
        refine q_icmp_le C 45 dX11_refusalOfDays_37 (by decide) (by first | assumption | omega | exact q_tin _ | exact q_bIn _) (by first | assumption | omega | exact q_tin _ | exact q_bIn _) (fun h37 => ?_) (fun h37 => ?_)
        · refine q_iconst C dX11_refusalOfDays_45 ?_
          refine q_iret C' dX11_refusalOfDays_46 (by first | assumption | omega | exact q_tin _ | exact q_bIn _) ?_
          refine ⟨congrArg some ?_, rfl⟩
          unfold dNo
          first | (rw [if_neg (by omega)]; done) | (rw [if_pos (by omega), if_pos (by omega)]; done) | (rw [if_pos (by omega), if_neg (by omega), if_pos (by omega)]; done) | (rw [if_pos (by omega), if_neg (by omega), if_neg (by omega)]; done)
        · refine q_ldc C (z := -1000000004) q_ci_RX11_98 (by decide) dX11_refusalOfDays_40 ?_
          refine q_goto C (tgt := 46) dX11_refusalOfDays_42 (by decide) ?_
          refine q_iret C' dX11_refusalOfDays_46 (by first | assumption | omega | exact q_tin _ | exact q_bIn _) ?_
          refine ⟨congrArg some ?_, rfl⟩
          unfold dNo
          first | (rw [if_neg (by omega)]; done) | (rw [if_pos (by omega), if_pos (by omega)]; done) | (rw [if_pos (by omega), if_neg (by omega), if_pos (by omega)]; done) | (rw [if_pos (by omega), if_neg (by omega), if_neg (by omega)]; done)
      · refine q_ldc C (z := -1000000003) q_ci_RX11_218 (by decide) dX11_refusalOfDays_24 ?_
        refine q_iret C' dX11_refusalOfDays_26 (by first | assumption | omega | exact q_tin _ | exact q_bIn _) ?_
        refine ⟨congrArg some ?_, rfl⟩
        unfold dNo
        first | (rw [if_neg (by omega)]; done) | (rw [if_pos (by omega), if_pos (by omega)]; done) | (rw [if_pos (by omega), if_neg (by omega), if_pos (by omega)]; done) | (rw [if_pos (by omega), if_neg (by omega), if_neg (by omega)]; done)
    · refine q_ldc C (z := -1000000002) q_ci_RX11_90 (by decide) dX11_refusalOfDays_11 ?_
      refine q_iret C' dX11_refusalOfDays_13 (by first | assumption | omega | exact q_tin _ | exact q_bIn _) ?_
      refine ⟨congrArg some ?_, rfl⟩
      unfold dNo
      first | (rw [if_neg (by omega)]; done) | (rw [if_pos (by omega), if_pos (by omega)]; done) | (rw [if_pos (by omega), if_neg (by omega), if_pos (by omega)]; done) | (rw [if_pos (by omega), if_neg (by omega), if_neg (by omega)]; done)
theorem dNo_in (sd : sSD) (Z : sZ) (k : Int) : dNo sd Z k = 0 ∨ dNo sd Z k = -1000000002 ∨ dNo sd Z k = -1000000003 ∨ dNo sd Z k = -1000000004 := by
  unfold dNo
  repeat' split
  all_goals omega
theorem dNo_0 {sd : sSD} {Z : sZ} {k : Int} (h : dNo sd Z k = 0) : 1 ≤ k ∧ k ≤ 30 ∧ sd 0 0 ≠ -1 ∧ Z 0 0 0 ≤ 90000 := by
  unfold dNo at h
  by_cases e1 : 1 ≤ k ∧ k ≤ 30
  · rw [if_pos e1] at h
    by_cases e2 : sd 0 0 = -1
    · rw [if_pos e2] at h; omega
    · rw [if_neg e2] at h
      by_cases e3 : 90000 < Z 0 0 0
      · rw [if_pos e3] at h; omega
      · exact ⟨e1.1, e1.2, e2, by omega⟩
  · rw [if_neg e1] at h; omega
theorem dX11_day_0 : decode cX11_day 0 = .ok (.aload_n 0, 1) := by decide +kernel
theorem dX11_day_1 : decode cX11_day 1 = .ok (.iload_n 1, 1) := by decide +kernel
theorem dX11_day_2 : decode cX11_day 2 = .ok (.invokevirtual 235, 3) := by decide +kernel
theorem dX11_day_5 : decode cX11_day 5 = .ok (.istore_n 2, 1) := by decide +kernel
theorem dX11_day_6 : decode cX11_day 6 = .ok (.iload_n 2, 1) := by decide +kernel
theorem dX11_day_7 : decode cX11_day 7 = .ok (.ifCond .eq 5, 3) := by decide +kernel
theorem dX11_day_10 : decode cX11_day 10 = .ok (.iload_n 2, 1) := by decide +kernel
theorem dX11_day_11 : decode cX11_day 11 = .ok (.ireturn, 1) := by decide +kernel
theorem dX11_day_12 : decode cX11_day 12 = .ok (.iconst 0, 1) := by decide +kernel
theorem dX11_day_13 : decode cX11_day 13 = .ok (.istore_n 3, 1) := by decide +kernel
theorem dX11_day_14 : decode cX11_day 14 = .ok (.iload_n 3, 1) := by decide +kernel
theorem dX11_day_15 : decode cX11_day 15 = .ok (.iload_n 1, 1) := by decide +kernel
theorem dX11_day_16 : decode cX11_day 16 = .ok (.if_icmp .ge 34, 3) := by decide +kernel
theorem dX11_day_19 : decode cX11_day 19 = .ok (.aload_n 0, 1) := by decide +kernel
theorem dX11_day_20 : decode cX11_day 20 = .ok (.getfield 54, 3) := by decide +kernel
theorem dX11_day_23 : decode cX11_day 23 = .ok (.aload_n 0, 1) := by decide +kernel
theorem dX11_day_24 : decode cX11_day 24 = .ok (.getfield 34, 3) := by decide +kernel
theorem dX11_day_27 : decode cX11_day 27 = .ok (.invokevirtual 227, 3) := by decide +kernel
theorem dX11_day_30 : decode cX11_day 30 = .ok (.aload_n 0, 1) := by decide +kernel
theorem dX11_day_31 : decode cX11_day 31 = .ok (.getfield 34, 3) := by decide +kernel
theorem dX11_day_34 : decode cX11_day 34 = .ok (.aload_n 0, 1) := by decide +kernel
theorem dX11_day_35 : decode cX11_day 35 = .ok (.getfield 31, 3) := by decide +kernel
theorem dX11_day_38 : decode cX11_day 38 = .ok (.getfield 131, 3) := by decide +kernel
theorem dX11_day_41 : decode cX11_day 41 = .ok (.invokevirtual 238, 3) := by decide +kernel
theorem dX11_day_44 : decode cX11_day 44 = .ok (.iinc 3 1, 3) := by decide +kernel
theorem dX11_day_47 : decode cX11_day 47 = .ok (.goto (-33), 3) := by decide +kernel
theorem dX11_day_50 : decode cX11_day 50 = .ok (.aload_n 0, 1) := by decide +kernel
theorem dX11_day_51 : decode cX11_day 51 = .ok (.getfield 34, 3) := by decide +kernel
theorem dX11_day_54 : decode cX11_day 54 = .ok (.getfield 134, 3) := by decide +kernel
theorem dX11_day_57 : decode cX11_day 57 = .ok (.ireturn, 1) := by decide +kernel
set_option maxRecDepth 4000 in
set_option maxHeartbeats 4000000 in
theorem m_X11_day (l : Launch) (g : qGm) (M : qMem) {sd : sSD} (hs : sRS sd) (hS : xS M sd) {Z : sZ} (hZ : xZ M (sd 4 0) (sd 5 0) Z) {k : Int} (hkq : qIn k) : qOk l g 4 yX11_day cX11_day 4 (some .int) [qR g 0 0, qI k] M (fun r N => xD M sd (dDay sd Z k) r N) := by
  refine q_ok (by decide +kernel) (Nat.le_of_ble_eq_true rfl) (fun X C' hn => ?_)
  have C := C'.1
  have hm6 := hs.2.1
  have hn6 := hs.2.2.1
  have w0 := hS.1
  have w1 := hS.2.1
  have w2 := hS.2.2.1
  have y1 := hZ.1.1
  have y2 := hZ.1.2
  have y3 := hZ.2.1
  have y4 := hZ.2.2.1
  have y5 := hZ.2.2.2.2
  have yd := y1.1
  have ye := dNo_in sd Z k
  refine q_aloadn C dX11_day_0 rfl ?_
  refine q_iloadn C dX11_day_1 rfl ?_
  refine cv_RX11_235 C (by decide) (m_X11_refusalOfDays l g _ hs hS hZ hkq) dX11_day_2 (Nat.le_of_ble_eq_true rfl) (fun r2 => ?_)
  refine q_istoren C dX11_day_5 hn (by decide) rfl ?_
  refine q_iloadn C dX11_day_6 rfl ?_
  refine q_if_eq C 12 dX11_day_7 (by decide) (by first | assumption | omega | exact q_tin _ | exact q_bIn _) (fun h7 => ?_) (fun h7 => ?_)
  · refine q_iconst C dX11_day_12 ?_
    have hd0 := dNo_0 (show dNo sd Z k = 0 by omega)
    refine q_istoren C dX11_day_13 hn (by decide) rfl ?_
    have L14 : ∀ (n14 : Nat) (i : Int) (N : qMem), k - i < (n14 : Int) → (0 ≤ i) → (i ≤ k) → (xZ N (sd 4 0) (sd 5 0) (zDays (sd 5 0) Z i.toNat)) → (xDP M N) → qV l g X N 14 [(0, qR g 0 0), (1, qI k), (3, qI i)] [] := by
      intro n14
      induction n14 with
      | zero => intro i N hm14 i0 i1 kz kd; exfalso; first | omega | (simp at *; omega)
      | succ n14 ih14 =>
        intro i N hm14 i0 i1 kz kd
        have vS := kd.xS hS
        have v2 := vS.2.2.1
        have x1 := kz.1.1
        have x2 := kz.1.2
        have x3 := kz.2.1
        have x4 := kz.2.2.1
        have x0 := x1.1
        have xz := zDays_0 (sd 5 0) Z i.toNat
        obtain ⟨kr, dr⟩ := xZ_rem kz
        refine q_iloadn C dX11_day_14 rfl ?_
        refine q_iloadn C dX11_day_15 rfl ?_
        refine q_icmp_ge C 50 dX11_day_16 (by decide) (by first | assumption | omega | exact q_tin _ | exact q_bIn _) (by first | assumption | omega | exact q_tin _ | exact q_bIn _) (fun h16 => ?_) (fun h16 => ?_)
        · refine q_aloadn C dX11_day_50 rfl ?_
          refine gf_RX11_34 C dX11_day_51 ?_
          refine gf_RX11_134 C (by decide) dX11_day_54 (fun r54 => ?_)
          refine q_iret C' dX11_day_57 (by first | assumption | omega | exact q_tin _ | exact q_bIn _) ?_
          have ei : i = k := (by omega)
          refine ⟨congrArg some ?_, ?_, kd⟩
          · unfold dDay; rw [if_pos (by omega), x0, xz, ei]; omega
          · unfold dDay; rw [if_pos (by omega), ← ei]; exact kz
        · refine q_aloadn C dX11_day_19 rfl ?_
          refine gf_RX11_54 C dX11_day_20 ?_
          refine q_aloadn C dX11_day_23 rfl ?_
          refine gf_RX11_34 C dX11_day_24 ?_
          refine cv_RX11_227 C (by decide) (m_X6_remember l g _ (by omega) (by omega)) dX11_day_27 (Nat.le_of_ble_eq_true rfl) ?_
          refine q_aloadn C dX11_day_30 rfl ?_
          refine gf_RX11_34 C dX11_day_31 ?_
          refine q_aloadn C dX11_day_34 rfl ?_
          refine gf_RX11_31 C dX11_day_35 ?_
          refine gf_RX11_131 C (by decide) dX11_day_38 (fun r38 => ?_)
          try simp only [q_rd, q_rdS, ↓reduceIte, if_true, if_false, eq_self, Nat.reduceEqDiff, Int.reduceEq, Int.reduceNeg, reduceCtorEq] at r38 ⊢
          rw [show xRem N 3 1 2 = sd 5 0 from (dr.xS vS).2.2.1]
          refine cv_RX11_238 C (by decide) (by decide) (m_X2_endDay l g _ (by decide) (by omega) (by rw [kr.1.1.2.1]; exact kr.1.2.2.1) (fun h a1 a2 => by rw [kr.1.1.2.2.1 h a1 (by omega)]; exact kr.1.2.2.2.1 h a1 (by omega)) (by rw [kr.1.1.1]; exact kr.1.2.1)) dX11_day_41 (Nat.le_of_ble_eq_true rfl) ?_
          refine q_iinc C dX11_day_44 rfl hn (by decide) rfl ?_
          refine q_goto C (tgt := 14) dX11_day_47 (by decide) ?_
          exact q_ls (by exact ⟨rfl, rfl, rfl, trivial⟩) (ih14 _ (xDay (xRem N) 0 (sd 5 0)) (by omega) (by omega) (by omega) (by rw [show (i + 1).toNat = i.toNat + 1 by omega, zDays]; exact (xZ_day kr (by omega) (by omega) (by rw [zRem_r]; omega)).1) (by exact (kd.tr dr).tr (xZ_day kr (by omega) (by omega) (by rw [zRem_r]; omega)).2))
    exact q_ls (by exact ⟨rfl, rfl, rfl, trivial⟩) (L14 1000 _ M (by omega) (by omega) (by omega) (by exact hZ) (by exact xDP.rf))
  · refine q_iloadn C dX11_day_10 rfl ?_
    refine q_iret C' dX11_day_11 (by first | assumption | omega | exact q_tin _ | exact q_bIn _) ?_
    refine ⟨congrArg some ?_, ?_, xDP.rf⟩
    · unfold dDay; rw [if_neg (by omega)]
    · unfold dDay; rw [if_neg (by omega)]; exact hZ
