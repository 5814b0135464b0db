theorem mX_h {M N : qMem} {R : sRd} {f p z v : Int} (g : mRd M N f p) (hX : mX M R) (hR : rB R) (hm : R 0 0 = -1) (hz : z = v) : mX (qUp N 35 0 6 z) (rUp R 0 0 v) := by
  obtain ⟨x1, x2, x3, x4, x5, x6⟩ := hX
  have hr := hR.2.2.2.2.2.2 hm
  subst hz
  have e : ∀ k i, k ≠ 0 → rUp R 0 0 z k i = R k i := fun k i hk => by unfold rUp; rw [if_neg hk]
  refine ⟨?_, ?_, ?_, fun c a1 a2 => ?_, fun c a1 a2 => ?_, fun c a1 a2 => ?_⟩
  · rw [q_upO]; simp [rUp]
  · rw [q_upK (by decide), g.k (by decide), e 1 0 (by decide)]; exact x2
  · rw [q_upK (by decide), g.k (by decide), e 2 0 (by decide)]; exact x3
  · rw [e 1 0 (by decide)] at a2; omega
  · rw [e 2 0 (by decide)] at a2; omega
  · rw [e 2 0 (by decide)] at a2; omega
theorem mX_c {M N1 N2 N3 : qMem} {R : sRd} {f1 p1 f2 p2 f3 p3 z1 z2 z3 : Int} (g1 : mRd M N1 f1 p1) (g2 : mRd (qUp N1 49 0 (R 1 0) z1) N2 f2 p2) (g3 : mRd (qUp N2 50 0 (R 1 0) z2) N3 f3 p3) (hX : mX M R) (hR : rB R) : mX (qUp (qUp N3 51 0 (R 1 0) z3) 35 0 7 (R 1 0 + 1)) (rComer R z1 z2 z3) := by
  obtain ⟨x1, x2, x3, x4, x5, x6⟩ := hX
  have hr := hR.2.1
  have k1 : ∀ k : Int, k ≠ 2 ∧ k ≠ 3 ∧ k ≠ 4 → N3 35 0 k = M 35 0 k := fun k hk => by
    rw [g3.k hk, q_upF (by decide), g2.k hk, q_upF (by decide), g1.k hk]
  have w : ∀ j, j ≠ 35 → j ≠ 49 → j ≠ 50 → N3 j 0 = M j 0 := fun j a1 a2 a3 => by
    rw [g3.r a1 0, q_upF (by omega), g2.r a1 0, q_upF (by omega), g1.r a1 0]
  have w49 : ∀ i, N3 49 0 i = if i = R 1 0 then z1 else M 49 0 i := fun i => by
    rw [g3.r (by decide) 0, q_upF (by decide), g2.r (by decide) 0, q_rd, if_pos rfl, if_pos rfl, g1.r (by decide) 0]
  have w50 : ∀ i, N3 50 0 i = if i = R 1 0 then z2 else M 50 0 i := fun i => by
    rw [g3.r (by decide) 0, q_rd, if_pos rfl, if_pos rfl, g2.r (by decide) 0, q_upF (by decide), g1.r (by decide) 0]
  have e1 : rComer R z1 z2 z3 1 0 = R 1 0 + 1 := by simp [rComer, rUp]
  have e2 : rComer R z1 z2 z3 2 0 = R 2 0 := by simp [rComer, rUp]
  have ek : ∀ k i, k = 0 ∨ 6 ≤ k → rComer R z1 z2 z3 k i = R k i := fun k i hk => by unfold rComer rUp; rw [if_neg (by omega), if_neg (by omega), if_neg (by omega), if_neg (by omega)]
  have e3 : ∀ i, rComer R z1 z2 z3 3 i = if i = R 1 0 then z1 else R 3 i := fun i => by simp [rComer, rUp]
  have e4 : ∀ i, rComer R z1 z2 z3 4 i = if i = R 1 0 then z2 else R 4 i := fun i => by simp [rComer, rUp]
  have e5 : ∀ i, rComer R z1 z2 z3 5 i = if i = R 1 0 then z3 else R 5 i := fun i => by simp [rComer, rUp]
  refine ⟨?_, ?_, ?_, fun c a1 a2 => ?_, fun c a1 a2 => ?_, fun c a1 a2 => ?_⟩
  · rw [q_upK (by decide), q_upF (by decide), k1 6 (by decide), ek 0 0 (Or.inl rfl)]; exact x1
  · rw [q_upO, e1]
  · rw [q_upK (by decide), q_upF (by decide), k1 8 (by decide), e2]; exact x3
  · rw [e1] at a2
    rw [e3, e4, e5, q_upF (by decide), q_upF (by decide), w49, q_upF (by decide), q_upF (by decide), w50, q_upF (by decide), q_rd, if_pos rfl, if_pos rfl, w 51 (by decide) (by decide) (by decide)]
    by_cases ec : c = R 1 0
    · rw [if_pos ec, if_pos ec, if_pos ec, if_pos ec, if_pos ec, if_pos ec]; exact ⟨rfl, rfl, rfl⟩
    · rw [if_neg ec, if_neg ec, if_neg ec, if_neg ec, if_neg ec, if_neg ec]; exact x4 c a1 (by omega)
  · rw [e2] at a2
    rw [q_upF (by decide), q_upF (by decide), w 52 (by decide) (by decide) (by decide), q_upF (by decide), q_upF (by decide), w 53 (by decide) (by decide) (by decide), ek 6 c (by decide), ek 7 c (by decide)]
    exact x5 c a1 a2
  · rw [e2] at a2
    rw [q_upF (by decide), q_upF (by decide), w 54 (by decide) (by decide) (by decide), ek 8 c (by decide)]
    exact x6 c a1 a2
theorem dX12_readsHead_0 : decode cX12_readsHead 0 = .ok (.aload_n 0, 1) := by decide +kernel
theorem dX12_readsHead_1 : decode cX12_readsHead 1 = .ok (.aload_n 0, 1) := by decide +kernel
theorem dX12_readsHead_2 : decode cX12_readsHead 2 = .ok (.iconst 0, 1) := by decide +kernel
theorem dX12_readsHead_3 : decode cX12_readsHead 3 = .ok (.iconst 2, 1) := by decide +kernel
theorem dX12_readsHead_4 : decode cX12_readsHead 4 = .ok (.invokevirtual 115, 3) := by decide +kernel
theorem dX12_readsHead_7 : decode cX12_readsHead 7 = .ok (.putfield 118, 3) := by decide +kernel
theorem dX12_readsHead_10 : decode cX12_readsHead 10 = .ok (.aload_n 0, 1) := by decide +kernel
theorem dX12_readsHead_11 : decode cX12_readsHead 11 = .ok (.getfield 118, 3) := by decide +kernel
theorem dX12_readsHead_14 : decode cX12_readsHead 14 = .ok (.iconst (-1), 1) := by decide +kernel
theorem dX12_readsHead_15 : decode cX12_readsHead 15 = .ok (.if_icmp .eq 16, 3) := by decide +kernel
theorem dX12_readsHead_18 : decode cX12_readsHead 18 = .ok (.aload_n 0, 1) := by decide +kernel
theorem dX12_readsHead_19 : decode cX12_readsHead 19 = .ok (.bipush 59, 2) := by decide +kernel
theorem dX12_readsHead_21 : decode cX12_readsHead 21 = .ok (.invokevirtual 121, 3) := by decide +kernel
theorem dX12_readsHead_24 : decode cX12_readsHead 24 = .ok (.ifCond .eq 7, 3) := by decide +kernel
theorem dX12_readsHead_27 : decode cX12_readsHead 27 = .ok (.iconst 1, 1) := by decide +kernel
theorem dX12_readsHead_28 : decode cX12_readsHead 28 = .ok (.goto 4, 3) := by decide +kernel
theorem dX12_readsHead_31 : decode cX12_readsHead 31 = .ok (.iconst 0, 1) := by decide +kernel
theorem dX12_readsHead_32 : decode cX12_readsHead 32 = .ok (.ireturn, 1) := by decide +kernel
set_option maxRecDepth 4000 in
set_option maxHeartbeats 4000000 in
theorem m_X12_readsHead (l : Launch) (g : qGm) (M : qMem) {t : Int → Int} {L a : Int} (hT : mT M t L a) (hL : 0 ≤ L ∧ L ≤ 240) (hA : 0 ≤ a ∧ a ≤ L) {R : sRd} (hR : rB R) (hX : mX M R) (hm : R 0 0 = -1) : qOk l g 4 yX12_readsHead cX12_readsHead 1 (some .boolean) [qR g 35 0] M (fun r N => r = some (qB ((pFin t L (pHeadB t L a R)).1 = 0)) ∧ mBd M N (pFin t L (pHeadB t L a R))) := by
  refine q_ok (by decide +kernel) (Nat.le_of_ble_eq_true rfl) (fun X C' hn => ?_)
  have C := C'.1
  have q1 := pNq_in (t := t) (L := L) (a := a) (by omega) (by omega)
  refine q_aloadn C dX12_readsHead_0 rfl ?_
  refine q_aloadn C dX12_readsHead_1 rfl ?_
  refine q_iconst C dX12_readsHead_2 ?_
  refine q_iconst C dX12_readsHead_3 ?_
  refine cw_RX12_115 C (by decide) (m_X12_readsNumber l g _ hT hL hA (by omega)) dX12_readsHead_4 (Nat.le_of_ble_eq_true rfl) (fun r N1 hz hp => ?_)
  obtain ⟨z1, p1, rfl, k1, g1⟩ := hp
  have y1 := hz _ rfl
  show qV l g X _ _ _ (qI _ :: qR g 35 0 :: [])
  refine pf_RX12_118 C (by first | assumption | omega | exact q_tin _ | exact q_bIn _) dX12_readsHead_7 ?_
  refine q_aloadn C dX12_readsHead_10 rfl ?_
  refine gf_RX12_118 C dX12_readsHead_11 (fun r11 => ?_)
  try simp only [q_rd, q_rdS, ↓reduceIte, if_true, if_false, eq_self, Nat.reduceEqDiff, Int.reduceEq, Int.reduceNeg, reduceCtorEq] at r11 ⊢
  refine q_iconst C dX12_readsHead_14 ?_
  refine q_icmp_eq C 31 dX12_readsHead_15 (by decide) (by first | assumption | omega | exact q_tin _ | exact q_bIn _) (by first | assumption | omega | exact q_tin _ | exact q_bIn _) (fun h15 => ?_) (fun h15 => ?_)
  · refine q_iconst C dX12_readsHead_31 ?_
    refine q_zret C' dX12_readsHead_32 (by first | omega | exact q_b01 _ | simp) ?_
    obtain ⟨n1, -, rfl⟩ := k1.resolve_left (fun q => by omega)
    have e9 : pFin t L (pHeadB t L a R) = (pNf t L 2 a, pSk t L a, R) := by unfold pHeadB; rw [if_neg n1]; exact pFin_no n1
    rw [e9]
    exact ⟨congrArg some (q_bF n1).symm, mBd_no n1 ((mRf.rf.d g1).f (by decide)) ((q_upK (by decide)).trans g1.2.2.1) ((q_upK (by decide)).trans (g1.2.2.2 n1))⟩
  · obtain ⟨n1, v1, b1, rfl⟩ := k1.resolve_right (fun q => h15 q.2.1)
    refine q_aloadn C dX12_readsHead_18 rfl ?_
    refine q_bipush C dX12_readsHead_19 (by decide) ?_
    refine cw_RX12_121 C (by decide) (m_X12_readsSign l g _ ((g1.t hT).f (by decide)) hL (by omega)) dX12_readsHead_21 (Nat.le_of_ble_eq_true rfl) (fun r N2 hz hp => ?_)
    obtain ⟨pz, rfl, kz, gz⟩ := hp
    show qV l g X _ _ _ (qI _ :: [])
    refine q_tB_eq C 31 32 dX12_readsHead_24 dX12_readsHead_27 dX12_readsHead_28 dX12_readsHead_31 (by decide) (by decide) rfl ?_
    refine q_zret C' dX12_readsHead_32 (by first | omega | exact q_b01 _ | simp) ?_
    have e8 : pHeadB t L a R = (0, pNq t L a, rUp R 0 0 (pNv t L a)) := by unfold pHeadB; rw [if_pos n1]
    have e9 : pFin t L (pHeadB t L a R) = (pEf t L (pNq t L a), pz, rUp R 0 0 (pNv t L a)) := by rw [e8]; exact pFin_ok rfl kz
    rw [e9]
    exact ⟨rfl, mBd_ok ((mRf.rf.d g1).f (by decide)) (mX_h g1 hX hR hm v1) gz⟩
theorem dX12_readsComer_0 : decode cX12_readsComer 0 = .ok (.aload_n 0, 1) := by decide +kernel
theorem dX12_readsComer_1 : decode cX12_readsComer 1 = .ok (.getfield 125, 3) := by decide +kernel
theorem dX12_readsComer_4 : decode cX12_readsComer 4 = .ok (.istore_n 1, 1) := by decide +kernel
theorem dX12_readsComer_5 : decode cX12_readsComer 5 = .ok (.aload_n 0, 1) := by decide +kernel
theorem dX12_readsComer_6 : decode cX12_readsComer 6 = .ok (.getfield 17, 3) := by decide +kernel
theorem dX12_readsComer_9 : decode cX12_readsComer 9 = .ok (.iload_n 1, 1) := by decide +kernel
theorem dX12_readsComer_10 : decode cX12_readsComer 10 = .ok (.aload_n 0, 1) := by decide +kernel
theorem dX12_readsComer_11 : decode cX12_readsComer 11 = .ok (.iconst 0, 1) := by decide +kernel
theorem dX12_readsComer_12 : decode cX12_readsComer 12 = .ok (.bipush 9, 2) := by decide +kernel
theorem dX12_readsComer_14 : decode cX12_readsComer 14 = .ok (.invokevirtual 115, 3) := by decide +kernel
theorem dX12_readsComer_17 : decode cX12_readsComer 17 = .ok (.iastore, 1) := by decide +kernel
theorem dX12_readsComer_18 : decode cX12_readsComer 18 = .ok (.aload_n 0, 1) := by decide +kernel
theorem dX12_readsComer_19 : decode cX12_readsComer 19 = .ok (.getfield 20, 3) := by decide +kernel
theorem dX12_readsComer_22 : decode cX12_readsComer 22 = .ok (.iload_n 1, 1) := by decide +kernel
theorem dX12_readsComer_23 : decode cX12_readsComer 23 = .ok (.aload_n 0, 1) := by decide +kernel
theorem dX12_readsComer_24 : decode cX12_readsComer 24 = .ok (.getfield 17, 3) := by decide +kernel
theorem dX12_readsComer_27 : decode cX12_readsComer 27 = .ok (.iload_n 1, 1) := by decide +kernel
theorem dX12_readsComer_28 : decode cX12_readsComer 28 = .ok (.iaload, 1) := by decide +kernel
theorem dX12_readsComer_29 : decode cX12_readsComer 29 = .ok (.iconst (-1), 1) := by decide +kernel
theorem dX12_readsComer_30 : decode cX12_readsComer 30 = .ok (.if_icmp .ne 7, 3) := by decide +kernel
theorem dX12_readsComer_33 : decode cX12_readsComer 33 = .ok (.iconst (-1), 1) := by decide +kernel
theorem dX12_readsComer_34 : decode cX12_readsComer 34 = .ok (.goto 10, 3) := by decide +kernel
theorem dX12_readsComer_37 : decode cX12_readsComer 37 = .ok (.aload_n 0, 1) := by decide +kernel
theorem dX12_readsComer_38 : decode cX12_readsComer 38 = .ok (.iconst 0, 1) := by decide +kernel
theorem dX12_readsComer_39 : decode cX12_readsComer 39 = .ok (.bipush 9, 2) := by decide +kernel
theorem dX12_readsComer_41 : decode cX12_readsComer 41 = .ok (.invokevirtual 115, 3) := by decide +kernel
theorem dX12_readsComer_44 : decode cX12_readsComer 44 = .ok (.iastore, 1) := by decide +kernel
theorem dX12_readsComer_45 : decode cX12_readsComer 45 = .ok (.aload_n 0, 1) := by decide +kernel
theorem dX12_readsComer_46 : decode cX12_readsComer 46 = .ok (.getfield 23, 3) := by decide +kernel
theorem dX12_readsComer_49 : decode cX12_readsComer 49 = .ok (.iload_n 1, 1) := by decide +kernel
theorem dX12_readsComer_50 : decode cX12_readsComer 50 = .ok (.aload_n 0, 1) := by decide +kernel
theorem dX12_readsComer_51 : decode cX12_readsComer 51 = .ok (.getfield 20, 3) := by decide +kernel
theorem dX12_readsComer_54 : decode cX12_readsComer 54 = .ok (.iload_n 1, 1) := by decide +kernel
theorem dX12_readsComer_55 : decode cX12_readsComer 55 = .ok (.iaload, 1) := by decide +kernel
theorem dX12_readsComer_56 : decode cX12_readsComer 56 = .ok (.iconst (-1), 1) := by decide +kernel
theorem dX12_readsComer_57 : decode cX12_readsComer 57 = .ok (.if_icmp .ne 7, 3) := by decide +kernel
theorem dX12_readsComer_60 : decode cX12_readsComer 60 = .ok (.iconst (-1), 1) := by decide +kernel
theorem dX12_readsComer_61 : decode cX12_readsComer 61 = .ok (.goto 10, 3) := by decide +kernel
theorem dX12_readsComer_64 : decode cX12_readsComer 64 = .ok (.aload_n 0, 1) := by decide +kernel
theorem dX12_readsComer_65 : decode cX12_readsComer 65 = .ok (.iconst 0, 1) := by decide +kernel
theorem dX12_readsComer_66 : decode cX12_readsComer 66 = .ok (.bipush 7, 2) := by decide +kernel
theorem dX12_readsComer_68 : decode cX12_readsComer 68 = .ok (.invokevirtual 115, 3) := by decide +kernel
theorem dX12_readsComer_71 : decode cX12_readsComer 71 = .ok (.iastore, 1) := by decide +kernel
theorem dX12_readsComer_72 : decode cX12_readsComer 72 = .ok (.aload_n 0, 1) := by decide +kernel
theorem dX12_readsComer_73 : decode cX12_readsComer 73 = .ok (.dup, 1) := by decide +kernel
theorem dX12_readsComer_74 : decode cX12_readsComer 74 = .ok (.getfield 125, 3) := by decide +kernel
theorem dX12_readsComer_77 : decode cX12_readsComer 77 = .ok (.iconst 1, 1) := by decide +kernel
theorem dX12_readsComer_78 : decode cX12_readsComer 78 = .ok (.iadd, 1) := by decide +kernel
theorem dX12_readsComer_79 : decode cX12_readsComer 79 = .ok (.putfield 125, 3) := by decide +kernel
theorem dX12_readsComer_82 : decode cX12_readsComer 82 = .ok (.aload_n 0, 1) := by decide +kernel
theorem dX12_readsComer_83 : decode cX12_readsComer 83 = .ok (.getfield 23, 3) := by decide +kernel
theorem dX12_readsComer_86 : decode cX12_readsComer 86 = .ok (.iload_n 1, 1) := by decide +kernel
theorem dX12_readsComer_87 : decode cX12_readsComer 87 = .ok (.iaload, 1) := by decide +kernel
theorem dX12_readsComer_88 : decode cX12_readsComer 88 = .ok (.iconst (-1), 1) := by decide +kernel
theorem dX12_readsComer_89 : decode cX12_readsComer 89 = .ok (.if_icmp .eq 16, 3) := by decide +kernel
theorem dX12_readsComer_92 : decode cX12_readsComer 92 = .ok (.aload_n 0, 1) := by decide +kernel
theorem dX12_readsComer_93 : decode cX12_readsComer 93 = .ok (.bipush 59, 2) := by decide +kernel
theorem dX12_readsComer_95 : decode cX12_readsComer 95 = .ok (.invokevirtual 121, 3) := by decide +kernel
theorem dX12_readsComer_98 : decode cX12_readsComer 98 = .ok (.ifCond .eq 7, 3) := by decide +kernel
theorem dX12_readsComer_101 : decode cX12_readsComer 101 = .ok (.iconst 1, 1) := by decide +kernel
theorem dX12_readsComer_102 : decode cX12_readsComer 102 = .ok (.goto 4, 3) := by decide +kernel
theorem dX12_readsComer_105 : decode cX12_readsComer 105 = .ok (.iconst 0, 1) := by decide +kernel
theorem dX12_readsComer_106 : decode cX12_readsComer 106 = .ok (.ireturn, 1) := by decide +kernel
set_option maxRecDepth 4000 in
set_option maxHeartbeats 4000000 in
theorem m_X12_readsComer (l : Launch) (g : qGm) (M : qMem) {t : Int → Int} {L a : Int} (hT : mT M t L a) (hL : 0 ≤ L ∧ L ≤ 240) (hA : 0 ≤ a ∧ a ≤ L) {R : sRd} (hR : rB R) (hX : mX M R) (h6 : R 1 0 < 6) : qOk l g 4 yX12_readsComer cX12_readsComer 2 (some .boolean) [qR g 35 0] M (fun r N => r = some (qB ((pFin t L (pComerB t L a R)).1 = 0)) ∧ mBd M N (pFin t L (pComerB t L a R))) := by
  refine q_ok (by decide +kernel) (Nat.le_of_ble_eq_true rfl) (fun X C' hn => ?_)
  have C := C'.1
  have q1 := pNq_in (t := t) (L := L) (a := a) (by omega) (by omega)
  have x7 := hX.2.1
  have hr := hR.2.1
  have q2 := pNq_in (t := t) (L := L) (a := pNq t L a) (by omega) (by omega)
  have q3 := pNq_in (t := t) (L := L) (a := pNq t L (pNq t L a)) (by omega) (by omega)
  refine q_aloadn C dX12_readsComer_0 rfl ?_
  refine gf_RX12_125 C dX12_readsComer_1 (fun r1 => ?_)
  rw [x7] at r1 ⊢
  refine q_istoren C dX12_readsComer_4 hn (by decide) rfl ?_
  refine q_aloadn C dX12_readsComer_5 rfl ?_
  refine gf_RX12_17 C dX12_readsComer_6 ?_
  refine q_iloadn C dX12_readsComer_9 rfl ?_
  refine q_aloadn C dX12_readsComer_10 rfl ?_
  refine q_iconst C dX12_readsComer_11 ?_
  refine q_bipush C dX12_readsComer_12 (by decide) ?_
  refine cw_RX12_115 C (by decide) (m_X12_readsNumber l g _ hT hL hA (by omega)) dX12_readsComer_14 (Nat.le_of_ble_eq_true rfl) (fun r N1 hz hp => ?_)
  obtain ⟨z1, p1, rfl, k1, g1⟩ := hp
  have y1 := hz _ rfl
  show qV l g X _ _ _ (qI _ :: qI _ :: qR g 49 0 :: [])
  have c1 : N1 35 0 7 = R 1 0 := (g1.k (by decide)).trans x7
  refine q_iast C (by first | assumption | decide | omega) (fun _ => rfl) dX12_readsComer_17 (by omega) (by omega) (by decide) (by first | assumption | omega | exact q_tin _ | exact q_bIn _) ?_
  refine q_aloadn C dX12_readsComer_18 rfl ?_
  refine gf_RX12_20 C dX12_readsComer_19 ?_
  refine q_iloadn C dX12_readsComer_22 rfl ?_
  refine q_aloadn C dX12_readsComer_23 rfl ?_
  refine gf_RX12_17 C dX12_readsComer_24 ?_
  refine q_iloadn C dX12_readsComer_27 rfl ?_
  refine q_iald C (by first | assumption | decide | omega) rfl dX12_readsComer_28 (by omega) (by omega) (by decide) (fun r28 => ?_)
  try simp only [q_rd, q_rdS, ↓reduceIte, if_true, if_false, eq_self, Nat.reduceEqDiff, Int.reduceEq, Int.reduceNeg, reduceCtorEq] at r28 ⊢
  refine q_iconst C dX12_readsComer_29 ?_
  refine q_icmp_ne C 37 dX12_readsComer_30 (by decide) (by first | assumption | omega | exact q_tin _ | exact q_bIn _) (by first | assumption | omega | exact q_tin _ | exact q_bIn _) (fun h30 => ?_) (fun h30 => ?_)
  · obtain ⟨n1, v1, b1, rfl⟩ := k1.resolve_right (fun q => h30 q.2.1)
    refine q_aloadn C dX12_readsComer_37 rfl ?_
    refine q_iconst C dX12_readsComer_38 ?_
    refine q_bipush C dX12_readsComer_39 (by decide) ?_
    refine cw_RX12_115 C (by decide) (m_X12_readsNumber l g _ ((g1.t hT).r (by decide)) hL (by omega) (by omega)) dX12_readsComer_41 (Nat.le_of_ble_eq_true rfl) (fun r N2 hz hp => ?_)
    obtain ⟨z2, p2, rfl, k2, g2⟩ := hp
    have y2 := hz _ rfl
    show qV l g X _ _ _ (qI _ :: qI _ :: qR g 50 0 :: [])
    have c2 : N2 35 0 7 = R 1 0 := (g2.k (by decide)).trans ((congrFun (q_upF (by decide)) 7).trans c1)
    refine q_iast C (by first | assumption | decide | omega) (fun _ => rfl) dX12_readsComer_44 (by omega) (by omega) (by decide) (by first | assumption | omega | exact q_tin _ | exact q_bIn _) ?_
    refine q_aloadn C dX12_readsComer_45 rfl ?_
    refine gf_RX12_23 C dX12_readsComer_46 ?_
    refine q_iloadn C dX12_readsComer_49 rfl ?_
    refine q_aloadn C dX12_readsComer_50 rfl ?_
    refine gf_RX12_20 C dX12_readsComer_51 ?_
    refine q_iloadn C dX12_readsComer_54 rfl ?_
    refine q_iald C (by first | assumption | decide | omega) rfl dX12_readsComer_55 (by omega) (by omega) (by decide) (fun r55 => ?_)
    try simp only [q_rd, q_rdS, ↓reduceIte, if_true, if_false, eq_self, Nat.reduceEqDiff, Int.reduceEq, Int.reduceNeg, reduceCtorEq] at r55 ⊢
    refine q_iconst C dX12_readsComer_56 ?_
    refine q_icmp_ne C 64 dX12_readsComer_57 (by decide) (by first | assumption | omega | exact q_tin _ | exact q_bIn _) (by first | assumption | omega | exact q_tin _ | exact q_bIn _) (fun h57 => ?_) (fun h57 => ?_)
    · obtain ⟨n2, v2, b2, rfl⟩ := k2.resolve_right (fun q => h57 q.2.1)
      refine q_aloadn C dX12_readsComer_64 rfl ?_
      refine q_iconst C dX12_readsComer_65 ?_
      refine q_bipush C dX12_readsComer_66 (by decide) ?_
      refine cw_RX12_115 C (by decide) (m_X12_readsNumber l g _ ((g2.t ((g1.t hT).r (by decide))).r (by decide)) hL (by omega) (by omega)) dX12_readsComer_68 (Nat.le_of_ble_eq_true rfl) (fun r N3 hz hp => ?_)
      obtain ⟨z3, p3, rfl, k3, g3⟩ := hp
      have y3 := hz _ rfl
      show qV l g X _ _ _ (qI _ :: qI _ :: qR g 51 0 :: [])
      have c3 : N3 35 0 7 = R 1 0 := (g3.k (by decide)).trans ((congrFun (q_upF (by decide)) 7).trans c2)
      refine q_iast C (by first | assumption | decide | omega) (fun _ => rfl) dX12_readsComer_71 (by omega) (by omega) (by decide) (by first | assumption | omega | exact q_tin _ | exact q_bIn _) ?_
      refine q_aloadn C dX12_readsComer_72 rfl ?_
      refine q_dup C dX12_readsComer_73 rfl ?_
      refine gf_RX12_125 C dX12_readsComer_74 (fun r74 => ?_)
      try simp only [q_rd, q_rdS, ↓reduceIte, if_true, if_false, eq_self, Nat.reduceEqDiff, Int.reduceEq, Int.reduceNeg, reduceCtorEq] at r74 ⊢
      rw [c3] at r74 ⊢
      refine q_iconst C dX12_readsComer_77 ?_
      refine q_iadd C dX12_readsComer_78 ?_
      refine pf_RX12_125 C (by first | assumption | omega | exact q_tin _ | exact q_bIn _) dX12_readsComer_79 ?_
      refine q_aloadn C dX12_readsComer_82 rfl ?_
      refine gf_RX12_23 C dX12_readsComer_83 ?_
      refine q_iloadn C dX12_readsComer_86 rfl ?_
      refine q_iald C (by first | assumption | decide | omega) rfl dX12_readsComer_87 (by omega) (by omega) (by decide) (fun r87 => ?_)
      try simp only [q_rd, q_rdS, ↓reduceIte, if_true, if_false, eq_self, Nat.reduceEqDiff, Int.reduceEq, Int.reduceNeg, reduceCtorEq] at r87 ⊢
      refine q_iconst C dX12_readsComer_88 ?_
      refine q_icmp_eq C 105 dX12_readsComer_89 (by decide) (by first | assumption | omega | exact q_tin _ | exact q_bIn _) (by first | assumption | omega | exact q_tin _ | exact q_bIn _) (fun h89 => ?_) (fun h89 => ?_)
      · refine q_iconst C dX12_readsComer_105 ?_
        refine q_zret C' dX12_readsComer_106 (by first | omega | exact q_b01 _ | simp) ?_
        obtain ⟨n3, -, rfl⟩ := k3.resolve_left (fun q => by omega)
        have e9 : pFin t L (pComerB t L a R) = (pNf t L 7 (pNq t L (pNq t L a)), pSk t L (pNq t L (pNq t L a)), R) := by unfold pComerB; rw [if_pos n1, if_pos n2, if_neg n3]; exact pFin_no n3
        rw [e9]
        exact ⟨congrArg some (q_bF n3).symm, mBd_no n3 ((((((mRf.rf.d g1).w (by decide)).d g2).w (by decide)).d g3).w (by decide) |>.f (by decide)) (by simp only [q_rd, ↓reduceIte, Nat.reduceEqDiff, Int.reduceEq]; exact g3.2.2.1) (by simp only [q_rd, ↓reduceIte, Nat.reduceEqDiff, Int.reduceEq]; exact g3.2.2.2 n3)⟩
      · obtain ⟨n3, v3, b3, rfl⟩ := k3.resolve_right (fun q => h89 q.2.1)
        refine q_aloadn C dX12_readsComer_92 rfl ?_
        refine q_bipush C dX12_readsComer_93 (by decide) ?_
        refine cw_RX12_121 C (by decide) (m_X12_readsSign l g _ (((g3.t ((g2.t ((g1.t hT).r (by decide))).r (by decide))).r (by decide)).f (by decide)) hL (by omega)) dX12_readsComer_95 (Nat.le_of_ble_eq_true rfl) (fun r N4 hz hp => ?_)
        obtain ⟨pz, rfl, kz, gz⟩ := hp
        show qV l g X _ _ _ (qI _ :: [])
        refine q_tB_eq C 105 106 dX12_readsComer_98 dX12_readsComer_101 dX12_readsComer_102 dX12_readsComer_105 (by decide) (by decide) rfl ?_
        refine q_zret C' dX12_readsComer_106 (by first | omega | exact q_b01 _ | simp) ?_
        have e8 : pComerB t L a R = (0, pNq t L (pNq t L (pNq t L a)), rComer R z1 z2 z3) := by unfold pComerB; rw [if_pos n1, if_pos n2, if_pos n3, v1, v2, v3]
        have e9 : pFin t L (pComerB t L a R) = (pEf t L (pNq t L (pNq t L (pNq t L a))), pz, rComer R z1 z2 z3) := by rw [e8]; exact pFin_ok rfl kz
        rw [e9]
        exact ⟨rfl, mBd_ok ((((((mRf.rf.d g1).w (by decide)).d g2).w (by decide)).d g3).w (by decide) |>.f (by decide)) (mX_c g1 g2 g3 hX hR) gz⟩
    · refine q_iconst C dX12_readsComer_60 ?_
      refine q_goto C (tgt := 71) dX12_readsComer_61 (by decide) ?_
      refine q_iast C (by first | assumption | decide | omega) (fun _ => rfl) dX12_readsComer_71 (by omega) (by omega) (by decide) (by first | assumption | omega | exact q_tin _ | exact q_bIn _) ?_
      refine q_aloadn C dX12_readsComer_72 rfl ?_
      refine q_dup C dX12_readsComer_73 rfl ?_
      refine gf_RX12_125 C dX12_readsComer_74 (fun r74 => ?_)
      try simp only [q_rd, q_rdS, ↓reduceIte, if_true, if_false, eq_self, Nat.reduceEqDiff, Int.reduceEq, Int.reduceNeg, reduceCtorEq] at r74 ⊢
      rw [c2] at r74 ⊢
      refine q_iconst C dX12_readsComer_77 ?_
      refine q_iadd C dX12_readsComer_78 ?_
      refine pf_RX12_125 C (by first | assumption | omega | exact q_tin _ | exact q_bIn _) dX12_readsComer_79 ?_
      refine q_aloadn C dX12_readsComer_82 rfl ?_
      refine gf_RX12_23 C dX12_readsComer_83 ?_
      refine q_iloadn C dX12_readsComer_86 rfl ?_
      refine q_iald C (by first | assumption | decide | omega) rfl dX12_readsComer_87 (by omega) (by omega) (by decide) (fun r87 => ?_)
      try simp only [q_rd, q_rdS, ↓reduceIte, if_true, if_false, eq_self, Nat.reduceEqDiff, Int.reduceEq, Int.reduceNeg, reduceCtorEq] at r87 ⊢
      refine q_iconst C dX12_readsComer_88 ?_
      refine q_icmp_eq C 105 dX12_readsComer_89 (by decide) (by first | assumption | omega | exact q_tin _ | exact q_bIn _) (by first | assumption | omega | exact q_tin _ | exact q_bIn _) (fun h89 => ?_) (fun h89 => ?_)
      · refine q_iconst C dX12_readsComer_105 ?_
        refine q_zret C' dX12_readsComer_106 (by first | omega | exact q_b01 _ | simp) ?_
        obtain ⟨n2, -, rfl⟩ := k2.resolve_left (fun q => by omega)
        have e9 : pFin t L (pComerB t L a R) = (pNf t L 9 (pNq t L a), pSk t L (pNq t L a), R) := by unfold pComerB; rw [if_pos n1, if_neg n2]; exact pFin_no n2
        rw [e9]
        exact ⟨congrArg some (q_bF n2).symm, mBd_no n2 (((((mRf.rf.d g1).w (by decide)).d g2).w (by decide)).w (by decide) |>.f (by decide)) (by simp only [q_rd, ↓reduceIte, Nat.reduceEqDiff, Int.reduceEq]; exact g2.2.2.1) (by simp only [q_rd, ↓reduceIte, Nat.reduceEqDiff, Int.reduceEq]; exact g2.2.2.2 n2)⟩
      · exact absurd rfl h89
  · refine q_iconst C dX12_readsComer_33 ?_
    refine q_goto C (tgt := 44) dX12_readsComer_34 (by decide) ?_
    refine q_iast C (by first | assumption | decide | omega) (fun _ => rfl) dX12_readsComer_44 (by omega) (by omega) (by decide) (by first | assumption | omega | exact q_tin _ | exact q_bIn _) ?_
    refine q_aloadn C dX12_readsComer_45 rfl ?_
    refine gf_RX12_23 C dX12_readsComer_46 ?_
    refine q_iloadn C dX12_readsComer_49 rfl ?_
    refine q_aloadn C dX12_readsComer_50 rfl ?_
    refine gf_RX12_20 C dX12_readsComer_51 ?_
    refine q_iloadn C dX12_readsComer_54 rfl ?_
    refine q_iald C (by first | assumption | decide | omega) rfl dX12_readsComer_55 (by omega) (by omega) (by decide) (fun r55 => ?_)
    try simp only [q_rd, q_rdS, ↓reduceIte, if_true, if_false, eq_self, Nat.reduceEqDiff, Int.reduceEq, Int.reduceNeg, reduceCtorEq] at r55 ⊢
    refine q_iconst C dX12_readsComer_56 ?_
    refine q_icmp_ne C 64 dX12_readsComer_57 (by decide) (by first | assumption | omega | exact q_tin _ | exact q_bIn _) (by first | assumption | omega | exact q_tin _ | exact q_bIn _) (fun h57 => ?_) (fun h57 => ?_)
    · exact absurd rfl h57
    · refine q_iconst C dX12_readsComer_60 ?_
      refine q_goto C (tgt := 71) dX12_readsComer_61 (by decide) ?_
      refine q_iast C (by first | assumption | decide | omega) (fun _ => rfl) dX12_readsComer_71 (by omega) (by omega) (by decide) (by first | assumption | omega | exact q_tin _ | exact q_bIn _) ?_
      refine q_aloadn C dX12_readsComer_72 rfl ?_
      refine q_dup C dX12_readsComer_73 rfl ?_
      refine gf_RX12_125 C dX12_readsComer_74 (fun r74 => ?_)
      try simp only [q_rd, q_rdS, ↓reduceIte, if_true, if_false, eq_self, Nat.reduceEqDiff, Int.reduceEq, Int.reduceNeg, reduceCtorEq] at r74 ⊢
      rw [c1] at r74 ⊢
      refine q_iconst C dX12_readsComer_77 ?_
      refine q_iadd C dX12_readsComer_78 ?_
      refine pf_RX12_125 C (by first | assumption | omega | exact q_tin _ | exact q_bIn _) dX12_readsComer_79 ?_
      refine q_aloadn C dX12_readsComer_82 rfl ?_
      refine gf_RX12_23 C dX12_readsComer_83 ?_
      refine q_iloadn C dX12_readsComer_86 rfl ?_
      refine q_iald C (by first | assumption | decide | omega) rfl dX12_readsComer_87 (by omega) (by omega) (by decide) (fun r87 => ?_)
      try simp only [q_rd, q_rdS, ↓reduceIte, if_true, if_false, eq_self, Nat.reduceEqDiff, Int.reduceEq, Int.reduceNeg, reduceCtorEq] at r87 ⊢
      refine q_iconst C dX12_readsComer_88 ?_
      refine q_icmp_eq C 105 dX12_readsComer_89 (by decide) (by first | assumption | omega | exact q_tin _ | exact q_bIn _) (by first | assumption | omega | exact q_tin _ | exact q_bIn _) (fun h89 => ?_) (fun h89 => ?_)
      · refine q_iconst C dX12_readsComer_105 ?_
        refine q_zret C' dX12_readsComer_106 (by first | omega | exact q_b01 _ | simp) ?_
        obtain ⟨n1, -, rfl⟩ := k1.resolve_left (fun q => by omega)
        have e9 : pFin t L (pComerB t L a R) = (pNf t L 9 a, pSk t L a, R) := by unfold pComerB; rw [if_neg n1]; exact pFin_no n1
        rw [e9]
        exact ⟨congrArg some (q_bF n1).symm, mBd_no n1 (((((mRf.rf.d g1).w (by decide)).w (by decide)).w (by decide)).f (by decide)) (by simp only [q_rd, ↓reduceIte, Nat.reduceEqDiff, Int.reduceEq]; exact g1.2.2.1) (by simp only [q_rd, ↓reduceIte, Nat.reduceEqDiff, Int.reduceEq]; exact g1.2.2.2 n1)⟩
      · exact absurd rfl h89
