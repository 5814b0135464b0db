/-- a house that is being read -/
def mHs (M N : qMem) (R : sRd) (z1 z2 : Int) : Prop := N 35 0 6 = R 0 0 ∧ N 35 0 7 = R 1 0 ∧ N 35 0 8 = R 2 0 ∧ (N 49 0 = M 49 0 ∧ N 50 0 = M 50 0 ∧ N 51 0 = M 51 0) ∧ (∀ i, N 52 0 i = if i = R 2 0 then z1 else M 52 0 i) ∧ (∀ i, N 53 0 i = if i = R 2 0 then z2 else M 53 0 i)
theorem mHs.d {M N K : qMem} {R : sRd} {z1 z2 f p : Int} (h : mHs M N R z1 z2) (g : mRd N K f p) : mHs M K R z1 z2 := by
  unfold mHs at *
  rw [g.k (by decide), g.k (by decide), g.k (by decide), g.r (by decide) 0, g.r (by decide) 0, g.r (by decide) 0, g.r (by decide) 0, g.r (by decide) 0]
  exact h
theorem mHs.w {M N : qMem} {R : sRd} {z1 z2 i z : Int} (h : mHs M N R z1 z2) : mHs M (qUp N 54 0 i z) R z1 z2 := by
  unfold mHs at *
  rw [q_upF (by decide), q_upF (by decide), q_upF (by decide), q_upF (by decide), q_upF (by decide), q_upF (by decide)]
  exact h
theorem mHs.s {M N : qMem} {R : sRd} {z1 z2 : Int} {f : Int → Int} (h : mHs M N R z1 z2) : mHs M (qSet N 54 0 f) R z1 z2 := by
  unfold mHs at *
  rw [q_setF (by decide), q_setF (by decide), q_setF (by decide), q_setF (by decide), q_setF (by decide), q_setF (by decide)]
  exact h
theorem mHs_0 {M N1 N2 : qMem} {R : sRd} {f1 p1 f2 p2 z1 z2 : Int} (g1 : mRd M N1 f1 p1) (g2 : mRd (qUp N1 52 0 (R 2 0) z1) N2 f2 p2) (hX : mX M R) : mHs M (qUp N2 53 0 (R 2 0) z2) R z1 z2 := by
  obtain ⟨x1, x2, x3, x4, x5, x6⟩ := hX
  have k1 : ∀ k : Int, k ≠ 2 ∧ k ≠ 3 ∧ k ≠ 4 → qUp N2 53 0 (R 2 0) z2 35 0 k = M 35 0 k := fun k hk => by
    rw [q_upF (by decide), g2.k hk, q_upF (by decide), g1.k hk]
  have w : ∀ j, j ≠ 35 → j ≠ 52 → j ≠ 53 → qUp N2 53 0 (R 2 0) z2 j 0 = M j 0 := fun j a1 a2 a3 => by
    rw [q_upF (by omega), g2.r a1 0, q_upF (by omega), g1.r a1 0]
  refine ⟨(k1 6 (by decide)).trans x1, (k1 7 (by decide)).trans x2, (k1 8 (by decide)).trans x3, ⟨w 49 (by decide) (by decide) (by decide), w 50 (by decide) (by decide) (by decide), w 51 (by decide) (by decide) (by decide)⟩, fun i => ?_, fun i => ?_⟩
  · rw [q_upF (by decide), g2.r (by decide) 0, q_rd, if_pos rfl, if_pos rfl, g1.r (by decide) 0]
  · rw [q_rd, if_pos rfl, if_pos rfl, g2.r (by decide) 0, q_upF (by decide), g1.r (by decide) 0]
theorem mHs_54 {M N1 N2 : qMem} {R : sRd} {f1 p1 f2 p2 z1 z2 : Int} (g1 : mRd M N1 f1 p1) (g2 : mRd (qUp N1 52 0 (R 2 0) z1) N2 f2 p2) : qUp N2 53 0 (R 2 0) z2 54 0 = M 54 0 := by
  rw [q_upF (by decide), g2.r (by decide) 0, q_upF (by decide), g1.r (by decide) 0]
theorem mX_p {M N : qMem} {R : sRd} {z1 z2 : Int} {pr : Int → Int} (h : mHs M N R z1 z2) (hX : mX M R) (hR : rB R) (hp : ∀ k, 0 ≤ k → k < 8 * (R 2 0 + 1) → N 54 0 k = pr k) : mX (qUp N 35 0 8 (R 2 0 + 1)) (rHouse R z1 z2 pr) := by
  obtain ⟨x1, x2, x3, x4, x5, x6⟩ := hX
  obtain ⟨y1, y2, y3, ⟨y4, y5, y6⟩, y7, y8⟩ := h
  have hr := hR.2.2.1
  have e2 : rHouse R z1 z2 pr 2 0 = R 2 0 + 1 := by simp [rHouse, rUp]
  have ek : ∀ k i, k ≤ 1 ∨ (3 ≤ k ∧ k ≤ 5) → rHouse R z1 z2 pr k i = R k i := fun k i hk => by have a1 : k ≠ 2 := (by omega); have a2 : k ≠ 8 := (by omega); have a3 : k ≠ 7 := (by omega); have a4 : k ≠ 6 := (by omega); simp [rHouse, rUp, rRow, a1, a2, a3, a4]
  have e6 : ∀ i, rHouse R z1 z2 pr 6 i = if i = R 2 0 then z1 else R 6 i := fun i => by simp [rHouse, rUp, rRow]
  have e7 : ∀ i, rHouse R z1 z2 pr 7 i = if i = R 2 0 then z2 else R 7 i := fun i => by simp [rHouse, rUp, rRow]
  have e8 : ∀ i, rHouse R z1 z2 pr 8 i = pr i := fun i => by simp [rHouse, rUp, rRow]
  refine ⟨?_, ?_, ?_, fun c a1 a2 => ?_, fun c a1 a2 => ?_, fun c a1 a2 => ?_⟩
  · rw [q_upK (by decide), y1, ek 0 0 (by decide)]
  · rw [q_upK (by decide), y2, ek 1 0 (by decide)]
  · rw [q_upO, e2]
  · rw [ek 1 0 (by decide)] at a2
    rw [q_upF (by decide), q_upF (by decide), q_upF (by decide), y4, y5, y6, ek 3 c (by decide), ek 4 c (by decide), ek 5 c (by decide)]
    exact x4 c a1 a2
  · rw [e2] at a2
    rw [q_upF (by decide), q_upF (by decide), y7, y8, e6, e7]
    by_cases ec : c = R 2 0
    · rw [if_pos ec, if_pos ec, if_pos ec, if_pos ec]; exact ⟨rfl, rfl⟩
    · rw [if_neg ec, if_neg ec, if_neg ec, if_neg ec]; exact x5 c a1 (by omega)
  · rw [e2] at a2
    rw [q_upF (by decide), e8]
    exact hp c a1 a2
theorem pPrz_no {t : Int → Int} {L h n a : Int} {r : Int → Int} (hn : n < 8) (hf : pNf t L 9 a ≠ 0) : pPrz t L h (8 - n).toNat n a r = (pNf t L 9 a, pSk t L a, r) := by
  rw [show (8 - n).toNat = (7 - n).toNat + 1 by omega, pPrz, if_neg hf]
theorem pPrz_go {t : Int → Int} {L h n a : Int} {r : Int → Int} (hn : n + 1 < 8) (hf : pNf t L 9 a = 0) (hc : pLt t L (pSk t L (pNq t L a)) = 44) : pPrz t L h (8 - n).toNat n a r = pPrz t L h (8 - (n + 1)).toNat (n + 1) (pSk t L (pNq t L a) + 1) (fun i => if i = 8 * h + n then pNv t L a else r i) := by
  rw [show (8 - n).toNat = (8 - (n + 1)).toNat + 1 by omega, pPrz, if_pos hf, if_pos ⟨hc, hn⟩]
theorem pPrz_st {t : Int → Int} {L h n a : Int} {r : Int → Int} (hn : n < 8) (hf : pNf t L 9 a = 0) (hc : ¬ (pLt t L (pSk t L (pNq t L a)) = 44 ∧ n + 1 < 8)) : pPrz t L h (8 - n).toNat n a r = (0, pSk t L (pNq t L a), fun i => if i = 8 * h + n then pNv t L a else r i) := by
  rw [show (8 - n).toNat = (7 - n).toNat + 1 by omega, pPrz, if_pos hf, if_neg hc]
theorem mSk44 {t : Int → Int} {L s : Int} (h : pLt t L s = 44) : s < L := by
  unfold pLt at h
  split at h
  · assumption
  · omega
theorem mRow_up {N : qMem} {j : Nat} {i z s1 s2 : Int} (hj : j ≠ 35) : qUp (qUp (qUp N j 0 i z) 35 0 2 s1) 35 0 2 s2 j 0 = fun k => if k = i then z else N j 0 k := by
  rw [q_upF (by omega), q_upF (by omega), q_rdR, if_pos rfl, if_pos rfl]
theorem dX12_readsHouse_0 : decode cX12_readsHouse 0 = .ok (.aload_n 0, 1) := by decide +kernel
theorem dX12_readsHouse_1 : decode cX12_readsHouse 1 = .ok (.getfield 128, 3) := by decide +kernel
theorem dX12_readsHouse_4 : decode cX12_readsHouse 4 = .ok (.istore_n 1, 1) := by decide +kernel
theorem dX12_readsHouse_5 : decode cX12_readsHouse 5 = .ok (.aload_n 0, 1) := by decide +kernel
theorem dX12_readsHouse_6 : decode cX12_readsHouse 6 = .ok (.getfield 26, 3) := by decide +kernel
theorem dX12_readsHouse_9 : decode cX12_readsHouse 9 = .ok (.iload_n 1, 1) := by decide +kernel
theorem dX12_readsHouse_10 : decode cX12_readsHouse 10 = .ok (.aload_n 0, 1) := by decide +kernel
theorem dX12_readsHouse_11 : decode cX12_readsHouse 11 = .ok (.iconst 0, 1) := by decide +kernel
theorem dX12_readsHouse_12 : decode cX12_readsHouse 12 = .ok (.bipush 40, 2) := by decide +kernel
theorem dX12_readsHouse_14 : decode cX12_readsHouse 14 = .ok (.invokevirtual 115, 3) := by decide +kernel
theorem dX12_readsHouse_17 : decode cX12_readsHouse 17 = .ok (.iastore, 1) := by decide +kernel
theorem dX12_readsHouse_18 : decode cX12_readsHouse 18 = .ok (.aload_n 0, 1) := by decide +kernel
theorem dX12_readsHouse_19 : decode cX12_readsHouse 19 = .ok (.getfield 29, 3) := by decide +kernel
theorem dX12_readsHouse_22 : decode cX12_readsHouse 22 = .ok (.iload_n 1, 1) := by decide +kernel
theorem dX12_readsHouse_23 : decode cX12_readsHouse 23 = .ok (.aload_n 0, 1) := by decide +kernel
theorem dX12_readsHouse_24 : decode cX12_readsHouse 24 = .ok (.getfield 26, 3) := by decide +kernel
theorem dX12_readsHouse_27 : decode cX12_readsHouse 27 = .ok (.iload_n 1, 1) := by decide +kernel
theorem dX12_readsHouse_28 : decode cX12_readsHouse 28 = .ok (.iaload, 1) := by decide +kernel
theorem dX12_readsHouse_29 : decode cX12_readsHouse 29 = .ok (.iconst (-1), 1) := by decide +kernel
theorem dX12_readsHouse_30 : decode cX12_readsHouse 30 = .ok (.if_icmp .ne 7, 3) := by decide +kernel
theorem dX12_readsHouse_33 : decode cX12_readsHouse 33 = .ok (.iconst (-1), 1) := by decide +kernel
theorem dX12_readsHouse_34 : decode cX12_readsHouse 34 = .ok (.goto 10, 3) := by decide +kernel
theorem dX12_readsHouse_37 : decode cX12_readsHouse 37 = .ok (.aload_n 0, 1) := by decide +kernel
theorem dX12_readsHouse_38 : decode cX12_readsHouse 38 = .ok (.iconst 0, 1) := by decide +kernel
theorem dX12_readsHouse_39 : decode cX12_readsHouse 39 = .ok (.bipush 40, 2) := by decide +kernel
theorem dX12_readsHouse_41 : decode cX12_readsHouse 41 = .ok (.invokevirtual 115, 3) := by decide +kernel
theorem dX12_readsHouse_44 : decode cX12_readsHouse 44 = .ok (.iastore, 1) := by decide +kernel
theorem dX12_readsHouse_45 : decode cX12_readsHouse 45 = .ok (.aload_n 0, 1) := by decide +kernel
theorem dX12_readsHouse_46 : decode cX12_readsHouse 46 = .ok (.getfield 29, 3) := by decide +kernel
theorem dX12_readsHouse_49 : decode cX12_readsHouse 49 = .ok (.iload_n 1, 1) := by decide +kernel
theorem dX12_readsHouse_50 : decode cX12_readsHouse 50 = .ok (.iaload, 1) := by decide +kernel
theorem dX12_readsHouse_51 : decode cX12_readsHouse 51 = .ok (.iconst (-1), 1) := by decide +kernel
theorem dX12_readsHouse_52 : decode cX12_readsHouse 52 = .ok (.if_icmp .ne 5, 3) := by decide +kernel
theorem dX12_readsHouse_55 : decode cX12_readsHouse 55 = .ok (.iconst 0, 1) := by decide +kernel
theorem dX12_readsHouse_56 : decode cX12_readsHouse 56 = .ok (.ireturn, 1) := by decide +kernel
theorem dX12_readsHouse_57 : decode cX12_readsHouse 57 = .ok (.iconst 0, 1) := by decide +kernel
theorem dX12_readsHouse_58 : decode cX12_readsHouse 58 = .ok (.istore_n 2, 1) := by decide +kernel
theorem dX12_readsHouse_59 : decode cX12_readsHouse 59 = .ok (.iload_n 2, 1) := by decide +kernel
theorem dX12_readsHouse_60 : decode cX12_readsHouse 60 = .ok (.bipush 8, 2) := by decide +kernel
theorem dX12_readsHouse_62 : decode cX12_readsHouse 62 = .ok (.if_icmp .ge 21, 3) := by decide +kernel
theorem dX12_readsHouse_65 : decode cX12_readsHouse 65 = .ok (.aload_n 0, 1) := by decide +kernel
theorem dX12_readsHouse_66 : decode cX12_readsHouse 66 = .ok (.getfield 32, 3) := by decide +kernel
theorem dX12_readsHouse_69 : decode cX12_readsHouse 69 = .ok (.bipush 8, 2) := by decide +kernel
theorem dX12_readsHouse_71 : decode cX12_readsHouse 71 = .ok (.iload_n 1, 1) := by decide +kernel
theorem dX12_readsHouse_72 : decode cX12_readsHouse 72 = .ok (.imul, 1) := by decide +kernel
theorem dX12_readsHouse_73 : decode cX12_readsHouse 73 = .ok (.iload_n 2, 1) := by decide +kernel
theorem dX12_readsHouse_74 : decode cX12_readsHouse 74 = .ok (.iadd, 1) := by decide +kernel
theorem dX12_readsHouse_75 : decode cX12_readsHouse 75 = .ok (.iconst 0, 1) := by decide +kernel
theorem dX12_readsHouse_76 : decode cX12_readsHouse 76 = .ok (.iastore, 1) := by decide +kernel
theorem dX12_readsHouse_77 : decode cX12_readsHouse 77 = .ok (.iinc 2 1, 3) := by decide +kernel
theorem dX12_readsHouse_80 : decode cX12_readsHouse 80 = .ok (.goto (-21), 3) := by decide +kernel
theorem dX12_readsHouse_83 : decode cX12_readsHouse 83 = .ok (.iconst 0, 1) := by decide +kernel
theorem dX12_readsHouse_84 : decode cX12_readsHouse 84 = .ok (.istore_n 2, 1) := by decide +kernel
theorem dX12_readsHouse_85 : decode cX12_readsHouse 85 = .ok (.iconst 1, 1) := by decide +kernel
theorem dX12_readsHouse_86 : decode cX12_readsHouse 86 = .ok (.istore_n 3, 1) := by decide +kernel
theorem dX12_readsHouse_87 : decode cX12_readsHouse 87 = .ok (.iload_n 3, 1) := by decide +kernel
theorem dX12_readsHouse_88 : decode cX12_readsHouse 88 = .ok (.ifCond .eq 83, 3) := by decide +kernel
theorem dX12_readsHouse_91 : decode cX12_readsHouse 91 = .ok (.aload_n 0, 1) := by decide +kernel
theorem dX12_readsHouse_92 : decode cX12_readsHouse 92 = .ok (.getfield 32, 3) := by decide +kernel
theorem dX12_readsHouse_95 : decode cX12_readsHouse 95 = .ok (.bipush 8, 2) := by decide +kernel
theorem dX12_readsHouse_97 : decode cX12_readsHouse 97 = .ok (.iload_n 1, 1) := by decide +kernel
theorem dX12_readsHouse_98 : decode cX12_readsHouse 98 = .ok (.imul, 1) := by decide +kernel
theorem dX12_readsHouse_99 : decode cX12_readsHouse 99 = .ok (.iload_n 2, 1) := by decide +kernel
theorem dX12_readsHouse_100 : decode cX12_readsHouse 100 = .ok (.iadd, 1) := by decide +kernel
theorem dX12_readsHouse_101 : decode cX12_readsHouse 101 = .ok (.aload_n 0, 1) := by decide +kernel
theorem dX12_readsHouse_102 : decode cX12_readsHouse 102 = .ok (.iconst 0, 1) := by decide +kernel
theorem dX12_readsHouse_103 : decode cX12_readsHouse 103 = .ok (.bipush 9, 2) := by decide +kernel
theorem dX12_readsHouse_105 : decode cX12_readsHouse 105 = .ok (.invokevirtual 115, 3) := by decide +kernel
theorem dX12_readsHouse_108 : decode cX12_readsHouse 108 = .ok (.iastore, 1) := by decide +kernel
theorem dX12_readsHouse_109 : decode cX12_readsHouse 109 = .ok (.aload_n 0, 1) := by decide +kernel
theorem dX12_readsHouse_110 : decode cX12_readsHouse 110 = .ok (.getfield 32, 3) := by decide +kernel
theorem dX12_readsHouse_113 : decode cX12_readsHouse 113 = .ok (.bipush 8, 2) := by decide +kernel
theorem dX12_readsHouse_115 : decode cX12_readsHouse 115 = .ok (.iload_n 1, 1) := by decide +kernel
theorem dX12_readsHouse_116 : decode cX12_readsHouse 116 = .ok (.imul, 1) := by decide +kernel
theorem dX12_readsHouse_117 : decode cX12_readsHouse 117 = .ok (.iload_n 2, 1) := by decide +kernel
theorem dX12_readsHouse_118 : decode cX12_readsHouse 118 = .ok (.iadd, 1) := by decide +kernel
theorem dX12_readsHouse_119 : decode cX12_readsHouse 119 = .ok (.iaload, 1) := by decide +kernel
theorem dX12_readsHouse_120 : decode cX12_readsHouse 120 = .ok (.iconst (-1), 1) := by decide +kernel
theorem dX12_readsHouse_121 : decode cX12_readsHouse 121 = .ok (.if_icmp .ne 5, 3) := by decide +kernel
theorem dX12_readsHouse_124 : decode cX12_readsHouse 124 = .ok (.iconst 0, 1) := by decide +kernel
theorem dX12_readsHouse_125 : decode cX12_readsHouse 125 = .ok (.ireturn, 1) := by decide +kernel
theorem dX12_readsHouse_126 : decode cX12_readsHouse 126 = .ok (.iinc 2 1, 3) := by decide +kernel
theorem dX12_readsHouse_129 : decode cX12_readsHouse 129 = .ok (.aload_n 0, 1) := by decide +kernel
theorem dX12_readsHouse_130 : decode cX12_readsHouse 130 = .ok (.invokevirtual 104, 3) := by decide +kernel
theorem dX12_readsHouse_133 : decode cX12_readsHouse 133 = .ok (.bipush 44, 2) := by decide +kernel
theorem dX12_readsHouse_135 : decode cX12_readsHouse 135 = .ok (.if_icmp .ne 13, 3) := by decide +kernel
theorem dX12_readsHouse_138 : decode cX12_readsHouse 138 = .ok (.iload_n 2, 1) := by decide +kernel
theorem dX12_readsHouse_139 : decode cX12_readsHouse 139 = .ok (.bipush 8, 2) := by decide +kernel
theorem dX12_readsHouse_141 : decode cX12_readsHouse 141 = .ok (.if_icmp .ge 7, 3) := by decide +kernel
theorem dX12_readsHouse_144 : decode cX12_readsHouse 144 = .ok (.iconst 1, 1) := by decide +kernel
theorem dX12_readsHouse_145 : decode cX12_readsHouse 145 = .ok (.goto 4, 3) := by decide +kernel
theorem dX12_readsHouse_148 : decode cX12_readsHouse 148 = .ok (.iconst 0, 1) := by decide +kernel
theorem dX12_readsHouse_149 : decode cX12_readsHouse 149 = .ok (.istore_n 3, 1) := by decide +kernel
theorem dX12_readsHouse_150 : decode cX12_readsHouse 150 = .ok (.aload_n 0, 1) := by decide +kernel
theorem dX12_readsHouse_151 : decode cX12_readsHouse 151 = .ok (.dup, 1) := by decide +kernel
theorem dX12_readsHouse_152 : decode cX12_readsHouse 152 = .ok (.getfield 94, 3) := by decide +kernel
theorem dX12_readsHouse_155 : decode cX12_readsHouse 155 = .ok (.iload_n 3, 1) := by decide +kernel
theorem dX12_readsHouse_156 : decode cX12_readsHouse 156 = .ok (.ifCond .eq 7, 3) := by decide +kernel
theorem dX12_readsHouse_159 : decode cX12_readsHouse 159 = .ok (.iconst 1, 1) := by decide +kernel
theorem dX12_readsHouse_160 : decode cX12_readsHouse 160 = .ok (.goto 4, 3) := by decide +kernel
theorem dX12_readsHouse_163 : decode cX12_readsHouse 163 = .ok (.iconst 0, 1) := by decide +kernel
theorem dX12_readsHouse_164 : decode cX12_readsHouse 164 = .ok (.iadd, 1) := by decide +kernel
theorem dX12_readsHouse_165 : decode cX12_readsHouse 165 = .ok (.putfield 94, 3) := by decide +kernel
theorem dX12_readsHouse_168 : decode cX12_readsHouse 168 = .ok (.goto (-81), 3) := by decide +kernel
theorem dX12_readsHouse_171 : decode cX12_readsHouse 171 = .ok (.aload_n 0, 1) := by decide +kernel
theorem dX12_readsHouse_172 : decode cX12_readsHouse 172 = .ok (.dup, 1) := by decide +kernel
theorem dX12_readsHouse_173 : decode cX12_readsHouse 173 = .ok (.getfield 128, 3) := by decide +kernel
theorem dX12_readsHouse_176 : decode cX12_readsHouse 176 = .ok (.iconst 1, 1) := by decide +kernel
theorem dX12_readsHouse_177 : decode cX12_readsHouse 177 = .ok (.iadd, 1) := by decide +kernel
theorem dX12_readsHouse_178 : decode cX12_readsHouse 178 = .ok (.putfield 128, 3) := by decide +kernel
theorem dX12_readsHouse_181 : decode cX12_readsHouse 181 = .ok (.aload_n 0, 1) := by decide +kernel
theorem dX12_readsHouse_182 : decode cX12_readsHouse 182 = .ok (.bipush 59, 2) := by decide +kernel
theorem dX12_readsHouse_184 : decode cX12_readsHouse 184 = .ok (.invokevirtual 121, 3) := by decide +kernel
theorem dX12_readsHouse_187 : decode cX12_readsHouse 187 = .ok (.ireturn, 1) := by decide +kernel
set_option maxRecDepth 4000 in
set_option maxHeartbeats 4000000 in
theorem m_X12_readsHouse (l : Launch) (g : qGm) (M : qMem) {t : Int → Int} {L a : Int} (hT : mT M t L a) (hL : 0 ≤ L ∧ L ≤ 240) (hA : 0 ≤ a ∧ a ≤ L) {R : sRd} (hR : rB R) (hX : mX M R) (h6 : R 2 0 < 6) : qOk l g 4 yX12_readsHouse cX12_readsHouse 4 (some .boolean) [qR g 35 0] M (fun r N => r = some (qB ((pFin t L (pHouseB t L a R)).1 = 0)) ∧ mBd M N (pFin t L (pHouseB t L a R))) := by
  refine q_ok (by decide +kernel) (Nat.le_of_ble_eq_true rfl) (fun X C' hn => ?_)
  have C := C'.1
  have q1 := pNq_in (t := t) (L := L) (a := a) (by omega) (by omega)
  have x8 := hX.2.2.1
  have hr := hR.2.2.1
  have q2 := pNq_in (t := t) (L := L) (a := pNq t L a) (by omega) (by omega)
  refine q_aloadn C dX12_readsHouse_0 rfl ?_
  refine gf_RX12_128 C dX12_readsHouse_1 (fun r1 => ?_)
  rw [x8] at r1 ⊢
  refine q_istoren C dX12_readsHouse_4 hn (by decide) rfl ?_
  refine q_aloadn C dX12_readsHouse_5 rfl ?_
  refine gf_RX12_26 C dX12_readsHouse_6 ?_
  refine q_iloadn C dX12_readsHouse_9 rfl ?_
  refine q_aloadn C dX12_readsHouse_10 rfl ?_
  refine q_iconst C dX12_readsHouse_11 ?_
  refine q_bipush C dX12_readsHouse_12 (by decide) ?_
  refine cw_RX12_115 C (by decide) (m_X12_readsNumber l g _ hT hL hA (by omega)) dX12_readsHouse_14 (Nat.le_of_ble_eq_true rfl) (fun r N1 hz hp => ?_)
  obtain ⟨z1, p1, rfl, k1, g1⟩ := hp
  have y1 := hz _ rfl
  show qV l g X _ _ _ (qI _ :: qI _ :: qR g 52 0 :: [])
  refine q_iast C (by first | assumption | decide | omega) (fun _ => rfl) dX12_readsHouse_17 (by omega) (by omega) (by decide) (by first | assumption | omega | exact q_tin _ | exact q_bIn _) ?_
  refine q_aloadn C dX12_readsHouse_18 rfl ?_
  refine gf_RX12_29 C dX12_readsHouse_19 ?_
  refine q_iloadn C dX12_readsHouse_22 rfl ?_
  refine q_aloadn C dX12_readsHouse_23 rfl ?_
  refine gf_RX12_26 C dX12_readsHouse_24 ?_
  refine q_iloadn C dX12_readsHouse_27 rfl ?_
  refine q_iald C (by first | assumption | decide | omega) rfl dX12_readsHouse_28 (by omega) (by omega) (by decide) (fun r28 => ?_)
  try simp only [q_rd, q_rdS, ↓reduceIte, if_true, if_false, eq_self, Nat.reduceEqDiff, Int.reduceEq, Int.reduceNeg, reduceCtorEq] at r28 ⊢
  refine q_iconst C dX12_readsHouse_29 ?_
  refine q_icmp_ne C 37 dX12_readsHouse_30 (by decide) (by first | assumption | omega | exact q_tin _ | exact q_bIn _) (by first | assumption | omega | exact q_tin _ | exact q_bIn _) (fun h30 => ?_) (fun h30 => ?_)
  · obtain ⟨n1, v1, b1, rfl⟩ := k1.resolve_right (fun q => h30 q.2.1)
    refine q_aloadn C dX12_readsHouse_37 rfl ?_
    refine q_iconst C dX12_readsHouse_38 ?_
    refine q_bipush C dX12_readsHouse_39 (by decide) ?_
    refine cw_RX12_115 C (by decide) (m_X12_readsNumber l g _ ((g1.t hT).r (by decide)) hL (by omega) (by omega)) dX12_readsHouse_41 (Nat.le_of_ble_eq_true rfl) (fun r N2 hz hp => ?_)
    obtain ⟨z2, p2, rfl, k2, g2⟩ := hp
    have y2 := hz _ rfl
    show qV l g X _ _ _ (qI _ :: qI _ :: qR g 53 0 :: [])
    refine q_iast C (by first | assumption | decide | omega) (fun _ => rfl) dX12_readsHouse_44 (by omega) (by omega) (by decide) (by first | assumption | omega | exact q_tin _ | exact q_bIn _) ?_
    refine q_aloadn C dX12_readsHouse_45 rfl ?_
    refine gf_RX12_29 C dX12_readsHouse_46 ?_
    refine q_iloadn C dX12_readsHouse_49 rfl ?_
    refine q_iald C (by first | assumption | decide | omega) rfl dX12_readsHouse_50 (by omega) (by omega) (by decide) (fun r50 => ?_)
    try simp only [q_rd, q_rdS, ↓reduceIte, if_true, if_false, eq_self, Nat.reduceEqDiff, Int.reduceEq, Int.reduceNeg, reduceCtorEq] at r50 ⊢
    refine q_iconst C dX12_readsHouse_51 ?_
    refine q_icmp_ne C 57 dX12_readsHouse_52 (by decide) (by first | assumption | omega | exact q_tin _ | exact q_bIn _) (by first | assumption | omega | exact q_tin _ | exact q_bIn _) (fun h52 => ?_) (fun h52 => ?_)
    · obtain ⟨n2, v2, b2, rfl⟩ := k2.resolve_right (fun q => h52 q.2.1)
      have o54 := mHs_54 (z2 := z2) g1 g2
      refine q_iconst C dX12_readsHouse_57 ?_
      refine q_istoren C dX12_readsHouse_58 hn (by decide) rfl ?_
      have L59 : ∀ (n59 : Nat) (k : Int) (N : qMem), 8 - k < (n59 : Int) → (0 ≤ k ∧ k ≤ 8) → (N = qSet (qUp N2 53 0 (R 2 0) z2) 54 0 (fun i => if 8 * R 2 0 ≤ i ∧ i < 8 * R 2 0 + k then 0 else M 54 0 i)) → qV l g X N 59 [(0, qR g 35 0), (1, qI (R 2 0)), (2, qI k)] [] := by
        intro n59
        induction n59 with
        | zero => intro k N hm59 j0 hN; exfalso; first | omega | (simp at *; omega)
        | succ n59 ih59 =>
          intro k N hm59 j0 hN
          subst hN
          refine q_iloadn C dX12_readsHouse_59 rfl ?_
          refine q_bipush C dX12_readsHouse_60 (by decide) ?_
          refine q_icmp_ge C 83 dX12_readsHouse_62 (by decide) (by first | assumption | omega | exact q_tin _ | exact q_bIn _) (by first | assumption | omega | exact q_tin _ | exact q_bIn _) (fun h62 => ?_) (fun h62 => ?_)
          · obtain rfl : k = 8 := by omega
            refine q_iconst C dX12_readsHouse_83 ?_
            refine q_istoren C dX12_readsHouse_84 hn (by decide) rfl ?_
            refine q_iconst C dX12_readsHouse_85 ?_
            refine q_istoren C dX12_readsHouse_86 hn (by decide) rfl ?_
            have L87 : ∀ (n87 : Nat) (n : Int) (mo : Int) (N : qMem), 8 - n + mo < (n87 : Int) → (0 ≤ n ∧ n ≤ 8) → (mo = 0 ∨ mo = 1) → (mRf M N) → (mT N t L (N 35 0 2)) → (0 ≤ N 35 0 2 ∧ N 35 0 2 ≤ L) → (mHs M N R z1 z2) → ((mo = 1 ∧ n < 8 ∧ pPrz t L (R 2 0) 8 0 (pNq t L (pNq t L a)) (fun i => if 8 * R 2 0 ≤ i ∧ i < 8 * R 2 0 + 8 then 0 else M 54 0 i) = pPrz t L (R 2 0) (8 - n).toNat n (N 35 0 2) (N 54 0)) ∨ (mo = 0 ∧ pPrz t L (R 2 0) 8 0 (pNq t L (pNq t L a)) (fun i => if 8 * R 2 0 ≤ i ∧ i < 8 * R 2 0 + 8 then 0 else M 54 0 i) = (0, N 35 0 2, N 54 0))) → qV l g X N 87 [(0, qR g 35 0), (1, qI (R 2 0)), (2, qI n), (3, qI mo)] [] := by
              intro n87
              induction n87 with
              | zero => intro n mo N hm87 j0 im kf tN ip kh kb; exfalso; first | omega | (simp at *; omega)
              | succ n87 ih87 =>
                intro n mo N hm87 j0 im kf tN ip kh kb
                obtain ⟨p, hp0⟩ : ∃ p, p = N 35 0 2 := ⟨_, rfl⟩
                rw [← hp0] at tN ip kb
                have qp := pNq_in (t := t) (L := L) (a := p) ip.1 ip.2
                have sp := pSk_in (t := t) (L := L) (a := pNq t L p) (by omega) (by omega)
                have s4 := fun q => mSk44 (t := t) (L := L) (s := pSk t L (pNq t L p)) q
                refine q_iloadn C dX12_readsHouse_87 rfl ?_
                refine q_if_eq C 171 dX12_readsHouse_88 (by decide) (by first | assumption | omega | exact q_tin _ | exact q_bIn _) (fun h88 => ?_) (fun h88 => ?_)
                · have mb := (kb.resolve_left (fun q => by omega)).2
                  refine q_aloadn C dX12_readsHouse_171 rfl ?_
                  refine q_dup C dX12_readsHouse_172 rfl ?_
                  refine gf_RX12_128 C dX12_readsHouse_173 (fun r173 => ?_)
                  try simp only [q_rd, q_rdS, ↓reduceIte, if_true, if_false, eq_self, Nat.reduceEqDiff, Int.reduceEq, Int.reduceNeg, reduceCtorEq] at r173 ⊢
                  rw [kh.2.2.1] at r173 ⊢
                  refine q_iconst C dX12_readsHouse_176 ?_
                  refine q_iadd C dX12_readsHouse_177 ?_
                  refine pf_RX12_128 C (by first | assumption | omega | exact q_tin _ | exact q_bIn _) dX12_readsHouse_178 ?_
                  refine q_aloadn C dX12_readsHouse_181 rfl ?_
                  refine q_bipush C dX12_readsHouse_182 (by decide) ?_
                  refine cw_RX12_121 C (by decide) (m_X12_readsSign l g _ (tN.f (by decide)) hL ip) dX12_readsHouse_184 (Nat.le_of_ble_eq_true rfl) (fun r N4 hz hp => ?_)
                  obtain ⟨pz, rfl, kz, gz⟩ := hp
                  show qV l g X _ _ _ (qI _ :: [])
                  refine q_zret C' dX12_readsHouse_187 (by first | omega | exact q_b01 _ | simp) ?_
                  have hC := pPrz_cong (t := t) (L := L) (h := R 2 0) 8 0 (pNq t L (pNq t L a)) (fun i => if 8 * R 2 0 ≤ i ∧ i < 8 * R 2 0 + 8 then 0 else M 54 0 i) (rPz0 R)
                  rw [mb] at hC
                  have e8 : pHouseB t L a R = (0, p, rHouse R z1 z2 (pPrz t L (R 2 0) 8 0 (pNq t L (pNq t L a)) (rPz0 R)).2.2) := by
                    unfold pHouseB
                    rw [if_pos n1, if_pos n2, if_pos hC.1.symm, ← hC.2.1, v1, v2]
                  have e9 : pFin t L (pHouseB t L a R) = (pEf t L p, pz, rHouse R z1 z2 (pPrz t L (R 2 0) 8 0 (pNq t L (pNq t L a)) (rPz0 R)).2.2) := by rw [e8]; exact pFin_ok rfl kz
                  rw [e9]
                  refine ⟨rfl, mBd_ok (kf.f (by decide)) (mX_p kh hX hR (fun k a1 a2 => hC.2.2 k ?_)) gz⟩
                  show (if 8 * R 2 0 ≤ k ∧ k < 8 * R 2 0 + 8 then 0 else M 54 0 k) = rPz0 R k
                  unfold rPz0
                  by_cases eq : 8 * R 2 0 ≤ k ∧ k < 8 * R 2 0 + 8
                  · rw [if_pos eq, if_pos eq]
                  · rw [if_neg eq, if_neg eq]; exact hX.2.2.2.2.2 k a1 (by omega)
                · obtain ⟨m1, m8, mb⟩ := kb.resolve_right (fun q => h88 q.1)
                  refine q_aloadn C dX12_readsHouse_91 rfl ?_
                  refine gf_RX12_32 C dX12_readsHouse_92 ?_
                  refine q_bipush C dX12_readsHouse_95 (by decide) ?_
                  refine q_iloadn C dX12_readsHouse_97 rfl ?_
                  refine q_imul C dX12_readsHouse_98 ?_
                  refine q_iloadn C dX12_readsHouse_99 rfl ?_
                  refine q_iadd C dX12_readsHouse_100 ?_
                  refine q_aloadn C dX12_readsHouse_101 rfl ?_
                  refine q_iconst C dX12_readsHouse_102 ?_
                  refine q_bipush C dX12_readsHouse_103 (by decide) ?_
                  refine cw_RX12_115 C (by decide) (m_X12_readsNumber l g _ tN hL ip (by omega)) dX12_readsHouse_105 (Nat.le_of_ble_eq_true rfl) (fun r N3 hz hp => ?_)
                  obtain ⟨z3, p3, rfl, k3, g3⟩ := hp
                  have y3 := hz _ rfl
                  show qV l g X _ _ _ (qI _ :: qI _ :: qR g 54 0 :: [])
                  have w54 : N3 54 0 = N 54 0 := g3.r (by decide) 0
                  refine q_iast C (by first | assumption | decide | omega) (fun _ => rfl) dX12_readsHouse_108 (by omega) (by omega) (by decide) (by first | assumption | omega | exact q_tin _ | exact q_bIn _) ?_
                  refine q_aloadn C dX12_readsHouse_109 rfl ?_
                  refine gf_RX12_32 C dX12_readsHouse_110 ?_
                  refine q_bipush C dX12_readsHouse_113 (by decide) ?_
                  refine q_iloadn C dX12_readsHouse_115 rfl ?_
                  refine q_imul C dX12_readsHouse_116 ?_
                  refine q_iloadn C dX12_readsHouse_117 rfl ?_
                  refine q_iadd C dX12_readsHouse_118 ?_
                  refine q_iald C (by first | assumption | decide | omega) rfl dX12_readsHouse_119 (by omega) (by omega) (by decide) (fun r119 => ?_)
                  try simp only [q_rd, q_rdS, ↓reduceIte, if_true, if_false, eq_self, Nat.reduceEqDiff, Int.reduceEq, Int.reduceNeg, reduceCtorEq] at r119 ⊢
                  refine q_iconst C dX12_readsHouse_120 ?_
                  refine q_icmp_ne C 126 dX12_readsHouse_121 (by decide) (by first | assumption | omega | exact q_tin _ | exact q_bIn _) (by first | assumption | omega | exact q_tin _ | exact q_bIn _) (fun h121 => ?_) (fun h121 => ?_)
                  · obtain ⟨n3, v3, b3, rfl⟩ := k3.resolve_right (fun q => h121 q.2.1)
                    refine q_iinc C dX12_readsHouse_126 rfl hn (by decide) rfl ?_
                    refine q_aloadn C dX12_readsHouse_129 rfl ?_
                    refine cv_RX12_104 C (by decide) (m_X12_nextLetter l g _ ((g3.t tN).r (by decide)) hL (by omega)) dX12_readsHouse_130 (Nat.le_of_ble_eq_true rfl) (fun r130 => ?_)
                    refine q_bipush C dX12_readsHouse_133 (by decide) ?_
                    refine q_icmp_ne C 148 dX12_readsHouse_135 (by decide) (by first | assumption | omega | exact q_tin _ | exact q_bIn _) (by first | assumption | omega | exact q_tin _ | exact q_bIn _) (fun h135 => ?_) (fun h135 => ?_)
                    · refine q_iconst C dX12_readsHouse_148 ?_
                      refine q_istoren C dX12_readsHouse_149 hn (by decide) rfl ?_
                      refine q_aloadn C dX12_readsHouse_150 rfl ?_
                      refine q_dup C dX12_readsHouse_151 rfl ?_
                      refine gf_RX12_94 C dX12_readsHouse_152 (fun r152 => ?_)
                      try simp only [q_rd, q_rdS, ↓reduceIte, if_true, if_false, eq_self, Nat.reduceEqDiff, Int.reduceEq, Int.reduceNeg, reduceCtorEq] at r152 ⊢
                      refine q_iloadn C dX12_readsHouse_155 rfl ?_
                      refine q_if_eq C 163 dX12_readsHouse_156 (by decide) (by first | assumption | omega | exact q_tin _ | exact q_bIn _) (fun h156 => ?_) (fun h156 => ?_)
                      · refine q_iconst C dX12_readsHouse_163 ?_
                        refine q_iadd C dX12_readsHouse_164 ?_
                        refine pf_RX12_94 C (by first | assumption | omega | exact q_tin _ | exact q_bIn _) dX12_readsHouse_165 ?_
                        refine q_goto C (tgt := 87) dX12_readsHouse_168 (by decide) ?_
                        exact q_ls (by exact ⟨rfl, rfl, rfl, rfl, trivial⟩) (ih87 (n + 1) _ _ (by omega) (by omega) (by first | exact Or.inr rfl | exact Or.inl rfl) (by exact (((kf.d g3).w (by decide)).f (by decide)).f (by decide)) (by rw [q_upO]; exact (((g3.t tN).r (by decide)).at).at) (by rw [q_upO]; first | (have := s4 (by omega); omega) | omega) (by exact ((kh.d g3).w.d (mRd_at _ _)).d (mRd_at _ _)) (by rw [q_upO, mRow_up (by decide), w54, v3]; first | exact Or.inl ⟨rfl, by omega, by rw [mb]; exact pPrz_go (by omega) n3 (by omega)⟩ | exact Or.inr ⟨rfl, by rw [mb, pPrz_st m8 n3 (by omega), Int.add_zero]⟩))
                      · exact absurd rfl h156
                    · refine q_iloadn C dX12_readsHouse_138 rfl ?_
                      refine q_bipush C dX12_readsHouse_139 (by decide) ?_
                      refine q_icmp_ge C 148 dX12_readsHouse_141 (by decide) (by first | assumption | omega | exact q_tin _ | exact q_bIn _) (by first | assumption | omega | exact q_tin _ | exact q_bIn _) (fun h141 => ?_) (fun h141 => ?_)
                      · refine q_iconst C dX12_readsHouse_148 ?_
                        refine q_istoren C dX12_readsHouse_149 hn (by decide) rfl ?_
                        refine q_aloadn C dX12_readsHouse_150 rfl ?_
                        refine q_dup C dX12_readsHouse_151 rfl ?_
                        refine gf_RX12_94 C dX12_readsHouse_152 (fun r152 => ?_)
                        try simp only [q_rd, q_rdS, ↓reduceIte, if_true, if_false, eq_self, Nat.reduceEqDiff, Int.reduceEq, Int.reduceNeg, reduceCtorEq] at r152 ⊢
                        refine q_iloadn C dX12_readsHouse_155 rfl ?_
                        refine q_if_eq C 163 dX12_readsHouse_156 (by decide) (by first | assumption | omega | exact q_tin _ | exact q_bIn _) (fun h156 => ?_) (fun h156 => ?_)
                        · refine q_iconst C dX12_readsHouse_163 ?_
                          refine q_iadd C dX12_readsHouse_164 ?_
                          refine pf_RX12_94 C (by first | assumption | omega | exact q_tin _ | exact q_bIn _) dX12_readsHouse_165 ?_
                          refine q_goto C (tgt := 87) dX12_readsHouse_168 (by decide) ?_
                          exact q_ls (by exact ⟨rfl, rfl, rfl, rfl, trivial⟩) (ih87 (n + 1) _ _ (by omega) (by omega) (by first | exact Or.inr rfl | exact Or.inl rfl) (by exact (((kf.d g3).w (by decide)).f (by decide)).f (by decide)) (by rw [q_upO]; exact (((g3.t tN).r (by decide)).at).at) (by rw [q_upO]; first | (have := s4 (by omega); omega) | omega) (by exact ((kh.d g3).w.d (mRd_at _ _)).d (mRd_at _ _)) (by rw [q_upO, mRow_up (by decide), w54, v3]; first | exact Or.inl ⟨rfl, by omega, by rw [mb]; exact pPrz_go (by omega) n3 (by omega)⟩ | exact Or.inr ⟨rfl, by rw [mb, pPrz_st m8 n3 (by omega), Int.add_zero]⟩))
                        · exact absurd rfl h156
                      · refine q_iconst C dX12_readsHouse_144 ?_
                        refine q_goto C (tgt := 149) dX12_readsHouse_145 (by decide) ?_
                        refine q_istoren C dX12_readsHouse_149 hn (by decide) rfl ?_
                        refine q_aloadn C dX12_readsHouse_150 rfl ?_
                        refine q_dup C dX12_readsHouse_151 rfl ?_
                        refine gf_RX12_94 C dX12_readsHouse_152 (fun r152 => ?_)
                        try simp only [q_rd, q_rdS, ↓reduceIte, if_true, if_false, eq_self, Nat.reduceEqDiff, Int.reduceEq, Int.reduceNeg, reduceCtorEq] at r152 ⊢
                        refine q_iloadn C dX12_readsHouse_155 rfl ?_
                        refine q_if_eq C 163 dX12_readsHouse_156 (by decide) (by first | assumption | omega | exact q_tin _ | exact q_bIn _) (fun h156 => ?_) (fun h156 => ?_)
                        · exact absurd h156 (by decide)
                        · refine q_iconst C dX12_readsHouse_159 ?_
                          refine q_goto C (tgt := 164) dX12_readsHouse_160 (by decide) ?_
                          refine q_iadd C dX12_readsHouse_164 ?_
                          refine pf_RX12_94 C (by first | assumption | omega | exact q_tin _ | exact q_bIn _) dX12_readsHouse_165 ?_
                          refine q_goto C (tgt := 87) dX12_readsHouse_168 (by decide) ?_
                          exact q_ls (by exact ⟨rfl, rfl, rfl, rfl, trivial⟩) (ih87 (n + 1) _ _ (by omega) (by omega) (by first | exact Or.inr rfl | exact Or.inl rfl) (by exact (((kf.d g3).w (by decide)).f (by decide)).f (by decide)) (by rw [q_upO]; exact (((g3.t tN).r (by decide)).at).at) (by rw [q_upO]; first | (have := s4 (by omega); omega) | omega) (by exact ((kh.d g3).w.d (mRd_at _ _)).d (mRd_at _ _)) (by rw [q_upO, mRow_up (by decide), w54, v3]; first | exact Or.inl ⟨rfl, by omega, by rw [mb]; exact pPrz_go (by omega) n3 (by omega)⟩ | exact Or.inr ⟨rfl, by rw [mb, pPrz_st m8 n3 (by omega), Int.add_zero]⟩))
                  · refine q_iconst C dX12_readsHouse_124 ?_
                    refine q_zret C' dX12_readsHouse_125 (by first | omega | exact q_b01 _ | simp) ?_
                    obtain ⟨n3, -, rfl⟩ := k3.resolve_left (fun q => by omega)
                    rw [pPrz_no m8 n3] at mb
                    have hC := pPrz_cong (t := t) (L := L) (h := R 2 0) 8 0 (pNq t L (pNq t L a)) (fun i => if 8 * R 2 0 ≤ i ∧ i < 8 * R 2 0 + 8 then 0 else M 54 0 i) (rPz0 R)
                    rw [mb] at hC
                    have e9 : pFin t L (pHouseB t L a R) = (pNf t L 9 p, pSk t L p, R) := by
                      unfold pHouseB
                      rw [if_pos n1, if_pos n2, if_neg (by rw [← hC.1]; exact n3), ← hC.1, ← hC.2.1]
                      exact pFin_no n3
                    rw [e9]
                    exact ⟨congrArg some (q_bF n3).symm, mBd_no n3 ((kf.d g3).w (by decide)) (by simp only [q_rd, ↓reduceIte, Nat.reduceEqDiff, Int.reduceEq]; exact g3.2.2.1) (by simp only [q_rd, ↓reduceIte, Nat.reduceEqDiff, Int.reduceEq]; exact g3.2.2.2 n3)⟩
            exact q_ls (by exact ⟨rfl, rfl, rfl, rfl, trivial⟩) (L87 1000 0 1 _ (by omega) (by omega) (by exact Or.inr rfl) (by exact ((((mRf.rf.d g1).w (by decide)).d g2).w (by decide)).sw (by decide)) (by have := (((g2.t ((g1.t hT).r (by decide))).r (j := 53) (i := R 2 0) (z := z2) (by decide)).s (j := 54) (f := (fun i => if 8 * R 2 0 ≤ i ∧ i < 8 * R 2 0 + 8 then 0 else M 54 0 i)) (by decide)); rw [show qSet (qUp N2 53 0 (R 2 0) z2) 54 0 (fun i => if 8 * R 2 0 ≤ i ∧ i < 8 * R 2 0 + 8 then 0 else M 54 0 i) 35 0 2 = (pNq t L (pNq t L a)) from this.2.2]; exact this) (by have := (((g2.t ((g1.t hT).r (by decide))).r (j := 53) (i := R 2 0) (z := z2) (by decide)).s (j := 54) (f := (fun i => if 8 * R 2 0 ≤ i ∧ i < 8 * R 2 0 + 8 then 0 else M 54 0 i)) (by decide)); rw [show qSet (qUp N2 53 0 (R 2 0) z2) 54 0 (fun i => if 8 * R 2 0 ≤ i ∧ i < 8 * R 2 0 + 8 then 0 else M 54 0 i) 35 0 2 = (pNq t L (pNq t L a)) from this.2.2]; omega) (by exact (mHs_0 g1 g2 hX).s) (by have := (((g2.t ((g1.t hT).r (by decide))).r (j := 53) (i := R 2 0) (z := z2) (by decide)).s (j := 54) (f := (fun i => if 8 * R 2 0 ≤ i ∧ i < 8 * R 2 0 + 8 then 0 else M 54 0 i)) (by decide)); rw [show qSet (qUp N2 53 0 (R 2 0) z2) 54 0 (fun i => if 8 * R 2 0 ≤ i ∧ i < 8 * R 2 0 + 8 then 0 else M 54 0 i) 35 0 2 = (pNq t L (pNq t L a)) from this.2.2, q_setOn']; exact Or.inl ⟨rfl, by omega, rfl⟩))
          · refine q_aloadn C dX12_readsHouse_65 rfl ?_
            refine gf_RX12_32 C dX12_readsHouse_66 ?_
            refine q_bipush C dX12_readsHouse_69 (by decide) ?_
            refine q_iloadn C dX12_readsHouse_71 rfl ?_
            refine q_imul C dX12_readsHouse_72 ?_
            refine q_iloadn C dX12_readsHouse_73 rfl ?_
            refine q_iadd C dX12_readsHouse_74 ?_
            refine q_iconst C dX12_readsHouse_75 ?_
            refine q_iast C (by first | assumption | decide | omega) (fun _ => rfl) dX12_readsHouse_76 (by omega) (by omega) (by decide) (by first | assumption | omega | exact q_tin _ | exact q_bIn _) ?_
            refine q_iinc C dX12_readsHouse_77 rfl hn (by decide) rfl ?_
            refine q_goto C (tgt := 59) dX12_readsHouse_80 (by decide) ?_
            exact q_ls (by exact ⟨rfl, rfl, rfl, trivial⟩) (ih59 _ _ (by omega) (by omega) (by rw [q_upSet]; exact q_setC (fun i => by (repeat' split) <;> first | rfl | (exfalso; omega))))
      exact q_ls (by exact ⟨rfl, rfl, rfl, trivial⟩) (L59 1000 _ _ (by omega) (by omega) (by exact (q_setC0 (fun i => by rw [if_neg (by omega)]; exact (congrFun o54 i).symm)).symm))
    · refine q_iconst C dX12_readsHouse_55 ?_
      refine q_zret C' dX12_readsHouse_56 (by first | omega | exact q_b01 _ | simp) ?_
      obtain ⟨n2, -, rfl⟩ := k2.resolve_left (fun q => by omega)
      have e9 : pFin t L (pHouseB t L a R) = (pNf t L 40 (pNq t L a), pSk t L (pNq t L a), R) := by unfold pHouseB; rw [if_pos n1, if_neg n2]; exact pFin_no n2
      rw [e9]
      exact ⟨congrArg some (q_bF n2).symm, mBd_no n2 ((((mRf.rf.d g1).w (by decide)).d g2).w (by decide)) (by simp only [q_rd, ↓reduceIte, Nat.reduceEqDiff, Int.reduceEq]; exact g2.2.2.1) (by simp only [q_rd, ↓reduceIte, Nat.reduceEqDiff, Int.reduceEq]; exact g2.2.2.2 n2)⟩
  · refine q_iconst C dX12_readsHouse_33 ?_
    refine q_goto C (tgt := 44) dX12_readsHouse_34 (by decide) ?_
    refine q_iast C (by first | assumption | decide | omega) (fun _ => rfl) dX12_readsHouse_44 (by omega) (by omega) (by decide) (by first | assumption | omega | exact q_tin _ | exact q_bIn _) ?_
    refine q_aloadn C dX12_readsHouse_45 rfl ?_
    refine gf_RX12_29 C dX12_readsHouse_46 ?_
    refine q_iloadn C dX12_readsHouse_49 rfl ?_
    refine q_iald C (by first | assumption | decide | omega) rfl dX12_readsHouse_50 (by omega) (by omega) (by decide) (fun r50 => ?_)
    try simp only [q_rd, q_rdS, ↓reduceIte, if_true, if_false, eq_self, Nat.reduceEqDiff, Int.reduceEq, Int.reduceNeg, reduceCtorEq] at r50 ⊢
    refine q_iconst C dX12_readsHouse_51 ?_
    refine q_icmp_ne C 57 dX12_readsHouse_52 (by decide) (by first | assumption | omega | exact q_tin _ | exact q_bIn _) (by first | assumption | omega | exact q_tin _ | exact q_bIn _) (fun h52 => ?_) (fun h52 => ?_)
    · exact absurd rfl h52
    · refine q_iconst C dX12_readsHouse_55 ?_
      refine q_zret C' dX12_readsHouse_56 (by first | omega | exact q_b01 _ | simp) ?_
      obtain ⟨n1, -, rfl⟩ := k1.resolve_left (fun q => by omega)
      have e9 : pFin t L (pHouseB t L a R) = (pNf t L 40 a, pSk t L a, R) := by unfold pHouseB; rw [if_neg n1]; exact pFin_no n1
      rw [e9]
      exact ⟨congrArg some (q_bF n1).symm, mBd_no n1 (((mRf.rf.d g1).w (by decide)).w (by decide)) (by simp only [q_rd, ↓reduceIte, Nat.reduceEqDiff, Int.reduceEq]; exact g1.2.2.1) (by simp only [q_rd, ↓reduceIte, Nat.reduceEqDiff, Int.reduceEq]; exact g1.2.2.2 n1)⟩
