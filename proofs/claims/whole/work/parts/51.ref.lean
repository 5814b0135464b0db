/-- alike where it counts -/
def zG (W Z : sZ) : Prop := (∀ c, 0 ≤ c → c < 199 → W 0 0 c = Z 0 0 c) ∧ (W 2 0 0 = Z 2 0 0 ∧ W 2 0 1 = Z 2 0 1 ∧ W 2 0 2 = Z 2 0 2) ∧ (∀ b c, 0 ≤ b → b < 30 → 0 ≤ c → c < 199 → W 1 b c = Z 1 b c) ∧ (∀ i : Nat, i < 2 → (∀ c, 0 ≤ c → c < 199 → W 3 i c = Z 3 i c) ∧ W 4 i 0 = Z 4 i 0 ∧ W 4 i 1 = Z 4 i 1)
theorem zF.g {W Z : sZ} (h : zF W Z) : zG W Z := by
  refine ⟨fun c _ _ => congrFun (congrFun h.1 0) c, ⟨congrFun (congrFun h.2.1 0) 0, congrFun (congrFun h.2.1 0) 1, congrFun (congrFun h.2.1 0) 2⟩, h.2.2.2, fun i _ => ⟨fun c _ _ => congrFun (congrFun (h.2.2.1 3 (by omega)) i) c, congrFun (congrFun (h.2.2.1 4 (by omega)) i) 0, congrFun (congrFun (h.2.2.1 4 (by omega)) i) 1⟩⟩
def vC (R : sRd) (c : Int) : Int → Int := fun i => if 14 ≤ i ∧ i < 14 + c then R 4 (i - 14) else if 8 ≤ i ∧ i < 8 + c then R 5 (i - 8) else 0
def vHs (R : sRd) (h : Int) : Int → Int := fun i => if 2 ≤ i ∧ i < 2 + h then R 6 (i - 2) else vC R (R 1 0) i
theorem vC_s {R : sRd} {c i : Int} (h0 : 0 ≤ c) (h6 : c < 6) : (if i = 8 + c then R 5 c else if i = 14 + c then R 4 c else vC R c i) = vC R (c + 1) i := by
  unfold vC
  by_cases e1 : i = 8 + c
  · subst e1
    rw [if_pos rfl, if_neg (by omega), if_pos (by omega)]
    congr 1
    omega
  · rw [if_neg e1]
    by_cases e2 : i = 14 + c
    · subst e2
      rw [if_pos rfl, if_pos (by omega)]
      congr 1
      omega
    · rw [if_neg e2]
      by_cases e3 : 14 ≤ i ∧ i < 14 + c
      · rw [if_pos e3, if_pos (by omega)]
      · rw [if_neg e3, if_neg (show ¬ (14 ≤ i ∧ i < 14 + (c + 1)) by omega)]
        by_cases e4 : 8 ≤ i ∧ i < 8 + c
        · rw [if_pos e4, if_pos (by omega)]
        · rw [if_neg e4, if_neg (by omega)]
theorem vHs_s {R : sRd} {h i : Int} (h0 : 0 ≤ h) : (if i = 2 + h then R 6 h else vHs R h i) = vHs R (h + 1) i := by
  unfold vHs
  by_cases e1 : i = 2 + h
  · subst e1
    rw [if_pos rfl, if_pos (by omega)]
    congr 1
    omega
  · rw [if_neg e1]
    by_cases e3 : 2 ≤ i ∧ i < 2 + h
    · rw [if_pos e3, if_pos (by omega)]
    · rw [if_neg e3, if_neg (by omega)]
theorem vHs_e {R : sRd} (hR : rB R) (i : Int) : vHs R (R 2 0) i = rRw R i := by
  have b1 := hR.2.1
  unfold vHs vC rRw
  by_cases e1 : 2 ≤ i ∧ i < 2 + R 2 0
  · rw [if_pos e1, if_pos e1]
  · rw [if_neg e1, if_neg e1]
    by_cases e2 : 14 ≤ i ∧ i < 14 + R 1 0
    · rw [if_pos e2, if_neg (by omega), if_pos e2]
    · rw [if_neg e2, if_neg e2]
/-- what the copying leaves -/
def mSf (K N : qMem) : Prop := ∀ j u, ¬ (58 ≤ j ∧ j ≤ 61 ∧ u = 0) → N j u = K j u
theorem mSf.w {K N : qMem} {j : Nat} {i z : Int} (h : mSf K N) (hj : 58 ≤ j ∧ j ≤ 61) : mSf K (qUp N j 0 i z) := fun j' u q => (q_upF (by omega)).trans (h j' u q)
theorem mSf.s {K N : qMem} {j : Nat} {f : Int → Int} (h : mSf K N) (hj : 58 ≤ j ∧ j ≤ 61) : mSf K (qSet N j 0 f) := fun j' u q => (q_setF (by omega)).trans (h j' u q)
theorem mRow1 {N : qMem} {j : Nat} {i z k : Int} : qUp N j 0 i z j 0 k = if k = i then z else N j 0 k := by rw [q_rd, if_pos rfl, if_pos rfl]
def mSF (M N : qMem) : Prop := (∀ j u, ¬ (j = 35 ∧ u = 0) → ¬ (49 ≤ j ∧ j ≤ 54 ∧ u = 0) → N j u = M j u) ∧ (∀ k, 9 ≤ k → N 35 0 k = M 35 0 k)
def mSn (N : qMem) : qMem := qUp (qUp (qUp (qUp (qUp N 35 0 25 0) 35 0 29 0) 35 0 32 0) 75 0 0 0) 75 0 1 0
def mS0 (N : qMem) (R : sRd) : qMem := qUp (qUp (qUp (qUp (qUp N 35 0 0 0) 35 0 5 (-1)) 35 0 15 (R 0 0)) 35 0 16 (R 1 0)) 35 0 17 (R 2 0)
theorem mSn_end {M N1 N : qMem} {R : sRd} (hR : rB R) (hb : mRf M N1) (sf : mSf (mS0 N1 R) N) (s1 : N 61 0 = vHs R (R 2 0)) (s2 : ∀ k, 0 ≤ k → k < R 1 0 → N 58 0 k = R 3 k) (s3 : ∀ k, 0 ≤ k → k < R 2 0 → N 59 0 k = R 7 k) (s4 : ∀ k, 0 ≤ k → k < 8 * R 2 0 → N 60 0 k = R 8 k) :
    mS (mSn N) (rSd R) ∧ zG (zM (mSn N)) (zNew (zM M) R) ∧ mSn N 35 0 29 = 0 ∧ mSn N 35 0 32 = 0 ∧ ((∀ j u, j < 35 → mSn N j u = M j u) ∧ mSn N 41 0 = M 41 0) ∧ mSn N 35 0 0 = 0 ∧ mSn N 35 0 5 = -1 := by
  have k35 : ∀ k, N 35 0 k = mS0 N1 R 35 0 k := fun k => congrFun (sf 35 0 (by omega)) k
  have kn : ∀ k, k ≠ 25 → k ≠ 29 → k ≠ 32 → mSn N 35 0 k = mS0 N1 R 35 0 k := fun k a b c => by
    unfold mSn; rw [q_upF (by decide), q_upF (by decide), q_upK c, q_upK b, q_upK a, k35]
  have k0 : ∀ k, k ≠ 0 → k ≠ 5 → k ≠ 15 → k ≠ 16 → k ≠ 17 → mS0 N1 R 35 0 k = N1 35 0 k := fun k a b c d e => by
    unfold mS0; rw [q_upK e, q_upK d, q_upK c, q_upK b, q_upK a]
  have km : ∀ k, 18 ≤ k → k ≠ 25 → k ≠ 29 → k ≠ 32 → mSn N 35 0 k = M 35 0 k := fun k a b c d => by
    rw [kn k b c d, k0 k (by omega) (by omega) (by omega) (by omega) (by omega), hb.2 k (by omega) (by omega) (by omega) (by omega)]
  have rw0 : ∀ j u, j ≠ 35 → mS0 N1 R j u = N1 j u := fun j u a => by
    unfold mS0; rw [q_upF (by omega), q_upF (by omega), q_upF (by omega), q_upF (by omega), q_upF (by omega)]
  have rn : ∀ j u, j ≠ 35 → j ≠ 75 → mSn N j u = N j u := fun j u a b => by
    unfold mSn; rw [q_upF (by omega), q_upF (by omega), q_upF (by omega), q_upF (by omega), q_upF (by omega)]
  have rm : ∀ j u, j ≠ 35 → j ≠ 75 → ¬ (49 ≤ j ∧ j ≤ 54) → ¬ (58 ≤ j ∧ j ≤ 61) → mSn N j u = M j u := fun j u a b c d => by
    rw [rn j u a b, sf j u (by omega), rw0 j u a, hb.1 j u (by omega) (by omega)]
  have e15 : mSn N 35 0 15 = R 0 0 := by rw [kn 15 (by decide) (by decide) (by decide)]; unfold mS0; rw [q_upK (by decide), q_upK (by decide), q_upO]
  have e16 : mSn N 35 0 16 = R 1 0 := by rw [kn 16 (by decide) (by decide) (by decide)]; unfold mS0; rw [q_upK (by decide), q_upO]
  have e17 : mSn N 35 0 17 = R 2 0 := by rw [kn 17 (by decide) (by decide) (by decide)]; unfold mS0; rw [q_upO]
  have e25 : mSn N 35 0 25 = 0 := by unfold mSn; rw [q_upF (by decide), q_upF (by decide), q_upK (by decide), q_upK (by decide), q_upO]
  have e750 : mSn N 75 0 0 = 0 := by unfold mSn; rw [mRow1, if_neg (by decide), mRow1, if_pos rfl]
  have e751 : mSn N 75 0 1 = 0 := by unfold mSn; rw [mRow1, if_pos rfl]
  refine ⟨⟨e15, e16, e17, fun c a b => ?_, fun c a b => ?_, fun c a b => ?_⟩, ⟨fun c a b => ?_, ⟨?_, ?_, ?_⟩, fun b c a1 a2 a3 a4 => ?_, fun i hi => ⟨fun c a b => ?_, ?_, ?_⟩⟩, ?_, ?_, ⟨fun j u a => rm j u (by omega) (by omega) (by omega) (by omega), rm 41 0 (by decide) (by decide) (by decide) (by decide)⟩, ?_, ?_⟩
  · rw [rn 58 0 (by decide) (by decide)]; exact s2 c a b
  · rw [rn 59 0 (by decide) (by decide)]; exact s3 c a b
  · rw [rn 60 0 (by decide) (by decide)]; exact s4 c a b
  · show mSn N 61 0 c = rRw R c
    rw [rn 61 0 (by decide) (by decide), s1, vHs_e hR]
  · show mSn N 35 0 26 = M 35 0 26
    exact km 26 (by decide) (by decide) (by decide) (by decide)
  · show mSn N 35 0 25 = 0
    exact e25
  · show mSn N 35 0 28 = M 35 0 28
    exact km 28 (by decide) (by decide) (by decide) (by decide)
  · show mSn N 67 0 (199 * b + c) = M 67 0 (199 * b + c)
    rw [rm 67 0 (by decide) (by decide) (by decide) (by decide)]
  · show mSn N 76 0 (199 * (i : Int) + c) = M 76 0 (199 * (i : Int) + c)
    rw [rm 76 0 (by decide) (by decide) (by decide) (by decide)]
  · show mSn N 75 0 (i : Int) = 0
    obtain rfl | rfl : i = 0 ∨ i = 1 := by omega
    · exact e750
    · exact e751
  · show mSn N 77 0 (i : Int) = M 77 0 (i : Int)
    rw [rm 77 0 (by decide) (by decide) (by decide) (by decide)]
  · unfold mSn; rw [q_upF (by decide), q_upF (by decide), q_upK (by decide), q_upO]
  · unfold mSn; rw [q_upF (by decide), q_upF (by decide), q_upO]
  · rw [kn 0 (by decide) (by decide) (by decide)]; unfold mS0; rw [q_upK (by decide), q_upK (by decide), q_upK (by decide), q_upK (by decide), q_upO]
  · rw [kn 5 (by decide) (by decide) (by decide)]; unfold mS0; rw [q_upK (by decide), q_upK (by decide), q_upK (by decide), q_upO]
theorem dX12_season_0 : decode cX12_season 0 = .ok (.aload_n 0, 1) := by decide +kernel
theorem dX12_season_1 : decode cX12_season 1 = .ok (.invokevirtual 144, 3) := by decide +kernel
theorem dX12_season_4 : decode cX12_season 4 = .ok (.istore_n 1, 1) := by decide +kernel
theorem dX12_season_5 : decode cX12_season 5 = .ok (.aload_n 0, 1) := by decide +kernel
theorem dX12_season_6 : decode cX12_season 6 = .ok (.iconst 0, 1) := by decide +kernel
theorem dX12_season_7 : decode cX12_season 7 = .ok (.putfield 90, 3) := by decide +kernel
theorem dX12_season_10 : decode cX12_season 10 = .ok (.aload_n 0, 1) := by decide +kernel
theorem dX12_season_11 : decode cX12_season 11 = .ok (.iload_n 1, 1) := by decide +kernel
theorem dX12_season_12 : decode cX12_season 12 = .ok (.ifCond .eq 7, 3) := by decide +kernel
theorem dX12_season_15 : decode cX12_season 15 = .ok (.iconst (-1), 1) := by decide +kernel
theorem dX12_season_16 : decode cX12_season 16 = .ok (.goto 7, 3) := by decide +kernel
theorem dX12_season_19 : decode cX12_season 19 = .ok (.aload_n 0, 1) := by decide +kernel
theorem dX12_season_20 : decode cX12_season 20 = .ok (.getfield 94, 3) := by decide +kernel
theorem dX12_season_23 : decode cX12_season 23 = .ok (.putfield 13, 3) := by decide +kernel
theorem dX12_season_26 : decode cX12_season 26 = .ok (.iload_n 1, 1) := by decide +kernel
theorem dX12_season_27 : decode cX12_season 27 = .ok (.ifCond .ne 11, 3) := by decide +kernel
theorem dX12_season_30 : decode cX12_season 30 = .ok (.bipush (-10), 2) := by decide +kernel
theorem dX12_season_32 : decode cX12_season 32 = .ok (.aload_n 0, 1) := by decide +kernel
theorem dX12_season_33 : decode cX12_season 33 = .ok (.getfield 101, 3) := by decide +kernel
theorem dX12_season_36 : decode cX12_season 36 = .ok (.isub, 1) := by decide +kernel
theorem dX12_season_37 : decode cX12_season 37 = .ok (.ireturn, 1) := by decide +kernel
theorem dX12_season_38 : decode cX12_season 38 = .ok (.aload_n 0, 1) := by decide +kernel
theorem dX12_season_39 : decode cX12_season 39 = .ok (.aload_n 0, 1) := by decide +kernel
theorem dX12_season_40 : decode cX12_season 40 = .ok (.getfield 118, 3) := by decide +kernel
theorem dX12_season_43 : decode cX12_season 43 = .ok (.putfield 35, 3) := by decide +kernel
theorem dX12_season_46 : decode cX12_season 46 = .ok (.aload_n 0, 1) := by decide +kernel
theorem dX12_season_47 : decode cX12_season 47 = .ok (.aload_n 0, 1) := by decide +kernel
theorem dX12_season_48 : decode cX12_season 48 = .ok (.getfield 125, 3) := by decide +kernel
theorem dX12_season_51 : decode cX12_season 51 = .ok (.putfield 147, 3) := by decide +kernel
theorem dX12_season_54 : decode cX12_season 54 = .ok (.aload_n 0, 1) := by decide +kernel
theorem dX12_season_55 : decode cX12_season 55 = .ok (.aload_n 0, 1) := by decide +kernel
theorem dX12_season_56 : decode cX12_season 56 = .ok (.getfield 128, 3) := by decide +kernel
theorem dX12_season_59 : decode cX12_season 59 = .ok (.putfield 150, 3) := by decide +kernel
theorem dX12_season_62 : decode cX12_season 62 = .ok (.iconst 0, 1) := by decide +kernel
theorem dX12_season_63 : decode cX12_season 63 = .ok (.istore_n 2, 1) := by decide +kernel
theorem dX12_season_64 : decode cX12_season 64 = .ok (.iload_n 2, 1) := by decide +kernel
theorem dX12_season_65 : decode cX12_season 65 = .ok (.sipush 199, 3) := by decide +kernel
theorem dX12_season_68 : decode cX12_season 68 = .ok (.if_icmp .ge 16, 3) := by decide +kernel
theorem dX12_season_71 : decode cX12_season 71 = .ok (.aload_n 0, 1) := by decide +kernel
theorem dX12_season_72 : decode cX12_season 72 = .ok (.getfield 47, 3) := by decide +kernel
theorem dX12_season_75 : decode cX12_season 75 = .ok (.iload_n 2, 1) := by decide +kernel
theorem dX12_season_76 : decode cX12_season 76 = .ok (.iconst 0, 1) := by decide +kernel
theorem dX12_season_77 : decode cX12_season 77 = .ok (.iastore, 1) := by decide +kernel
theorem dX12_season_78 : decode cX12_season 78 = .ok (.iinc 2 1, 3) := by decide +kernel
theorem dX12_season_81 : decode cX12_season 81 = .ok (.goto (-17), 3) := by decide +kernel
theorem dX12_season_84 : decode cX12_season 84 = .ok (.iconst 0, 1) := by decide +kernel
theorem dX12_season_85 : decode cX12_season 85 = .ok (.istore_n 2, 1) := by decide +kernel
theorem dX12_season_86 : decode cX12_season 86 = .ok (.iload_n 2, 1) := by decide +kernel
theorem dX12_season_87 : decode cX12_season 87 = .ok (.aload_n 0, 1) := by decide +kernel
theorem dX12_season_88 : decode cX12_season 88 = .ok (.getfield 147, 3) := by decide +kernel
theorem dX12_season_91 : decode cX12_season 91 = .ok (.if_icmp .ge 51, 3) := by decide +kernel
theorem dX12_season_94 : decode cX12_season 94 = .ok (.aload_n 0, 1) := by decide +kernel
theorem dX12_season_95 : decode cX12_season 95 = .ok (.getfield 38, 3) := by decide +kernel
theorem dX12_season_98 : decode cX12_season 98 = .ok (.iload_n 2, 1) := by decide +kernel
theorem dX12_season_99 : decode cX12_season 99 = .ok (.aload_n 0, 1) := by decide +kernel
theorem dX12_season_100 : decode cX12_season 100 = .ok (.getfield 17, 3) := by decide +kernel
theorem dX12_season_103 : decode cX12_season 103 = .ok (.iload_n 2, 1) := by decide +kernel
theorem dX12_season_104 : decode cX12_season 104 = .ok (.iaload, 1) := by decide +kernel
theorem dX12_season_105 : decode cX12_season 105 = .ok (.iastore, 1) := by decide +kernel
theorem dX12_season_106 : decode cX12_season 106 = .ok (.aload_n 0, 1) := by decide +kernel
theorem dX12_season_107 : decode cX12_season 107 = .ok (.getfield 47, 3) := by decide +kernel
theorem dX12_season_110 : decode cX12_season 110 = .ok (.bipush 14, 2) := by decide +kernel
theorem dX12_season_112 : decode cX12_season 112 = .ok (.iload_n 2, 1) := by decide +kernel
theorem dX12_season_113 : decode cX12_season 113 = .ok (.iadd, 1) := by decide +kernel
theorem dX12_season_114 : decode cX12_season 114 = .ok (.aload_n 0, 1) := by decide +kernel
theorem dX12_season_115 : decode cX12_season 115 = .ok (.getfield 20, 3) := by decide +kernel
theorem dX12_season_118 : decode cX12_season 118 = .ok (.iload_n 2, 1) := by decide +kernel
theorem dX12_season_119 : decode cX12_season 119 = .ok (.iaload, 1) := by decide +kernel
theorem dX12_season_120 : decode cX12_season 120 = .ok (.iastore, 1) := by decide +kernel
theorem dX12_season_121 : decode cX12_season 121 = .ok (.aload_n 0, 1) := by decide +kernel
theorem dX12_season_122 : decode cX12_season 122 = .ok (.getfield 47, 3) := by decide +kernel
theorem dX12_season_125 : decode cX12_season 125 = .ok (.bipush 8, 2) := by decide +kernel
theorem dX12_season_127 : decode cX12_season 127 = .ok (.iload_n 2, 1) := by decide +kernel
theorem dX12_season_128 : decode cX12_season 128 = .ok (.iadd, 1) := by decide +kernel
theorem dX12_season_129 : decode cX12_season 129 = .ok (.aload_n 0, 1) := by decide +kernel
theorem dX12_season_130 : decode cX12_season 130 = .ok (.getfield 23, 3) := by decide +kernel
theorem dX12_season_133 : decode cX12_season 133 = .ok (.iload_n 2, 1) := by decide +kernel
theorem dX12_season_134 : decode cX12_season 134 = .ok (.iaload, 1) := by decide +kernel
theorem dX12_season_135 : decode cX12_season 135 = .ok (.iastore, 1) := by decide +kernel
theorem dX12_season_136 : decode cX12_season 136 = .ok (.iinc 2 1, 3) := by decide +kernel
theorem dX12_season_139 : decode cX12_season 139 = .ok (.goto (-53), 3) := by decide +kernel
theorem dX12_season_142 : decode cX12_season 142 = .ok (.iconst 0, 1) := by decide +kernel
theorem dX12_season_143 : decode cX12_season 143 = .ok (.istore_n 2, 1) := by decide +kernel
theorem dX12_season_144 : decode cX12_season 144 = .ok (.iload_n 2, 1) := by decide +kernel
theorem dX12_season_145 : decode cX12_season 145 = .ok (.aload_n 0, 1) := by decide +kernel
theorem dX12_season_146 : decode cX12_season 146 = .ok (.getfield 150, 3) := by decide +kernel
theorem dX12_season_149 : decode cX12_season 149 = .ok (.if_icmp .ge 35, 3) := by decide +kernel
theorem dX12_season_152 : decode cX12_season 152 = .ok (.aload_n 0, 1) := by decide +kernel
theorem dX12_season_153 : decode cX12_season 153 = .ok (.getfield 41, 3) := by decide +kernel
theorem dX12_season_156 : decode cX12_season 156 = .ok (.iload_n 2, 1) := by decide +kernel
theorem dX12_season_157 : decode cX12_season 157 = .ok (.aload_n 0, 1) := by decide +kernel
theorem dX12_season_158 : decode cX12_season 158 = .ok (.getfield 29, 3) := by decide +kernel
theorem dX12_season_161 : decode cX12_season 161 = .ok (.iload_n 2, 1) := by decide +kernel
theorem dX12_season_162 : decode cX12_season 162 = .ok (.iaload, 1) := by decide +kernel
theorem dX12_season_163 : decode cX12_season 163 = .ok (.iastore, 1) := by decide +kernel
theorem dX12_season_164 : decode cX12_season 164 = .ok (.aload_n 0, 1) := by decide +kernel
theorem dX12_season_165 : decode cX12_season 165 = .ok (.getfield 47, 3) := by decide +kernel
theorem dX12_season_168 : decode cX12_season 168 = .ok (.iconst 2, 1) := by decide +kernel
theorem dX12_season_169 : decode cX12_season 169 = .ok (.iload_n 2, 1) := by decide +kernel
theorem dX12_season_170 : decode cX12_season 170 = .ok (.iadd, 1) := by decide +kernel
theorem dX12_season_171 : decode cX12_season 171 = .ok (.aload_n 0, 1) := by decide +kernel
theorem dX12_season_172 : decode cX12_season 172 = .ok (.getfield 26, 3) := by decide +kernel
theorem dX12_season_175 : decode cX12_season 175 = .ok (.iload_n 2, 1) := by decide +kernel
theorem dX12_season_176 : decode cX12_season 176 = .ok (.iaload, 1) := by decide +kernel
theorem dX12_season_177 : decode cX12_season 177 = .ok (.iastore, 1) := by decide +kernel
theorem dX12_season_178 : decode cX12_season 178 = .ok (.iinc 2 1, 3) := by decide +kernel
theorem dX12_season_181 : decode cX12_season 181 = .ok (.goto (-37), 3) := by decide +kernel
theorem dX12_season_184 : decode cX12_season 184 = .ok (.iconst 0, 1) := by decide +kernel
theorem dX12_season_185 : decode cX12_season 185 = .ok (.istore_n 2, 1) := by decide +kernel
theorem dX12_season_186 : decode cX12_season 186 = .ok (.iload_n 2, 1) := by decide +kernel
theorem dX12_season_187 : decode cX12_season 187 = .ok (.bipush 8, 2) := by decide +kernel
theorem dX12_season_189 : decode cX12_season 189 = .ok (.aload_n 0, 1) := by decide +kernel
theorem dX12_season_190 : decode cX12_season 190 = .ok (.getfield 150, 3) := by decide +kernel
theorem dX12_season_193 : decode cX12_season 193 = .ok (.imul, 1) := by decide +kernel
theorem dX12_season_194 : decode cX12_season 194 = .ok (.if_icmp .ge 21, 3) := by decide +kernel
theorem dX12_season_197 : decode cX12_season 197 = .ok (.aload_n 0, 1) := by decide +kernel
theorem dX12_season_198 : decode cX12_season 198 = .ok (.getfield 44, 3) := by decide +kernel
theorem dX12_season_201 : decode cX12_season 201 = .ok (.iload_n 2, 1) := by decide +kernel
theorem dX12_season_202 : decode cX12_season 202 = .ok (.aload_n 0, 1) := by decide +kernel
theorem dX12_season_203 : decode cX12_season 203 = .ok (.getfield 32, 3) := by decide +kernel
theorem dX12_season_206 : decode cX12_season 206 = .ok (.iload_n 2, 1) := by decide +kernel
theorem dX12_season_207 : decode cX12_season 207 = .ok (.iaload, 1) := by decide +kernel
theorem dX12_season_208 : decode cX12_season 208 = .ok (.iastore, 1) := by decide +kernel
theorem dX12_season_209 : decode cX12_season 209 = .ok (.iinc 2 1, 3) := by decide +kernel
theorem dX12_season_212 : decode cX12_season 212 = .ok (.goto (-26), 3) := by decide +kernel
theorem dX12_season_215 : decode cX12_season 215 = .ok (.aload_n 0, 1) := by decide +kernel
theorem dX12_season_216 : decode cX12_season 216 = .ok (.iconst 0, 1) := by decide +kernel
theorem dX12_season_217 : decode cX12_season 217 = .ok (.putfield 153, 3) := by decide +kernel
theorem dX12_season_220 : decode cX12_season 220 = .ok (.aload_n 0, 1) := by decide +kernel
theorem dX12_season_221 : decode cX12_season 221 = .ok (.iconst 0, 1) := by decide +kernel
theorem dX12_season_222 : decode cX12_season 222 = .ok (.putfield 156, 3) := by decide +kernel
theorem dX12_season_225 : decode cX12_season 225 = .ok (.aload_n 0, 1) := by decide +kernel
theorem dX12_season_226 : decode cX12_season 226 = .ok (.iconst 0, 1) := by decide +kernel
theorem dX12_season_227 : decode cX12_season 227 = .ok (.putfield 159, 3) := by decide +kernel
theorem dX12_season_230 : decode cX12_season 230 = .ok (.aload_n 0, 1) := by decide +kernel
theorem dX12_season_231 : decode cX12_season 231 = .ok (.getfield 74, 3) := by decide +kernel
theorem dX12_season_234 : decode cX12_season 234 = .ok (.iconst 0, 1) := by decide +kernel
theorem dX12_season_235 : decode cX12_season 235 = .ok (.iconst 0, 1) := by decide +kernel
theorem dX12_season_236 : decode cX12_season 236 = .ok (.bastore, 1) := by decide +kernel
theorem dX12_season_237 : decode cX12_season 237 = .ok (.aload_n 0, 1) := by decide +kernel
theorem dX12_season_238 : decode cX12_season 238 = .ok (.getfield 74, 3) := by decide +kernel
theorem dX12_season_241 : decode cX12_season 241 = .ok (.iconst 1, 1) := by decide +kernel
theorem dX12_season_242 : decode cX12_season 242 = .ok (.iconst 0, 1) := by decide +kernel
theorem dX12_season_243 : decode cX12_season 243 = .ok (.bastore, 1) := by decide +kernel
theorem dX12_season_244 : decode cX12_season 244 = .ok (.aload_n 0, 1) := by decide +kernel
theorem dX12_season_245 : decode cX12_season 245 = .ok (.getfield 147, 3) := by decide +kernel
theorem dX12_season_248 : decode cX12_season 248 = .ok (.ireturn, 1) := by decide +kernel
set_option maxRecDepth 4000 in
set_option maxHeartbeats 4000000 in
theorem m_X12_season (l : Launch) (g : qGm) (M : qMem) {t : Int → Int} {L a : Int} (hT : mT M t L a) (hL : 0 ≤ L ∧ L ≤ 240) (ht : ∀ k, 0 ≤ k → k < L → 0 ≤ t k) : qOk l g 7 yX12_season cX12_season 3 (some .int) [qR g 35 0] M (fun r N => (¬ (pRes t L).1 = 0 → r = some (-10 - (pRes t L).1) ∧ mSF M N) ∧ ((pRes t L).1 = 0 → r = some ((pRes t L).2.2 1 0) ∧ mS N (rSd (pRes t L).2.2) ∧ zG (zM N) (zNew (zM M) (pRes t L).2.2) ∧ N 35 0 29 = 0 ∧ N 35 0 32 = 0 ∧ (∀ j u, j < 35 → N j u = M j u) ∧ N 41 0 = M 41 0) ∧ N 35 0 0 = 0 ∧ N 35 0 5 = (if (pRes t L).1 = 0 then -1 else (pRes t L).2.1)) := by
  refine q_ok (by decide +kernel) (Nat.le_of_ble_eq_true rfl) (fun X C' hn => ?_)
  have C := C'.1
  refine q_aloadn C dX12_season_0 rfl ?_
  refine cw_RX12_144 C (by decide) (m_X12_readsSeason l g _ hT hL ht) dX12_season_1 (Nat.le_of_ble_eq_true rfl) (fun r N1 hz hp => ?_)
  obtain ⟨rfl, hb, hB⟩ := hp
  have qz : ((pRes t L).1 = 0 ∧ qB ((pRes t L).1 = 0) = 1) ∨ ((pRes t L).1 ≠ 0 ∧ qB ((pRes t L).1 = 0) = 0) := by
    by_cases e : (pRes t L).1 = 0
    · exact Or.inl ⟨e, q_bT e⟩
    · exact Or.inr ⟨e, q_bF e⟩
  have pb := pRes_in t L
  have yq := hz _ rfl
  show qV l g X _ _ _ (qI _ :: [])
  refine q_istoren C dX12_season_4 hn (by decide) rfl ?_
  refine q_aloadn C dX12_season_5 rfl ?_
  refine q_iconst C dX12_season_6 ?_
  refine pf_RX12_90 C (by first | assumption | omega | exact q_tin _ | exact q_bIn _) dX12_season_7 ?_
  refine q_aloadn C dX12_season_10 rfl ?_
  refine q_iloadn C dX12_season_11 rfl ?_
  refine q_if_eq C 19 dX12_season_12 (by decide) (by first | assumption | omega | exact q_tin _ | exact q_bIn _) (fun h12 => ?_) (fun h12 => ?_)
  · refine q_aloadn C dX12_season_19 rfl ?_
    refine gf_RX12_94 C dX12_season_20 (fun r20 => ?_)
    try simp only [q_rd, q_rdS, ↓reduceIte, if_true, if_false, eq_self, Nat.reduceEqDiff, Int.reduceEq, Int.reduceNeg, reduceCtorEq] at r20 ⊢
    refine pf_RX12_13 C (by first | assumption | omega | exact q_tin _ | exact q_bIn _) dX12_season_23 ?_
    refine q_iloadn C dX12_season_26 rfl ?_
    refine q_if_ne C 38 dX12_season_27 (by decide) (by first | assumption | omega | exact q_tin _ | exact q_bIn _) (fun h27 => ?_) (fun h27 => ?_)
    · exfalso; omega
    · have f4 : N1 35 0 4 = (pRes t L).1 := hb.2.2.1 (by omega)
      refine q_bipush C dX12_season_30 (by decide) ?_
      refine q_aloadn C dX12_season_32 rfl ?_
      refine gf_RX12_101 C dX12_season_33 (fun r33 => ?_)
      try simp only [q_rd, q_rdS, ↓reduceIte, if_true, if_false, eq_self, Nat.reduceEqDiff, Int.reduceEq, Int.reduceNeg, reduceCtorEq] at r33 ⊢
      rw [f4] at r33 ⊢
      refine q_isub C dX12_season_36 ?_
      refine q_iret C' dX12_season_37 (by first | assumption | omega | exact q_tin _ | exact q_bIn _) ?_
      refine ⟨fun _ => ⟨rfl, fun j u q1 q2 => ?_, fun k q => ?_⟩, fun q => absurd q (by omega), by rw [q_upK (by decide), q_upO], by rw [q_upO, if_neg (by omega)]; exact hb.2.1⟩
      · rw [q_upF q1, q_upF q1]; exact hb.1.1 j u q1 q2
      · rw [q_upK (by omega), q_upK (by omega)]; exact hb.1.2 k (by omega) (by omega) (by omega) (by omega)
  · refine q_iconst C dX12_season_15 ?_
    refine q_goto C (tgt := 23) dX12_season_16 (by decide) ?_
    refine pf_RX12_13 C (by first | assumption | omega | exact q_tin _ | exact q_bIn _) dX12_season_23 ?_
    refine q_iloadn C dX12_season_26 rfl ?_
    refine q_if_ne C 38 dX12_season_27 (by decide) (by first | assumption | omega | exact q_tin _ | exact q_bIn _) (fun h27 => ?_) (fun h27 => ?_)
    · have b0 : (pRes t L).1 = 0 := by omega
      have xX := hb.2.2.2 b0
      have hR := hB b0
      have hF := hb.1
      obtain ⟨R, hRe⟩ : ∃ R, R = (pRes t L).2.2 := ⟨_, rfl⟩
      rw [← hRe] at xX hR
      have b1 := hR.2.1
      have b2 := hR.2.2.1
      have b9 := hR.1
      obtain ⟨x1, x2, x3, x4, x5, x6⟩ := xX
      refine q_aloadn C dX12_season_38 rfl ?_
      refine q_aloadn C dX12_season_39 rfl ?_
      refine gf_RX12_118 C dX12_season_40 (fun r40 => ?_)
      try simp only [q_rd, q_rdS, ↓reduceIte, if_true, if_false, eq_self, Nat.reduceEqDiff, Int.reduceEq, Int.reduceNeg, reduceCtorEq] at r40 ⊢
      rw [x1] at r40 ⊢
      refine pf_RX12_35 C (by first | assumption | omega | exact q_tin _ | exact q_bIn _) dX12_season_43 ?_
      refine q_aloadn C dX12_season_46 rfl ?_
      refine q_aloadn C dX12_season_47 rfl ?_
      refine gf_RX12_125 C dX12_season_48 (fun r48 => ?_)
      try simp only [q_rd, q_rdS, ↓reduceIte, if_true, if_false, eq_self, Nat.reduceEqDiff, Int.reduceEq, Int.reduceNeg, reduceCtorEq] at r48 ⊢
      rw [x2] at r48 ⊢
      refine pf_RX12_147 C (by first | assumption | omega | exact q_tin _ | exact q_bIn _) dX12_season_51 ?_
      refine q_aloadn C dX12_season_54 rfl ?_
      refine q_aloadn C dX12_season_55 rfl ?_
      refine gf_RX12_128 C dX12_season_56 (fun r56 => ?_)
      try simp only [q_rd, q_rdS, ↓reduceIte, if_true, if_false, eq_self, Nat.reduceEqDiff, Int.reduceEq, Int.reduceNeg, reduceCtorEq] at r56 ⊢
      rw [x3] at r56 ⊢
      refine pf_RX12_150 C (by first | assumption | omega | exact q_tin _ | exact q_bIn _) dX12_season_59 ?_
      obtain ⟨K, hK⟩ : ∃ K, K = mS0 N1 R := ⟨_, rfl⟩
      refine q_memEq (show _ = K from hK.symm) ?_
      have k16 : K 35 0 16 = R 1 0 := by rw [hK]; unfold mS0; rw [q_upK (by decide), q_upO]
      have k17 : K 35 0 17 = R 2 0 := by rw [hK]; unfold mS0; rw [q_upO]
      have kj : ∀ j u, j ≠ 35 → K j u = N1 j u := fun j u a => by rw [hK]; unfold mS0; rw [q_upF (by omega), q_upF (by omega), q_upF (by omega), q_upF (by omega), q_upF (by omega)]
      refine q_iconst C dX12_season_62 ?_
      refine q_istoren C dX12_season_63 hn (by decide) rfl ?_
      have L64 : ∀ (n64 : Nat) (i : Int) (N : qMem), 199 - i < (n64 : Int) → (0 ≤ i ∧ i ≤ 199) → (N = qSet K 61 0 (fun k => if 0 ≤ k ∧ k < i then 0 else K 61 0 k)) → qV l g X N 64 [(0, qR g 35 0), (2, qI i)] [] := by
        intro n64
        induction n64 with
        | zero => intro i N hm64 c0 hN; exfalso; first | omega | (simp at *; omega)
        | succ n64 ih64 =>
          intro i N hm64 c0 hN
          subst hN
          refine q_iloadn C dX12_season_64 rfl ?_
          refine q_sipush C dX12_season_65 (by decide) ?_
          refine q_icmp_ge C 84 dX12_season_68 (by decide) (by first | assumption | omega | exact q_tin _ | exact q_bIn _) (by first | assumption | omega | exact q_tin _ | exact q_bIn _) (fun h68 => ?_) (fun h68 => ?_)
          · obtain rfl : i = 199 := by omega
            refine q_rowMem (n := 199) (f' := fun _ => 0) (fun _ => rfl) (fun i e1 e2 => if_pos ⟨e1, by omega⟩) (fun _ => by decide) ?_
            refine q_iconst C dX12_season_84 ?_
            refine q_istoren C dX12_season_85 hn (by decide) rfl ?_
            have L86 : ∀ (n86 : Nat) (c : Int) (N : qMem), R 1 0 - c < (n86 : Int) → (0 ≤ c ∧ c ≤ R 1 0) → (mSf K N) → (N 61 0 = vC R c) → (∀ k, 0 ≤ k → k < c → N 58 0 k = R 3 k) → qV l g X N 86 [(0, qR g 35 0), (2, qI c)] [] := by
              intro n86
              induction n86 with
              | zero => intro c N hm86 c0 sf s1 s2; exfalso; first | omega | (simp at *; omega)
              | succ n86 ih86 =>
                intro c N hm86 c0 sf s1 s2
                have e16 : N 35 0 16 = R 1 0 := (congrFun (sf 35 0 (by omega)) 16).trans k16
                refine q_iloadn C dX12_season_86 rfl ?_
                refine q_aloadn C dX12_season_87 rfl ?_
                refine gf_RX12_147 C dX12_season_88 (fun r88 => ?_)
                try simp only [q_rd, q_rdS, ↓reduceIte, if_true, if_false, eq_self, Nat.reduceEqDiff, Int.reduceEq, Int.reduceNeg, reduceCtorEq] at r88 ⊢
                rw [e16] at r88 ⊢
                refine q_icmp_ge C 142 dX12_season_91 (by decide) (by first | assumption | omega | exact q_tin _ | exact q_bIn _) (by first | assumption | omega | exact q_tin _ | exact q_bIn _) (fun h91 => ?_) (fun h91 => ?_)
                · obtain rfl : c = R 1 0 := by omega
                  refine q_iconst C dX12_season_142 ?_
                  refine q_istoren C dX12_season_143 hn (by decide) rfl ?_
                  have L144 : ∀ (n144 : Nat) (h : Int) (N : qMem), R 2 0 - h < (n144 : Int) → (0 ≤ h ∧ h ≤ R 2 0) → (mSf K N) → (N 61 0 = vHs R h) → (∀ k, 0 ≤ k → k < R 1 0 → N 58 0 k = R 3 k) → (∀ k, 0 ≤ k → k < h → N 59 0 k = R 7 k) → qV l g X N 144 [(0, qR g 35 0), (2, qI h)] [] := by
                    intro n144
                    induction n144 with
                    | zero => intro h N hm144 c0 sf s1 s2 s3; exfalso; first | omega | (simp at *; omega)
                    | succ n144 ih144 =>
                      intro h N hm144 c0 sf s1 s2 s3
                      have e17 : N 35 0 17 = R 2 0 := (congrFun (sf 35 0 (by omega)) 17).trans k17
                      refine q_iloadn C dX12_season_144 rfl ?_
                      refine q_aloadn C dX12_season_145 rfl ?_
                      refine gf_RX12_150 C dX12_season_146 (fun r146 => ?_)
                      try simp only [q_rd, q_rdS, ↓reduceIte, if_true, if_false, eq_self, Nat.reduceEqDiff, Int.reduceEq, Int.reduceNeg, reduceCtorEq] at r146 ⊢
                      rw [e17] at r146 ⊢
                      refine q_icmp_ge C 184 dX12_season_149 (by decide) (by first | assumption | omega | exact q_tin _ | exact q_bIn _) (by first | assumption | omega | exact q_tin _ | exact q_bIn _) (fun h149 => ?_) (fun h149 => ?_)
                      · obtain rfl : h = R 2 0 := by omega
                        refine q_iconst C dX12_season_184 ?_
                        refine q_istoren C dX12_season_185 hn (by decide) rfl ?_
                        have L186 : ∀ (n186 : Nat) (k : Int) (N : qMem), 8 * R 2 0 - k < (n186 : Int) → (0 ≤ k ∧ k ≤ 8 * R 2 0) → (mSf K N) → (N 61 0 = vHs R (R 2 0)) → (∀ k, 0 ≤ k → k < R 1 0 → N 58 0 k = R 3 k) → (∀ k, 0 ≤ k → k < R 2 0 → N 59 0 k = R 7 k) → (∀ i, 0 ≤ i → i < k → N 60 0 i = R 8 i) → qV l g X N 186 [(0, qR g 35 0), (2, qI k)] [] := by
                          intro n186
                          induction n186 with
                          | zero => intro k N hm186 c0 sf s1 s2 s3 s4; exfalso; first | omega | (simp at *; omega)
                          | succ n186 ih186 =>
                            intro k N hm186 c0 sf s1 s2 s3 s4
                            have e17 : N 35 0 17 = R 2 0 := (congrFun (sf 35 0 (by omega)) 17).trans k17
                            have e16 : N 35 0 16 = R 1 0 := (congrFun (sf 35 0 (by omega)) 16).trans k16
                            refine q_iloadn C dX12_season_186 rfl ?_
                            refine q_bipush C dX12_season_187 (by decide) ?_
                            refine q_aloadn C dX12_season_189 rfl ?_
                            refine gf_RX12_150 C dX12_season_190 (fun r190 => ?_)
                            try simp only [q_rd, q_rdS, ↓reduceIte, if_true, if_false, eq_self, Nat.reduceEqDiff, Int.reduceEq, Int.reduceNeg, reduceCtorEq] at r190 ⊢
                            rw [e17] at r190 ⊢
                            refine q_imul C dX12_season_193 ?_
                            refine q_icmp_ge C 215 dX12_season_194 (by decide) (by first | assumption | omega | exact q_tin _ | exact q_bIn _) (by first | assumption | omega | exact q_tin _ | exact q_bIn _) (fun h194 => ?_) (fun h194 => ?_)
                            · have ek : k = 8 * R 2 0 := by omega
                              refine q_aloadn C dX12_season_215 rfl ?_
                              refine q_iconst C dX12_season_216 ?_
                              refine pf_RX12_153 C (by first | assumption | omega | exact q_tin _ | exact q_bIn _) dX12_season_217 ?_
                              refine q_aloadn C dX12_season_220 rfl ?_
                              refine q_iconst C dX12_season_221 ?_
                              refine pf_RX12_156 C (by first | assumption | omega | exact q_tin _ | exact q_bIn _) dX12_season_222 ?_
                              refine q_aloadn C dX12_season_225 rfl ?_
                              refine q_iconst C dX12_season_226 ?_
                              refine pf_RX12_159 C (by first | assumption | omega | exact q_tin _ | exact q_bIn _) dX12_season_227 ?_
                              refine q_aloadn C dX12_season_230 rfl ?_
                              refine gf_RX12_74 C dX12_season_231 ?_
                              refine q_iconst C dX12_season_234 ?_
                              refine q_iconst C dX12_season_235 ?_
                              refine q_zast C dX12_season_236 (by omega) (by omega) (by omega) ?_
                              refine q_aloadn C dX12_season_237 rfl ?_
                              refine gf_RX12_74 C dX12_season_238 ?_
                              refine q_iconst C dX12_season_241 ?_
                              refine q_iconst C dX12_season_242 ?_
                              refine q_zast C dX12_season_243 (by omega) (by omega) (by omega) ?_
                              refine q_aloadn C dX12_season_244 rfl ?_
                              refine gf_RX12_147 C dX12_season_245 (fun r245 => ?_)
                              try simp only [q_rd, q_rdS, ↓reduceIte, if_true, if_false, eq_self, Nat.reduceEqDiff, Int.reduceEq, Int.reduceNeg, reduceCtorEq] at r245 ⊢
                              rw [e16] at r245 ⊢
                              refine q_iret C' dX12_season_248 (by first | assumption | omega | exact q_tin _ | exact q_bIn _) ?_
                              obtain ⟨y1, y2, y3, y4, y5, y6, y7⟩ := mSn_end hR hF (by rw [← hK]; exact sf) s1 s2 s3 (by rw [← ek]; exact s4)
                              rw [hRe] at y1 y2
                              exact ⟨fun q => absurd b0 q, fun _ => ⟨by rw [hRe], y1, y2, y3, y4, y5⟩, y6, by rw [if_pos b0]; exact y7⟩
                            · have w1 := x6 k c0.1 (by omega)
                              rw [← kj 54 0 (by decide), ← sf 54 0 (by omega)] at w1
                              refine q_aloadn C dX12_season_197 rfl ?_
                              refine gf_RX12_44 C dX12_season_198 ?_
                              refine q_iloadn C dX12_season_201 rfl ?_
                              refine q_aloadn C dX12_season_202 rfl ?_
                              refine gf_RX12_32 C dX12_season_203 ?_
                              refine q_iloadn C dX12_season_206 rfl ?_
                              refine q_iald C (by first | assumption | decide | omega) rfl dX12_season_207 (by omega) (by omega) (by decide) (fun r207 => ?_)
                              try simp only [q_rd, q_rdS, ↓reduceIte, if_true, if_false, eq_self, Nat.reduceEqDiff, Int.reduceEq, Int.reduceNeg, reduceCtorEq] at r207 ⊢
                              rw [w1] at r207 ⊢
                              refine q_iast C (by first | assumption | decide | omega) (fun _ => rfl) dX12_season_208 (by omega) (by omega) (by decide) (by first | assumption | omega | exact q_tin _ | exact q_bIn _) ?_
                              refine q_iinc C dX12_season_209 rfl hn (by decide) rfl ?_
                              refine q_goto C (tgt := 186) dX12_season_212 (by decide) ?_
                              exact q_ls (by exact ⟨rfl, rfl, trivial⟩) (ih186 _ _ (by omega) (by omega) (by exact sf.w (by decide)) (by rw [q_upF (by decide)]; exact s1) (by rw [q_upF (by decide)]; exact s2) (by rw [q_upF (by decide)]; exact s3) (by intro i e1 e2; rw [mRow1]; by_cases e : i = k <;> first | (rw [if_pos e, e]; done) | (rw [if_neg e]; exact s4 i e1 (by omega))))
                        exact q_ls (by exact ⟨rfl, rfl, trivial⟩) (L186 1000 _ _ (by omega) (by omega) (by exact sf) (by exact s1) (by exact s2) (by exact s3) (by intro k e1 e2; omega))
                      · obtain ⟨w1, w2⟩ := x5 h c0.1 (by omega)
                        rw [← kj 52 0 (by decide), ← sf 52 0 (by omega)] at w1
                        rw [← kj 53 0 (by decide), ← sf 53 0 (by omega)] at w2
                        refine q_aloadn C dX12_season_152 rfl ?_
                        refine gf_RX12_41 C dX12_season_153 ?_
                        refine q_iloadn C dX12_season_156 rfl ?_
                        refine q_aloadn C dX12_season_157 rfl ?_
                        refine gf_RX12_29 C dX12_season_158 ?_
                        refine q_iloadn C dX12_season_161 rfl ?_
                        refine q_iald C (by first | assumption | decide | omega) rfl dX12_season_162 (by omega) (by omega) (by decide) (fun r162 => ?_)
                        try simp only [q_rd, q_rdS, ↓reduceIte, if_true, if_false, eq_self, Nat.reduceEqDiff, Int.reduceEq, Int.reduceNeg, reduceCtorEq] at r162 ⊢
                        rw [w2] at r162 ⊢
                        refine q_iast C (by first | assumption | decide | omega) (fun _ => rfl) dX12_season_163 (by omega) (by omega) (by decide) (by first | assumption | omega | exact q_tin _ | exact q_bIn _) ?_
                        refine q_aloadn C dX12_season_164 rfl ?_
                        refine gf_RX12_47 C dX12_season_165 ?_
                        refine q_iconst C dX12_season_168 ?_
                        refine q_iloadn C dX12_season_169 rfl ?_
                        refine q_iadd C dX12_season_170 ?_
                        refine q_aloadn C dX12_season_171 rfl ?_
                        refine gf_RX12_26 C dX12_season_172 ?_
                        refine q_iloadn C dX12_season_175 rfl ?_
                        refine q_iald C (by first | assumption | decide | omega) rfl dX12_season_176 (by omega) (by omega) (by decide) (fun r176 => ?_)
                        try simp only [q_rd, q_rdS, ↓reduceIte, if_true, if_false, eq_self, Nat.reduceEqDiff, Int.reduceEq, Int.reduceNeg, reduceCtorEq] at r176 ⊢
                        rw [w1] at r176 ⊢
                        refine q_iast C (by first | assumption | decide | omega) (fun _ => rfl) dX12_season_177 (by omega) (by omega) (by decide) (by first | assumption | omega | exact q_tin _ | exact q_bIn _) ?_
                        refine q_iinc C dX12_season_178 rfl hn (by decide) rfl ?_
                        refine q_goto C (tgt := 144) dX12_season_181 (by decide) ?_
                        exact q_ls (by exact ⟨rfl, rfl, trivial⟩) (ih144 _ _ (by omega) (by omega) (by exact (sf.w (by decide)).w (by decide)) (by funext k; rw [mRow1, q_upF (by decide), s1]; exact vHs_s c0.1) (by intro k e1 e2; rw [q_upF (by decide), q_upF (by decide)]; exact s2 k e1 e2) (by intro k e1 e2; rw [q_upF (by decide), mRow1]; by_cases e : k = h <;> first | (rw [if_pos e, e]; done) | (rw [if_neg e]; exact s3 k e1 (by omega))))
                  exact q_ls (by exact ⟨rfl, rfl, trivial⟩) (L144 1000 _ _ (by omega) (by omega) (by exact sf) (by funext k; rw [s1]; unfold vHs; rw [if_neg (by omega)]) (by exact s2) (by intro k e1 e2; omega))
                · obtain ⟨w1, w2, w3⟩ := x4 c c0.1 (by omega)
                  rw [← kj 49 0 (by decide), ← sf 49 0 (by omega)] at w1
                  rw [← kj 50 0 (by decide), ← sf 50 0 (by omega)] at w2
                  rw [← kj 51 0 (by decide), ← sf 51 0 (by omega)] at w3
                  refine q_aloadn C dX12_season_94 rfl ?_
                  refine gf_RX12_38 C dX12_season_95 ?_
                  refine q_iloadn C dX12_season_98 rfl ?_
                  refine q_aloadn C dX12_season_99 rfl ?_
                  refine gf_RX12_17 C dX12_season_100 ?_
                  refine q_iloadn C dX12_season_103 rfl ?_
                  refine q_iald C (by first | assumption | decide | omega) rfl dX12_season_104 (by omega) (by omega) (by decide) (fun r104 => ?_)
                  try simp only [q_rd, q_rdS, ↓reduceIte, if_true, if_false, eq_self, Nat.reduceEqDiff, Int.reduceEq, Int.reduceNeg, reduceCtorEq] at r104 ⊢
                  rw [w1] at r104 ⊢
                  refine q_iast C (by first | assumption | decide | omega) (fun _ => rfl) dX12_season_105 (by omega) (by omega) (by decide) (by first | assumption | omega | exact q_tin _ | exact q_bIn _) ?_
                  refine q_aloadn C dX12_season_106 rfl ?_
                  refine gf_RX12_47 C dX12_season_107 ?_
                  refine q_bipush C dX12_season_110 (by decide) ?_
                  refine q_iloadn C dX12_season_112 rfl ?_
                  refine q_iadd C dX12_season_113 ?_
                  refine q_aloadn C dX12_season_114 rfl ?_
                  refine gf_RX12_20 C dX12_season_115 ?_
                  refine q_iloadn C dX12_season_118 rfl ?_
                  refine q_iald C (by first | assumption | decide | omega) rfl dX12_season_119 (by omega) (by omega) (by decide) (fun r119 => ?_)
                  try simp only [q_rd, q_rdS, ↓reduceIte, if_true, if_false, eq_self, Nat.reduceEqDiff, Int.reduceEq, Int.reduceNeg, reduceCtorEq] at r119 ⊢
                  rw [w2] at r119 ⊢
                  refine q_iast C (by first | assumption | decide | omega) (fun _ => rfl) dX12_season_120 (by omega) (by omega) (by decide) (by first | assumption | omega | exact q_tin _ | exact q_bIn _) ?_
                  refine q_aloadn C dX12_season_121 rfl ?_
                  refine gf_RX12_47 C dX12_season_122 ?_
                  refine q_bipush C dX12_season_125 (by decide) ?_
                  refine q_iloadn C dX12_season_127 rfl ?_
                  refine q_iadd C dX12_season_128 ?_
                  refine q_aloadn C dX12_season_129 rfl ?_
                  refine gf_RX12_23 C dX12_season_130 ?_
                  refine q_iloadn C dX12_season_133 rfl ?_
                  refine q_iald C (by first | assumption | decide | omega) rfl dX12_season_134 (by omega) (by omega) (by decide) (fun r134 => ?_)
                  try simp only [q_rd, q_rdS, ↓reduceIte, if_true, if_false, eq_self, Nat.reduceEqDiff, Int.reduceEq, Int.reduceNeg, reduceCtorEq] at r134 ⊢
                  rw [w3] at r134 ⊢
                  refine q_iast C (by first | assumption | decide | omega) (fun _ => rfl) dX12_season_135 (by omega) (by omega) (by decide) (by first | assumption | omega | exact q_tin _ | exact q_bIn _) ?_
                  refine q_iinc C dX12_season_136 rfl hn (by decide) rfl ?_
                  refine q_goto C (tgt := 86) dX12_season_139 (by decide) ?_
                  exact q_ls (by exact ⟨rfl, rfl, trivial⟩) (ih86 _ _ (by omega) (by omega) (by exact ((sf.w (by decide)).w (by decide)).w (by decide)) (by funext k; rw [mRow1, mRow1, q_upF (by decide), s1]; exact vC_s c0.1 (by omega)) (by intro k e1 e2; rw [q_upF (by decide), q_upF (by decide), mRow1]; by_cases e : k = c <;> first | (rw [if_pos e, e]; done) | (rw [if_neg e]; exact s2 k e1 (by omega))))
            exact q_ls (by exact ⟨rfl, rfl, trivial⟩) (L86 1000 _ _ (by omega) (by omega) (by exact mSf.s (fun _ _ _ => rfl) (by decide)) (by rw [q_setOn']; funext k; unfold vC; rw [if_neg (by omega), if_neg (by omega)]) (by intro k e1 e2; omega))
          · refine q_aloadn C dX12_season_71 rfl ?_
            refine gf_RX12_47 C dX12_season_72 ?_
            refine q_iloadn C dX12_season_75 rfl ?_
            refine q_iconst C dX12_season_76 ?_
            refine q_iast C (by first | assumption | decide | omega) (fun _ => rfl) dX12_season_77 (by omega) (by omega) (by decide) (by first | assumption | omega | exact q_tin _ | exact q_bIn _) ?_
            refine q_iinc C dX12_season_78 rfl hn (by decide) rfl ?_
            refine q_goto C (tgt := 64) dX12_season_81 (by decide) ?_
            exact q_ls (by exact ⟨rfl, rfl, trivial⟩) (ih64 _ _ (by omega) (by omega) (by rw [q_upSet]; exact q_setC (fun k => by (repeat' split) <;> first | rfl | (exfalso; omega))))
      exact q_ls (by exact ⟨rfl, rfl, trivial⟩) (L64 1000 _ _ (by omega) (by omega) (by exact (q_setC0 (fun k => if_neg (by omega))).symm))
    · exfalso; omega
