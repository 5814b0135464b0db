theorem dX12_draw_0 : decode cX12_draw 0 = .ok (.aload_n 0, 1) := by decide +kernel
theorem dX12_draw_1 : decode cX12_draw 1 = .ok (.aload_n 0, 1) := by decide +kernel
theorem dX12_draw_2 : decode cX12_draw 2 = .ok (.getfield 251, 3) := by decide +kernel
theorem dX12_draw_5 : decode cX12_draw 5 = .ok (.ldc2_w 255, 3) := by decide +kernel
theorem dX12_draw_8 : decode cX12_draw 8 = .ok (.lmul, 1) := by decide +kernel
theorem dX12_draw_9 : decode cX12_draw 9 = .ok (.ldc2_w 257, 3) := by decide +kernel
theorem dX12_draw_12 : decode cX12_draw 12 = .ok (.ladd, 1) := by decide +kernel
theorem dX12_draw_13 : decode cX12_draw 13 = .ok (.ldc2_w 259, 3) := by decide +kernel
theorem dX12_draw_16 : decode cX12_draw 16 = .ok (.lrem, 1) := by decide +kernel
theorem dX12_draw_17 : decode cX12_draw 17 = .ok (.putfield 251, 3) := by decide +kernel
theorem dX12_draw_20 : decode cX12_draw 20 = .ok (.aload_n 0, 1) := by decide +kernel
theorem dX12_draw_21 : decode cX12_draw 21 = .ok (.getfield 251, 3) := by decide +kernel
theorem dX12_draw_24 : decode cX12_draw 24 = .ok (.ldc2_w 261, 3) := by decide +kernel
theorem dX12_draw_27 : decode cX12_draw 27 = .ok (.ldiv, 1) := by decide +kernel
theorem dX12_draw_28 : decode cX12_draw 28 = .ok (.iload_n 1, 1) := by decide +kernel
theorem dX12_draw_29 : decode cX12_draw 29 = .ok (.i2l, 1) := by decide +kernel
theorem dX12_draw_30 : decode cX12_draw 30 = .ok (.lrem, 1) := by decide +kernel
theorem dX12_draw_31 : decode cX12_draw 31 = .ok (.l2i, 1) := by decide +kernel
theorem dX12_draw_32 : decode cX12_draw 32 = .ok (.ireturn, 1) := by decide +kernel
set_option maxRecDepth 4000 in
set_option maxHeartbeats 4000000 in
theorem m_X12_draw (l : Launch) (g : qGm) (M : qMem) (h28 : 0 ≤ M 35 0 28 ∧ M 35 0 28 ≤ 2147483647) {k : Int} (hk : 1 ≤ k ∧ k ≤ 48) : qOk l g 1 yX12_draw cX12_draw 2 (some .int) [qR g 35 0, qI k] M (qEv (some (((M 35 0 28 * 1103515245 + 12345) % 2147483648) / 65536 % k)) (qUp M 35 0 28 ((M 35 0 28 * 1103515245 + 12345) % 2147483648))) := by
  refine q_ok (by decide +kernel) (Nat.le_of_ble_eq_true rfl) (fun X C' hn => ?_)
  have C := C'.1
  have b1 : 0 ≤ ((M 35 0 28 * 1103515245 + 12345) % 2147483648) ∧ ((M 35 0 28 * 1103515245 + 12345) % 2147483648) ≤ 2147483647 := by omega
  have b2 := Int.emod_nonneg (((M 35 0 28 * 1103515245 + 12345) % 2147483648) / 65536) (show k ≠ 0 by omega)
  have b3 := Int.emod_lt_of_pos (((M 35 0 28 * 1103515245 + 12345) % 2147483648) / 65536) (show 0 < k by omega)
  refine q_aloadn C dX12_draw_0 rfl ?_
  refine q_aloadn C dX12_draw_1 rfl ?_
  refine gf_RX12_251 C dX12_draw_2 (fun r2 => ?_)
  refine q_ldc2 C (z := 1103515245) q_cl_RX12_255 (by decide) dX12_draw_5 ?_
  refine q_lmul C dX12_draw_8 ?_
  refine q_ldc2 C (z := 12345) q_cl_RX12_257 (by decide) dX12_draw_9 ?_
  refine q_ladd C dX12_draw_12 ?_
  refine q_ldc2 C (z := 2147483648) q_cl_RX12_259 (by decide) dX12_draw_13 ?_
  refine q_lrem C dX12_draw_16 (by omega) (by omega) (by omega) (by omega) ?_
  refine pf_RX12_251 C (by first | assumption | omega | exact q_tin _ | exact q_bIn _) dX12_draw_17 ?_
  refine q_aloadn C dX12_draw_20 rfl ?_
  refine gf_RX12_251 C dX12_draw_21 (fun r21 => ?_)
  try simp only [q_rd, q_rdS, ↓reduceIte, if_true, if_false, eq_self, Nat.reduceEqDiff, Int.reduceEq, Int.reduceNeg, reduceCtorEq] at r21 ⊢
  refine q_ldc2 C (z := 65536) q_cl_RX12_261 (by decide) dX12_draw_24 ?_
  refine q_ldiv C dX12_draw_27 (by omega) (by omega) (by omega) (by omega) ?_
  refine q_iloadn C dX12_draw_28 rfl ?_
  refine q_i2l C (by first | assumption | omega | exact q_tin _ | exact q_bIn _) dX12_draw_29 ?_
  refine q_lrem C dX12_draw_30 (by omega) (by omega) (by omega) (by omega) ?_
  refine q_l2i C dX12_draw_31 ?_
  refine q_iret C' dX12_draw_32 (by first | assumption | omega | exact q_tin _ | exact q_bIn _) ?_
  exact ⟨rfl, rfl⟩
def wA (v : Int → Int) (c h : Int) : Int → Int := fun j => if j = 20 + (6 * c + h) then v j + (if v j < 999 then 1 else 0) else v j
def wB (v : Int → Int) (c h : Int) : Int → Int := fun j => if j = 1 then qOr (v 1) (qShl 1 h) else wA v c h j
def wC (v : Int → Int) (c h : Int) : Int → Int := fun j => if j = 56 + (6 * c + h) then vSo v c h else wB v c h j
theorem wC_wel {v : Int → Int} {c h z : Int} (hc : 0 ≤ c ∧ c < 6) (hh : 0 ≤ h ∧ h < 6) (hz : z = qOr (v (92 + c)) (if 5 ≤ v (14 + c) ∧ vSo v c h = 3 then qShl 1 h else 0)) (j : Int) : (if j = 92 + c then z else wC v c h j) = vWel v c h j := by
  unfold vWel wC wB wA
  by_cases e4 : j = 92 + c
  · rw [if_pos e4, if_neg (by omega), if_neg (by omega), if_neg (by omega), if_pos e4, hz, e4]
  · rw [if_neg e4]
    by_cases e1 : j = 20 + (6 * c + h)
    · rw [if_neg (by omega), if_neg (by omega), if_pos e1, if_pos e1]
    · by_cases e2 : j = 1
      · rw [if_neg (by omega), if_pos e2, if_neg e1, if_pos e2]
      · by_cases e3 : j = 56 + (6 * c + h)
        · rw [if_pos e3, if_neg e1, if_neg e2, if_pos e3]
        · rw [if_neg e3, if_neg e2, if_neg e1, if_neg e1, if_neg e2, if_neg e3, if_neg e4]
theorem wA_m {M : qMem} {c h z : Int} (hz : z = M 61 0 (20 + (6 * c + h)) + (if M 61 0 (20 + (6 * c + h)) < 999 then 1 else 0)) : qUp M 61 0 (20 + (6 * c + h)) z = qSet M 61 0 (wA (M 61 0) c h) := by
  rw [q_upAsSet]
  refine q_setC (fun j => ?_)
  unfold wA
  by_cases e : j = 20 + (6 * c + h)
  · rw [if_pos e, if_pos e, e]; exact hz
  · rw [if_neg e, if_neg e]
theorem wC_m {M : qMem} {c h z : Int} (hz : z = vSo (M 61 0) c h) : qUp (qSet M 61 0 (wB (M 61 0) c h)) 61 0 (56 + (6 * c + h)) z = qSet M 61 0 (wC (M 61 0) c h) := by
  rw [q_upSet, hz]
  rfl
theorem dX12_visits_0 : decode cX12_visits 0 = .ok (.aload_n 0, 1) := by decide +kernel
theorem dX12_visits_1 : decode cX12_visits 1 = .ok (.iload_n 1, 1) := by decide +kernel
theorem dX12_visits_2 : decode cX12_visits 2 = .ok (.iload_n 2, 1) := by decide +kernel
theorem dX12_visits_3 : decode cX12_visits 3 = .ok (.iload_n 3, 1) := by decide +kernel
theorem dX12_visits_4 : decode cX12_visits 4 = .ok (.invokevirtual 228, 3) := by decide +kernel
theorem dX12_visits_7 : decode cX12_visits 7 = .ok (.istore 4, 2) := by decide +kernel
theorem dX12_visits_9 : decode cX12_visits 9 = .ok (.bipush 6, 2) := by decide +kernel
theorem dX12_visits_11 : decode cX12_visits 11 = .ok (.iload_n 1, 1) := by decide +kernel
theorem dX12_visits_12 : decode cX12_visits 12 = .ok (.imul, 1) := by decide +kernel
theorem dX12_visits_13 : decode cX12_visits 13 = .ok (.iload_n 2, 1) := by decide +kernel
theorem dX12_visits_14 : decode cX12_visits 14 = .ok (.iadd, 1) := by decide +kernel
theorem dX12_visits_15 : decode cX12_visits 15 = .ok (.istore 5, 2) := by decide +kernel
theorem dX12_visits_17 : decode cX12_visits 17 = .ok (.iload 4, 2) := by decide +kernel
theorem dX12_visits_19 : decode cX12_visits 19 = .ok (.ifCond .le 140, 3) := by decide +kernel
theorem dX12_visits_22 : decode cX12_visits 22 = .ok (.aload_n 0, 1) := by decide +kernel
theorem dX12_visits_23 : decode cX12_visits 23 = .ok (.getfield 47, 3) := by decide +kernel
theorem dX12_visits_26 : decode cX12_visits 26 = .ok (.bipush 20, 2) := by decide +kernel
theorem dX12_visits_28 : decode cX12_visits 28 = .ok (.iload 5, 2) := by decide +kernel
theorem dX12_visits_30 : decode cX12_visits 30 = .ok (.iadd, 1) := by decide +kernel
theorem dX12_visits_31 : decode cX12_visits 31 = .ok (.dup2, 1) := by decide +kernel
theorem dX12_visits_32 : decode cX12_visits 32 = .ok (.iaload, 1) := by decide +kernel
theorem dX12_visits_33 : decode cX12_visits 33 = .ok (.aload_n 0, 1) := by decide +kernel
theorem dX12_visits_34 : decode cX12_visits 34 = .ok (.getfield 47, 3) := by decide +kernel
theorem dX12_visits_37 : decode cX12_visits 37 = .ok (.bipush 20, 2) := by decide +kernel
theorem dX12_visits_39 : decode cX12_visits 39 = .ok (.iload 5, 2) := by decide +kernel
theorem dX12_visits_41 : decode cX12_visits 41 = .ok (.iadd, 1) := by decide +kernel
theorem dX12_visits_42 : decode cX12_visits 42 = .ok (.iaload, 1) := by decide +kernel
theorem dX12_visits_43 : decode cX12_visits 43 = .ok (.sipush 999, 3) := by decide +kernel
theorem dX12_visits_46 : decode cX12_visits 46 = .ok (.if_icmp .ge 7, 3) := by decide +kernel
theorem dX12_visits_49 : decode cX12_visits 49 = .ok (.iconst 1, 1) := by decide +kernel
theorem dX12_visits_50 : decode cX12_visits 50 = .ok (.goto 4, 3) := by decide +kernel
theorem dX12_visits_53 : decode cX12_visits 53 = .ok (.iconst 0, 1) := by decide +kernel
theorem dX12_visits_54 : decode cX12_visits 54 = .ok (.iadd, 1) := by decide +kernel
theorem dX12_visits_55 : decode cX12_visits 55 = .ok (.iastore, 1) := by decide +kernel
theorem dX12_visits_56 : decode cX12_visits 56 = .ok (.aload_n 0, 1) := by decide +kernel
theorem dX12_visits_57 : decode cX12_visits 57 = .ok (.getfield 47, 3) := by decide +kernel
theorem dX12_visits_60 : decode cX12_visits 60 = .ok (.iconst 1, 1) := by decide +kernel
theorem dX12_visits_61 : decode cX12_visits 61 = .ok (.dup2, 1) := by decide +kernel
theorem dX12_visits_62 : decode cX12_visits 62 = .ok (.iaload, 1) := by decide +kernel
theorem dX12_visits_63 : decode cX12_visits 63 = .ok (.iconst 1, 1) := by decide +kernel
theorem dX12_visits_64 : decode cX12_visits 64 = .ok (.iload_n 2, 1) := by decide +kernel
theorem dX12_visits_65 : decode cX12_visits 65 = .ok (.ishl, 1) := by decide +kernel
theorem dX12_visits_66 : decode cX12_visits 66 = .ok (.ior, 1) := by decide +kernel
theorem dX12_visits_67 : decode cX12_visits 67 = .ok (.iastore, 1) := by decide +kernel
theorem dX12_visits_68 : decode cX12_visits 68 = .ok (.aload_n 0, 1) := by decide +kernel
theorem dX12_visits_69 : decode cX12_visits 69 = .ok (.getfield 47, 3) := by decide +kernel
theorem dX12_visits_72 : decode cX12_visits 72 = .ok (.bipush 56, 2) := by decide +kernel
theorem dX12_visits_74 : decode cX12_visits 74 = .ok (.iload 5, 2) := by decide +kernel
theorem dX12_visits_76 : decode cX12_visits 76 = .ok (.iadd, 1) := by decide +kernel
theorem dX12_visits_77 : decode cX12_visits 77 = .ok (.dup2, 1) := by decide +kernel
theorem dX12_visits_78 : decode cX12_visits 78 = .ok (.iaload, 1) := by decide +kernel
theorem dX12_visits_79 : decode cX12_visits 79 = .ok (.aload_n 0, 1) := by decide +kernel
theorem dX12_visits_80 : decode cX12_visits 80 = .ok (.getfield 47, 3) := by decide +kernel
theorem dX12_visits_83 : decode cX12_visits 83 = .ok (.bipush 14, 2) := by decide +kernel
theorem dX12_visits_85 : decode cX12_visits 85 = .ok (.iload_n 1, 1) := by decide +kernel
theorem dX12_visits_86 : decode cX12_visits 86 = .ok (.iadd, 1) := by decide +kernel
theorem dX12_visits_87 : decode cX12_visits 87 = .ok (.iaload, 1) := by decide +kernel
theorem dX12_visits_88 : decode cX12_visits 88 = .ok (.iconst 5, 1) := by decide +kernel
theorem dX12_visits_89 : decode cX12_visits 89 = .ok (.if_icmp .lt 21, 3) := by decide +kernel
theorem dX12_visits_92 : decode cX12_visits 92 = .ok (.aload_n 0, 1) := by decide +kernel
theorem dX12_visits_93 : decode cX12_visits 93 = .ok (.getfield 47, 3) := by decide +kernel
theorem dX12_visits_96 : decode cX12_visits 96 = .ok (.bipush 56, 2) := by decide +kernel
theorem dX12_visits_98 : decode cX12_visits 98 = .ok (.iload 5, 2) := by decide +kernel
theorem dX12_visits_100 : decode cX12_visits 100 = .ok (.iadd, 1) := by decide +kernel
theorem dX12_visits_101 : decode cX12_visits 101 = .ok (.iaload, 1) := by decide +kernel
theorem dX12_visits_102 : decode cX12_visits 102 = .ok (.iconst 3, 1) := by decide +kernel
theorem dX12_visits_103 : decode cX12_visits 103 = .ok (.if_icmp .ge 7, 3) := by decide +kernel
theorem dX12_visits_106 : decode cX12_visits 106 = .ok (.iconst 1, 1) := by decide +kernel
theorem dX12_visits_107 : decode cX12_visits 107 = .ok (.goto 4, 3) := by decide +kernel
theorem dX12_visits_110 : decode cX12_visits 110 = .ok (.iconst 0, 1) := by decide +kernel
theorem dX12_visits_111 : decode cX12_visits 111 = .ok (.iadd, 1) := by decide +kernel
theorem dX12_visits_112 : decode cX12_visits 112 = .ok (.iastore, 1) := by decide +kernel
theorem dX12_visits_113 : decode cX12_visits 113 = .ok (.aload_n 0, 1) := by decide +kernel
theorem dX12_visits_114 : decode cX12_visits 114 = .ok (.getfield 47, 3) := by decide +kernel
theorem dX12_visits_117 : decode cX12_visits 117 = .ok (.bipush 92, 2) := by decide +kernel
theorem dX12_visits_119 : decode cX12_visits 119 = .ok (.iload_n 1, 1) := by decide +kernel
theorem dX12_visits_120 : decode cX12_visits 120 = .ok (.iadd, 1) := by decide +kernel
theorem dX12_visits_121 : decode cX12_visits 121 = .ok (.dup2, 1) := by decide +kernel
theorem dX12_visits_122 : decode cX12_visits 122 = .ok (.iaload, 1) := by decide +kernel
theorem dX12_visits_123 : decode cX12_visits 123 = .ok (.aload_n 0, 1) := by decide +kernel
theorem dX12_visits_124 : decode cX12_visits 124 = .ok (.getfield 47, 3) := by decide +kernel
theorem dX12_visits_127 : decode cX12_visits 127 = .ok (.bipush 14, 2) := by decide +kernel
theorem dX12_visits_129 : decode cX12_visits 129 = .ok (.iload_n 1, 1) := by decide +kernel
theorem dX12_visits_130 : decode cX12_visits 130 = .ok (.iadd, 1) := by decide +kernel
theorem dX12_visits_131 : decode cX12_visits 131 = .ok (.iaload, 1) := by decide +kernel
theorem dX12_visits_132 : decode cX12_visits 132 = .ok (.iconst 5, 1) := by decide +kernel
theorem dX12_visits_133 : decode cX12_visits 133 = .ok (.if_icmp .lt 23, 3) := by decide +kernel
theorem dX12_visits_136 : decode cX12_visits 136 = .ok (.aload_n 0, 1) := by decide +kernel
theorem dX12_visits_137 : decode cX12_visits 137 = .ok (.getfield 47, 3) := by decide +kernel
theorem dX12_visits_140 : decode cX12_visits 140 = .ok (.bipush 56, 2) := by decide +kernel
theorem dX12_visits_142 : decode cX12_visits 142 = .ok (.iload 5, 2) := by decide +kernel
theorem dX12_visits_144 : decode cX12_visits 144 = .ok (.iadd, 1) := by decide +kernel
theorem dX12_visits_145 : decode cX12_visits 145 = .ok (.iaload, 1) := by decide +kernel
theorem dX12_visits_146 : decode cX12_visits 146 = .ok (.iconst 3, 1) := by decide +kernel
theorem dX12_visits_147 : decode cX12_visits 147 = .ok (.if_icmp .ne 9, 3) := by decide +kernel
theorem dX12_visits_150 : decode cX12_visits 150 = .ok (.iconst 1, 1) := by decide +kernel
theorem dX12_visits_151 : decode cX12_visits 151 = .ok (.iload_n 2, 1) := by decide +kernel
theorem dX12_visits_152 : decode cX12_visits 152 = .ok (.ishl, 1) := by decide +kernel
theorem dX12_visits_153 : decode cX12_visits 153 = .ok (.goto 4, 3) := by decide +kernel
theorem dX12_visits_156 : decode cX12_visits 156 = .ok (.iconst 0, 1) := by decide +kernel
theorem dX12_visits_157 : decode cX12_visits 157 = .ok (.ior, 1) := by decide +kernel
theorem dX12_visits_158 : decode cX12_visits 158 = .ok (.iastore, 1) := by decide +kernel
theorem dX12_visits_159 : decode cX12_visits 159 = .ok (.aload_n 0, 1) := by decide +kernel
theorem dX12_visits_160 : decode cX12_visits 160 = .ok (.iload_n 1, 1) := by decide +kernel
theorem dX12_visits_161 : decode cX12_visits 161 = .ok (.iload_n 2, 1) := by decide +kernel
theorem dX12_visits_162 : decode cX12_visits 162 = .ok (.iload_n 3, 1) := by decide +kernel
theorem dX12_visits_163 : decode cX12_visits 163 = .ok (.iload 4, 2) := by decide +kernel
theorem dX12_visits_165 : decode cX12_visits 165 = .ok (.invokevirtual 231, 3) := by decide +kernel
theorem dX12_visits_168 : decode cX12_visits 168 = .ok (.iload 4, 2) := by decide +kernel
theorem dX12_visits_170 : decode cX12_visits 170 = .ok (.ireturn, 1) := by decide +kernel
set_option maxRecDepth 4000 in
set_option maxHeartbeats 4000000 in
theorem m_X12_visits (l : Launch) (g : qGm) (M : qMem) {sd : sSD} (hs : sRS sd) (hS : mS M sd) (hv : sRR (sd 4 0) (sd 5 0) (M 61 0)) {c : Int} (hc : 0 ≤ c ∧ c < sd 4 0) {h : Int} (hh : 0 ≤ h ∧ h < sd 5 0) {a : Int} (ha : 0 ≤ a ∧ a < 48) : qOk l g 6 yX12_visits cX12_visits 6 (some .int) [qR g 35 0, qI c, qI h, qI a] M (qEv (some (sAns sd (M 61 0) c h a)) (mVisit M sd c h a)) := by
  refine q_ok (by decide +kernel) (Nat.le_of_ble_eq_true rfl) (fun X C' hn => ?_)
  have C := C'.1
  have km := hs.2.1
  have kn := hs.2.2.1
  have hmn := hs.1
  have w0 := hS.1
  have w1 := hS.2.1
  have w2 := hS.2.2.1
  have cc : 0 ≤ c ∧ c < 6 := by omega
  have dd : 0 ≤ h ∧ h < 6 := by omega
  have an := sAns_in sd (M 61 0) c h a
  have bb := hv.2.2.2.2.1 c h hc.1 hc.2 hh.1 hh.2
  have bl := hv.2.2.2.2.2
  have bs := (hv.2.2.2.1 c hc.1 hc.2).2.1
  have so : vSo (M 61 0) c h = M 61 0 (56 + (6 * c + h)) + (if 5 ≤ M 61 0 (14 + c) ∧ M 61 0 (56 + (6 * c + h)) < 3 then 1 else 0) := rfl
  have t1 : wA (M 61 0) c h 1 = M 61 0 1 := by unfold wA; rw [if_neg (by omega)]
  have t2 : wB (M 61 0) c h (56 + (6 * c + h)) = M 61 0 (56 + (6 * c + h)) := by unfold wB wA; rw [if_neg (by omega), if_neg (by omega)]
  have t3 : wB (M 61 0) c h (14 + c) = M 61 0 (14 + c) := by unfold wB wA; rw [if_neg (by omega), if_neg (by omega)]
  have t4 : wC (M 61 0) c h (56 + (6 * c + h)) = vSo (M 61 0) c h := by unfold wC; rw [if_pos rfl]
  have t5 : wC (M 61 0) c h (14 + c) = M 61 0 (14 + c) := by unfold wC wB wA; rw [if_neg (by omega), if_neg (by omega), if_neg (by omega)]
  have t6 : wC (M 61 0) c h (92 + c) = M 61 0 (92 + c) := by unfold wC wB wA; rw [if_neg (by omega), if_neg (by omega), if_neg (by omega)]
  have t7 : vWel (M 61 0) c h 98 = M 61 0 98 := by unfold vWel; rw [if_neg (by omega), if_neg (by omega), if_neg (by omega), if_neg (by omega)]
  have u1 : sRR (sd 4 0) (sd 5 0) (M 61 0) := hv
  refine q_aloadn C dX12_visits_0 rfl ?_
  refine q_iloadn C dX12_visits_1 rfl ?_
  refine q_iloadn C dX12_visits_2 rfl ?_
  refine q_iloadn C dX12_visits_3 rfl ?_
  refine cv_RX12_228 C (by decide) (m_X12_answer l g _ hs hS hv (by omega) (by omega) (by omega)) dX12_visits_4 (Nat.le_of_ble_eq_true rfl) (fun r4 => ?_)
  refine q_istore C dX12_visits_7 hn (by decide) rfl ?_
  refine q_bipush C dX12_visits_9 (by decide) ?_
  refine q_iloadn C dX12_visits_11 rfl ?_
  refine q_imul C dX12_visits_12 ?_
  refine q_iloadn C dX12_visits_13 rfl ?_
  refine q_iadd C dX12_visits_14 ?_
  refine q_istore C dX12_visits_15 hn (by decide) rfl ?_
  refine q_iload C dX12_visits_17 rfl ?_
  refine q_if_le C 159 dX12_visits_19 (by decide) (by first | assumption | omega | exact q_tin _ | exact q_bIn _) (fun h19 => ?_) (fun h19 => ?_)
  · refine q_aloadn C dX12_visits_159 rfl ?_
    refine q_iloadn C dX12_visits_160 rfl ?_
    refine q_iloadn C dX12_visits_161 rfl ?_
    refine q_iloadn C dX12_visits_162 rfl ?_
    refine q_iload C dX12_visits_163 rfl ?_
    refine cv_RX12_231 C (by decide) (m_X12_enters l g _ (by omega) (by omega) (by omega) (by omega) (by first | exact bl | (rw [q_setOn', t7]; exact bl))) dX12_visits_165 (Nat.le_of_ble_eq_true rfl) ?_
    refine q_iload C dX12_visits_168 rfl ?_
    refine q_iret C' dX12_visits_170 (by first | assumption | omega | exact q_tin _ | exact q_bIn _) ?_
    refine ⟨rfl, ?_⟩
    unfold mVisit vVisit
    first | (rw [if_pos (show 0 < sAns sd (M 61 0) c h a by omega), q_setSet, q_setOn']; done) | (rw [if_neg (show ¬ 0 < sAns sd (M 61 0) c h a by omega)]; done)
  · refine q_aloadn C dX12_visits_22 rfl ?_
    refine gf_RX12_47 C dX12_visits_23 ?_
    refine q_bipush C dX12_visits_26 (by decide) ?_
    refine q_iload C dX12_visits_28 rfl ?_
    refine q_iadd C dX12_visits_30 ?_
    refine q_dup2 C dX12_visits_31 rfl rfl ?_
    refine q_iald C (by first | assumption | decide | omega) rfl dX12_visits_32 (by omega) (by omega) (by decide) (fun r32 => ?_)
    refine q_aloadn C dX12_visits_33 rfl ?_
    refine gf_RX12_47 C dX12_visits_34 ?_
    refine q_bipush C dX12_visits_37 (by decide) ?_
    refine q_iload C dX12_visits_39 rfl ?_
    refine q_iadd C dX12_visits_41 ?_
    refine q_iald C (by first | assumption | decide | omega) rfl dX12_visits_42 (by omega) (by omega) (by decide) (fun r42 => ?_)
    refine q_sipush C dX12_visits_43 (by decide) ?_
    refine q_icmp_ge C 53 dX12_visits_46 (by decide) (by first | assumption | omega | exact q_tin _ | exact q_bIn _) (by first | assumption | omega | exact q_tin _ | exact q_bIn _) (fun h46 => ?_) (fun h46 => ?_)
    · refine q_iconst C dX12_visits_53 ?_
      refine q_iadd C dX12_visits_54 ?_
      refine q_iast C (by first | assumption | decide | omega) (fun _ => rfl) dX12_visits_55 (by omega) (by omega) (by decide) (by first | assumption | omega | exact q_tin _ | exact q_bIn _) ?_
      refine q_memEq (wA_m (M := M) (by first | (rw [if_pos (by omega)]; done) | (rw [if_neg (by omega)]; done) | (rw [if_neg (by omega)]; omega))) ?_
      refine q_aloadn C dX12_visits_56 rfl ?_
      refine gf_RX12_47 C dX12_visits_57 ?_
      refine q_iconst C dX12_visits_60 ?_
      refine q_dup2 C dX12_visits_61 rfl rfl ?_
      refine q_iald C (by first | assumption | decide | omega) rfl dX12_visits_62 (by omega) (by omega) (by decide) (fun r62 => ?_)
      try simp only [q_rd, q_rdS, ↓reduceIte, if_true, if_false, eq_self, Nat.reduceEqDiff, Int.reduceEq, Int.reduceNeg, reduceCtorEq, t1, t2, t3, t4, t5, t6] at r62 ⊢
      refine q_iconst C dX12_visits_63 ?_
      refine q_iloadn C dX12_visits_64 rfl ?_
      refine q_ishl C dX12_visits_65 ?_
      refine q_ior C dX12_visits_66 ?_
      refine q_iast C (by first | assumption | decide | omega) (fun _ => rfl) dX12_visits_67 (by omega) (by omega) (by decide) (by first | assumption | omega | exact q_tin _ | exact q_bIn _) ?_
      refine q_memEq (N := qSet M 61 0 (wB (M 61 0) c h)) (by rw [q_upSet]; rfl) ?_
      refine q_aloadn C dX12_visits_68 rfl ?_
      refine gf_RX12_47 C dX12_visits_69 ?_
      refine q_bipush C dX12_visits_72 (by decide) ?_
      refine q_iload C dX12_visits_74 rfl ?_
      refine q_iadd C dX12_visits_76 ?_
      refine q_dup2 C dX12_visits_77 rfl rfl ?_
      refine q_iald C (by first | assumption | decide | omega) rfl dX12_visits_78 (by omega) (by omega) (by decide) (fun r78 => ?_)
      try simp only [q_rd, q_rdS, ↓reduceIte, if_true, if_false, eq_self, Nat.reduceEqDiff, Int.reduceEq, Int.reduceNeg, reduceCtorEq, t1, t2, t3, t4, t5, t6] at r78 ⊢
      refine q_aloadn C dX12_visits_79 rfl ?_
      refine gf_RX12_47 C dX12_visits_80 ?_
      refine q_bipush C dX12_visits_83 (by decide) ?_
      refine q_iloadn C dX12_visits_85 rfl ?_
      refine q_iadd C dX12_visits_86 ?_
      refine q_iald C (by first | assumption | decide | omega) rfl dX12_visits_87 (by omega) (by omega) (by decide) (fun r87 => ?_)
      try simp only [q_rd, q_rdS, ↓reduceIte, if_true, if_false, eq_self, Nat.reduceEqDiff, Int.reduceEq, Int.reduceNeg, reduceCtorEq, t1, t2, t3, t4, t5, t6] at r87 ⊢
      refine q_iconst C dX12_visits_88 ?_
      refine q_icmp_lt C 110 dX12_visits_89 (by decide) (by first | assumption | omega | exact q_tin _ | exact q_bIn _) (by first | assumption | omega | exact q_tin _ | exact q_bIn _) (fun h89 => ?_) (fun h89 => ?_)
      · refine q_iconst C dX12_visits_110 ?_
        refine q_iadd C dX12_visits_111 ?_
        refine q_iast C (by first | assumption | decide | omega) (fun _ => rfl) dX12_visits_112 (by omega) (by omega) (by decide) (by first | assumption | omega | exact q_tin _ | exact q_bIn _) ?_
        refine q_memEq (wC_m (M := M) (by rw [so]; first | (rw [if_pos (by omega)]; done) | (rw [if_neg (by omega)]; done) | (rw [if_neg (by omega)]; omega))) ?_
        refine q_aloadn C dX12_visits_113 rfl ?_
        refine gf_RX12_47 C dX12_visits_114 ?_
        refine q_bipush C dX12_visits_117 (by decide) ?_
        refine q_iloadn C dX12_visits_119 rfl ?_
        refine q_iadd C dX12_visits_120 ?_
        refine q_dup2 C dX12_visits_121 rfl rfl ?_
        refine q_iald C (by first | assumption | decide | omega) rfl dX12_visits_122 (by omega) (by omega) (by decide) (fun r122 => ?_)
        try simp only [q_rd, q_rdS, ↓reduceIte, if_true, if_false, eq_self, Nat.reduceEqDiff, Int.reduceEq, Int.reduceNeg, reduceCtorEq, t1, t2, t3, t4, t5, t6] at r122 ⊢
        refine q_aloadn C dX12_visits_123 rfl ?_
        refine gf_RX12_47 C dX12_visits_124 ?_
        refine q_bipush C dX12_visits_127 (by decide) ?_
        refine q_iloadn C dX12_visits_129 rfl ?_
        refine q_iadd C dX12_visits_130 ?_
        refine q_iald C (by first | assumption | decide | omega) rfl dX12_visits_131 (by omega) (by omega) (by decide) (fun r131 => ?_)
        try simp only [q_rd, q_rdS, ↓reduceIte, if_true, if_false, eq_self, Nat.reduceEqDiff, Int.reduceEq, Int.reduceNeg, reduceCtorEq, t1, t2, t3, t4, t5, t6] at r131 ⊢
        refine q_iconst C dX12_visits_132 ?_
        refine q_icmp_lt C 156 dX12_visits_133 (by decide) (by first | assumption | omega | exact q_tin _ | exact q_bIn _) (by first | assumption | omega | exact q_tin _ | exact q_bIn _) (fun h133 => ?_) (fun h133 => ?_)
        · refine q_iconst C dX12_visits_156 ?_
          refine q_ior C dX12_visits_157 ?_
          refine q_iast C (by first | assumption | decide | omega) (fun _ => rfl) dX12_visits_158 (by omega) (by omega) (by decide) (by first | assumption | omega | exact q_tin _ | exact q_bIn _) ?_
          refine q_memEq (N := qSet M 61 0 (vWel (M 61 0) c h)) (by rw [q_upSet]; exact q_setC (wC_wel cc dd (by first | (rw [if_pos (by omega)]; done) | (rw [if_neg (by omega)]; done)))) ?_
          refine q_aloadn C dX12_visits_159 rfl ?_
          refine q_iloadn C dX12_visits_160 rfl ?_
          refine q_iloadn C dX12_visits_161 rfl ?_
          refine q_iloadn C dX12_visits_162 rfl ?_
          refine q_iload C dX12_visits_163 rfl ?_
          refine cv_RX12_231 C (by decide) (m_X12_enters l g _ (by omega) (by omega) (by omega) (by omega) (by first | exact bl | (rw [q_setOn', t7]; exact bl))) dX12_visits_165 (Nat.le_of_ble_eq_true rfl) ?_
          refine q_iload C dX12_visits_168 rfl ?_
          refine q_iret C' dX12_visits_170 (by first | assumption | omega | exact q_tin _ | exact q_bIn _) ?_
          refine ⟨rfl, ?_⟩
          unfold mVisit vVisit
          first | (rw [if_pos (show 0 < sAns sd (M 61 0) c h a by omega), q_setSet, q_setOn']; done) | (rw [if_neg (show ¬ 0 < sAns sd (M 61 0) c h a by omega)]; done)
        · refine q_aloadn C dX12_visits_136 rfl ?_
          refine gf_RX12_47 C dX12_visits_137 ?_
          refine q_bipush C dX12_visits_140 (by decide) ?_
          refine q_iload C dX12_visits_142 rfl ?_
          refine q_iadd C dX12_visits_144 ?_
          refine q_iald C (by first | assumption | decide | omega) rfl dX12_visits_145 (by omega) (by omega) (by decide) (fun r145 => ?_)
          try simp only [q_rd, q_rdS, ↓reduceIte, if_true, if_false, eq_self, Nat.reduceEqDiff, Int.reduceEq, Int.reduceNeg, reduceCtorEq, t1, t2, t3, t4, t5, t6] at r145 ⊢
          refine q_iconst C dX12_visits_146 ?_
          refine q_icmp_ne C 156 dX12_visits_147 (by decide) (by first | assumption | omega | exact q_tin _ | exact q_bIn _) (by first | assumption | omega | exact q_tin _ | exact q_bIn _) (fun h147 => ?_) (fun h147 => ?_)
          · refine q_iconst C dX12_visits_156 ?_
            refine q_ior C dX12_visits_157 ?_
            refine q_iast C (by first | assumption | decide | omega) (fun _ => rfl) dX12_visits_158 (by omega) (by omega) (by decide) (by first | assumption | omega | exact q_tin _ | exact q_bIn _) ?_
            refine q_memEq (N := qSet M 61 0 (vWel (M 61 0) c h)) (by rw [q_upSet]; exact q_setC (wC_wel cc dd (by first | (rw [if_pos (by omega)]; done) | (rw [if_neg (by omega)]; done)))) ?_
            refine q_aloadn C dX12_visits_159 rfl ?_
            refine q_iloadn C dX12_visits_160 rfl ?_
            refine q_iloadn C dX12_visits_161 rfl ?_
            refine q_iloadn C dX12_visits_162 rfl ?_
            refine q_iload C dX12_visits_163 rfl ?_
            refine cv_RX12_231 C (by decide) (m_X12_enters l g _ (by omega) (by omega) (by omega) (by omega) (by first | exact bl | (rw [q_setOn', t7]; exact bl))) dX12_visits_165 (Nat.le_of_ble_eq_true rfl) ?_
            refine q_iload C dX12_visits_168 rfl ?_
            refine q_iret C' dX12_visits_170 (by first | assumption | omega | exact q_tin _ | exact q_bIn _) ?_
            refine ⟨rfl, ?_⟩
            unfold mVisit vVisit
            first | (rw [if_pos (show 0 < sAns sd (M 61 0) c h a by omega), q_setSet, q_setOn']; done) | (rw [if_neg (show ¬ 0 < sAns sd (M 61 0) c h a by omega)]; done)
          · refine q_iconst C dX12_visits_150 ?_
            refine q_iloadn C dX12_visits_151 rfl ?_
            refine q_ishl C dX12_visits_152 ?_
            refine q_goto C (tgt := 157) dX12_visits_153 (by decide) ?_
            refine q_ior C dX12_visits_157 ?_
            refine q_iast C (by first | assumption | decide | omega) (fun _ => rfl) dX12_visits_158 (by omega) (by omega) (by decide) (by first | assumption | omega | exact q_tin _ | exact q_bIn _) ?_
            refine q_memEq (N := qSet M 61 0 (vWel (M 61 0) c h)) (by rw [q_upSet]; exact q_setC (wC_wel cc dd (by first | (rw [if_pos (by omega)]; done) | (rw [if_neg (by omega)]; done)))) ?_
            refine q_aloadn C dX12_visits_159 rfl ?_
            refine q_iloadn C dX12_visits_160 rfl ?_
            refine q_iloadn C dX12_visits_161 rfl ?_
            refine q_iloadn C dX12_visits_162 rfl ?_
            refine q_iload C dX12_visits_163 rfl ?_
            refine cv_RX12_231 C (by decide) (m_X12_enters l g _ (by omega) (by omega) (by omega) (by omega) (by first | exact bl | (rw [q_setOn', t7]; exact bl))) dX12_visits_165 (Nat.le_of_ble_eq_true rfl) ?_
            refine q_iload C dX12_visits_168 rfl ?_
            refine q_iret C' dX12_visits_170 (by first | assumption | omega | exact q_tin _ | exact q_bIn _) ?_
            refine ⟨rfl, ?_⟩
            unfold mVisit vVisit
            first | (rw [if_pos (show 0 < sAns sd (M 61 0) c h a by omega), q_setSet, q_setOn']; done) | (rw [if_neg (show ¬ 0 < sAns sd (M 61 0) c h a by omega)]; done)
      · refine q_aloadn C dX12_visits_92 rfl ?_
        refine gf_RX12_47 C dX12_visits_93 ?_
        refine q_bipush C dX12_visits_96 (by decide) ?_
        refine q_iload C dX12_visits_98 rfl ?_
        refine q_iadd C dX12_visits_100 ?_
        refine q_iald C (by first | assumption | decide | omega) rfl dX12_visits_101 (by omega) (by omega) (by decide) (fun r101 => ?_)
        try simp only [q_rd, q_rdS, ↓reduceIte, if_true, if_false, eq_self, Nat.reduceEqDiff, Int.reduceEq, Int.reduceNeg, reduceCtorEq, t1, t2, t3, t4, t5, t6] at r101 ⊢
        refine q_iconst C dX12_visits_102 ?_
        refine q_icmp_ge C 110 dX12_visits_103 (by decide) (by first | assumption | omega | exact q_tin _ | exact q_bIn _) (by first | assumption | omega | exact q_tin _ | exact q_bIn _) (fun h103 => ?_) (fun h103 => ?_)
        · refine q_iconst C dX12_visits_110 ?_
          refine q_iadd C dX12_visits_111 ?_
          refine q_iast C (by first | assumption | decide | omega) (fun _ => rfl) dX12_visits_112 (by omega) (by omega) (by decide) (by first | assumption | omega | exact q_tin _ | exact q_bIn _) ?_
          refine q_memEq (wC_m (M := M) (by rw [so]; first | (rw [if_pos (by omega)]; done) | (rw [if_neg (by omega)]; done) | (rw [if_neg (by omega)]; omega))) ?_
          refine q_aloadn C dX12_visits_113 rfl ?_
          refine gf_RX12_47 C dX12_visits_114 ?_
          refine q_bipush C dX12_visits_117 (by decide) ?_
          refine q_iloadn C dX12_visits_119 rfl ?_
          refine q_iadd C dX12_visits_120 ?_
          refine q_dup2 C dX12_visits_121 rfl rfl ?_
          refine q_iald C (by first | assumption | decide | omega) rfl dX12_visits_122 (by omega) (by omega) (by decide) (fun r122 => ?_)
          try simp only [q_rd, q_rdS, ↓reduceIte, if_true, if_false, eq_self, Nat.reduceEqDiff, Int.reduceEq, Int.reduceNeg, reduceCtorEq, t1, t2, t3, t4, t5, t6] at r122 ⊢
          refine q_aloadn C dX12_visits_123 rfl ?_
          refine gf_RX12_47 C dX12_visits_124 ?_
          refine q_bipush C dX12_visits_127 (by decide) ?_
          refine q_iloadn C dX12_visits_129 rfl ?_
          refine q_iadd C dX12_visits_130 ?_
          refine q_iald C (by first | assumption | decide | omega) rfl dX12_visits_131 (by omega) (by omega) (by decide) (fun r131 => ?_)
          try simp only [q_rd, q_rdS, ↓reduceIte, if_true, if_false, eq_self, Nat.reduceEqDiff, Int.reduceEq, Int.reduceNeg, reduceCtorEq, t1, t2, t3, t4, t5, t6] at r131 ⊢
          refine q_iconst C dX12_visits_132 ?_
          refine q_icmp_lt C 156 dX12_visits_133 (by decide) (by first | assumption | omega | exact q_tin _ | exact q_bIn _) (by first | assumption | omega | exact q_tin _ | exact q_bIn _) (fun h133 => ?_) (fun h133 => ?_)
          · refine q_iconst C dX12_visits_156 ?_
            refine q_ior C dX12_visits_157 ?_
            refine q_iast C (by first | assumption | decide | omega) (fun _ => rfl) dX12_visits_158 (by omega) (by omega) (by decide) (by first | assumption | omega | exact q_tin _ | exact q_bIn _) ?_
            refine q_memEq (N := qSet M 61 0 (vWel (M 61 0) c h)) (by rw [q_upSet]; exact q_setC (wC_wel cc dd (by first | (rw [if_pos (by omega)]; done) | (rw [if_neg (by omega)]; done)))) ?_
            refine q_aloadn C dX12_visits_159 rfl ?_
            refine q_iloadn C dX12_visits_160 rfl ?_
            refine q_iloadn C dX12_visits_161 rfl ?_
            refine q_iloadn C dX12_visits_162 rfl ?_
            refine q_iload C dX12_visits_163 rfl ?_
            refine cv_RX12_231 C (by decide) (m_X12_enters l g _ (by omega) (by omega) (by omega) (by omega) (by first | exact bl | (rw [q_setOn', t7]; exact bl))) dX12_visits_165 (Nat.le_of_ble_eq_true rfl) ?_
            refine q_iload C dX12_visits_168 rfl ?_
            refine q_iret C' dX12_visits_170 (by first | assumption | omega | exact q_tin _ | exact q_bIn _) ?_
            refine ⟨rfl, ?_⟩
            unfold mVisit vVisit
            first | (rw [if_pos (show 0 < sAns sd (M 61 0) c h a by omega), q_setSet, q_setOn']; done) | (rw [if_neg (show ¬ 0 < sAns sd (M 61 0) c h a by omega)]; done)
          · refine q_aloadn C dX12_visits_136 rfl ?_
            refine gf_RX12_47 C dX12_visits_137 ?_
            refine q_bipush C dX12_visits_140 (by decide) ?_
            refine q_iload C dX12_visits_142 rfl ?_
            refine q_iadd C dX12_visits_144 ?_
            refine q_iald C (by first | assumption | decide | omega) rfl dX12_visits_145 (by omega) (by omega) (by decide) (fun r145 => ?_)
            try simp only [q_rd, q_rdS, ↓reduceIte, if_true, if_false, eq_self, Nat.reduceEqDiff, Int.reduceEq, Int.reduceNeg, reduceCtorEq, t1, t2, t3, t4, t5, t6] at r145 ⊢
            refine q_iconst C dX12_visits_146 ?_
            refine q_icmp_ne C 156 dX12_visits_147 (by decide) (by first | assumption | omega | exact q_tin _ | exact q_bIn _) (by first | assumption | omega | exact q_tin _ | exact q_bIn _) (fun h147 => ?_) (fun h147 => ?_)
            · refine q_iconst C dX12_visits_156 ?_
              refine q_ior C dX12_visits_157 ?_
              refine q_iast C (by first | assumption | decide | omega) (fun _ => rfl) dX12_visits_158 (by omega) (by omega) (by decide) (by first | assumption | omega | exact q_tin _ | exact q_bIn _) ?_
              refine q_memEq (N := qSet M 61 0 (vWel (M 61 0) c h)) (by rw [q_upSet]; exact q_setC (wC_wel cc dd (by first | (rw [if_pos (by omega)]; done) | (rw [if_neg (by omega)]; done)))) ?_
              refine q_aloadn C dX12_visits_159 rfl ?_
              refine q_iloadn C dX12_visits_160 rfl ?_
              refine q_iloadn C dX12_visits_161 rfl ?_
              refine q_iloadn C dX12_visits_162 rfl ?_
              refine q_iload C dX12_visits_163 rfl ?_
              refine cv_RX12_231 C (by decide) (m_X12_enters l g _ (by omega) (by omega) (by omega) (by omega) (by first | exact bl | (rw [q_setOn', t7]; exact bl))) dX12_visits_165 (Nat.le_of_ble_eq_true rfl) ?_
              refine q_iload C dX12_visits_168 rfl ?_
              refine q_iret C' dX12_visits_170 (by first | assumption | omega | exact q_tin _ | exact q_bIn _) ?_
              refine ⟨rfl, ?_⟩
              unfold mVisit vVisit
              first | (rw [if_pos (show 0 < sAns sd (M 61 0) c h a by omega), q_setSet, q_setOn']; done) | (rw [if_neg (show ¬ 0 < sAns sd (M 61 0) c h a by omega)]; done)
            · refine q_iconst C dX12_visits_150 ?_
              refine q_iloadn C dX12_visits_151 rfl ?_
              refine q_ishl C dX12_visits_152 ?_
              refine q_goto C (tgt := 157) dX12_visits_153 (by decide) ?_
              refine q_ior C dX12_visits_157 ?_
              refine q_iast C (by first | assumption | decide | omega) (fun _ => rfl) dX12_visits_158 (by omega) (by omega) (by decide) (by first | assumption | omega | exact q_tin _ | exact q_bIn _) ?_
              refine q_memEq (N := qSet M 61 0 (vWel (M 61 0) c h)) (by rw [q_upSet]; exact q_setC (wC_wel cc dd (by first | (rw [if_pos (by omega)]; done) | (rw [if_neg (by omega)]; done)))) ?_
              refine q_aloadn C dX12_visits_159 rfl ?_
              refine q_iloadn C dX12_visits_160 rfl ?_
              refine q_iloadn C dX12_visits_161 rfl ?_
              refine q_iloadn C dX12_visits_162 rfl ?_
              refine q_iload C dX12_visits_163 rfl ?_
              refine cv_RX12_231 C (by decide) (m_X12_enters l g _ (by omega) (by omega) (by omega) (by omega) (by first | exact bl | (rw [q_setOn', t7]; exact bl))) dX12_visits_165 (Nat.le_of_ble_eq_true rfl) ?_
              refine q_iload C dX12_visits_168 rfl ?_
              refine q_iret C' dX12_visits_170 (by first | assumption | omega | exact q_tin _ | exact q_bIn _) ?_
              refine ⟨rfl, ?_⟩
              unfold mVisit vVisit
              first | (rw [if_pos (show 0 < sAns sd (M 61 0) c h a by omega), q_setSet, q_setOn']; done) | (rw [if_neg (show ¬ 0 < sAns sd (M 61 0) c h a by omega)]; done)
        · refine q_iconst C dX12_visits_106 ?_
          refine q_goto C (tgt := 111) dX12_visits_107 (by decide) ?_
          refine q_iadd C dX12_visits_111 ?_
          refine q_iast C (by first | assumption | decide | omega) (fun _ => rfl) dX12_visits_112 (by omega) (by omega) (by decide) (by first | assumption | omega | exact q_tin _ | exact q_bIn _) ?_
          refine q_memEq (wC_m (M := M) (by rw [so]; first | (rw [if_pos (by omega)]; done) | (rw [if_neg (by omega)]; done) | (rw [if_neg (by omega)]; omega))) ?_
          refine q_aloadn C dX12_visits_113 rfl ?_
          refine gf_RX12_47 C dX12_visits_114 ?_
          refine q_bipush C dX12_visits_117 (by decide) ?_
          refine q_iloadn C dX12_visits_119 rfl ?_
          refine q_iadd C dX12_visits_120 ?_
          refine q_dup2 C dX12_visits_121 rfl rfl ?_
          refine q_iald C (by first | assumption | decide | omega) rfl dX12_visits_122 (by omega) (by omega) (by decide) (fun r122 => ?_)
          try simp only [q_rd, q_rdS, ↓reduceIte, if_true, if_false, eq_self, Nat.reduceEqDiff, Int.reduceEq, Int.reduceNeg, reduceCtorEq, t1, t2, t3, t4, t5, t6] at r122 ⊢
          refine q_aloadn C dX12_visits_123 rfl ?_
          refine gf_RX12_47 C dX12_visits_124 ?_
          refine q_bipush C dX12_visits_127 (by decide) ?_
          refine q_iloadn C dX12_visits_129 rfl ?_
          refine q_iadd C dX12_visits_130 ?_
          refine q_iald C (by first | assumption | decide | omega) rfl dX12_visits_131 (by omega) (by omega) (by decide) (fun r131 => ?_)
          try simp only [q_rd, q_rdS, ↓reduceIte, if_true, if_false, eq_self, Nat.reduceEqDiff, Int.reduceEq, Int.reduceNeg, reduceCtorEq, t1, t2, t3, t4, t5, t6] at r131 ⊢
          refine q_iconst C dX12_visits_132 ?_
          refine q_icmp_lt C 156 dX12_visits_133 (by decide) (by first | assumption | omega | exact q_tin _ | exact q_bIn _) (by first | assumption | omega | exact q_tin _ | exact q_bIn _) (fun h133 => ?_) (fun h133 => ?_)
          · refine q_iconst C dX12_visits_156 ?_
            refine q_ior C dX12_visits_157 ?_
            refine q_iast C (by first | assumption | decide | omega) (fun _ => rfl) dX12_visits_158 (by omega) (by omega) (by decide) (by first | assumption | omega | exact q_tin _ | exact q_bIn _) ?_
            refine q_memEq (N := qSet M 61 0 (vWel (M 61 0) c h)) (by rw [q_upSet]; exact q_setC (wC_wel cc dd (by first | (rw [if_pos (by omega)]; done) | (rw [if_neg (by omega)]; done)))) ?_
            refine q_aloadn C dX12_visits_159 rfl ?_
            refine q_iloadn C dX12_visits_160 rfl ?_
            refine q_iloadn C dX12_visits_161 rfl ?_
            refine q_iloadn C dX12_visits_162 rfl ?_
            refine q_iload C dX12_visits_163 rfl ?_
            refine cv_RX12_231 C (by decide) (m_X12_enters l g _ (by omega) (by omega) (by omega) (by omega) (by first | exact bl | (rw [q_setOn', t7]; exact bl))) dX12_visits_165 (Nat.le_of_ble_eq_true rfl) ?_
            refine q_iload C dX12_visits_168 rfl ?_
            refine q_iret C' dX12_visits_170 (by first | assumption | omega | exact q_tin _ | exact q_bIn _) ?_
            refine ⟨rfl, ?_⟩
            unfold mVisit vVisit
            first | (rw [if_pos (show 0 < sAns sd (M 61 0) c h a by omega), q_setSet, q_setOn']; done) | (rw [if_neg (show ¬ 0 < sAns sd (M 61 0) c h a by omega)]; done)
          · refine q_aloadn C dX12_visits_136 rfl ?_
            refine gf_RX12_47 C dX12_visits_137 ?_
            refine q_bipush C dX12_visits_140 (by decide) ?_
            refine q_iload C dX12_visits_142 rfl ?_
            refine q_iadd C dX12_visits_144 ?_
            refine q_iald C (by first | assumption | decide | omega) rfl dX12_visits_145 (by omega) (by omega) (by decide) (fun r145 => ?_)
            try simp only [q_rd, q_rdS, ↓reduceIte, if_true, if_false, eq_self, Nat.reduceEqDiff, Int.reduceEq, Int.reduceNeg, reduceCtorEq, t1, t2, t3, t4, t5, t6] at r145 ⊢
            refine q_iconst C dX12_visits_146 ?_
            refine q_icmp_ne C 156 dX12_visits_147 (by decide) (by first | assumption | omega | exact q_tin _ | exact q_bIn _) (by first | assumption | omega | exact q_tin _ | exact q_bIn _) (fun h147 => ?_) (fun h147 => ?_)
            · refine q_iconst C dX12_visits_156 ?_
              refine q_ior C dX12_visits_157 ?_
              refine q_iast C (by first | assumption | decide | omega) (fun _ => rfl) dX12_visits_158 (by omega) (by omega) (by decide) (by first | assumption | omega | exact q_tin _ | exact q_bIn _) ?_
              refine q_memEq (N := qSet M 61 0 (vWel (M 61 0) c h)) (by rw [q_upSet]; exact q_setC (wC_wel cc dd (by first | (rw [if_pos (by omega)]; done) | (rw [if_neg (by omega)]; done)))) ?_
              refine q_aloadn C dX12_visits_159 rfl ?_
              refine q_iloadn C dX12_visits_160 rfl ?_
              refine q_iloadn C dX12_visits_161 rfl ?_
              refine q_iloadn C dX12_visits_162 rfl ?_
              refine q_iload C dX12_visits_163 rfl ?_
              refine cv_RX12_231 C (by decide) (m_X12_enters l g _ (by omega) (by omega) (by omega) (by omega) (by first | exact bl | (rw [q_setOn', t7]; exact bl))) dX12_visits_165 (Nat.le_of_ble_eq_true rfl) ?_
              refine q_iload C dX12_visits_168 rfl ?_
              refine q_iret C' dX12_visits_170 (by first | assumption | omega | exact q_tin _ | exact q_bIn _) ?_
              refine ⟨rfl, ?_⟩
              unfold mVisit vVisit
              first | (rw [if_pos (show 0 < sAns sd (M 61 0) c h a by omega), q_setSet, q_setOn']; done) | (rw [if_neg (show ¬ 0 < sAns sd (M 61 0) c h a by omega)]; done)
            · refine q_iconst C dX12_visits_150 ?_
              refine q_iloadn C dX12_visits_151 rfl ?_
              refine q_ishl C dX12_visits_152 ?_
              refine q_goto C (tgt := 157) dX12_visits_153 (by decide) ?_
              refine q_ior C dX12_visits_157 ?_
              refine q_iast C (by first | assumption | decide | omega) (fun _ => rfl) dX12_visits_158 (by omega) (by omega) (by decide) (by first | assumption | omega | exact q_tin _ | exact q_bIn _) ?_
              refine q_memEq (N := qSet M 61 0 (vWel (M 61 0) c h)) (by rw [q_upSet]; exact q_setC (wC_wel cc dd (by first | (rw [if_pos (by omega)]; done) | (rw [if_neg (by omega)]; done)))) ?_
              refine q_aloadn C dX12_visits_159 rfl ?_
              refine q_iloadn C dX12_visits_160 rfl ?_
              refine q_iloadn C dX12_visits_161 rfl ?_
              refine q_iloadn C dX12_visits_162 rfl ?_
              refine q_iload C dX12_visits_163 rfl ?_
              refine cv_RX12_231 C (by decide) (m_X12_enters l g _ (by omega) (by omega) (by omega) (by omega) (by first | exact bl | (rw [q_setOn', t7]; exact bl))) dX12_visits_165 (Nat.le_of_ble_eq_true rfl) ?_
              refine q_iload C dX12_visits_168 rfl ?_
              refine q_iret C' dX12_visits_170 (by first | assumption | omega | exact q_tin _ | exact q_bIn _) ?_
              refine ⟨rfl, ?_⟩
              unfold mVisit vVisit
              first | (rw [if_pos (show 0 < sAns sd (M 61 0) c h a by omega), q_setSet, q_setOn']; done) | (rw [if_neg (show ¬ 0 < sAns sd (M 61 0) c h a by omega)]; done)
    · refine q_iconst C dX12_visits_49 ?_
      refine q_goto C (tgt := 54) dX12_visits_50 (by decide) ?_
      refine q_iadd C dX12_visits_54 ?_
      refine q_iast C (by first | assumption | decide | omega) (fun _ => rfl) dX12_visits_55 (by omega) (by omega) (by decide) (by first | assumption | omega | exact q_tin _ | exact q_bIn _) ?_
      refine q_memEq (wA_m (M := M) (by first | (rw [if_pos (by omega)]; done) | (rw [if_neg (by omega)]; done) | (rw [if_neg (by omega)]; omega))) ?_
      refine q_aloadn C dX12_visits_56 rfl ?_
      refine gf_RX12_47 C dX12_visits_57 ?_
      refine q_iconst C dX12_visits_60 ?_
      refine q_dup2 C dX12_visits_61 rfl rfl ?_
      refine q_iald C (by first | assumption | decide | omega) rfl dX12_visits_62 (by omega) (by omega) (by decide) (fun r62 => ?_)
      try simp only [q_rd, q_rdS, ↓reduceIte, if_true, if_false, eq_self, Nat.reduceEqDiff, Int.reduceEq, Int.reduceNeg, reduceCtorEq, t1, t2, t3, t4, t5, t6] at r62 ⊢
      refine q_iconst C dX12_visits_63 ?_
      refine q_iloadn C dX12_visits_64 rfl ?_
      refine q_ishl C dX12_visits_65 ?_
      refine q_ior C dX12_visits_66 ?_
      refine q_iast C (by first | assumption | decide | omega) (fun _ => rfl) dX12_visits_67 (by omega) (by omega) (by decide) (by first | assumption | omega | exact q_tin _ | exact q_bIn _) ?_
      refine q_memEq (N := qSet M 61 0 (wB (M 61 0) c h)) (by rw [q_upSet]; rfl) ?_
      refine q_aloadn C dX12_visits_68 rfl ?_
      refine gf_RX12_47 C dX12_visits_69 ?_
      refine q_bipush C dX12_visits_72 (by decide) ?_
      refine q_iload C dX12_visits_74 rfl ?_
      refine q_iadd C dX12_visits_76 ?_
      refine q_dup2 C dX12_visits_77 rfl rfl ?_
      refine q_iald C (by first | assumption | decide | omega) rfl dX12_visits_78 (by omega) (by omega) (by decide) (fun r78 => ?_)
      try simp only [q_rd, q_rdS, ↓reduceIte, if_true, if_false, eq_self, Nat.reduceEqDiff, Int.reduceEq, Int.reduceNeg, reduceCtorEq, t1, t2, t3, t4, t5, t6] at r78 ⊢
      refine q_aloadn C dX12_visits_79 rfl ?_
      refine gf_RX12_47 C dX12_visits_80 ?_
      refine q_bipush C dX12_visits_83 (by decide) ?_
      refine q_iloadn C dX12_visits_85 rfl ?_
      refine q_iadd C dX12_visits_86 ?_
      refine q_iald C (by first | assumption | decide | omega) rfl dX12_visits_87 (by omega) (by omega) (by decide) (fun r87 => ?_)
      try simp only [q_rd, q_rdS, ↓reduceIte, if_true, if_false, eq_self, Nat.reduceEqDiff, Int.reduceEq, Int.reduceNeg, reduceCtorEq, t1, t2, t3, t4, t5, t6] at r87 ⊢
      refine q_iconst C dX12_visits_88 ?_
      refine q_icmp_lt C 110 dX12_visits_89 (by decide) (by first | assumption | omega | exact q_tin _ | exact q_bIn _) (by first | assumption | omega | exact q_tin _ | exact q_bIn _) (fun h89 => ?_) (fun h89 => ?_)
      · refine q_iconst C dX12_visits_110 ?_
        refine q_iadd C dX12_visits_111 ?_
        refine q_iast C (by first | assumption | decide | omega) (fun _ => rfl) dX12_visits_112 (by omega) (by omega) (by decide) (by first | assumption | omega | exact q_tin _ | exact q_bIn _) ?_
        refine q_memEq (wC_m (M := M) (by rw [so]; first | (rw [if_pos (by omega)]; done) | (rw [if_neg (by omega)]; done) | (rw [if_neg (by omega)]; omega))) ?_
        refine q_aloadn C dX12_visits_113 rfl ?_
        refine gf_RX12_47 C dX12_visits_114 ?_
        refine q_bipush C dX12_visits_117 (by decide) ?_
        refine q_iloadn C dX12_visits_119 rfl ?_
        refine q_iadd C dX12_visits_120 ?_
        refine q_dup2 C dX12_visits_121 rfl rfl ?_
        refine q_iald C (by first | assumption | decide | omega) rfl dX12_visits_122 (by omega) (by omega) (by decide) (fun r122 => ?_)
        try simp only [q_rd, q_rdS, ↓reduceIte, if_true, if_false, eq_self, Nat.reduceEqDiff, Int.reduceEq, Int.reduceNeg, reduceCtorEq, t1, t2, t3, t4, t5, t6] at r122 ⊢
        refine q_aloadn C dX12_visits_123 rfl ?_
        refine gf_RX12_47 C dX12_visits_124 ?_
        refine q_bipush C dX12_visits_127 (by decide) ?_
        refine q_iloadn C dX12_visits_129 rfl ?_
        refine q_iadd C dX12_visits_130 ?_
        refine q_iald C (by first | assumption | decide | omega) rfl dX12_visits_131 (by omega) (by omega) (by decide) (fun r131 => ?_)
        try simp only [q_rd, q_rdS, ↓reduceIte, if_true, if_false, eq_self, Nat.reduceEqDiff, Int.reduceEq, Int.reduceNeg, reduceCtorEq, t1, t2, t3, t4, t5, t6] at r131 ⊢
        refine q_iconst C dX12_visits_132 ?_
        refine q_icmp_lt C 156 dX12_visits_133 (by decide) (by first | assumption | omega | exact q_tin _ | exact q_bIn _) (by first | assumption | omega | exact q_tin _ | exact q_bIn _) (fun h133 => ?_) (fun h133 => ?_)
        · refine q_iconst C dX12_visits_156 ?_
          refine q_ior C dX12_visits_157 ?_
          refine q_iast C (by first | assumption | decide | omega) (fun _ => rfl) dX12_visits_158 (by omega) (by omega) (by decide) (by first | assumption | omega | exact q_tin _ | exact q_bIn _) ?_
          refine q_memEq (N := qSet M 61 0 (vWel (M 61 0) c h)) (by rw [q_upSet]; exact q_setC (wC_wel cc dd (by first | (rw [if_pos (by omega)]; done) | (rw [if_neg (by omega)]; done)))) ?_
          refine q_aloadn C dX12_visits_159 rfl ?_
          refine q_iloadn C dX12_visits_160 rfl ?_
          refine q_iloadn C dX12_visits_161 rfl ?_
          refine q_iloadn C dX12_visits_162 rfl ?_
          refine q_iload C dX12_visits_163 rfl ?_
          refine cv_RX12_231 C (by decide) (m_X12_enters l g _ (by omega) (by omega) (by omega) (by omega) (by first | exact bl | (rw [q_setOn', t7]; exact bl))) dX12_visits_165 (Nat.le_of_ble_eq_true rfl) ?_
          refine q_iload C dX12_visits_168 rfl ?_
          refine q_iret C' dX12_visits_170 (by first | assumption | omega | exact q_tin _ | exact q_bIn _) ?_
          refine ⟨rfl, ?_⟩
          unfold mVisit vVisit
          first | (rw [if_pos (show 0 < sAns sd (M 61 0) c h a by omega), q_setSet, q_setOn']; done) | (rw [if_neg (show ¬ 0 < sAns sd (M 61 0) c h a by omega)]; done)
        · refine q_aloadn C dX12_visits_136 rfl ?_
          refine gf_RX12_47 C dX12_visits_137 ?_
          refine q_bipush C dX12_visits_140 (by decide) ?_
          refine q_iload C dX12_visits_142 rfl ?_
          refine q_iadd C dX12_visits_144 ?_
          refine q_iald C (by first | assumption | decide | omega) rfl dX12_visits_145 (by omega) (by omega) (by decide) (fun r145 => ?_)
          try simp only [q_rd, q_rdS, ↓reduceIte, if_true, if_false, eq_self, Nat.reduceEqDiff, Int.reduceEq, Int.reduceNeg, reduceCtorEq, t1, t2, t3, t4, t5, t6] at r145 ⊢
          refine q_iconst C dX12_visits_146 ?_
          refine q_icmp_ne C 156 dX12_visits_147 (by decide) (by first | assumption | omega | exact q_tin _ | exact q_bIn _) (by first | assumption | omega | exact q_tin _ | exact q_bIn _) (fun h147 => ?_) (fun h147 => ?_)
          · refine q_iconst C dX12_visits_156 ?_
            refine q_ior C dX12_visits_157 ?_
            refine q_iast C (by first | assumption | decide | omega) (fun _ => rfl) dX12_visits_158 (by omega) (by omega) (by decide) (by first | assumption | omega | exact q_tin _ | exact q_bIn _) ?_
            refine q_memEq (N := qSet M 61 0 (vWel (M 61 0) c h)) (by rw [q_upSet]; exact q_setC (wC_wel cc dd (by first | (rw [if_pos (by omega)]; done) | (rw [if_neg (by omega)]; done)))) ?_
            refine q_aloadn C dX12_visits_159 rfl ?_
            refine q_iloadn C dX12_visits_160 rfl ?_
            refine q_iloadn C dX12_visits_161 rfl ?_
            refine q_iloadn C dX12_visits_162 rfl ?_
            refine q_iload C dX12_visits_163 rfl ?_
            refine cv_RX12_231 C (by decide) (m_X12_enters l g _ (by omega) (by omega) (by omega) (by omega) (by first | exact bl | (rw [q_setOn', t7]; exact bl))) dX12_visits_165 (Nat.le_of_ble_eq_true rfl) ?_
            refine q_iload C dX12_visits_168 rfl ?_
            refine q_iret C' dX12_visits_170 (by first | assumption | omega | exact q_tin _ | exact q_bIn _) ?_
            refine ⟨rfl, ?_⟩
            unfold mVisit vVisit
            first | (rw [if_pos (show 0 < sAns sd (M 61 0) c h a by omega), q_setSet, q_setOn']; done) | (rw [if_neg (show ¬ 0 < sAns sd (M 61 0) c h a by omega)]; done)
          · refine q_iconst C dX12_visits_150 ?_
            refine q_iloadn C dX12_visits_151 rfl ?_
            refine q_ishl C dX12_visits_152 ?_
            refine q_goto C (tgt := 157) dX12_visits_153 (by decide) ?_
            refine q_ior C dX12_visits_157 ?_
            refine q_iast C (by first | assumption | decide | omega) (fun _ => rfl) dX12_visits_158 (by omega) (by omega) (by decide) (by first | assumption | omega | exact q_tin _ | exact q_bIn _) ?_
            refine q_memEq (N := qSet M 61 0 (vWel (M 61 0) c h)) (by rw [q_upSet]; exact q_setC (wC_wel cc dd (by first | (rw [if_pos (by omega)]; done) | (rw [if_neg (by omega)]; done)))) ?_
            refine q_aloadn C dX12_visits_159 rfl ?_
            refine q_iloadn C dX12_visits_160 rfl ?_
            refine q_iloadn C dX12_visits_161 rfl ?_
            refine q_iloadn C dX12_visits_162 rfl ?_
            refine q_iload C dX12_visits_163 rfl ?_
            refine cv_RX12_231 C (by decide) (m_X12_enters l g _ (by omega) (by omega) (by omega) (by omega) (by first | exact bl | (rw [q_setOn', t7]; exact bl))) dX12_visits_165 (Nat.le_of_ble_eq_true rfl) ?_
            refine q_iload C dX12_visits_168 rfl ?_
            refine q_iret C' dX12_visits_170 (by first | assumption | omega | exact q_tin _ | exact q_bIn _) ?_
            refine ⟨rfl, ?_⟩
            unfold mVisit vVisit
            first | (rw [if_pos (show 0 < sAns sd (M 61 0) c h a by omega), q_setSet, q_setOn']; done) | (rw [if_neg (show ¬ 0 < sAns sd (M 61 0) c h a by omega)]; done)
      · refine q_aloadn C dX12_visits_92 rfl ?_
        refine gf_RX12_47 C dX12_visits_93 ?_
        refine q_bipush C dX12_visits_96 (by decide) ?_
        refine q_iload C dX12_visits_98 rfl ?_
        refine q_iadd C dX12_visits_100 ?_
        refine q_iald C (by first | assumption | decide | omega) rfl dX12_visits_101 (by omega) (by omega) (by decide) (fun r101 => ?_)
        try simp only [q_rd, q_rdS, ↓reduceIte, if_true, if_false, eq_self, Nat.reduceEqDiff, Int.reduceEq, Int.reduceNeg, reduceCtorEq, t1, t2, t3, t4, t5, t6] at r101 ⊢
        refine q_iconst C dX12_visits_102 ?_
        refine q_icmp_ge C 110 dX12_visits_103 (by decide) (by first | assumption | omega | exact q_tin _ | exact q_bIn _) (by first | assumption | omega | exact q_tin _ | exact q_bIn _) (fun h103 => ?_) (fun h103 => ?_)
        · refine q_iconst C dX12_visits_110 ?_
          refine q_iadd C dX12_visits_111 ?_
          refine q_iast C (by first | assumption | decide | omega) (fun _ => rfl) dX12_visits_112 (by omega) (by omega) (by decide) (by first | assumption | omega | exact q_tin _ | exact q_bIn _) ?_
          refine q_memEq (wC_m (M := M) (by rw [so]; first | (rw [if_pos (by omega)]; done) | (rw [if_neg (by omega)]; done) | (rw [if_neg (by omega)]; omega))) ?_
          refine q_aloadn C dX12_visits_113 rfl ?_
          refine gf_RX12_47 C dX12_visits_114 ?_
          refine q_bipush C dX12_visits_117 (by decide) ?_
          refine q_iloadn C dX12_visits_119 rfl ?_
          refine q_iadd C dX12_visits_120 ?_
          refine q_dup2 C dX12_visits_121 rfl rfl ?_
          refine q_iald C (by first | assumption | decide | omega) rfl dX12_visits_122 (by omega) (by omega) (by decide) (fun r122 => ?_)
          try simp only [q_rd, q_rdS, ↓reduceIte, if_true, if_false, eq_self, Nat.reduceEqDiff, Int.reduceEq, Int.reduceNeg, reduceCtorEq, t1, t2, t3, t4, t5, t6] at r122 ⊢
          refine q_aloadn C dX12_visits_123 rfl ?_
          refine gf_RX12_47 C dX12_visits_124 ?_
          refine q_bipush C dX12_visits_127 (by decide) ?_
          refine q_iloadn C dX12_visits_129 rfl ?_
          refine q_iadd C dX12_visits_130 ?_
          refine q_iald C (by first | assumption | decide | omega) rfl dX12_visits_131 (by omega) (by omega) (by decide) (fun r131 => ?_)
          try simp only [q_rd, q_rdS, ↓reduceIte, if_true, if_false, eq_self, Nat.reduceEqDiff, Int.reduceEq, Int.reduceNeg, reduceCtorEq, t1, t2, t3, t4, t5, t6] at r131 ⊢
          refine q_iconst C dX12_visits_132 ?_
          refine q_icmp_lt C 156 dX12_visits_133 (by decide) (by first | assumption | omega | exact q_tin _ | exact q_bIn _) (by first | assumption | omega | exact q_tin _ | exact q_bIn _) (fun h133 => ?_) (fun h133 => ?_)
          · refine q_iconst C dX12_visits_156 ?_
            refine q_ior C dX12_visits_157 ?_
            refine q_iast C (by first | assumption | decide | omega) (fun _ => rfl) dX12_visits_158 (by omega) (by omega) (by decide) (by first | assumption | omega | exact q_tin _ | exact q_bIn _) ?_
            refine q_memEq (N := qSet M 61 0 (vWel (M 61 0) c h)) (by rw [q_upSet]; exact q_setC (wC_wel cc dd (by first | (rw [if_pos (by omega)]; done) | (rw [if_neg (by omega)]; done)))) ?_
            refine q_aloadn C dX12_visits_159 rfl ?_
            refine q_iloadn C dX12_visits_160 rfl ?_
            refine q_iloadn C dX12_visits_161 rfl ?_
            refine q_iloadn C dX12_visits_162 rfl ?_
            refine q_iload C dX12_visits_163 rfl ?_
            refine cv_RX12_231 C (by decide) (m_X12_enters l g _ (by omega) (by omega) (by omega) (by omega) (by first | exact bl | (rw [q_setOn', t7]; exact bl))) dX12_visits_165 (Nat.le_of_ble_eq_true rfl) ?_
            refine q_iload C dX12_visits_168 rfl ?_
            refine q_iret C' dX12_visits_170 (by first | assumption | omega | exact q_tin _ | exact q_bIn _) ?_
            refine ⟨rfl, ?_⟩
            unfold mVisit vVisit
            first | (rw [if_pos (show 0 < sAns sd (M 61 0) c h a by omega), q_setSet, q_setOn']; done) | (rw [if_neg (show ¬ 0 < sAns sd (M 61 0) c h a by omega)]; done)
          · refine q_aloadn C dX12_visits_136 rfl ?_
            refine gf_RX12_47 C dX12_visits_137 ?_
            refine q_bipush C dX12_visits_140 (by decide) ?_
            refine q_iload C dX12_visits_142 rfl ?_
            refine q_iadd C dX12_visits_144 ?_
            refine q_iald C (by first | assumption | decide | omega) rfl dX12_visits_145 (by omega) (by omega) (by decide) (fun r145 => ?_)
            try simp only [q_rd, q_rdS, ↓reduceIte, if_true, if_false, eq_self, Nat.reduceEqDiff, Int.reduceEq, Int.reduceNeg, reduceCtorEq, t1, t2, t3, t4, t5, t6] at r145 ⊢
            refine q_iconst C dX12_visits_146 ?_
            refine q_icmp_ne C 156 dX12_visits_147 (by decide) (by first | assumption | omega | exact q_tin _ | exact q_bIn _) (by first | assumption | omega | exact q_tin _ | exact q_bIn _) (fun h147 => ?_) (fun h147 => ?_)
            · refine q_iconst C dX12_visits_156 ?_
              refine q_ior C dX12_visits_157 ?_
              refine q_iast C (by first | assumption | decide | omega) (fun _ => rfl) dX12_visits_158 (by omega) (by omega) (by decide) (by first | assumption | omega | exact q_tin _ | exact q_bIn _) ?_
              refine q_memEq (N := qSet M 61 0 (vWel (M 61 0) c h)) (by rw [q_upSet]; exact q_setC (wC_wel cc dd (by first | (rw [if_pos (by omega)]; done) | (rw [if_neg (by omega)]; done)))) ?_
              refine q_aloadn C dX12_visits_159 rfl ?_
              refine q_iloadn C dX12_visits_160 rfl ?_
              refine q_iloadn C dX12_visits_161 rfl ?_
              refine q_iloadn C dX12_visits_162 rfl ?_
              refine q_iload C dX12_visits_163 rfl ?_
              refine cv_RX12_231 C (by decide) (m_X12_enters l g _ (by omega) (by omega) (by omega) (by omega) (by first | exact bl | (rw [q_setOn', t7]; exact bl))) dX12_visits_165 (Nat.le_of_ble_eq_true rfl) ?_
              refine q_iload C dX12_visits_168 rfl ?_
              refine q_iret C' dX12_visits_170 (by first | assumption | omega | exact q_tin _ | exact q_bIn _) ?_
              refine ⟨rfl, ?_⟩
              unfold mVisit vVisit
              first | (rw [if_pos (show 0 < sAns sd (M 61 0) c h a by omega), q_setSet, q_setOn']; done) | (rw [if_neg (show ¬ 0 < sAns sd (M 61 0) c h a by omega)]; done)
            · refine q_iconst C dX12_visits_150 ?_
              refine q_iloadn C dX12_visits_151 rfl ?_
              refine q_ishl C dX12_visits_152 ?_
              refine q_goto C (tgt := 157) dX12_visits_153 (by decide) ?_
              refine q_ior C dX12_visits_157 ?_
              refine q_iast C (by first | assumption | decide | omega) (fun _ => rfl) dX12_visits_158 (by omega) (by omega) (by decide) (by first | assumption | omega | exact q_tin _ | exact q_bIn _) ?_
              refine q_memEq (N := qSet M 61 0 (vWel (M 61 0) c h)) (by rw [q_upSet]; exact q_setC (wC_wel cc dd (by first | (rw [if_pos (by omega)]; done) | (rw [if_neg (by omega)]; done)))) ?_
              refine q_aloadn C dX12_visits_159 rfl ?_
              refine q_iloadn C dX12_visits_160 rfl ?_
              refine q_iloadn C dX12_visits_161 rfl ?_
              refine q_iloadn C dX12_visits_162 rfl ?_
              refine q_iload C dX12_visits_163 rfl ?_
              refine cv_RX12_231 C (by decide) (m_X12_enters l g _ (by omega) (by omega) (by omega) (by omega) (by first | exact bl | (rw [q_setOn', t7]; exact bl))) dX12_visits_165 (Nat.le_of_ble_eq_true rfl) ?_
              refine q_iload C dX12_visits_168 rfl ?_
              refine q_iret C' dX12_visits_170 (by first | assumption | omega | exact q_tin _ | exact q_bIn _) ?_
              refine ⟨rfl, ?_⟩
              unfold mVisit vVisit
              first | (rw [if_pos (show 0 < sAns sd (M 61 0) c h a by omega), q_setSet, q_setOn']; done) | (rw [if_neg (show ¬ 0 < sAns sd (M 61 0) c h a by omega)]; done)
        · refine q_iconst C dX12_visits_106 ?_
          refine q_goto C (tgt := 111) dX12_visits_107 (by decide) ?_
          refine q_iadd C dX12_visits_111 ?_
          refine q_iast C (by first | assumption | decide | omega) (fun _ => rfl) dX12_visits_112 (by omega) (by omega) (by decide) (by first | assumption | omega | exact q_tin _ | exact q_bIn _) ?_
          refine q_memEq (wC_m (M := M) (by rw [so]; first | (rw [if_pos (by omega)]; done) | (rw [if_neg (by omega)]; done) | (rw [if_neg (by omega)]; omega))) ?_
          refine q_aloadn C dX12_visits_113 rfl ?_
          refine gf_RX12_47 C dX12_visits_114 ?_
          refine q_bipush C dX12_visits_117 (by decide) ?_
          refine q_iloadn C dX12_visits_119 rfl ?_
          refine q_iadd C dX12_visits_120 ?_
          refine q_dup2 C dX12_visits_121 rfl rfl ?_
          refine q_iald C (by first | assumption | decide | omega) rfl dX12_visits_122 (by omega) (by omega) (by decide) (fun r122 => ?_)
          try simp only [q_rd, q_rdS, ↓reduceIte, if_true, if_false, eq_self, Nat.reduceEqDiff, Int.reduceEq, Int.reduceNeg, reduceCtorEq, t1, t2, t3, t4, t5, t6] at r122 ⊢
          refine q_aloadn C dX12_visits_123 rfl ?_
          refine gf_RX12_47 C dX12_visits_124 ?_
          refine q_bipush C dX12_visits_127 (by decide) ?_
          refine q_iloadn C dX12_visits_129 rfl ?_
          refine q_iadd C dX12_visits_130 ?_
          refine q_iald C (by first | assumption | decide | omega) rfl dX12_visits_131 (by omega) (by omega) (by decide) (fun r131 => ?_)
          try simp only [q_rd, q_rdS, ↓reduceIte, if_true, if_false, eq_self, Nat.reduceEqDiff, Int.reduceEq, Int.reduceNeg, reduceCtorEq, t1, t2, t3, t4, t5, t6] at r131 ⊢
          refine q_iconst C dX12_visits_132 ?_
          refine q_icmp_lt C 156 dX12_visits_133 (by decide) (by first | assumption | omega | exact q_tin _ | exact q_bIn _) (by first | assumption | omega | exact q_tin _ | exact q_bIn _) (fun h133 => ?_) (fun h133 => ?_)
          · refine q_iconst C dX12_visits_156 ?_
            refine q_ior C dX12_visits_157 ?_
            refine q_iast C (by first | assumption | decide | omega) (fun _ => rfl) dX12_visits_158 (by omega) (by omega) (by decide) (by first | assumption | omega | exact q_tin _ | exact q_bIn _) ?_
            refine q_memEq (N := qSet M 61 0 (vWel (M 61 0) c h)) (by rw [q_upSet]; exact q_setC (wC_wel cc dd (by first | (rw [if_pos (by omega)]; done) | (rw [if_neg (by omega)]; done)))) ?_
            refine q_aloadn C dX12_visits_159 rfl ?_
            refine q_iloadn C dX12_visits_160 rfl ?_
            refine q_iloadn C dX12_visits_161 rfl ?_
            refine q_iloadn C dX12_visits_162 rfl ?_
            refine q_iload C dX12_visits_163 rfl ?_
            refine cv_RX12_231 C (by decide) (m_X12_enters l g _ (by omega) (by omega) (by omega) (by omega) (by first | exact bl | (rw [q_setOn', t7]; exact bl))) dX12_visits_165 (Nat.le_of_ble_eq_true rfl) ?_
            refine q_iload C dX12_visits_168 rfl ?_
            refine q_iret C' dX12_visits_170 (by first | assumption | omega | exact q_tin _ | exact q_bIn _) ?_
            refine ⟨rfl, ?_⟩
            unfold mVisit vVisit
            first | (rw [if_pos (show 0 < sAns sd (M 61 0) c h a by omega), q_setSet, q_setOn']; done) | (rw [if_neg (show ¬ 0 < sAns sd (M 61 0) c h a by omega)]; done)
          · refine q_aloadn C dX12_visits_136 rfl ?_
            refine gf_RX12_47 C dX12_visits_137 ?_
            refine q_bipush C dX12_visits_140 (by decide) ?_
            refine q_iload C dX12_visits_142 rfl ?_
            refine q_iadd C dX12_visits_144 ?_
            refine q_iald C (by first | assumption | decide | omega) rfl dX12_visits_145 (by omega) (by omega) (by decide) (fun r145 => ?_)
            try simp only [q_rd, q_rdS, ↓reduceIte, if_true, if_false, eq_self, Nat.reduceEqDiff, Int.reduceEq, Int.reduceNeg, reduceCtorEq, t1, t2, t3, t4, t5, t6] at r145 ⊢
            refine q_iconst C dX12_visits_146 ?_
            refine q_icmp_ne C 156 dX12_visits_147 (by decide) (by first | assumption | omega | exact q_tin _ | exact q_bIn _) (by first | assumption | omega | exact q_tin _ | exact q_bIn _) (fun h147 => ?_) (fun h147 => ?_)
            · refine q_iconst C dX12_visits_156 ?_
              refine q_ior C dX12_visits_157 ?_
              refine q_iast C (by first | assumption | decide | omega) (fun _ => rfl) dX12_visits_158 (by omega) (by omega) (by decide) (by first | assumption | omega | exact q_tin _ | exact q_bIn _) ?_
              refine q_memEq (N := qSet M 61 0 (vWel (M 61 0) c h)) (by rw [q_upSet]; exact q_setC (wC_wel cc dd (by first | (rw [if_pos (by omega)]; done) | (rw [if_neg (by omega)]; done)))) ?_
              refine q_aloadn C dX12_visits_159 rfl ?_
              refine q_iloadn C dX12_visits_160 rfl ?_
              refine q_iloadn C dX12_visits_161 rfl ?_
              refine q_iloadn C dX12_visits_162 rfl ?_
              refine q_iload C dX12_visits_163 rfl ?_
              refine cv_RX12_231 C (by decide) (m_X12_enters l g _ (by omega) (by omega) (by omega) (by omega) (by first | exact bl | (rw [q_setOn', t7]; exact bl))) dX12_visits_165 (Nat.le_of_ble_eq_true rfl) ?_
              refine q_iload C dX12_visits_168 rfl ?_
              refine q_iret C' dX12_visits_170 (by first | assumption | omega | exact q_tin _ | exact q_bIn _) ?_
              refine ⟨rfl, ?_⟩
              unfold mVisit vVisit
              first | (rw [if_pos (show 0 < sAns sd (M 61 0) c h a by omega), q_setSet, q_setOn']; done) | (rw [if_neg (show ¬ 0 < sAns sd (M 61 0) c h a by omega)]; done)
            · refine q_iconst C dX12_visits_150 ?_
              refine q_iloadn C dX12_visits_151 rfl ?_
              refine q_ishl C dX12_visits_152 ?_
              refine q_goto C (tgt := 157) dX12_visits_153 (by decide) ?_
              refine q_ior C dX12_visits_157 ?_
              refine q_iast C (by first | assumption | decide | omega) (fun _ => rfl) dX12_visits_158 (by omega) (by omega) (by decide) (by first | assumption | omega | exact q_tin _ | exact q_bIn _) ?_
              refine q_memEq (N := qSet M 61 0 (vWel (M 61 0) c h)) (by rw [q_upSet]; exact q_setC (wC_wel cc dd (by first | (rw [if_pos (by omega)]; done) | (rw [if_neg (by omega)]; done)))) ?_
              refine q_aloadn C dX12_visits_159 rfl ?_
              refine q_iloadn C dX12_visits_160 rfl ?_
              refine q_iloadn C dX12_visits_161 rfl ?_
              refine q_iloadn C dX12_visits_162 rfl ?_
              refine q_iload C dX12_visits_163 rfl ?_
              refine cv_RX12_231 C (by decide) (m_X12_enters l g _ (by omega) (by omega) (by omega) (by omega) (by first | exact bl | (rw [q_setOn', t7]; exact bl))) dX12_visits_165 (Nat.le_of_ble_eq_true rfl) ?_
              refine q_iload C dX12_visits_168 rfl ?_
              refine q_iret C' dX12_visits_170 (by first | assumption | omega | exact q_tin _ | exact q_bIn _) ?_
              refine ⟨rfl, ?_⟩
              unfold mVisit vVisit
              first | (rw [if_pos (show 0 < sAns sd (M 61 0) c h a by omega), q_setSet, q_setOn']; done) | (rw [if_neg (show ¬ 0 < sAns sd (M 61 0) c h a by omega)]; done)
