def sCallsAt (m : Int) (v : Int → Int) (h : Int) : Int := sSum (fun c => v (20 + (6 * c + h))) m
theorem sCallsAt_in {m n : Int} {v : Int → Int} (hm : 0 ≤ m ∧ m ≤ 6) (hv : sRR m n v) {h : Int} (hh : 0 ≤ h ∧ h < n) : 0 ≤ sCallsAt m v h ∧ sCallsAt m v h ≤ 5994 := by
  have := sSum_b (f := fun c => v (20 + (6 * c + h))) (n := m) (B := 999) hm.1 (fun k h1 h2 => (hv.2.2.2.2.1 k h h1 h2 hh.1 hh.2).1)
  unfold sCallsAt
  omega
theorem xCalls_eq {M : qMem} {u : Nat} {m n : Int} {v : Int → Int} (hm : 0 ≤ m ∧ m ≤ 6) (hH : xH M u m n v) {h : Int} (hh : 0 ≤ h ∧ h < 6) : xCalls M u h = if h < n then sCallsAt m v h else 0 := by
  have hc := hH.2.2.2.2.1
  unfold xCalls sCallsAt
  by_cases e : h < n
  · rw [if_pos e, sSum_z hm.1 hm.2 (fun k h1 h2 => (hc k h (by omega) h2 hh.1 hh.2).2 (by omega))]
    exact sSum_c (fun k h1 h2 => ((hc k h h1 (by omega) hh.1 hh.2).1 ⟨h2, e⟩).1)
  · rw [if_neg e, sSum_z (n := 0) (by omega) (by omega) (fun k h1 h2 => (hc k h h1 h2 hh.1 hh.2).2 (by omega))]
    rfl
theorem xCalls_b {M : qMem} {u : Nat} {m n : Int} {v : Int → Int} (hH : xH M u m n v) (hv : sRR m n v) : ∀ k, 0 ≤ k → k < 36 → 0 ≤ M 15 u k ∧ M 15 u k ≤ 999 := by
  intro k h0 h1
  have hc := hH.2.2.2.2.1 (k / 6) (k % 6) (by omega) (by omega) (by omega) (by omega)
  rw [show k / 6 * 6 + k % 6 = k by omega] at hc
  by_cases e : k / 6 < m ∧ k % 6 < n
  · rw [(hc.1 e).1]
    exact (hv.2.2.2.2.1 (k / 6) (k % 6) (by omega) e.1 (by omega) e.2).1
  · rw [hc.2 e]; omega
def sSaidN (mn : Int) : Int := sSum (fun k => qB (sSaid mn k)) 48
def sTold (sd : sSD) (v : Int → Int) (tx sn bk un w : Int) : Int := if w = 0 then sd 0 0 else if w = 1 then sd 4 0 else if w = 2 then sd 5 0 else if w = 3 then tx else if w = 4 then v 0 else if w = 5 then v 1 else if w = 6 then sSum (fun h => sCallsAt (sd 4 0) v h) (sd 5 0) else if w = 7 then (sAm (fun h => sCallsAt (sd 4 0) v h) (-1) 0 (sd 5 0)).1 else if w = 8 then (sAm (fun h => v (2 + h)) (-1) (-1) (sd 5 0)).1 else if w = 9 then sSaidN (sd 0 0) else if w = 10 then v 98 else if w = 11 then sn else if w = 12 then bk else if w = 13 then un else -1000000002
theorem xAll_eq {M : qMem} {m n : Int} {v : Int → Int} (hm : 0 ≤ m ∧ m ≤ 6) (hn : 0 ≤ n ∧ n ≤ 6) (hH : xH M 0 m n v) : sSum (fun h => xCalls M 0 h) 6 = sSum (fun h => sCallsAt m v h) n := by
  rw [sSum_z hn.1 hn.2 (fun k h1 h2 => by rw [xCalls_eq hm hH ⟨by omega, h2⟩, if_neg (by omega)])]
  exact sSum_c (fun k h1 h2 => by rw [xCalls_eq hm hH ⟨h1, by omega⟩, if_pos h2])
theorem xWel_eq {M : qMem} {m n : Int} {v : Int → Int} (hm : 0 ≤ m ∧ m ≤ 6) (hn : 0 ≤ n ∧ n ≤ 6) (hH : xH M 0 m n v) : sAm (fun h => xCalls M 0 h) (-1) 0 6 = sAm (fun h => sCallsAt m v h) (-1) 0 n := by
  rw [sAm_z hn.1 hn.2 (fun k h1 h2 => by rw [xCalls_eq hm hH ⟨by omega, h2⟩, if_neg (by omega)]; omega)]
  exact sAm_c (fun k h1 h2 => by rw [xCalls_eq hm hH ⟨h1, by omega⟩, if_pos h2])
theorem dX11_told_0 : decode cX11_told 0 = .ok (.iload_n 1, 1) := by decide +kernel
theorem dX11_told_1 : decode cX11_told 1 = .ok (.tableswitch 196 0 13 #[71, 79, 87, 95, 103, 111, 119, 127, 135, 150, 161, 172, 180, 188], 71) := by decide +kernel
theorem dX11_told_72 : decode cX11_told 72 = .ok (.aload_n 0, 1) := by decide +kernel
theorem dX11_told_73 : decode cX11_told 73 = .ok (.getfield 31, 3) := by decide +kernel
theorem dX11_told_76 : decode cX11_told 76 = .ok (.getfield 128, 3) := by decide +kernel
theorem dX11_told_79 : decode cX11_told 79 = .ok (.ireturn, 1) := by decide +kernel
theorem dX11_told_80 : decode cX11_told 80 = .ok (.aload_n 0, 1) := by decide +kernel
theorem dX11_told_81 : decode cX11_told 81 = .ok (.getfield 31, 3) := by decide +kernel
theorem dX11_told_84 : decode cX11_told 84 = .ok (.getfield 122, 3) := by decide +kernel
theorem dX11_told_87 : decode cX11_told 87 = .ok (.ireturn, 1) := by decide +kernel
theorem dX11_told_88 : decode cX11_told 88 = .ok (.aload_n 0, 1) := by decide +kernel
theorem dX11_told_89 : decode cX11_told 89 = .ok (.getfield 31, 3) := by decide +kernel
theorem dX11_told_92 : decode cX11_told 92 = .ok (.getfield 131, 3) := by decide +kernel
theorem dX11_told_95 : decode cX11_told 95 = .ok (.ireturn, 1) := by decide +kernel
theorem dX11_told_96 : decode cX11_told 96 = .ok (.aload_n 0, 1) := by decide +kernel
theorem dX11_told_97 : decode cX11_told 97 = .ok (.getfield 21, 3) := by decide +kernel
theorem dX11_told_100 : decode cX11_told 100 = .ok (.getfield 95, 3) := by decide +kernel
theorem dX11_told_103 : decode cX11_told 103 = .ok (.ireturn, 1) := by decide +kernel
theorem dX11_told_104 : decode cX11_told 104 = .ok (.aload_n 0, 1) := by decide +kernel
theorem dX11_told_105 : decode cX11_told 105 = .ok (.getfield 34, 3) := by decide +kernel
theorem dX11_told_108 : decode cX11_told 108 = .ok (.getfield 134, 3) := by decide +kernel
theorem dX11_told_111 : decode cX11_told 111 = .ok (.ireturn, 1) := by decide +kernel
theorem dX11_told_112 : decode cX11_told 112 = .ok (.aload_n 0, 1) := by decide +kernel
theorem dX11_told_113 : decode cX11_told 113 = .ok (.getfield 34, 3) := by decide +kernel
theorem dX11_told_116 : decode cX11_told 116 = .ok (.getfield 137, 3) := by decide +kernel
theorem dX11_told_119 : decode cX11_told 119 = .ok (.ireturn, 1) := by decide +kernel
theorem dX11_told_120 : decode cX11_told 120 = .ok (.aload_n 0, 1) := by decide +kernel
theorem dX11_told_121 : decode cX11_told 121 = .ok (.getfield 34, 3) := by decide +kernel
theorem dX11_told_124 : decode cX11_told 124 = .ok (.invokevirtual 140, 3) := by decide +kernel
theorem dX11_told_127 : decode cX11_told 127 = .ok (.ireturn, 1) := by decide +kernel
theorem dX11_told_128 : decode cX11_told 128 = .ok (.aload_n 0, 1) := by decide +kernel
theorem dX11_told_129 : decode cX11_told 129 = .ok (.getfield 34, 3) := by decide +kernel
theorem dX11_told_132 : decode cX11_told 132 = .ok (.invokevirtual 144, 3) := by decide +kernel
theorem dX11_told_135 : decode cX11_told 135 = .ok (.ireturn, 1) := by decide +kernel
theorem dX11_told_136 : decode cX11_told 136 = .ok (.aload_n 0, 1) := by decide +kernel
theorem dX11_told_137 : decode cX11_told 137 = .ok (.getfield 34, 3) := by decide +kernel
theorem dX11_told_140 : decode cX11_told 140 = .ok (.aload_n 0, 1) := by decide +kernel
theorem dX11_told_141 : decode cX11_told 141 = .ok (.getfield 31, 3) := by decide +kernel
theorem dX11_told_144 : decode cX11_told 144 = .ok (.getfield 131, 3) := by decide +kernel
theorem dX11_told_147 : decode cX11_told 147 = .ok (.invokevirtual 147, 3) := by decide +kernel
theorem dX11_told_150 : decode cX11_told 150 = .ok (.ireturn, 1) := by decide +kernel
theorem dX11_told_151 : decode cX11_told 151 = .ok (.aload_n 0, 1) := by decide +kernel
theorem dX11_told_152 : decode cX11_told 152 = .ok (.getfield 31, 3) := by decide +kernel
theorem dX11_told_155 : decode cX11_told 155 = .ok (.getfield 128, 3) := by decide +kernel
theorem dX11_told_158 : decode cX11_told 158 = .ok (.invokestatic 151, 3) := by decide +kernel
theorem dX11_told_161 : decode cX11_told 161 = .ok (.ireturn, 1) := by decide +kernel
theorem dX11_told_162 : decode cX11_told 162 = .ok (.aload_n 0, 1) := by decide +kernel
theorem dX11_told_163 : decode cX11_told 163 = .ok (.getfield 34, 3) := by decide +kernel
theorem dX11_told_166 : decode cX11_told 166 = .ok (.getfield 156, 3) := by decide +kernel
theorem dX11_told_169 : decode cX11_told 169 = .ok (.getfield 160, 3) := by decide +kernel
theorem dX11_told_172 : decode cX11_told 172 = .ok (.ireturn, 1) := by decide +kernel
theorem dX11_told_173 : decode cX11_told 173 = .ok (.aload_n 0, 1) := by decide +kernel
theorem dX11_told_174 : decode cX11_told 174 = .ok (.getfield 71, 3) := by decide +kernel
theorem dX11_told_177 : decode cX11_told 177 = .ok (.getfield 163, 3) := by decide +kernel
theorem dX11_told_180 : decode cX11_told 180 = .ok (.ireturn, 1) := by decide +kernel
theorem dX11_told_181 : decode cX11_told 181 = .ok (.aload_n 0, 1) := by decide +kernel
theorem dX11_told_182 : decode cX11_told 182 = .ok (.getfield 78, 3) := by decide +kernel
theorem dX11_told_185 : decode cX11_told 185 = .ok (.getfield 164, 3) := by decide +kernel
theorem dX11_told_188 : decode cX11_told 188 = .ok (.ireturn, 1) := by decide +kernel
theorem dX11_told_189 : decode cX11_told 189 = .ok (.aload_n 0, 1) := by decide +kernel
theorem dX11_told_190 : decode cX11_told 190 = .ok (.getfield 54, 3) := by decide +kernel
theorem dX11_told_193 : decode cX11_told 193 = .ok (.getfield 165, 3) := by decide +kernel
theorem dX11_told_196 : decode cX11_told 196 = .ok (.ireturn, 1) := by decide +kernel
theorem dX11_told_197 : decode cX11_told 197 = .ok (.ldc 90, 2) := by decide +kernel
theorem dX11_told_199 : decode cX11_told 199 = .ok (.ireturn, 1) := by decide +kernel
set_option maxRecDepth 4000 in
set_option maxHeartbeats 4000000 in
theorem m_X11_told (l : Launch) (g : qGm) (M : qMem) {sd : sSD} (hs : sRS sd) (hS : xS M sd) {v : Int → Int} (hv : sRR (sd 4 0) (sd 5 0) v) (hH : xH M 0 (sd 4 0) (sd 5 0) v) {w : Int} (hwq : qIn w) (htx : 0 ≤ M 1 0 2 ∧ M 1 0 2 ≤ 240) : qOk l g 5 yX11_told cX11_told 2 (some .int) [qR g 0 0, qI w] M (qEv (some (sTold sd v (M 1 0 2) (M 29 0 2) (M 32 0 2) (M 26 0 2) w)) M) := by
  refine q_ok (by decide +kernel) (Nat.le_of_ble_eq_true rfl) (fun X C' hn => ?_)
  have C := C'.1
  have hm6 := hs.2.1
  have hn6 := hs.2.2.1
  have w0 := hS.1
  have w1 := hS.2.1
  have w2 := hS.2.2.1
  have hcb := xCalls_b hH hv
  have hmnq := hs.1
  refine q_iloadn C dX11_told_0 rfl ?_
  by_cases ht1 : w < 0 ∨ 13 < w
  · refine q_tsOut C 197 dX11_told_1 (by first | assumption | omega | exact q_tin _ | exact q_bIn _) ht1 (by decide) ?_
    refine q_ldc C (z := -1000000002) q_ci_RX11_90 (by decide) dX11_told_197 ?_
    refine q_iret C' dX11_told_199 (by first | assumption | omega | exact q_tin _ | exact q_bIn _) ?_
    refine ⟨congrArg some ?_, rfl⟩
    unfold sTold
    first | (simp only [Int.reduceEq, ↓reduceIte] <;> first | rfl | assumption | omega | (rw [xAll_eq hm6 hn6 hH]; done) | (rw [xWel_eq hm6 hn6 hH]; done) | (rw [hH.1]; done) | (rw [hH.2.1]; done) | (rw [hH.2.2.2.2.2.1]; done) | (rw [w2]; exact congrArg Prod.fst (sAm_c (fun k h1 h2 => hH.2.2.1 k h1 h2))) | (rw [w0]; rfl)) | (repeat (rw [if_neg (by omega)]))
  obtain rfl | rfl | rfl | rfl | rfl | rfl | rfl | rfl | rfl | rfl | rfl | rfl | rfl | rfl : w = 0 ∨ w = 1 ∨ w = 2 ∨ w = 3 ∨ w = 4 ∨ w = 5 ∨ w = 6 ∨ w = 7 ∨ w = 8 ∨ w = 9 ∨ w = 10 ∨ w = 11 ∨ w = 12 ∨ w = 13 := by omega
  · refine q_tsIn C (off := 71) 72 dX11_told_1 (by decide) (by decide) (by decide) (by decide) (by decide) ?_
    refine q_aloadn C dX11_told_72 rfl ?_
    refine gf_RX11_31 C dX11_told_73 ?_
    refine gf_RX11_128 C (by decide) dX11_told_76 (fun r76 => ?_)
    refine q_iret C' dX11_told_79 (by first | assumption | omega | exact q_tin _ | exact q_bIn _) ?_
    refine ⟨congrArg some ?_, rfl⟩
    unfold sTold
    first | (simp only [Int.reduceEq, ↓reduceIte] <;> first | rfl | assumption | omega | (rw [xAll_eq hm6 hn6 hH]; done) | (rw [xWel_eq hm6 hn6 hH]; done) | (rw [hH.1]; done) | (rw [hH.2.1]; done) | (rw [hH.2.2.2.2.2.1]; done) | (rw [w2]; exact congrArg Prod.fst (sAm_c (fun k h1 h2 => hH.2.2.1 k h1 h2))) | (rw [w0]; rfl)) | (repeat (rw [if_neg (by omega)]))
  · refine q_tsIn C (off := 79) 80 dX11_told_1 (by decide) (by decide) (by decide) (by decide) (by decide) ?_
    refine q_aloadn C dX11_told_80 rfl ?_
    refine gf_RX11_31 C dX11_told_81 ?_
    refine gf_RX11_122 C (by decide) dX11_told_84 (fun r84 => ?_)
    refine q_iret C' dX11_told_87 (by first | assumption | omega | exact q_tin _ | exact q_bIn _) ?_
    refine ⟨congrArg some ?_, rfl⟩
    unfold sTold
    first | (simp only [Int.reduceEq, ↓reduceIte] <;> first | rfl | assumption | omega | (rw [xAll_eq hm6 hn6 hH]; done) | (rw [xWel_eq hm6 hn6 hH]; done) | (rw [hH.1]; done) | (rw [hH.2.1]; done) | (rw [hH.2.2.2.2.2.1]; done) | (rw [w2]; exact congrArg Prod.fst (sAm_c (fun k h1 h2 => hH.2.2.1 k h1 h2))) | (rw [w0]; rfl)) | (repeat (rw [if_neg (by omega)]))
  · refine q_tsIn C (off := 87) 88 dX11_told_1 (by decide) (by decide) (by decide) (by decide) (by decide) ?_
    refine q_aloadn C dX11_told_88 rfl ?_
    refine gf_RX11_31 C dX11_told_89 ?_
    refine gf_RX11_131 C (by decide) dX11_told_92 (fun r92 => ?_)
    refine q_iret C' dX11_told_95 (by first | assumption | omega | exact q_tin _ | exact q_bIn _) ?_
    refine ⟨congrArg some ?_, rfl⟩
    unfold sTold
    first | (simp only [Int.reduceEq, ↓reduceIte] <;> first | rfl | assumption | omega | (rw [xAll_eq hm6 hn6 hH]; done) | (rw [xWel_eq hm6 hn6 hH]; done) | (rw [hH.1]; done) | (rw [hH.2.1]; done) | (rw [hH.2.2.2.2.2.1]; done) | (rw [w2]; exact congrArg Prod.fst (sAm_c (fun k h1 h2 => hH.2.2.1 k h1 h2))) | (rw [w0]; rfl)) | (repeat (rw [if_neg (by omega)]))
  · refine q_tsIn C (off := 95) 96 dX11_told_1 (by decide) (by decide) (by decide) (by decide) (by decide) ?_
    refine q_aloadn C dX11_told_96 rfl ?_
    refine gf_RX11_21 C dX11_told_97 ?_
    refine gf_RX11_95 C dX11_told_100 (fun r100 => ?_)
    refine q_iret C' dX11_told_103 (by first | assumption | omega | exact q_tin _ | exact q_bIn _) ?_
    refine ⟨congrArg some ?_, rfl⟩
    unfold sTold
    first | (simp only [Int.reduceEq, ↓reduceIte] <;> first | rfl | assumption | omega | (rw [xAll_eq hm6 hn6 hH]; done) | (rw [xWel_eq hm6 hn6 hH]; done) | (rw [hH.1]; done) | (rw [hH.2.1]; done) | (rw [hH.2.2.2.2.2.1]; done) | (rw [w2]; exact congrArg Prod.fst (sAm_c (fun k h1 h2 => hH.2.2.1 k h1 h2))) | (rw [w0]; rfl)) | (repeat (rw [if_neg (by omega)]))
  · refine q_tsIn C (off := 103) 104 dX11_told_1 (by decide) (by decide) (by decide) (by decide) (by decide) ?_
    refine q_aloadn C dX11_told_104 rfl ?_
    refine gf_RX11_34 C dX11_told_105 ?_
    refine gf_RX11_134 C (by decide) dX11_told_108 (fun r108 => ?_)
    refine q_iret C' dX11_told_111 (by first | assumption | omega | exact q_tin _ | exact q_bIn _) ?_
    refine ⟨congrArg some ?_, rfl⟩
    unfold sTold
    first | (simp only [Int.reduceEq, ↓reduceIte] <;> first | rfl | assumption | omega | (rw [xAll_eq hm6 hn6 hH]; done) | (rw [xWel_eq hm6 hn6 hH]; done) | (rw [hH.1]; done) | (rw [hH.2.1]; done) | (rw [hH.2.2.2.2.2.1]; done) | (rw [w2]; exact congrArg Prod.fst (sAm_c (fun k h1 h2 => hH.2.2.1 k h1 h2))) | (rw [w0]; rfl)) | (repeat (rw [if_neg (by omega)]))
  · refine q_tsIn C (off := 111) 112 dX11_told_1 (by decide) (by decide) (by decide) (by decide) (by decide) ?_
    refine q_aloadn C dX11_told_112 rfl ?_
    refine gf_RX11_34 C dX11_told_113 ?_
    refine gf_RX11_137 C (by decide) dX11_told_116 (fun r116 => ?_)
    refine q_iret C' dX11_told_119 (by first | assumption | omega | exact q_tin _ | exact q_bIn _) ?_
    refine ⟨congrArg some ?_, rfl⟩
    unfold sTold
    first | (simp only [Int.reduceEq, ↓reduceIte] <;> first | rfl | assumption | omega | (rw [xAll_eq hm6 hn6 hH]; done) | (rw [xWel_eq hm6 hn6 hH]; done) | (rw [hH.1]; done) | (rw [hH.2.1]; done) | (rw [hH.2.2.2.2.2.1]; done) | (rw [w2]; exact congrArg Prod.fst (sAm_c (fun k h1 h2 => hH.2.2.1 k h1 h2))) | (rw [w0]; rfl)) | (repeat (rw [if_neg (by omega)]))
  · refine q_tsIn C (off := 119) 120 dX11_told_1 (by decide) (by decide) (by decide) (by decide) (by decide) ?_
    refine q_aloadn C dX11_told_120 rfl ?_
    refine gf_RX11_34 C dX11_told_121 ?_
    refine cv_RX11_140 C (by decide) (by decide) (m_X2_callsOfAll l g _ (by decide) hcb) dX11_told_124 (Nat.le_of_ble_eq_true rfl) (fun r124 => ?_)
    refine q_iret C' dX11_told_127 (by first | assumption | omega | exact q_tin _ | exact q_bIn _) ?_
    refine ⟨congrArg some ?_, rfl⟩
    unfold sTold
    first | (simp only [Int.reduceEq, ↓reduceIte] <;> first | rfl | assumption | omega | (rw [xAll_eq hm6 hn6 hH]; done) | (rw [xWel_eq hm6 hn6 hH]; done) | (rw [hH.1]; done) | (rw [hH.2.1]; done) | (rw [hH.2.2.2.2.2.1]; done) | (rw [w2]; exact congrArg Prod.fst (sAm_c (fun k h1 h2 => hH.2.2.1 k h1 h2))) | (rw [w0]; rfl)) | (repeat (rw [if_neg (by omega)]))
  · refine q_tsIn C (off := 127) 128 dX11_told_1 (by decide) (by decide) (by decide) (by decide) (by decide) ?_
    refine q_aloadn C dX11_told_128 rfl ?_
    refine gf_RX11_34 C dX11_told_129 ?_
    refine cv_RX11_144 C (by decide) (by decide) (m_X2_welcome l g _ (by decide) hcb) dX11_told_132 (Nat.le_of_ble_eq_true rfl) (fun r132 => ?_)
    refine q_iret C' dX11_told_135 (by first | assumption | omega | exact q_tin _ | exact q_bIn _) ?_
    refine ⟨congrArg some ?_, rfl⟩
    unfold sTold
    first | (simp only [Int.reduceEq, ↓reduceIte] <;> first | rfl | assumption | omega | (rw [xAll_eq hm6 hn6 hH]; done) | (rw [xWel_eq hm6 hn6 hH]; done) | (rw [hH.1]; done) | (rw [hH.2.1]; done) | (rw [hH.2.2.2.2.2.1]; done) | (rw [w2]; exact congrArg Prod.fst (sAm_c (fun k h1 h2 => hH.2.2.1 k h1 h2))) | (rw [w0]; rfl)) | (repeat (rw [if_neg (by omega)]))
  · refine q_tsIn C (off := 135) 136 dX11_told_1 (by decide) (by decide) (by decide) (by decide) (by decide) ?_
    refine q_aloadn C dX11_told_136 rfl ?_
    refine gf_RX11_34 C dX11_told_137 ?_
    refine q_aloadn C dX11_told_140 rfl ?_
    refine gf_RX11_31 C dX11_told_141 ?_
    refine gf_RX11_131 C (by decide) dX11_told_144 (fun r144 => ?_)
    refine cv_RX11_147 C (by decide) (by decide) (m_X2_coldest l g _ (by decide) (by omega) (fun h a1 a2 => by rw [hH.2.2.1 h a1 (by omega)]; exact (hv.2.2.1 h a1 (by omega)).1)) dX11_told_147 (Nat.le_of_ble_eq_true rfl) (fun r147 => ?_)
    refine q_iret C' dX11_told_150 (by first | assumption | omega | exact q_tin _ | exact q_bIn _) ?_
    refine ⟨congrArg some ?_, rfl⟩
    unfold sTold
    first | (simp only [Int.reduceEq, ↓reduceIte] <;> first | rfl | assumption | omega | (rw [xAll_eq hm6 hn6 hH]; done) | (rw [xWel_eq hm6 hn6 hH]; done) | (rw [hH.1]; done) | (rw [hH.2.1]; done) | (rw [hH.2.2.2.2.2.1]; done) | (rw [w2]; exact congrArg Prod.fst (sAm_c (fun k h1 h2 => hH.2.2.1 k h1 h2))) | (rw [w0]; rfl)) | (repeat (rw [if_neg (by omega)]))
  · refine q_tsIn C (off := 150) 151 dX11_told_1 (by decide) (by decide) (by decide) (by decide) (by decide) ?_
    refine q_aloadn C dX11_told_151 rfl ?_
    refine gf_RX11_31 C dX11_told_152 ?_
    refine gf_RX11_128 C (by decide) dX11_told_155 (fun r155 => ?_)
    refine cv_RX11_151 C (by decide) (m_X1_countSaid l g _ (by assumption)) dX11_told_158 (Nat.le_of_ble_eq_true rfl) (fun r158 => ?_)
    refine q_iret C' dX11_told_161 (by first | assumption | omega | exact q_tin _ | exact q_bIn _) ?_
    refine ⟨congrArg some ?_, rfl⟩
    unfold sTold
    first | (simp only [Int.reduceEq, ↓reduceIte] <;> first | rfl | assumption | omega | (rw [xAll_eq hm6 hn6 hH]; done) | (rw [xWel_eq hm6 hn6 hH]; done) | (rw [hH.1]; done) | (rw [hH.2.1]; done) | (rw [hH.2.2.2.2.2.1]; done) | (rw [w2]; exact congrArg Prod.fst (sAm_c (fun k h1 h2 => hH.2.2.1 k h1 h2))) | (rw [w0]; rfl)) | (repeat (rw [if_neg (by omega)]))
  · refine q_tsIn C (off := 161) 162 dX11_told_1 (by decide) (by decide) (by decide) (by decide) (by decide) ?_
    refine q_aloadn C dX11_told_162 rfl ?_
    refine gf_RX11_34 C dX11_told_163 ?_
    refine gf_RX11_156 C (by decide) dX11_told_166 ?_
    refine gf_RX11_160 C (by decide) dX11_told_169 (fun r169 => ?_)
    refine q_iret C' dX11_told_172 (by first | assumption | omega | exact q_tin _ | exact q_bIn _) ?_
    refine ⟨congrArg some ?_, rfl⟩
    unfold sTold
    first | (simp only [Int.reduceEq, ↓reduceIte] <;> first | rfl | assumption | omega | (rw [xAll_eq hm6 hn6 hH]; done) | (rw [xWel_eq hm6 hn6 hH]; done) | (rw [hH.1]; done) | (rw [hH.2.1]; done) | (rw [hH.2.2.2.2.2.1]; done) | (rw [w2]; exact congrArg Prod.fst (sAm_c (fun k h1 h2 => hH.2.2.1 k h1 h2))) | (rw [w0]; rfl)) | (repeat (rw [if_neg (by omega)]))
  · refine q_tsIn C (off := 172) 173 dX11_told_1 (by decide) (by decide) (by decide) (by decide) (by decide) ?_
    refine q_aloadn C dX11_told_173 rfl ?_
    refine gf_RX11_71 C dX11_told_174 ?_
    refine gf_RX11_163 C dX11_told_177 (fun r177 => ?_)
    refine q_iret C' dX11_told_180 (by first | assumption | omega | exact q_tin _ | exact q_bIn _) ?_
    refine ⟨congrArg some ?_, rfl⟩
    unfold sTold
    first | (simp only [Int.reduceEq, ↓reduceIte] <;> first | rfl | assumption | omega | (rw [xAll_eq hm6 hn6 hH]; done) | (rw [xWel_eq hm6 hn6 hH]; done) | (rw [hH.1]; done) | (rw [hH.2.1]; done) | (rw [hH.2.2.2.2.2.1]; done) | (rw [w2]; exact congrArg Prod.fst (sAm_c (fun k h1 h2 => hH.2.2.1 k h1 h2))) | (rw [w0]; rfl)) | (repeat (rw [if_neg (by omega)]))
  · refine q_tsIn C (off := 180) 181 dX11_told_1 (by decide) (by decide) (by decide) (by decide) (by decide) ?_
    refine q_aloadn C dX11_told_181 rfl ?_
    refine gf_RX11_78 C dX11_told_182 ?_
    refine gf_RX11_164 C dX11_told_185 (fun r185 => ?_)
    refine q_iret C' dX11_told_188 (by first | assumption | omega | exact q_tin _ | exact q_bIn _) ?_
    refine ⟨congrArg some ?_, rfl⟩
    unfold sTold
    first | (simp only [Int.reduceEq, ↓reduceIte] <;> first | rfl | assumption | omega | (rw [xAll_eq hm6 hn6 hH]; done) | (rw [xWel_eq hm6 hn6 hH]; done) | (rw [hH.1]; done) | (rw [hH.2.1]; done) | (rw [hH.2.2.2.2.2.1]; done) | (rw [w2]; exact congrArg Prod.fst (sAm_c (fun k h1 h2 => hH.2.2.1 k h1 h2))) | (rw [w0]; rfl)) | (repeat (rw [if_neg (by omega)]))
  · refine q_tsIn C (off := 188) 189 dX11_told_1 (by decide) (by decide) (by decide) (by decide) (by decide) ?_
    refine q_aloadn C dX11_told_189 rfl ?_
    refine gf_RX11_54 C dX11_told_190 ?_
    refine gf_RX11_165 C dX11_told_193 (fun r193 => ?_)
    refine q_iret C' dX11_told_196 (by first | assumption | omega | exact q_tin _ | exact q_bIn _) ?_
    refine ⟨congrArg some ?_, rfl⟩
    unfold sTold
    first | (simp only [Int.reduceEq, ↓reduceIte] <;> first | rfl | assumption | omega | (rw [xAll_eq hm6 hn6 hH]; done) | (rw [xWel_eq hm6 hn6 hH]; done) | (rw [hH.1]; done) | (rw [hH.2.1]; done) | (rw [hH.2.2.2.2.2.1]; done) | (rw [w2]; exact congrArg Prod.fst (sAm_c (fun k h1 h2 => hH.2.2.1 k h1 h2))) | (rw [w0]; rfl)) | (repeat (rw [if_neg (by omega)]))
noncomputable def sComer (sd : sSD) (v : Int → Int) (c w : Int) : Int := if (0 ≤ c ∧ c < sd 4 0) then (if w = 0 then sd 1 c else if w = 1 then v (14 + c) else if w = 2 then v (8 + c) else if w = 3 then v (92 + c) else if w = 4 then (tEnd (fun c h => sSuit sd v c h) (sd 4 0) (sd 5 0)) 1 c else -1000000002) else -1000000001
noncomputable def sHouse (sd : sSD) (v : Int → Int) (h w : Int) : Int := if (0 ≤ h ∧ h < sd 5 0) then (if w = 0 then v (2 + h) else if w = 1 then sd 2 h else if w = 2 then (tEnd (fun c h => sSuit sd v c h) (sd 4 0) (sd 5 0)) 2 h else if w = 3 then sCallsAt (sd 4 0) v h else -1000000002) else -1000000001
def sPrize (sd : sSD) (h k : Int) : Int := if (0 ≤ h ∧ h < sd 5 0) then (if 0 ≤ k ∧ k ≤ 7 then sd 3 (8 * h + k) else -1000000002) else -1000000001
def sCalls (sd : sSD) (v : Int → Int) (c h : Int) : Int := if (0 ≤ c ∧ c < sd 4 0) ∧ (0 ≤ h ∧ h < sd 5 0) then v (20 + (6 * c + h)) else -1000000001
def sSign (sd : sSD) (a w : Int) : Int := if (0 ≤ a ∧ a < 48) ∧ (0 ≤ w ∧ w ≤ 1) then (if sd 0 0 = -1 then -1000000003 else if w = 0 then sMean a else qB (sSaid (sd 0 0) a)) else -1000000002
def sLogged (v : Int → Int) (i w : Int) : Int := if 0 ≤ w ∧ w ≤ 4 then (if 0 ≤ i ∧ i < v 98 then v (99 + (5 * i + w)) else -1) else -1000000002
def sSays (sd : sSD) (v : Int → Int) (c h a w : Int) : Int := if (0 ≤ c ∧ c < sd 4 0) ∧ (0 ≤ h ∧ h < sd 5 0) then (if (0 ≤ a ∧ a < 48) ∧ (0 ≤ w ∧ w ≤ 1) then (if w = 0 then sHeard sd v c h a else sAns sd v c h a) else -1000000002) else -1000000001
def sSigns (sd : sSD) (v : Int → Int) (c h w : Int) : Int := if (0 ≤ c ∧ c < sd 4 0) ∧ (0 ≤ h ∧ h < sd 5 0) then (if w = 0 then sSum (fun g => qB (sAns sd v c h g ≠ 0)) 48 else if w = 1 then (sAm (fun g => sPl sd v c h g) (-1) (-50) 48).1 else if w = 2 then sFr (fun g => decide ((sSaid (sd 0 0) g ∧ sMean g = v (8 + c)) ∧ sAns sd v c h g ≠ 0)) 48 0 else -1000000002) else -1000000001
def sMost (sd : sSD) (c h s : Int) : Int := sMx (fun g => sHr (sd 0 0) (sd 1 c) s (fun k => sd 3 (8 * h + k)) g) 0 48
def sGains (sd : sSD) (v : Int → Int) (c h : Int) : Int := if (0 ≤ c ∧ c < sd 4 0) ∧ (0 ≤ h ∧ h < sd 5 0) then sMost sd c h (if sHas (v (92 + c)) h then 0 else v (14 + c)) - sMost sd c h 0 else -1000000001
def sClear (sd : sSD) (k w : Int) : Int := if (0 ≤ k ∧ k ≤ 7) ∧ (0 ≤ w ∧ w ≤ 1) then (if sd 0 0 = -1 then -1000000003 else if w = 0 then sSum (fun g => qB (sSaid (sd 0 0) g ∧ sMean g = k)) 48 else sFr (fun g => decide (sSaid (sd 0 0) g ∧ sMean g = k)) 48 0) else -1000000002
def sLetIn (sd : sSD) (v : Int → Int) (c a : Int) : Int := if (0 ≤ c ∧ c < sd 4 0) then (if (0 ≤ a ∧ a < 48) then sOpen sd v c a else -1000000002) else -1000000001
def sRound (sd : sSD) (v : Int → Int) (c w : Int) : Int := if (0 ≤ c ∧ c < sd 4 0) then (if 0 ≤ w ∧ w ≤ 1 then (if w = 0 then (sAm (fun g => sPop (sOpen sd v c g)) (-1) (-1) 48).2 else (sAm (fun g => sPop (sOpen sd v c g)) (-1) (-1) 48).1) else -1000000002) else -1000000001
def sSuits (sd : sSD) (v : Int → Int) (c h : Int) : Int := if (0 ≤ c ∧ c < sd 4 0) ∧ (0 ≤ h ∧ h < sd 5 0) then sSuit sd v c h else -1000000001
def sDryN (q : Int) : Nat → Int
  | 0 => 1000000000
  | n + 1 => sDryN q n * q / 100
def sDry (n q : Int) : Int := if (0 ≤ n ∧ n ≤ 60) ∧ (0 ≤ q ∧ q ≤ 100) then sDryN q n.toNat else -1000000002
def sCould (mn np : Int) (pa va : Int → Int) (w : Int) : Int := if 0 ≤ w ∧ w ≤ 2 then (if mn = -1 then -1000000003 else if w = 0 then sSum (fun k => qB (sFits np pa va mn k = true)) 48 else if w = 1 then sFr (fun k => sFits np pa va mn k) 48 0 else sOr (fun k => if sFits np pa va mn k = true then qShl 1 (sMean k) else 0) 48) else -1000000002
def sPartQ (mn np : Int) (pa va : Int → Int) : Int := if mn = -1 then -1000000003 else (sAm (fun p => - sAlk np pa va mn p) (-1) (- sSum (fun k => qB (sFits np pa va mn k = true)) 48) 5).1
theorem sDryN_in {q : Int} (hq : 0 ≤ q ∧ q ≤ 100) (n : Nat) : 0 ≤ sDryN q n ∧ sDryN q n ≤ 1000000000 := by
  induction n with
  | zero => simp [sDryN]
  | succ n ih =>
    rw [sDryN]
    have h1 : 0 ≤ sDryN q n * q := Int.mul_nonneg ih.1 hq.1
    have h2 : sDryN q n * q ≤ 1000000000 * 100 := Int.mul_le_mul ih.2 hq.2 hq.1 (by omega)
    omega
theorem sAm_two {f : Int → Int} (hf : ∀ k, 0 ≤ k → k < 48 → 0 ≤ f k) : sAm f 0 0 48 = sAm f (-1) (-1) 48 := by
  have : ∀ j : Nat, j < 48 → sAmN f 0 0 (j + 1) = sAmN f (-1) (-1) (j + 1) := by
    intro j
    induction j with
    | zero =>
      intro _
      have := hf 0 (by omega) (by omega)
      simp only [sAmN]
      by_cases h : (0 : Int) < f 0
      · simp [h]; exact (if_pos (show (-1 : Int) < f 0 by omega)).symm
      · have e : f 0 = 0 := by omega
        simp [e]
    | succ j ih =>
      intro hj
      rw [show sAmN f 0 0 (j + 1 + 1) = (if (sAmN f 0 0 (j + 1)).2 < f ((j + 1 : Nat) : Int) then (((j + 1 : Nat) : Int), f ((j + 1 : Nat) : Int)) else sAmN f 0 0 (j + 1)) from rfl, ih (by omega)]
      rfl
  exact this 47 (by omega)
theorem dX11_fault_0 : decode cX11_fault 0 = .ok (.aload_n 0, 1) := by decide +kernel
theorem dX11_fault_1 : decode cX11_fault 1 = .ok (.getfield 21, 3) := by decide +kernel
theorem dX11_fault_4 : decode cX11_fault 4 = .ok (.getfield 125, 3) := by decide +kernel
theorem dX11_fault_7 : decode cX11_fault 7 = .ok (.ireturn, 1) := by decide +kernel
set_option maxRecDepth 4000 in
set_option maxHeartbeats 4000000 in
theorem m_X11_fault (l : Launch) (g : qGm) (M : qMem) : qOk l g 1 yX11_fault cX11_fault 1 (some .int) [qR g 0 0] M (qEv (some (M 1 0 4)) M) := by
  refine q_ok (by decide +kernel) (Nat.le_of_ble_eq_true rfl) (fun X C' hn => ?_)
  have C := C'.1
  refine q_aloadn C dX11_fault_0 rfl ?_
  refine gf_RX11_21 C dX11_fault_1 ?_
  refine gf_RX11_125 C dX11_fault_4 (fun r4 => ?_)
  refine q_iret C' dX11_fault_7 (by first | assumption | omega | exact q_tin _ | exact q_bIn _) ?_
  exact ⟨rfl, rfl⟩
theorem dX11_comer_0 : decode cX11_comer 0 = .ok (.aload_n 0, 1) := by decide +kernel
theorem dX11_comer_1 : decode cX11_comer 1 = .ok (.getfield 31, 3) := by decide +kernel
theorem dX11_comer_4 : decode cX11_comer 4 = .ok (.iload_n 1, 1) := by decide +kernel
theorem dX11_comer_5 : decode cX11_comer 5 = .ok (.invokevirtual 166, 3) := by decide +kernel
theorem dX11_comer_8 : decode cX11_comer 8 = .ok (.ifCond .ne 6, 3) := by decide +kernel
theorem dX11_comer_11 : decode cX11_comer 11 = .ok (.ldc 169, 2) := by decide +kernel
theorem dX11_comer_13 : decode cX11_comer 13 = .ok (.ireturn, 1) := by decide +kernel
theorem dX11_comer_14 : decode cX11_comer 14 = .ok (.iload_n 2, 1) := by decide +kernel
theorem dX11_comer_15 : decode cX11_comer 15 = .ok (.tableswitch 82 0 4 #[33, 43, 53, 63, 73], 33) := by decide +kernel
theorem dX11_comer_48 : decode cX11_comer 48 = .ok (.aload_n 0, 1) := by decide +kernel
theorem dX11_comer_49 : decode cX11_comer 49 = .ok (.getfield 31, 3) := by decide +kernel
theorem dX11_comer_52 : decode cX11_comer 52 = .ok (.getfield 170, 3) := by decide +kernel
theorem dX11_comer_55 : decode cX11_comer 55 = .ok (.iload_n 1, 1) := by decide +kernel
theorem dX11_comer_56 : decode cX11_comer 56 = .ok (.iaload, 1) := by decide +kernel
theorem dX11_comer_57 : decode cX11_comer 57 = .ok (.ireturn, 1) := by decide +kernel
theorem dX11_comer_58 : decode cX11_comer 58 = .ok (.aload_n 0, 1) := by decide +kernel
theorem dX11_comer_59 : decode cX11_comer 59 = .ok (.getfield 34, 3) := by decide +kernel
theorem dX11_comer_62 : decode cX11_comer 62 = .ok (.getfield 174, 3) := by decide +kernel
theorem dX11_comer_65 : decode cX11_comer 65 = .ok (.iload_n 1, 1) := by decide +kernel
theorem dX11_comer_66 : decode cX11_comer 66 = .ok (.iaload, 1) := by decide +kernel
theorem dX11_comer_67 : decode cX11_comer 67 = .ok (.ireturn, 1) := by decide +kernel
theorem dX11_comer_68 : decode cX11_comer 68 = .ok (.aload_n 0, 1) := by decide +kernel
theorem dX11_comer_69 : decode cX11_comer 69 = .ok (.getfield 34, 3) := by decide +kernel
theorem dX11_comer_72 : decode cX11_comer 72 = .ok (.getfield 177, 3) := by decide +kernel
theorem dX11_comer_75 : decode cX11_comer 75 = .ok (.iload_n 1, 1) := by decide +kernel
theorem dX11_comer_76 : decode cX11_comer 76 = .ok (.iaload, 1) := by decide +kernel
theorem dX11_comer_77 : decode cX11_comer 77 = .ok (.ireturn, 1) := by decide +kernel
theorem dX11_comer_78 : decode cX11_comer 78 = .ok (.aload_n 0, 1) := by decide +kernel
theorem dX11_comer_79 : decode cX11_comer 79 = .ok (.getfield 34, 3) := by decide +kernel
theorem dX11_comer_82 : decode cX11_comer 82 = .ok (.getfield 180, 3) := by decide +kernel
theorem dX11_comer_85 : decode cX11_comer 85 = .ok (.iload_n 1, 1) := by decide +kernel
theorem dX11_comer_86 : decode cX11_comer 86 = .ok (.iaload, 1) := by decide +kernel
theorem dX11_comer_87 : decode cX11_comer 87 = .ok (.ireturn, 1) := by decide +kernel
theorem dX11_comer_88 : decode cX11_comer 88 = .ok (.aload_n 0, 1) := by decide +kernel
theorem dX11_comer_89 : decode cX11_comer 89 = .ok (.getfield 47, 3) := by decide +kernel
theorem dX11_comer_92 : decode cX11_comer 92 = .ok (.iload_n 1, 1) := by decide +kernel
theorem dX11_comer_93 : decode cX11_comer 93 = .ok (.invokevirtual 183, 3) := by decide +kernel
theorem dX11_comer_96 : decode cX11_comer 96 = .ok (.ireturn, 1) := by decide +kernel
theorem dX11_comer_97 : decode cX11_comer 97 = .ok (.ldc 90, 2) := by decide +kernel
theorem dX11_comer_99 : decode cX11_comer 99 = .ok (.ireturn, 1) := by decide +kernel
set_option maxRecDepth 4000 in
set_option maxHeartbeats 4000000 in
theorem m_X11_comer (l : Launch) (g : qGm) (M : qMem) {sd : sSD} (hs : sRS sd) (hS : xS M sd) {v : Int → Int} (hv : sRR (sd 4 0) (sd 5 0) v) (hH : xH M 0 (sd 4 0) (sd 5 0) v) {c : Int} (hcq : qIn c) {w : Int} (hwq : qIn w) : qOk l g 7 yX11_comer cX11_comer 3 (some .int) [qR g 0 0, qI c, qI w] M (fun r N => r = some (sComer sd v c w) ∧ ∀ j, (j < 20 ∨ 24 < j) → N j = M j) := by
  refine q_ok (by decide +kernel) (Nat.le_of_ble_eq_true rfl) (fun X C' hn => ?_)
  have C := C'.1
  have hm6 := hs.2.1
  have hn6 := hs.2.2.1
  have w0 := hS.1
  have w1 := hS.2.1
  have w2 := hS.2.2.1
  have e1 := fun q : 0 ≤ c ∧ c < sd 4 0 => hH.2.2.2.1 c q.1 q.2
  have e2 := fun q : 0 ≤ c ∧ c < sd 4 0 => hS.2.2.2.1 c q.1 q.2
  refine q_aloadn C dX11_comer_0 rfl ?_
  refine gf_RX11_31 C dX11_comer_1 ?_
  refine q_iloadn C dX11_comer_4 rfl ?_
  refine cv_RX11_166 C (by decide) (by decide) (m_X7_hasComer l g _ (by decide) hcq) dX11_comer_5 (Nat.le_of_ble_eq_true rfl) (fun r5 => ?_)
  refine q_ifneB C 14 dX11_comer_8 (by decide) (fun h8 => ?_) (fun h8 => ?_)
  · refine q_iloadn C dX11_comer_14 rfl ?_
    by_cases ht15 : w < 0 ∨ 4 < w
    · refine q_tsOut C 97 dX11_comer_15 (by first | assumption | omega | exact q_tin _ | exact q_bIn _) ht15 (by decide) ?_
      refine q_ldc C (z := -1000000002) q_ci_RX11_90 (by decide) dX11_comer_97 ?_
      refine q_iret C' dX11_comer_99 (by first | assumption | omega | exact q_tin _ | exact q_bIn _) ?_
      first | (refine ⟨congrArg some ?_, fun _ _ => rfl⟩; unfold sComer; first | (rw [if_neg (by omega)]; done) | (rw [if_pos (by omega)]; simp only [Int.reduceEq, ↓reduceIte] <;> first | rfl | omega) | (rw [if_pos (by omega)]; repeat (rw [if_neg (by omega)]))) | (refine ⟨congrArg some ?_, (fun j hj => by rw [xMt_off _ _ (by omega)]; unfold xBg; funext u; simp only [q_rdSR, q_rdR]; rw [if_neg (by omega), if_neg (by omega)])⟩; unfold sComer; rw [if_pos (by omega)]; simp only [Int.reduceEq, ↓reduceIte])
    obtain rfl | rfl | rfl | rfl | rfl : w = 0 ∨ w = 1 ∨ w = 2 ∨ w = 3 ∨ w = 4 := by omega
    · refine q_tsIn C (off := 33) 48 dX11_comer_15 (by decide) (by decide) (by decide) (by decide) (by decide) ?_
      refine q_aloadn C dX11_comer_48 rfl ?_
      refine gf_RX11_31 C dX11_comer_49 ?_
      refine gf_RX11_170 C (by decide) dX11_comer_52 ?_
      refine q_iloadn C dX11_comer_55 rfl ?_
      refine q_iald C (by decide) rfl dX11_comer_56 (by omega) (by omega) (by decide) (fun r56 => ?_)
      refine q_iret C' dX11_comer_57 (by first | assumption | omega | exact q_tin _ | exact q_bIn _) ?_
      first | (refine ⟨congrArg some ?_, fun _ _ => rfl⟩; unfold sComer; first | (rw [if_neg (by omega)]; done) | (rw [if_pos (by omega)]; simp only [Int.reduceEq, ↓reduceIte] <;> first | rfl | omega) | (rw [if_pos (by omega)]; repeat (rw [if_neg (by omega)]))) | (refine ⟨congrArg some ?_, (fun j hj => by rw [xMt_off _ _ (by omega)]; unfold xBg; funext u; simp only [q_rdSR, q_rdR]; rw [if_neg (by omega), if_neg (by omega)])⟩; unfold sComer; rw [if_pos (by omega)]; simp only [Int.reduceEq, ↓reduceIte])
    · refine q_tsIn C (off := 43) 58 dX11_comer_15 (by decide) (by decide) (by decide) (by decide) (by decide) ?_
      refine q_aloadn C dX11_comer_58 rfl ?_
      refine gf_RX11_34 C dX11_comer_59 ?_
      refine gf_RX11_174 C (by decide) dX11_comer_62 ?_
      refine q_iloadn C dX11_comer_65 rfl ?_
      refine q_iald C (by decide) rfl dX11_comer_66 (by omega) (by omega) (by decide) (fun r66 => ?_)
      refine q_iret C' dX11_comer_67 (by first | assumption | omega | exact q_tin _ | exact q_bIn _) ?_
      first | (refine ⟨congrArg some ?_, fun _ _ => rfl⟩; unfold sComer; first | (rw [if_neg (by omega)]; done) | (rw [if_pos (by omega)]; simp only [Int.reduceEq, ↓reduceIte] <;> first | rfl | omega) | (rw [if_pos (by omega)]; repeat (rw [if_neg (by omega)]))) | (refine ⟨congrArg some ?_, (fun j hj => by rw [xMt_off _ _ (by omega)]; unfold xBg; funext u; simp only [q_rdSR, q_rdR]; rw [if_neg (by omega), if_neg (by omega)])⟩; unfold sComer; rw [if_pos (by omega)]; simp only [Int.reduceEq, ↓reduceIte])
    · refine q_tsIn C (off := 53) 68 dX11_comer_15 (by decide) (by decide) (by decide) (by decide) (by decide) ?_
      refine q_aloadn C dX11_comer_68 rfl ?_
      refine gf_RX11_34 C dX11_comer_69 ?_
      refine gf_RX11_177 C (by decide) dX11_comer_72 ?_
      refine q_iloadn C dX11_comer_75 rfl ?_
      refine q_iald C (by decide) rfl dX11_comer_76 (by omega) (by omega) (by decide) (fun r76 => ?_)
      refine q_iret C' dX11_comer_77 (by first | assumption | omega | exact q_tin _ | exact q_bIn _) ?_
      first | (refine ⟨congrArg some ?_, fun _ _ => rfl⟩; unfold sComer; first | (rw [if_neg (by omega)]; done) | (rw [if_pos (by omega)]; simp only [Int.reduceEq, ↓reduceIte] <;> first | rfl | omega) | (rw [if_pos (by omega)]; repeat (rw [if_neg (by omega)]))) | (refine ⟨congrArg some ?_, (fun j hj => by rw [xMt_off _ _ (by omega)]; unfold xBg; funext u; simp only [q_rdSR, q_rdR]; rw [if_neg (by omega), if_neg (by omega)])⟩; unfold sComer; rw [if_pos (by omega)]; simp only [Int.reduceEq, ↓reduceIte])
    · refine q_tsIn C (off := 63) 78 dX11_comer_15 (by decide) (by decide) (by decide) (by decide) (by decide) ?_
      refine q_aloadn C dX11_comer_78 rfl ?_
      refine gf_RX11_34 C dX11_comer_79 ?_
      refine gf_RX11_180 C (by decide) dX11_comer_82 ?_
      refine q_iloadn C dX11_comer_85 rfl ?_
      refine q_iald C (by decide) rfl dX11_comer_86 (by omega) (by omega) (by decide) (fun r86 => ?_)
      refine q_iret C' dX11_comer_87 (by first | assumption | omega | exact q_tin _ | exact q_bIn _) ?_
      first | (refine ⟨congrArg some ?_, fun _ _ => rfl⟩; unfold sComer; first | (rw [if_neg (by omega)]; done) | (rw [if_pos (by omega)]; simp only [Int.reduceEq, ↓reduceIte] <;> first | rfl | omega) | (rw [if_pos (by omega)]; repeat (rw [if_neg (by omega)]))) | (refine ⟨congrArg some ?_, (fun j hj => by rw [xMt_off _ _ (by omega)]; unfold xBg; funext u; simp only [q_rdSR, q_rdR]; rw [if_neg (by omega), if_neg (by omega)])⟩; unfold sComer; rw [if_pos (by omega)]; simp only [Int.reduceEq, ↓reduceIte])
    · refine q_tsIn C (off := 73) 88 dX11_comer_15 (by decide) (by decide) (by decide) (by decide) (by decide) ?_
      refine q_aloadn C dX11_comer_88 rfl ?_
      refine gf_RX11_47 C dX11_comer_89 ?_
      refine q_iloadn C dX11_comer_92 rfl ?_
      refine cw_RX11_183 C (by decide) (m_X5_houseOf l g _ hs hS hv hH (by omega)) dX11_comer_93 (Nat.le_of_ble_eq_true rfl) (fun r N hz hp => ?_)
      obtain ⟨rfl, gv, rfl⟩ := hp
      have hzz := hz _ rfl
      show qV l g X _ _ _ (qI _ :: [])
      refine q_iret C' dX11_comer_96 (by first | assumption | omega | exact q_tin _ | exact q_bIn _) ?_
      first | (refine ⟨congrArg some ?_, fun _ _ => rfl⟩; unfold sComer; first | (rw [if_neg (by omega)]; done) | (rw [if_pos (by omega)]; simp only [Int.reduceEq, ↓reduceIte] <;> first | rfl | omega) | (rw [if_pos (by omega)]; repeat (rw [if_neg (by omega)]))) | (refine ⟨congrArg some ?_, (fun j hj => by rw [xMt_off _ _ (by omega)]; unfold xBg; funext u; simp only [q_rdSR, q_rdR]; rw [if_neg (by omega), if_neg (by omega)])⟩; unfold sComer; rw [if_pos (by omega)]; simp only [Int.reduceEq, ↓reduceIte])
  · refine q_ldc C (z := -1000000001) q_ci_RX11_169 (by decide) dX11_comer_11 ?_
    refine q_iret C' dX11_comer_13 (by first | assumption | omega | exact q_tin _ | exact q_bIn _) ?_
    first | (refine ⟨congrArg some ?_, fun _ _ => rfl⟩; unfold sComer; first | (rw [if_neg (by omega)]; done) | (rw [if_pos (by omega)]; simp only [Int.reduceEq, ↓reduceIte] <;> first | rfl | omega) | (rw [if_pos (by omega)]; repeat (rw [if_neg (by omega)]))) | (refine ⟨congrArg some ?_, (fun j hj => by rw [xMt_off _ _ (by omega)]; unfold xBg; funext u; simp only [q_rdSR, q_rdR]; rw [if_neg (by omega), if_neg (by omega)])⟩; unfold sComer; rw [if_pos (by omega)]; simp only [Int.reduceEq, ↓reduceIte])
theorem dX11_house_0 : decode cX11_house 0 = .ok (.aload_n 0, 1) := by decide +kernel
theorem dX11_house_1 : decode cX11_house 1 = .ok (.getfield 31, 3) := by decide +kernel
theorem dX11_house_4 : decode cX11_house 4 = .ok (.iload_n 1, 1) := by decide +kernel
theorem dX11_house_5 : decode cX11_house 5 = .ok (.invokevirtual 186, 3) := by decide +kernel
theorem dX11_house_8 : decode cX11_house 8 = .ok (.ifCond .ne 6, 3) := by decide +kernel
theorem dX11_house_11 : decode cX11_house 11 = .ok (.ldc 169, 2) := by decide +kernel
theorem dX11_house_13 : decode cX11_house 13 = .ok (.ireturn, 1) := by decide +kernel
theorem dX11_house_14 : decode cX11_house 14 = .ok (.iload_n 2, 1) := by decide +kernel
theorem dX11_house_15 : decode cX11_house 15 = .ok (.tableswitch 67 0 3 #[29, 39, 49, 58], 29) := by decide +kernel
theorem dX11_house_44 : decode cX11_house 44 = .ok (.aload_n 0, 1) := by decide +kernel
theorem dX11_house_45 : decode cX11_house 45 = .ok (.getfield 34, 3) := by decide +kernel
theorem dX11_house_48 : decode cX11_house 48 = .ok (.getfield 189, 3) := by decide +kernel
theorem dX11_house_51 : decode cX11_house 51 = .ok (.iload_n 1, 1) := by decide +kernel
theorem dX11_house_52 : decode cX11_house 52 = .ok (.iaload, 1) := by decide +kernel
theorem dX11_house_53 : decode cX11_house 53 = .ok (.ireturn, 1) := by decide +kernel
theorem dX11_house_54 : decode cX11_house 54 = .ok (.aload_n 0, 1) := by decide +kernel
theorem dX11_house_55 : decode cX11_house 55 = .ok (.getfield 31, 3) := by decide +kernel
theorem dX11_house_58 : decode cX11_house 58 = .ok (.getfield 192, 3) := by decide +kernel
theorem dX11_house_61 : decode cX11_house 61 = .ok (.iload_n 1, 1) := by decide +kernel
theorem dX11_house_62 : decode cX11_house 62 = .ok (.iaload, 1) := by decide +kernel
theorem dX11_house_63 : decode cX11_house 63 = .ok (.ireturn, 1) := by decide +kernel
theorem dX11_house_64 : decode cX11_house 64 = .ok (.aload_n 0, 1) := by decide +kernel
theorem dX11_house_65 : decode cX11_house 65 = .ok (.getfield 47, 3) := by decide +kernel
theorem dX11_house_68 : decode cX11_house 68 = .ok (.iload_n 1, 1) := by decide +kernel
theorem dX11_house_69 : decode cX11_house 69 = .ok (.invokevirtual 195, 3) := by decide +kernel
theorem dX11_house_72 : decode cX11_house 72 = .ok (.ireturn, 1) := by decide +kernel
theorem dX11_house_73 : decode cX11_house 73 = .ok (.aload_n 0, 1) := by decide +kernel
theorem dX11_house_74 : decode cX11_house 74 = .ok (.getfield 34, 3) := by decide +kernel
theorem dX11_house_77 : decode cX11_house 77 = .ok (.iload_n 1, 1) := by decide +kernel
theorem dX11_house_78 : decode cX11_house 78 = .ok (.invokevirtual 198, 3) := by decide +kernel
theorem dX11_house_81 : decode cX11_house 81 = .ok (.ireturn, 1) := by decide +kernel
theorem dX11_house_82 : decode cX11_house 82 = .ok (.ldc 90, 2) := by decide +kernel
theorem dX11_house_84 : decode cX11_house 84 = .ok (.ireturn, 1) := by decide +kernel
set_option maxRecDepth 4000 in
set_option maxHeartbeats 4000000 in
theorem m_X11_house (l : Launch) (g : qGm) (M : qMem) {sd : sSD} (hs : sRS sd) (hS : xS M sd) {v : Int → Int} (hv : sRR (sd 4 0) (sd 5 0) v) (hH : xH M 0 (sd 4 0) (sd 5 0) v) {h : Int} (hhq : qIn h) {w : Int} (hwq : qIn w) : qOk l g 7 yX11_house cX11_house 3 (some .int) [qR g 0 0, qI h, qI w] M (fun r N => r = some (sHouse sd v h w) ∧ ∀ j, (j < 20 ∨ 24 < j) → N j = M j) := by
  refine q_ok (by decide +kernel) (Nat.le_of_ble_eq_true rfl) (fun X C' hn => ?_)
  have C := C'.1
  have hm6 := hs.2.1
  have hn6 := hs.2.2.1
  have w0 := hS.1
  have w1 := hS.2.1
  have w2 := hS.2.2.1
  have e3 := fun q : 0 ≤ h ∧ h < sd 5 0 => hH.2.2.1 h q.1 q.2
  have e4 := fun q : 0 ≤ h ∧ h < sd 5 0 => hS.2.2.2.2.1 h q.1 q.2
  have hcb := xCalls_b hH hv
  have hce := fun q : 0 ≤ h ∧ h < sd 5 0 => xCalls_eq hm6 hH (h := h) (by omega)
  refine q_aloadn C dX11_house_0 rfl ?_
  refine gf_RX11_31 C dX11_house_1 ?_
  refine q_iloadn C dX11_house_4 rfl ?_
  refine cv_RX11_186 C (by decide) (by decide) (m_X7_hasHouse l g _ (by decide) hhq) dX11_house_5 (Nat.le_of_ble_eq_true rfl) (fun r5 => ?_)
  refine q_ifneB C 14 dX11_house_8 (by decide) (fun h8 => ?_) (fun h8 => ?_)
  · refine q_iloadn C dX11_house_14 rfl ?_
    by_cases ht15 : w < 0 ∨ 3 < w
    · refine q_tsOut C 82 dX11_house_15 (by first | assumption | omega | exact q_tin _ | exact q_bIn _) ht15 (by decide) ?_
      refine q_ldc C (z := -1000000002) q_ci_RX11_90 (by decide) dX11_house_82 ?_
      refine q_iret C' dX11_house_84 (by first | assumption | omega | exact q_tin _ | exact q_bIn _) ?_
      first | (refine ⟨congrArg some ?_, fun _ _ => rfl⟩; unfold sHouse; first | (rw [if_neg (by omega)]; done) | (rw [if_pos (by omega)]; simp only [Int.reduceEq, ↓reduceIte] <;> first | rfl | omega | (rw [hce (by omega), if_pos (by omega)]; done)) | (rw [if_pos (by omega)]; repeat (rw [if_neg (by omega)]))) | (refine ⟨congrArg some ?_, (fun j hj => by rw [xMt_off _ _ (by omega)]; unfold xBg; funext u; simp only [q_rdSR, q_rdR]; rw [if_neg (by omega), if_neg (by omega)])⟩; unfold sHouse; rw [if_pos (by omega)]; simp only [Int.reduceEq, ↓reduceIte])
    obtain rfl | rfl | rfl | rfl : w = 0 ∨ w = 1 ∨ w = 2 ∨ w = 3 := by omega
    · refine q_tsIn C (off := 29) 44 dX11_house_15 (by decide) (by decide) (by decide) (by decide) (by decide) ?_
      refine q_aloadn C dX11_house_44 rfl ?_
      refine gf_RX11_34 C dX11_house_45 ?_
      refine gf_RX11_189 C (by decide) dX11_house_48 ?_
      refine q_iloadn C dX11_house_51 rfl ?_
      refine q_iald C (by decide) rfl dX11_house_52 (by omega) (by omega) (by decide) (fun r52 => ?_)
      refine q_iret C' dX11_house_53 (by first | assumption | omega | exact q_tin _ | exact q_bIn _) ?_
      first | (refine ⟨congrArg some ?_, fun _ _ => rfl⟩; unfold sHouse; first | (rw [if_neg (by omega)]; done) | (rw [if_pos (by omega)]; simp only [Int.reduceEq, ↓reduceIte] <;> first | rfl | omega | (rw [hce (by omega), if_pos (by omega)]; done)) | (rw [if_pos (by omega)]; repeat (rw [if_neg (by omega)]))) | (refine ⟨congrArg some ?_, (fun j hj => by rw [xMt_off _ _ (by omega)]; unfold xBg; funext u; simp only [q_rdSR, q_rdR]; rw [if_neg (by omega), if_neg (by omega)])⟩; unfold sHouse; rw [if_pos (by omega)]; simp only [Int.reduceEq, ↓reduceIte])
    · refine q_tsIn C (off := 39) 54 dX11_house_15 (by decide) (by decide) (by decide) (by decide) (by decide) ?_
      refine q_aloadn C dX11_house_54 rfl ?_
      refine gf_RX11_31 C dX11_house_55 ?_
      refine gf_RX11_192 C (by decide) dX11_house_58 ?_
      refine q_iloadn C dX11_house_61 rfl ?_
      refine q_iald C (by decide) rfl dX11_house_62 (by omega) (by omega) (by decide) (fun r62 => ?_)
      refine q_iret C' dX11_house_63 (by first | assumption | omega | exact q_tin _ | exact q_bIn _) ?_
      first | (refine ⟨congrArg some ?_, fun _ _ => rfl⟩; unfold sHouse; first | (rw [if_neg (by omega)]; done) | (rw [if_pos (by omega)]; simp only [Int.reduceEq, ↓reduceIte] <;> first | rfl | omega | (rw [hce (by omega), if_pos (by omega)]; done)) | (rw [if_pos (by omega)]; repeat (rw [if_neg (by omega)]))) | (refine ⟨congrArg some ?_, (fun j hj => by rw [xMt_off _ _ (by omega)]; unfold xBg; funext u; simp only [q_rdSR, q_rdR]; rw [if_neg (by omega), if_neg (by omega)])⟩; unfold sHouse; rw [if_pos (by omega)]; simp only [Int.reduceEq, ↓reduceIte])
    · refine q_tsIn C (off := 49) 64 dX11_house_15 (by decide) (by decide) (by decide) (by decide) (by decide) ?_
      refine q_aloadn C dX11_house_64 rfl ?_
      refine gf_RX11_47 C dX11_house_65 ?_
      refine q_iloadn C dX11_house_68 rfl ?_
      refine cw_RX11_195 C (by decide) (m_X5_comerOf l g _ hs hS hv hH (by omega)) dX11_house_69 (Nat.le_of_ble_eq_true rfl) (fun r N hz hp => ?_)
      obtain ⟨rfl, gv, rfl⟩ := hp
      have hzz := hz _ rfl
      show qV l g X _ _ _ (qI _ :: [])
      refine q_iret C' dX11_house_72 (by first | assumption | omega | exact q_tin _ | exact q_bIn _) ?_
      first | (refine ⟨congrArg some ?_, fun _ _ => rfl⟩; unfold sHouse; first | (rw [if_neg (by omega)]; done) | (rw [if_pos (by omega)]; simp only [Int.reduceEq, ↓reduceIte] <;> first | rfl | omega | (rw [hce (by omega), if_pos (by omega)]; done)) | (rw [if_pos (by omega)]; repeat (rw [if_neg (by omega)]))) | (refine ⟨congrArg some ?_, (fun j hj => by rw [xMt_off _ _ (by omega)]; unfold xBg; funext u; simp only [q_rdSR, q_rdR]; rw [if_neg (by omega), if_neg (by omega)])⟩; unfold sHouse; rw [if_pos (by omega)]; simp only [Int.reduceEq, ↓reduceIte])
    · refine q_tsIn C (off := 58) 73 dX11_house_15 (by decide) (by decide) (by decide) (by decide) (by decide) ?_
      refine q_aloadn C dX11_house_73 rfl ?_
      refine gf_RX11_34 C dX11_house_74 ?_
      refine q_iloadn C dX11_house_77 rfl ?_
      refine cv_RX11_198 C (by decide) (by decide) (m_X2_callsAt l g _ (by decide) (by omega) hcb) dX11_house_78 (Nat.le_of_ble_eq_true rfl) (fun r78 => ?_)
      refine q_iret C' dX11_house_81 (by first | assumption | omega | exact q_tin _ | exact q_bIn _) ?_
      first | (refine ⟨congrArg some ?_, fun _ _ => rfl⟩; unfold sHouse; first | (rw [if_neg (by omega)]; done) | (rw [if_pos (by omega)]; simp only [Int.reduceEq, ↓reduceIte] <;> first | rfl | omega | (rw [hce (by omega), if_pos (by omega)]; done)) | (rw [if_pos (by omega)]; repeat (rw [if_neg (by omega)]))) | (refine ⟨congrArg some ?_, (fun j hj => by rw [xMt_off _ _ (by omega)]; unfold xBg; funext u; simp only [q_rdSR, q_rdR]; rw [if_neg (by omega), if_neg (by omega)])⟩; unfold sHouse; rw [if_pos (by omega)]; simp only [Int.reduceEq, ↓reduceIte])
  · refine q_ldc C (z := -1000000001) q_ci_RX11_169 (by decide) dX11_house_11 ?_
    refine q_iret C' dX11_house_13 (by first | assumption | omega | exact q_tin _ | exact q_bIn _) ?_
    first | (refine ⟨congrArg some ?_, fun _ _ => rfl⟩; unfold sHouse; first | (rw [if_neg (by omega)]; done) | (rw [if_pos (by omega)]; simp only [Int.reduceEq, ↓reduceIte] <;> first | rfl | omega | (rw [hce (by omega), if_pos (by omega)]; done)) | (rw [if_pos (by omega)]; repeat (rw [if_neg (by omega)]))) | (refine ⟨congrArg some ?_, (fun j hj => by rw [xMt_off _ _ (by omega)]; unfold xBg; funext u; simp only [q_rdSR, q_rdR]; rw [if_neg (by omega), if_neg (by omega)])⟩; unfold sHouse; rw [if_pos (by omega)]; simp only [Int.reduceEq, ↓reduceIte])
theorem dX11_prize_0 : decode cX11_prize 0 = .ok (.aload_n 0, 1) := by decide +kernel
theorem dX11_prize_1 : decode cX11_prize 1 = .ok (.getfield 31, 3) := by decide +kernel
theorem dX11_prize_4 : decode cX11_prize 4 = .ok (.iload_n 1, 1) := by decide +kernel
theorem dX11_prize_5 : decode cX11_prize 5 = .ok (.invokevirtual 186, 3) := by decide +kernel
theorem dX11_prize_8 : decode cX11_prize 8 = .ok (.ifCond .ne 6, 3) := by decide +kernel
theorem dX11_prize_11 : decode cX11_prize 11 = .ok (.ldc 169, 2) := by decide +kernel
theorem dX11_prize_13 : decode cX11_prize 13 = .ok (.ireturn, 1) := by decide +kernel
theorem dX11_prize_14 : decode cX11_prize 14 = .ok (.iload_n 2, 1) := by decide +kernel
theorem dX11_prize_15 : decode cX11_prize 15 = .ok (.bipush 7, 2) := by decide +kernel
theorem dX11_prize_17 : decode cX11_prize 17 = .ok (.invokestatic 86, 3) := by decide +kernel
theorem dX11_prize_20 : decode cX11_prize 20 = .ok (.ifCond .eq 15, 3) := by decide +kernel
theorem dX11_prize_23 : decode cX11_prize 23 = .ok (.aload_n 0, 1) := by decide +kernel
theorem dX11_prize_24 : decode cX11_prize 24 = .ok (.getfield 31, 3) := by decide +kernel
theorem dX11_prize_27 : decode cX11_prize 27 = .ok (.iload_n 1, 1) := by decide +kernel
theorem dX11_prize_28 : decode cX11_prize 28 = .ok (.iload_n 2, 1) := by decide +kernel
theorem dX11_prize_29 : decode cX11_prize 29 = .ok (.invokevirtual 201, 3) := by decide +kernel
theorem dX11_prize_32 : decode cX11_prize 32 = .ok (.goto 5, 3) := by decide +kernel
theorem dX11_prize_35 : decode cX11_prize 35 = .ok (.ldc 90, 2) := by decide +kernel
theorem dX11_prize_37 : decode cX11_prize 37 = .ok (.ireturn, 1) := by decide +kernel
set_option maxRecDepth 4000 in
set_option maxHeartbeats 4000000 in
theorem m_X11_prize (l : Launch) (g : qGm) (M : qMem) {sd : sSD} (hs : sRS sd) (hS : xS M sd) {h : Int} (hhq : qIn h) {k : Int} (hkq : qIn k) : qOk l g 2 yX11_prize cX11_prize 3 (some .int) [qR g 0 0, qI h, qI k] M (qEv (some (sPrize sd h k)) M) := by
  refine q_ok (by decide +kernel) (Nat.le_of_ble_eq_true rfl) (fun X C' hn => ?_)
  have C := C'.1
  have hm6 := hs.2.1
  have hn6 := hs.2.2.1
  have w0 := hS.1
  have w1 := hS.2.1
  have w2 := hS.2.2.1
  have e5 := fun q : (0 ≤ h ∧ h < sd 5 0) ∧ (0 ≤ k ∧ k ≤ 7) => hS.2.2.2.2.2 (h * 8 + k) (by omega) (by omega)
  have e6 : h * 8 + k = 8 * h + k := by omega
  rw [e6] at e5
  refine q_aloadn C dX11_prize_0 rfl ?_
  refine gf_RX11_31 C dX11_prize_1 ?_
  refine q_iloadn C dX11_prize_4 rfl ?_
  refine cv_RX11_186 C (by decide) (by decide) (m_X7_hasHouse l g _ (by decide) hhq) dX11_prize_5 (Nat.le_of_ble_eq_true rfl) (fun r5 => ?_)
  refine q_ifneB C 14 dX11_prize_8 (by decide) (fun h8 => ?_) (fun h8 => ?_)
  · refine q_iloadn C dX11_prize_14 rfl ?_
    refine q_bipush C dX11_prize_15 (by decide) ?_
    refine cv_RX11_86 C (by decide) (m_X11_isWithin l g _ (by assumption) (by omega)) dX11_prize_17 (Nat.le_of_ble_eq_true rfl) (fun r17 => ?_)
    refine q_ifeqB C 35 dX11_prize_20 (by decide) (fun h20 => ?_) (fun h20 => ?_)
    · refine q_ldc C (z := -1000000002) q_ci_RX11_90 (by decide) dX11_prize_35 ?_
      refine q_iret C' dX11_prize_37 (by first | assumption | omega | exact q_tin _ | exact q_bIn _) ?_
      refine ⟨congrArg some ?_, rfl⟩
      unfold sPrize
      first | (rw [if_neg (by omega)]; done) | (rw [if_pos (by omega), if_neg (by omega)]; done) | (rw [if_pos (by omega), if_pos (by omega), e6]; exact e5 (by omega))
    · refine q_aloadn C dX11_prize_23 rfl ?_
      refine gf_RX11_31 C dX11_prize_24 ?_
      refine q_iloadn C dX11_prize_27 rfl ?_
      refine q_iloadn C dX11_prize_28 rfl ?_
      refine cv_RX11_201 C (by decide) (by decide) (m_X7_prizeOf l g _ (by decide) (by omega) (by omega)) dX11_prize_29 (Nat.le_of_ble_eq_true rfl) (fun r29 => ?_)
      refine q_goto C (tgt := 37) dX11_prize_32 (by decide) ?_
      refine q_iret C' dX11_prize_37 (by first | assumption | omega | exact q_tin _ | exact q_bIn _) ?_
      refine ⟨congrArg some ?_, rfl⟩
      unfold sPrize
      first | (rw [if_neg (by omega)]; done) | (rw [if_pos (by omega), if_neg (by omega)]; done) | (rw [if_pos (by omega), if_pos (by omega), e6]; exact e5 (by omega))
  · refine q_ldc C (z := -1000000001) q_ci_RX11_169 (by decide) dX11_prize_11 ?_
    refine q_iret C' dX11_prize_13 (by first | assumption | omega | exact q_tin _ | exact q_bIn _) ?_
    refine ⟨congrArg some ?_, rfl⟩
    unfold sPrize
    first | (rw [if_neg (by omega)]; done) | (rw [if_pos (by omega), if_neg (by omega)]; done) | (rw [if_pos (by omega), if_pos (by omega), e6]; exact e5 (by omega))
theorem dX11_calls_0 : decode cX11_calls 0 = .ok (.aload_n 0, 1) := by decide +kernel
theorem dX11_calls_1 : decode cX11_calls 1 = .ok (.getfield 31, 3) := by decide +kernel
theorem dX11_calls_4 : decode cX11_calls 4 = .ok (.iload_n 1, 1) := by decide +kernel
theorem dX11_calls_5 : decode cX11_calls 5 = .ok (.iload_n 2, 1) := by decide +kernel
theorem dX11_calls_6 : decode cX11_calls 6 = .ok (.invokevirtual 205, 3) := by decide +kernel
theorem dX11_calls_9 : decode cX11_calls 9 = .ok (.ifCond .eq 15, 3) := by decide +kernel
theorem dX11_calls_12 : decode cX11_calls 12 = .ok (.aload_n 0, 1) := by decide +kernel
theorem dX11_calls_13 : decode cX11_calls 13 = .ok (.getfield 34, 3) := by decide +kernel
theorem dX11_calls_16 : decode cX11_calls 16 = .ok (.iload_n 1, 1) := by decide +kernel
theorem dX11_calls_17 : decode cX11_calls 17 = .ok (.iload_n 2, 1) := by decide +kernel
theorem dX11_calls_18 : decode cX11_calls 18 = .ok (.invokevirtual 208, 3) := by decide +kernel
theorem dX11_calls_21 : decode cX11_calls 21 = .ok (.goto 5, 3) := by decide +kernel
theorem dX11_calls_24 : decode cX11_calls 24 = .ok (.ldc 169, 2) := by decide +kernel
theorem dX11_calls_26 : decode cX11_calls 26 = .ok (.ireturn, 1) := by decide +kernel
set_option maxRecDepth 4000 in
set_option maxHeartbeats 4000000 in
theorem m_X11_calls (l : Launch) (g : qGm) (M : qMem) {sd : sSD} (hs : sRS sd) (hS : xS M sd) {v : Int → Int} (hv : sRR (sd 4 0) (sd 5 0) v) (hH : xH M 0 (sd 4 0) (sd 5 0) v) {c : Int} (hcq : qIn c) {h : Int} (hhq : qIn h) : qOk l g 3 yX11_calls cX11_calls 3 (some .int) [qR g 0 0, qI c, qI h] M (qEv (some (sCalls sd v c h)) M) := by
  refine q_ok (by decide +kernel) (Nat.le_of_ble_eq_true rfl) (fun X C' hn => ?_)
  have C := C'.1
  have hm6 := hs.2.1
  have hn6 := hs.2.2.1
  have w0 := hS.1
  have w1 := hS.2.1
  have w2 := hS.2.2.1
  refine q_aloadn C dX11_calls_0 rfl ?_
  refine gf_RX11_31 C dX11_calls_1 ?_
  refine q_iloadn C dX11_calls_4 rfl ?_
  refine q_iloadn C dX11_calls_5 rfl ?_
  refine cv_RX11_205 C (by decide) (by decide) (m_X7_hasBoth l g _ (by decide) hcq hhq) dX11_calls_6 (Nat.le_of_ble_eq_true rfl) (fun r6 => ?_)
  refine q_ifeqB C 24 dX11_calls_9 (by decide) (fun h9 => ?_) (fun h9 => ?_)
  · refine q_ldc C (z := -1000000001) q_ci_RX11_169 (by decide) dX11_calls_24 ?_
    refine q_iret C' dX11_calls_26 (by first | assumption | omega | exact q_tin _ | exact q_bIn _) ?_
    refine ⟨congrArg some ?_, rfl⟩
    unfold sCalls
    first | (rw [if_neg (by omega)]; done) | (rw [if_pos (by omega)]; exact ((hH.2.2.2.2.1 c h (by omega) (by omega) (by omega) (by omega)).1 (by omega)).1)
  · refine q_aloadn C dX11_calls_12 rfl ?_
    refine gf_RX11_34 C dX11_calls_13 ?_
    refine q_iloadn C dX11_calls_16 rfl ?_
    refine q_iloadn C dX11_calls_17 rfl ?_
    refine cv_RX11_208 C (by decide) (by decide) (m_X2_callsOf l g _ (by decide) (by omega) (by omega)) dX11_calls_18 (Nat.le_of_ble_eq_true rfl) (fun r18 => ?_)
    refine q_goto C (tgt := 26) dX11_calls_21 (by decide) ?_
    refine q_iret C' dX11_calls_26 (by first | assumption | omega | exact q_tin _ | exact q_bIn _) ?_
    refine ⟨congrArg some ?_, rfl⟩
    unfold sCalls
    first | (rw [if_neg (by omega)]; done) | (rw [if_pos (by omega)]; exact ((hH.2.2.2.2.1 c h (by omega) (by omega) (by omega) (by omega)).1 (by omega)).1)
theorem dX11_sign_0 : decode cX11_sign 0 = .ok (.iload_n 1, 1) := by decide +kernel
theorem dX11_sign_1 : decode cX11_sign 1 = .ok (.invokestatic 211, 3) := by decide +kernel
theorem dX11_sign_4 : decode cX11_sign 4 = .ok (.ifCond .eq 11, 3) := by decide +kernel
theorem dX11_sign_7 : decode cX11_sign 7 = .ok (.iload_n 2, 1) := by decide +kernel
theorem dX11_sign_8 : decode cX11_sign 8 = .ok (.iconst 1, 1) := by decide +kernel
theorem dX11_sign_9 : decode cX11_sign 9 = .ok (.invokestatic 86, 3) := by decide +kernel
theorem dX11_sign_12 : decode cX11_sign 12 = .ok (.ifCond .ne 6, 3) := by decide +kernel
theorem dX11_sign_15 : decode cX11_sign 15 = .ok (.ldc 90, 2) := by decide +kernel
theorem dX11_sign_17 : decode cX11_sign 17 = .ok (.ireturn, 1) := by decide +kernel
theorem dX11_sign_18 : decode cX11_sign 18 = .ok (.aload_n 0, 1) := by decide +kernel
theorem dX11_sign_19 : decode cX11_sign 19 = .ok (.getfield 31, 3) := by decide +kernel
theorem dX11_sign_22 : decode cX11_sign 22 = .ok (.invokevirtual 214, 3) := by decide +kernel
theorem dX11_sign_25 : decode cX11_sign 25 = .ok (.ifCond .ne 6, 3) := by decide +kernel
theorem dX11_sign_28 : decode cX11_sign 28 = .ok (.ldc 218, 2) := by decide +kernel
theorem dX11_sign_30 : decode cX11_sign 30 = .ok (.ireturn, 1) := by decide +kernel
theorem dX11_sign_31 : decode cX11_sign 31 = .ok (.iload_n 2, 1) := by decide +kernel
theorem dX11_sign_32 : decode cX11_sign 32 = .ok (.ifCond .ne 8, 3) := by decide +kernel
theorem dX11_sign_35 : decode cX11_sign 35 = .ok (.iload_n 1, 1) := by decide +kernel
theorem dX11_sign_36 : decode cX11_sign 36 = .ok (.invokestatic 219, 3) := by decide +kernel
theorem dX11_sign_39 : decode cX11_sign 39 = .ok (.ireturn, 1) := by decide +kernel
theorem dX11_sign_40 : decode cX11_sign 40 = .ok (.aload_n 0, 1) := by decide +kernel
theorem dX11_sign_41 : decode cX11_sign 41 = .ok (.getfield 31, 3) := by decide +kernel
theorem dX11_sign_44 : decode cX11_sign 44 = .ok (.getfield 128, 3) := by decide +kernel
theorem dX11_sign_47 : decode cX11_sign 47 = .ok (.iload_n 1, 1) := by decide +kernel
theorem dX11_sign_48 : decode cX11_sign 48 = .ok (.invokestatic 221, 3) := by decide +kernel
theorem dX11_sign_51 : decode cX11_sign 51 = .ok (.ifCond .eq 7, 3) := by decide +kernel
theorem dX11_sign_54 : decode cX11_sign 54 = .ok (.iconst 1, 1) := by decide +kernel
theorem dX11_sign_55 : decode cX11_sign 55 = .ok (.goto 4, 3) := by decide +kernel
theorem dX11_sign_58 : decode cX11_sign 58 = .ok (.iconst 0, 1) := by decide +kernel
theorem dX11_sign_59 : decode cX11_sign 59 = .ok (.ireturn, 1) := by decide +kernel
set_option maxRecDepth 4000 in
set_option maxHeartbeats 4000000 in
theorem m_X11_sign (l : Launch) (g : qGm) (M : qMem) {sd : sSD} (hs : sRS sd) (hS : xS M sd) {a : Int} (haq : qIn a) {w : Int} (hwq : qIn w) : qOk l g 2 yX11_sign cX11_sign 3 (some .int) [qR g 0 0, qI a, qI w] M (qEv (some (sSign sd a w)) M) := by
  refine q_ok (by decide +kernel) (Nat.le_of_ble_eq_true rfl) (fun X C' hn => ?_)
  have C := C'.1
  have hm6 := hs.2.1
  have hn6 := hs.2.2.1
  have w0 := hS.1
  have w1 := hS.2.1
  have w2 := hS.2.2.1
  refine q_iloadn C dX11_sign_0 rfl ?_
  refine cv_RX11_211 C (by decide) (m_X1_isSign l g _ haq) dX11_sign_1 (Nat.le_of_ble_eq_true rfl) (fun r1 => ?_)
  refine q_ifeqB C 15 dX11_sign_4 (by decide) (fun h4 => ?_) (fun h4 => ?_)
  · refine q_ldc C (z := -1000000002) q_ci_RX11_90 (by decide) dX11_sign_15 ?_
    refine q_iret C' dX11_sign_17 (by first | assumption | omega | exact q_tin _ | exact q_bIn _) ?_
    refine ⟨congrArg some ?_, rfl⟩
    unfold sSign
    first | (rw [if_neg (by omega)]; done) | (rw [if_pos (by omega), if_pos (by omega)]; done) | (rw [if_pos (by omega), if_neg (by omega), if_pos (by omega)]; done) | (rw [if_pos (by omega), if_neg (by omega), if_neg (by omega), ← w0]; done)
  · refine q_iloadn C dX11_sign_7 rfl ?_
    refine q_iconst C dX11_sign_8 ?_
    refine cv_RX11_86 C (by decide) (m_X11_isWithin l g _ (by assumption) (by omega)) dX11_sign_9 (Nat.le_of_ble_eq_true rfl) (fun r9 => ?_)
    refine q_ifneB C 18 dX11_sign_12 (by decide) (fun h12 => ?_) (fun h12 => ?_)
    · refine q_aloadn C dX11_sign_18 rfl ?_
      refine gf_RX11_31 C dX11_sign_19 ?_
      refine cv_RX11_214 C (by decide) (by decide) (m_X7_isOn l g _ (by decide)) dX11_sign_22 (Nat.le_of_ble_eq_true rfl) (fun r22 => ?_)
      refine q_ifneB C 31 dX11_sign_25 (by decide) (fun h25 => ?_) (fun h25 => ?_)
      · refine q_iloadn C dX11_sign_31 rfl ?_
        refine q_if_ne C 40 dX11_sign_32 (by decide) (by first | assumption | omega | exact q_tin _ | exact q_bIn _) (fun h32 => ?_) (fun h32 => ?_)
        · refine q_aloadn C dX11_sign_40 rfl ?_
          refine gf_RX11_31 C dX11_sign_41 ?_
          refine gf_RX11_128 C (by decide) dX11_sign_44 (fun r44 => ?_)
          refine q_iloadn C dX11_sign_47 rfl ?_
          refine cv_RX11_221 C (by decide) (m_X1_isSaid l g _ (by assumption) (by omega)) dX11_sign_48 (Nat.le_of_ble_eq_true rfl) (fun r48 => ?_)
          refine q_tB_eq C 58 59 dX11_sign_51 dX11_sign_54 dX11_sign_55 dX11_sign_58 (by decide) (by decide) rfl ?_
          refine q_iret C' dX11_sign_59 (by first | assumption | omega | exact q_tin _ | exact q_bIn _) ?_
          refine ⟨congrArg some ?_, rfl⟩
          unfold sSign
          first | (rw [if_neg (by omega)]; done) | (rw [if_pos (by omega), if_pos (by omega)]; done) | (rw [if_pos (by omega), if_neg (by omega), if_pos (by omega)]; done) | (rw [if_pos (by omega), if_neg (by omega), if_neg (by omega), ← w0]; done)
        · refine q_iloadn C dX11_sign_35 rfl ?_
          refine cv_RX11_219 C (by decide) (m_X1_meaning l g _ (by omega)) dX11_sign_36 (Nat.le_of_ble_eq_true rfl) (fun r36 => ?_)
          refine q_iret C' dX11_sign_39 (by first | assumption | omega | exact q_tin _ | exact q_bIn _) ?_
          refine ⟨congrArg some ?_, rfl⟩
          unfold sSign
          first | (rw [if_neg (by omega)]; done) | (rw [if_pos (by omega), if_pos (by omega)]; done) | (rw [if_pos (by omega), if_neg (by omega), if_pos (by omega)]; done) | (rw [if_pos (by omega), if_neg (by omega), if_neg (by omega), ← w0]; done)
      · refine q_ldc C (z := -1000000003) q_ci_RX11_218 (by decide) dX11_sign_28 ?_
        refine q_iret C' dX11_sign_30 (by first | assumption | omega | exact q_tin _ | exact q_bIn _) ?_
        refine ⟨congrArg some ?_, rfl⟩
        unfold sSign
        first | (rw [if_neg (by omega)]; done) | (rw [if_pos (by omega), if_pos (by omega)]; done) | (rw [if_pos (by omega), if_neg (by omega), if_pos (by omega)]; done) | (rw [if_pos (by omega), if_neg (by omega), if_neg (by omega), ← w0]; done)
    · refine q_ldc C (z := -1000000002) q_ci_RX11_90 (by decide) dX11_sign_15 ?_
      refine q_iret C' dX11_sign_17 (by first | assumption | omega | exact q_tin _ | exact q_bIn _) ?_
      refine ⟨congrArg some ?_, rfl⟩
      unfold sSign
      first | (rw [if_neg (by omega)]; done) | (rw [if_pos (by omega), if_pos (by omega)]; done) | (rw [if_pos (by omega), if_neg (by omega), if_pos (by omega)]; done) | (rw [if_pos (by omega), if_neg (by omega), if_neg (by omega), ← w0]; done)
theorem dX11_logged_0 : decode cX11_logged 0 = .ok (.iload_n 2, 1) := by decide +kernel
theorem dX11_logged_1 : decode cX11_logged 1 = .ok (.iconst 4, 1) := by decide +kernel
theorem dX11_logged_2 : decode cX11_logged 2 = .ok (.invokestatic 86, 3) := by decide +kernel
theorem dX11_logged_5 : decode cX11_logged 5 = .ok (.ifCond .eq 18, 3) := by decide +kernel
theorem dX11_logged_8 : decode cX11_logged 8 = .ok (.aload_n 0, 1) := by decide +kernel
theorem dX11_logged_9 : decode cX11_logged 9 = .ok (.getfield 34, 3) := by decide +kernel
theorem dX11_logged_12 : decode cX11_logged 12 = .ok (.getfield 156, 3) := by decide +kernel
theorem dX11_logged_15 : decode cX11_logged 15 = .ok (.iload_n 1, 1) := by decide +kernel
theorem dX11_logged_16 : decode cX11_logged 16 = .ok (.iload_n 2, 1) := by decide +kernel
theorem dX11_logged_17 : decode cX11_logged 17 = .ok (.invokevirtual 224, 3) := by decide +kernel
theorem dX11_logged_20 : decode cX11_logged 20 = .ok (.goto 5, 3) := by decide +kernel
theorem dX11_logged_23 : decode cX11_logged 23 = .ok (.ldc 90, 2) := by decide +kernel
theorem dX11_logged_25 : decode cX11_logged 25 = .ok (.ireturn, 1) := by decide +kernel
set_option maxRecDepth 4000 in
set_option maxHeartbeats 4000000 in
theorem m_X11_logged (l : Launch) (g : qGm) (M : qMem) {sd : sSD} (hs : sRS sd) (hS : xS M sd) {v : Int → Int} (hv : sRR (sd 4 0) (sd 5 0) v) (hH : xH M 0 (sd 4 0) (sd 5 0) v) {i : Int} (hiq : qIn i) {w : Int} (hwq : qIn w) : qOk l g 2 yX11_logged cX11_logged 3 (some .int) [qR g 0 0, qI i, qI w] M (qEv (some (sLogged v i w)) M) := by
  refine q_ok (by decide +kernel) (Nat.le_of_ble_eq_true rfl) (fun X C' hn => ?_)
  have C := C'.1
  have hm6 := hs.2.1
  have hn6 := hs.2.2.1
  have w0 := hS.1
  have w1 := hS.2.1
  have w2 := hS.2.2.1
  have hlg := hH.2.2.2.2.2.1
  have hln := hH.2.2.2.2.2.2.1
  have hvl := hv.2.2.2.2.2
  refine q_iloadn C dX11_logged_0 rfl ?_
  refine q_iconst C dX11_logged_1 ?_
  refine cv_RX11_86 C (by decide) (m_X11_isWithin l g _ (by assumption) (by omega)) dX11_logged_2 (Nat.le_of_ble_eq_true rfl) (fun r2 => ?_)
  refine q_ifeqB C 23 dX11_logged_5 (by decide) (fun h5 => ?_) (fun h5 => ?_)
  · refine q_ldc C (z := -1000000002) q_ci_RX11_90 (by decide) dX11_logged_23 ?_
    refine q_iret C' dX11_logged_25 (by first | assumption | omega | exact q_tin _ | exact q_bIn _) ?_
    refine ⟨congrArg some ?_, rfl⟩
    unfold sLogged
    first | (rw [if_neg (show ¬ (0 ≤ w ∧ w ≤ 4) by omega)]; done) | (rw [if_pos (show 0 ≤ w ∧ w ≤ 4 by omega), hlg]; by_cases q : 0 ≤ i ∧ i < v 98 <;> first | (rw [if_pos q, if_pos q]; exact hH.2.2.2.2.2.2.2 i w q.1 q.2 (by omega) (by omega)) | (rw [if_neg q, if_neg q]))
  · refine q_aloadn C dX11_logged_8 rfl ?_
    refine gf_RX11_34 C dX11_logged_9 ?_
    refine gf_RX11_156 C (by decide) dX11_logged_12 ?_
    refine q_iloadn C dX11_logged_15 rfl ?_
    refine q_iloadn C dX11_logged_16 rfl ?_
    refine cv_RX11_224 C (by decide) (by decide) (m_X4_look l g _ (by decide) hiq (by omega) (by omega) (by omega)) dX11_logged_17 (Nat.le_of_ble_eq_true rfl) (fun r17 => ?_)
    refine q_goto C (tgt := 25) dX11_logged_20 (by decide) ?_
    refine q_iret C' dX11_logged_25 (by first | assumption | omega | exact q_tin _ | exact q_bIn _) ?_
    refine ⟨congrArg some ?_, rfl⟩
    unfold sLogged
    first | (rw [if_neg (show ¬ (0 ≤ w ∧ w ≤ 4) by omega)]; done) | (rw [if_pos (show 0 ≤ w ∧ w ≤ 4 by omega), hlg]; by_cases q : 0 ≤ i ∧ i < v 98 <;> first | (rw [if_pos q, if_pos q]; exact hH.2.2.2.2.2.2.2 i w q.1 q.2 (by omega) (by omega)) | (rw [if_neg q, if_neg q]))
theorem dX11_says_0 : decode cX11_says 0 = .ok (.aload_n 0, 1) := by decide +kernel
theorem dX11_says_1 : decode cX11_says 1 = .ok (.getfield 31, 3) := by decide +kernel
theorem dX11_says_4 : decode cX11_says 4 = .ok (.iload_n 1, 1) := by decide +kernel
theorem dX11_says_5 : decode cX11_says 5 = .ok (.iload_n 2, 1) := by decide +kernel
theorem dX11_says_6 : decode cX11_says 6 = .ok (.invokevirtual 205, 3) := by decide +kernel
theorem dX11_says_9 : decode cX11_says 9 = .ok (.ifCond .ne 6, 3) := by decide +kernel
theorem dX11_says_12 : decode cX11_says 12 = .ok (.ldc 169, 2) := by decide +kernel
theorem dX11_says_14 : decode cX11_says 14 = .ok (.ireturn, 1) := by decide +kernel
theorem dX11_says_15 : decode cX11_says 15 = .ok (.iload_n 3, 1) := by decide +kernel
theorem dX11_says_16 : decode cX11_says 16 = .ok (.invokestatic 211, 3) := by decide +kernel
theorem dX11_says_19 : decode cX11_says 19 = .ok (.ifCond .eq 12, 3) := by decide +kernel
theorem dX11_says_22 : decode cX11_says 22 = .ok (.iload 4, 2) := by decide +kernel
theorem dX11_says_24 : decode cX11_says 24 = .ok (.iconst 1, 1) := by decide +kernel
theorem dX11_says_25 : decode cX11_says 25 = .ok (.invokestatic 86, 3) := by decide +kernel
theorem dX11_says_28 : decode cX11_says 28 = .ok (.ifCond .ne 6, 3) := by decide +kernel
theorem dX11_says_31 : decode cX11_says 31 = .ok (.ldc 90, 2) := by decide +kernel
theorem dX11_says_33 : decode cX11_says 33 = .ok (.ireturn, 1) := by decide +kernel
theorem dX11_says_34 : decode cX11_says 34 = .ok (.iload 4, 2) := by decide +kernel
theorem dX11_says_36 : decode cX11_says 36 = .ok (.ifCond .ne 16, 3) := by decide +kernel
theorem dX11_says_39 : decode cX11_says 39 = .ok (.aload_n 0, 1) := by decide +kernel
theorem dX11_says_40 : decode cX11_says 40 = .ok (.getfield 38, 3) := by decide +kernel
theorem dX11_says_43 : decode cX11_says 43 = .ok (.iload_n 1, 1) := by decide +kernel
theorem dX11_says_44 : decode cX11_says 44 = .ok (.iload_n 2, 1) := by decide +kernel
theorem dX11_says_45 : decode cX11_says 45 = .ok (.iload_n 3, 1) := by decide +kernel
theorem dX11_says_46 : decode cX11_says 46 = .ok (.invokevirtual 256, 3) := by decide +kernel
theorem dX11_says_49 : decode cX11_says 49 = .ok (.goto 13, 3) := by decide +kernel
theorem dX11_says_52 : decode cX11_says 52 = .ok (.aload_n 0, 1) := by decide +kernel
theorem dX11_says_53 : decode cX11_says 53 = .ok (.getfield 38, 3) := by decide +kernel
theorem dX11_says_56 : decode cX11_says 56 = .ok (.iload_n 1, 1) := by decide +kernel
theorem dX11_says_57 : decode cX11_says 57 = .ok (.iload_n 2, 1) := by decide +kernel
theorem dX11_says_58 : decode cX11_says 58 = .ok (.iload_n 3, 1) := by decide +kernel
theorem dX11_says_59 : decode cX11_says 59 = .ok (.invokevirtual 259, 3) := by decide +kernel
theorem dX11_says_62 : decode cX11_says 62 = .ok (.ireturn, 1) := by decide +kernel
set_option maxRecDepth 4000 in
set_option maxHeartbeats 4000000 in
theorem m_X11_says (l : Launch) (g : qGm) (M : qMem) {sd : sSD} (hs : sRS sd) (hS : xS M sd) {v : Int → Int} (hv : sRR (sd 4 0) (sd 5 0) v) (hH : xH M 0 (sd 4 0) (sd 5 0) v) {c : Int} (hcq : qIn c) {h : Int} (hhq : qIn h) {a : Int} (haq : qIn a) {w : Int} (hwq : qIn w) : qOk l g 5 yX11_says cX11_says 5 (some .int) [qR g 0 0, qI c, qI h, qI a, qI w] M (qEv (some (sSays sd v c h a w)) M) := by
  refine q_ok (by decide +kernel) (Nat.le_of_ble_eq_true rfl) (fun X C' hn => ?_)
  have C := C'.1
  have hm6 := hs.2.1
  have hn6 := hs.2.2.1
  have w0 := hS.1
  have w1 := hS.2.1
  have w2 := hS.2.2.1
  refine q_aloadn C dX11_says_0 rfl ?_
  refine gf_RX11_31 C dX11_says_1 ?_
  refine q_iloadn C dX11_says_4 rfl ?_
  refine q_iloadn C dX11_says_5 rfl ?_
  refine cv_RX11_205 C (by decide) (by decide) (m_X7_hasBoth l g _ (by decide) hcq hhq) dX11_says_6 (Nat.le_of_ble_eq_true rfl) (fun r6 => ?_)
  refine q_ifneB C 15 dX11_says_9 (by decide) (fun h9 => ?_) (fun h9 => ?_)
  · refine q_iloadn C dX11_says_15 rfl ?_
    refine cv_RX11_211 C (by decide) (m_X1_isSign l g _ haq) dX11_says_16 (Nat.le_of_ble_eq_true rfl) (fun r16 => ?_)
    refine q_ifeqB C 31 dX11_says_19 (by decide) (fun h19 => ?_) (fun h19 => ?_)
    · refine q_ldc C (z := -1000000002) q_ci_RX11_90 (by decide) dX11_says_31 ?_
      refine q_iret C' dX11_says_33 (by first | assumption | omega | exact q_tin _ | exact q_bIn _) ?_
      refine ⟨congrArg some ?_, rfl⟩
      unfold sSays
      first | (rw [if_neg (by omega)]; done) | (rw [if_pos (by omega), if_neg (by omega)]; done) | (rw [if_pos (by omega), if_pos (by omega), if_pos (by omega)]; done) | (rw [if_pos (by omega), if_pos (by omega), if_neg (by omega)]; done)
    · refine q_iload C dX11_says_22 rfl ?_
      refine q_iconst C dX11_says_24 ?_
      refine cv_RX11_86 C (by decide) (m_X11_isWithin l g _ (by assumption) (by omega)) dX11_says_25 (Nat.le_of_ble_eq_true rfl) (fun r25 => ?_)
      refine q_ifneB C 34 dX11_says_28 (by decide) (fun h28 => ?_) (fun h28 => ?_)
      · refine q_iload C dX11_says_34 rfl ?_
        refine q_if_ne C 52 dX11_says_36 (by decide) (by first | assumption | omega | exact q_tin _ | exact q_bIn _) (fun h36 => ?_) (fun h36 => ?_)
        · refine q_aloadn C dX11_says_52 rfl ?_
          refine gf_RX11_38 C dX11_says_53 ?_
          refine q_iloadn C dX11_says_56 rfl ?_
          refine q_iloadn C dX11_says_57 rfl ?_
          refine q_iloadn C dX11_says_58 rfl ?_
          refine cv_RX11_259 C (by decide) (m_X10_answer l g _ hs hS hv hH (by omega) (by omega) (by omega)) dX11_says_59 (Nat.le_of_ble_eq_true rfl) (fun r59 => ?_)
          refine q_iret C' dX11_says_62 (by first | assumption | omega | exact q_tin _ | exact q_bIn _) ?_
          refine ⟨congrArg some ?_, rfl⟩
          unfold sSays
          first | (rw [if_neg (by omega)]; done) | (rw [if_pos (by omega), if_neg (by omega)]; done) | (rw [if_pos (by omega), if_pos (by omega), if_pos (by omega)]; done) | (rw [if_pos (by omega), if_pos (by omega), if_neg (by omega)]; done)
        · refine q_aloadn C dX11_says_39 rfl ?_
          refine gf_RX11_38 C dX11_says_40 ?_
          refine q_iloadn C dX11_says_43 rfl ?_
          refine q_iloadn C dX11_says_44 rfl ?_
          refine q_iloadn C dX11_says_45 rfl ?_
          refine cv_RX11_256 C (by decide) (m_X10_heard l g _ hs hS hv hH (by omega) (by omega) (by omega)) dX11_says_46 (Nat.le_of_ble_eq_true rfl) (fun r46 => ?_)
          refine q_goto C (tgt := 62) dX11_says_49 (by decide) ?_
          refine q_iret C' dX11_says_62 (by first | assumption | omega | exact q_tin _ | exact q_bIn _) ?_
          refine ⟨congrArg some ?_, rfl⟩
          unfold sSays
          first | (rw [if_neg (by omega)]; done) | (rw [if_pos (by omega), if_neg (by omega)]; done) | (rw [if_pos (by omega), if_pos (by omega), if_pos (by omega)]; done) | (rw [if_pos (by omega), if_pos (by omega), if_neg (by omega)]; done)
      · refine q_ldc C (z := -1000000002) q_ci_RX11_90 (by decide) dX11_says_31 ?_
        refine q_iret C' dX11_says_33 (by first | assumption | omega | exact q_tin _ | exact q_bIn _) ?_
        refine ⟨congrArg some ?_, rfl⟩
        unfold sSays
        first | (rw [if_neg (by omega)]; done) | (rw [if_pos (by omega), if_neg (by omega)]; done) | (rw [if_pos (by omega), if_pos (by omega), if_pos (by omega)]; done) | (rw [if_pos (by omega), if_pos (by omega), if_neg (by omega)]; done)
  · refine q_ldc C (z := -1000000001) q_ci_RX11_169 (by decide) dX11_says_12 ?_
    refine q_iret C' dX11_says_14 (by first | assumption | omega | exact q_tin _ | exact q_bIn _) ?_
    refine ⟨congrArg some ?_, rfl⟩
    unfold sSays
    first | (rw [if_neg (by omega)]; done) | (rw [if_pos (by omega), if_neg (by omega)]; done) | (rw [if_pos (by omega), if_pos (by omega), if_pos (by omega)]; done) | (rw [if_pos (by omega), if_pos (by omega), if_neg (by omega)]; done)
theorem dX11_signs_0 : decode cX11_signs 0 = .ok (.aload_n 0, 1) := by decide +kernel
theorem dX11_signs_1 : decode cX11_signs 1 = .ok (.getfield 31, 3) := by decide +kernel
theorem dX11_signs_4 : decode cX11_signs 4 = .ok (.iload_n 1, 1) := by decide +kernel
theorem dX11_signs_5 : decode cX11_signs 5 = .ok (.iload_n 2, 1) := by decide +kernel
theorem dX11_signs_6 : decode cX11_signs 6 = .ok (.invokevirtual 205, 3) := by decide +kernel
theorem dX11_signs_9 : decode cX11_signs 9 = .ok (.ifCond .ne 6, 3) := by decide +kernel
theorem dX11_signs_12 : decode cX11_signs 12 = .ok (.ldc 169, 2) := by decide +kernel
theorem dX11_signs_14 : decode cX11_signs 14 = .ok (.ireturn, 1) := by decide +kernel
theorem dX11_signs_15 : decode cX11_signs 15 = .ok (.iload_n 3, 1) := by decide +kernel
theorem dX11_signs_16 : decode cX11_signs 16 = .ok (.tableswitch 58 0 2 #[28, 38, 48], 28) := by decide +kernel
theorem dX11_signs_44 : decode cX11_signs 44 = .ok (.aload_n 0, 1) := by decide +kernel
theorem dX11_signs_45 : decode cX11_signs 45 = .ok (.getfield 38, 3) := by decide +kernel
theorem dX11_signs_48 : decode cX11_signs 48 = .ok (.iload_n 1, 1) := by decide +kernel
theorem dX11_signs_49 : decode cX11_signs 49 = .ok (.iload_n 2, 1) := by decide +kernel
theorem dX11_signs_50 : decode cX11_signs 50 = .ok (.invokevirtual 262, 3) := by decide +kernel
theorem dX11_signs_53 : decode cX11_signs 53 = .ok (.ireturn, 1) := by decide +kernel
theorem dX11_signs_54 : decode cX11_signs 54 = .ok (.aload_n 0, 1) := by decide +kernel
theorem dX11_signs_55 : decode cX11_signs 55 = .ok (.getfield 38, 3) := by decide +kernel
theorem dX11_signs_58 : decode cX11_signs 58 = .ok (.iload_n 1, 1) := by decide +kernel
theorem dX11_signs_59 : decode cX11_signs 59 = .ok (.iload_n 2, 1) := by decide +kernel
theorem dX11_signs_60 : decode cX11_signs 60 = .ok (.invokevirtual 265, 3) := by decide +kernel
theorem dX11_signs_63 : decode cX11_signs 63 = .ok (.ireturn, 1) := by decide +kernel
theorem dX11_signs_64 : decode cX11_signs 64 = .ok (.aload_n 0, 1) := by decide +kernel
theorem dX11_signs_65 : decode cX11_signs 65 = .ok (.getfield 38, 3) := by decide +kernel
theorem dX11_signs_68 : decode cX11_signs 68 = .ok (.iload_n 1, 1) := by decide +kernel
theorem dX11_signs_69 : decode cX11_signs 69 = .ok (.iload_n 2, 1) := by decide +kernel
theorem dX11_signs_70 : decode cX11_signs 70 = .ok (.invokevirtual 268, 3) := by decide +kernel
theorem dX11_signs_73 : decode cX11_signs 73 = .ok (.ireturn, 1) := by decide +kernel
theorem dX11_signs_74 : decode cX11_signs 74 = .ok (.ldc 90, 2) := by decide +kernel
theorem dX11_signs_76 : decode cX11_signs 76 = .ok (.ireturn, 1) := by decide +kernel
set_option maxRecDepth 4000 in
set_option maxHeartbeats 4000000 in
theorem m_X11_signs (l : Launch) (g : qGm) (M : qMem) {sd : sSD} (hs : sRS sd) (hS : xS M sd) {v : Int → Int} (hv : sRR (sd 4 0) (sd 5 0) v) (hH : xH M 0 (sd 4 0) (sd 5 0) v) {c : Int} (hcq : qIn c) {h : Int} (hhq : qIn h) {w : Int} (hwq : qIn w) : qOk l g 6 yX11_signs cX11_signs 4 (some .int) [qR g 0 0, qI c, qI h, qI w] M (qEv (some (sSigns sd v c h w)) M) := by
  refine q_ok (by decide +kernel) (Nat.le_of_ble_eq_true rfl) (fun X C' hn => ?_)
  have C := C'.1
  have hm6 := hs.2.1
  have hn6 := hs.2.2.1
  have w0 := hS.1
  have w1 := hS.2.1
  have w2 := hS.2.2.1
  refine q_aloadn C dX11_signs_0 rfl ?_
  refine gf_RX11_31 C dX11_signs_1 ?_
  refine q_iloadn C dX11_signs_4 rfl ?_
  refine q_iloadn C dX11_signs_5 rfl ?_
  refine cv_RX11_205 C (by decide) (by decide) (m_X7_hasBoth l g _ (by decide) hcq hhq) dX11_signs_6 (Nat.le_of_ble_eq_true rfl) (fun r6 => ?_)
  refine q_ifneB C 15 dX11_signs_9 (by decide) (fun h9 => ?_) (fun h9 => ?_)
  · refine q_iloadn C dX11_signs_15 rfl ?_
    by_cases ht16 : w < 0 ∨ 2 < w
    · refine q_tsOut C 74 dX11_signs_16 (by first | assumption | omega | exact q_tin _ | exact q_bIn _) ht16 (by decide) ?_
      refine q_ldc C (z := -1000000002) q_ci_RX11_90 (by decide) dX11_signs_74 ?_
      refine q_iret C' dX11_signs_76 (by first | assumption | omega | exact q_tin _ | exact q_bIn _) ?_
      refine ⟨congrArg some ?_, rfl⟩
      unfold sSigns
      first | (rw [if_neg (by omega)]; done) | (rw [if_pos (by omega)]; simp only [Int.reduceEq, ↓reduceIte] <;> first | rfl | assumption | omega ) | (rw [if_pos (by omega)]; repeat (rw [if_neg (by omega)]))
    obtain rfl | rfl | rfl : w = 0 ∨ w = 1 ∨ w = 2 := by omega
    · refine q_tsIn C (off := 28) 44 dX11_signs_16 (by decide) (by decide) (by decide) (by decide) (by decide) ?_
      refine q_aloadn C dX11_signs_44 rfl ?_
      refine gf_RX11_38 C dX11_signs_45 ?_
      refine q_iloadn C dX11_signs_48 rfl ?_
      refine q_iloadn C dX11_signs_49 rfl ?_
      refine cv_RX11_262 C (by decide) (m_X10_countLetIn l g _ hs hS hv hH (by omega) (by omega)) dX11_signs_50 (Nat.le_of_ble_eq_true rfl) (fun r50 => ?_)
      refine q_iret C' dX11_signs_53 (by first | assumption | omega | exact q_tin _ | exact q_bIn _) ?_
      refine ⟨congrArg some ?_, rfl⟩
      unfold sSigns
      first | (rw [if_neg (by omega)]; done) | (rw [if_pos (by omega)]; simp only [Int.reduceEq, ↓reduceIte] <;> first | rfl | assumption | omega ) | (rw [if_pos (by omega)]; repeat (rw [if_neg (by omega)]))
    · refine q_tsIn C (off := 38) 54 dX11_signs_16 (by decide) (by decide) (by decide) (by decide) (by decide) ?_
      refine q_aloadn C dX11_signs_54 rfl ?_
      refine gf_RX11_38 C dX11_signs_55 ?_
      refine q_iloadn C dX11_signs_58 rfl ?_
      refine q_iloadn C dX11_signs_59 rfl ?_
      refine cv_RX11_265 C (by decide) (m_X10_plainest l g _ hs hS hv hH (by omega) (by omega)) dX11_signs_60 (Nat.le_of_ble_eq_true rfl) (fun r60 => ?_)
      refine q_iret C' dX11_signs_63 (by first | assumption | omega | exact q_tin _ | exact q_bIn _) ?_
      refine ⟨congrArg some ?_, rfl⟩
      unfold sSigns
      first | (rw [if_neg (by omega)]; done) | (rw [if_pos (by omega)]; simp only [Int.reduceEq, ↓reduceIte] <;> first | rfl | assumption | omega ) | (rw [if_pos (by omega)]; repeat (rw [if_neg (by omega)]))
    · refine q_tsIn C (off := 48) 64 dX11_signs_16 (by decide) (by decide) (by decide) (by decide) (by decide) ?_
      refine q_aloadn C dX11_signs_64 rfl ?_
      refine gf_RX11_38 C dX11_signs_65 ?_
      refine q_iloadn C dX11_signs_68 rfl ?_
      refine q_iloadn C dX11_signs_69 rfl ?_
      refine cv_RX11_268 C (by decide) (m_X10_honest l g _ hs hS hv hH (by omega) (by omega)) dX11_signs_70 (Nat.le_of_ble_eq_true rfl) (fun r70 => ?_)
      refine q_iret C' dX11_signs_73 (by first | assumption | omega | exact q_tin _ | exact q_bIn _) ?_
      refine ⟨congrArg some ?_, rfl⟩
      unfold sSigns
      first | (rw [if_neg (by omega)]; done) | (rw [if_pos (by omega)]; simp only [Int.reduceEq, ↓reduceIte] <;> first | rfl | assumption | omega ) | (rw [if_pos (by omega)]; repeat (rw [if_neg (by omega)]))
  · refine q_ldc C (z := -1000000001) q_ci_RX11_169 (by decide) dX11_signs_12 ?_
    refine q_iret C' dX11_signs_14 (by first | assumption | omega | exact q_tin _ | exact q_bIn _) ?_
    refine ⟨congrArg some ?_, rfl⟩
    unfold sSigns
    first | (rw [if_neg (by omega)]; done) | (rw [if_pos (by omega)]; simp only [Int.reduceEq, ↓reduceIte] <;> first | rfl | assumption | omega ) | (rw [if_pos (by omega)]; repeat (rw [if_neg (by omega)]))
theorem dX11_gains_0 : decode cX11_gains 0 = .ok (.aload_n 0, 1) := by decide +kernel
theorem dX11_gains_1 : decode cX11_gains 1 = .ok (.getfield 31, 3) := by decide +kernel
theorem dX11_gains_4 : decode cX11_gains 4 = .ok (.iload_n 1, 1) := by decide +kernel
theorem dX11_gains_5 : decode cX11_gains 5 = .ok (.iload_n 2, 1) := by decide +kernel
theorem dX11_gains_6 : decode cX11_gains 6 = .ok (.invokevirtual 205, 3) := by decide +kernel
theorem dX11_gains_9 : decode cX11_gains 9 = .ok (.ifCond .eq 15, 3) := by decide +kernel
theorem dX11_gains_12 : decode cX11_gains 12 = .ok (.aload_n 0, 1) := by decide +kernel
theorem dX11_gains_13 : decode cX11_gains 13 = .ok (.getfield 38, 3) := by decide +kernel
theorem dX11_gains_16 : decode cX11_gains 16 = .ok (.iload_n 1, 1) := by decide +kernel
theorem dX11_gains_17 : decode cX11_gains 17 = .ok (.iload_n 2, 1) := by decide +kernel
theorem dX11_gains_18 : decode cX11_gains 18 = .ok (.invokevirtual 271, 3) := by decide +kernel
theorem dX11_gains_21 : decode cX11_gains 21 = .ok (.goto 5, 3) := by decide +kernel
theorem dX11_gains_24 : decode cX11_gains 24 = .ok (.ldc 169, 2) := by decide +kernel
theorem dX11_gains_26 : decode cX11_gains 26 = .ok (.ireturn, 1) := by decide +kernel
set_option maxRecDepth 4000 in
set_option maxHeartbeats 4000000 in
theorem m_X11_gains (l : Launch) (g : qGm) (M : qMem) {sd : sSD} (hs : sRS sd) (hS : xS M sd) {v : Int → Int} (hv : sRR (sd 4 0) (sd 5 0) v) (hH : xH M 0 (sd 4 0) (sd 5 0) v) {c : Int} (hcq : qIn c) {h : Int} (hhq : qIn h) : qOk l g 5 yX11_gains cX11_gains 3 (some .int) [qR g 0 0, qI c, qI h] M (qEv (some (sGains sd v c h)) M) := by
  refine q_ok (by decide +kernel) (Nat.le_of_ble_eq_true rfl) (fun X C' hn => ?_)
  have C := C'.1
  have hm6 := hs.2.1
  have hn6 := hs.2.2.1
  have w0 := hS.1
  have w1 := hS.2.1
  have w2 := hS.2.2.1
  refine q_aloadn C dX11_gains_0 rfl ?_
  refine gf_RX11_31 C dX11_gains_1 ?_
  refine q_iloadn C dX11_gains_4 rfl ?_
  refine q_iloadn C dX11_gains_5 rfl ?_
  refine cv_RX11_205 C (by decide) (by decide) (m_X7_hasBoth l g _ (by decide) hcq hhq) dX11_gains_6 (Nat.le_of_ble_eq_true rfl) (fun r6 => ?_)
  refine q_ifeqB C 24 dX11_gains_9 (by decide) (fun h9 => ?_) (fun h9 => ?_)
  · refine q_ldc C (z := -1000000001) q_ci_RX11_169 (by decide) dX11_gains_24 ?_
    refine q_iret C' dX11_gains_26 (by first | assumption | omega | exact q_tin _ | exact q_bIn _) ?_
    refine ⟨congrArg some ?_, rfl⟩
    unfold sGains
    first | (rw [if_neg (show ¬ ((0 ≤ c ∧ c < sd 4 0) ∧ (0 ≤ h ∧ h < sd 5 0)) by omega)]; done) | (rw [if_pos (show (0 ≤ c ∧ c < sd 4 0) ∧ (0 ≤ h ∧ h < sd 5 0) by omega)]; rfl)
  · refine q_aloadn C dX11_gains_12 rfl ?_
    refine gf_RX11_38 C dX11_gains_13 ?_
    refine q_iloadn C dX11_gains_16 rfl ?_
    refine q_iloadn C dX11_gains_17 rfl ?_
    refine cv_RX11_271 C (by decide) (m_X10_gain l g _ hs hS hv hH (by omega) (by omega)) dX11_gains_18 (Nat.le_of_ble_eq_true rfl) (fun r18 => ?_)
    refine q_goto C (tgt := 26) dX11_gains_21 (by decide) ?_
    refine q_iret C' dX11_gains_26 (by first | assumption | omega | exact q_tin _ | exact q_bIn _) ?_
    refine ⟨congrArg some ?_, rfl⟩
    unfold sGains
    first | (rw [if_neg (show ¬ ((0 ≤ c ∧ c < sd 4 0) ∧ (0 ≤ h ∧ h < sd 5 0)) by omega)]; done) | (rw [if_pos (show (0 ≤ c ∧ c < sd 4 0) ∧ (0 ≤ h ∧ h < sd 5 0) by omega)]; rfl)
theorem dX11_clear_0 : decode cX11_clear 0 = .ok (.iload_n 1, 1) := by decide +kernel
theorem dX11_clear_1 : decode cX11_clear 1 = .ok (.bipush 7, 2) := by decide +kernel
theorem dX11_clear_3 : decode cX11_clear 3 = .ok (.invokestatic 86, 3) := by decide +kernel
theorem dX11_clear_6 : decode cX11_clear 6 = .ok (.ifCond .eq 11, 3) := by decide +kernel
theorem dX11_clear_9 : decode cX11_clear 9 = .ok (.iload_n 2, 1) := by decide +kernel
theorem dX11_clear_10 : decode cX11_clear 10 = .ok (.iconst 1, 1) := by decide +kernel
theorem dX11_clear_11 : decode cX11_clear 11 = .ok (.invokestatic 86, 3) := by decide +kernel
theorem dX11_clear_14 : decode cX11_clear 14 = .ok (.ifCond .ne 6, 3) := by decide +kernel
theorem dX11_clear_17 : decode cX11_clear 17 = .ok (.ldc 90, 2) := by decide +kernel
theorem dX11_clear_19 : decode cX11_clear 19 = .ok (.ireturn, 1) := by decide +kernel
theorem dX11_clear_20 : decode cX11_clear 20 = .ok (.aload_n 0, 1) := by decide +kernel
theorem dX11_clear_21 : decode cX11_clear 21 = .ok (.getfield 31, 3) := by decide +kernel
theorem dX11_clear_24 : decode cX11_clear 24 = .ok (.invokevirtual 214, 3) := by decide +kernel
theorem dX11_clear_27 : decode cX11_clear 27 = .ok (.ifCond .ne 6, 3) := by decide +kernel
theorem dX11_clear_30 : decode cX11_clear 30 = .ok (.ldc 218, 2) := by decide +kernel
theorem dX11_clear_32 : decode cX11_clear 32 = .ok (.ireturn, 1) := by decide +kernel
theorem dX11_clear_33 : decode cX11_clear 33 = .ok (.iload_n 2, 1) := by decide +kernel
theorem dX11_clear_34 : decode cX11_clear 34 = .ok (.ifCond .ne 14, 3) := by decide +kernel
theorem dX11_clear_37 : decode cX11_clear 37 = .ok (.aload_n 0, 1) := by decide +kernel
theorem dX11_clear_38 : decode cX11_clear 38 = .ok (.getfield 38, 3) := by decide +kernel
theorem dX11_clear_41 : decode cX11_clear 41 = .ok (.iload_n 1, 1) := by decide +kernel
theorem dX11_clear_42 : decode cX11_clear 42 = .ok (.invokevirtual 274, 3) := by decide +kernel
theorem dX11_clear_45 : decode cX11_clear 45 = .ok (.goto 11, 3) := by decide +kernel
theorem dX11_clear_48 : decode cX11_clear 48 = .ok (.aload_n 0, 1) := by decide +kernel
theorem dX11_clear_49 : decode cX11_clear 49 = .ok (.getfield 38, 3) := by decide +kernel
theorem dX11_clear_52 : decode cX11_clear 52 = .ok (.iload_n 1, 1) := by decide +kernel
theorem dX11_clear_53 : decode cX11_clear 53 = .ok (.invokevirtual 277, 3) := by decide +kernel
theorem dX11_clear_56 : decode cX11_clear 56 = .ok (.ireturn, 1) := by decide +kernel
set_option maxRecDepth 4000 in
set_option maxHeartbeats 4000000 in
theorem m_X11_clear (l : Launch) (g : qGm) (M : qMem) {sd : sSD} (hs : sRS sd) (hS : xS M sd) {k : Int} (hkq : qIn k) {w : Int} (hwq : qIn w) : qOk l g 4 yX11_clear cX11_clear 3 (some .int) [qR g 0 0, qI k, qI w] M (qEv (some (sClear sd k w)) M) := by
  refine q_ok (by decide +kernel) (Nat.le_of_ble_eq_true rfl) (fun X C' hn => ?_)
  have C := C'.1
  have hm6 := hs.2.1
  have hn6 := hs.2.2.1
  have w0 := hS.1
  have w1 := hS.2.1
  have w2 := hS.2.2.1
  refine q_iloadn C dX11_clear_0 rfl ?_
  refine q_bipush C dX11_clear_1 (by decide) ?_
  refine cv_RX11_86 C (by decide) (m_X11_isWithin l g _ (by assumption) (by omega)) dX11_clear_3 (Nat.le_of_ble_eq_true rfl) (fun r3 => ?_)
  refine q_ifeqB C 17 dX11_clear_6 (by decide) (fun h6 => ?_) (fun h6 => ?_)
  · refine q_ldc C (z := -1000000002) q_ci_RX11_90 (by decide) dX11_clear_17 ?_
    refine q_iret C' dX11_clear_19 (by first | assumption | omega | exact q_tin _ | exact q_bIn _) ?_
    refine ⟨congrArg some ?_, rfl⟩
    unfold sClear
    first | (rw [if_neg (by omega)]; done) | (rw [if_pos (by omega), if_pos (by omega)]; done) | (rw [if_pos (by omega), if_neg (by omega), if_pos (by omega)]; done) | (rw [if_pos (by omega), if_neg (by omega), if_neg (by omega)]; done)
  · refine q_iloadn C dX11_clear_9 rfl ?_
    refine q_iconst C dX11_clear_10 ?_
    refine cv_RX11_86 C (by decide) (m_X11_isWithin l g _ (by assumption) (by omega)) dX11_clear_11 (Nat.le_of_ble_eq_true rfl) (fun r11 => ?_)
    refine q_ifneB C 20 dX11_clear_14 (by decide) (fun h14 => ?_) (fun h14 => ?_)
    · refine q_aloadn C dX11_clear_20 rfl ?_
      refine gf_RX11_31 C dX11_clear_21 ?_
      refine cv_RX11_214 C (by decide) (by decide) (m_X7_isOn l g _ (by decide)) dX11_clear_24 (Nat.le_of_ble_eq_true rfl) (fun r24 => ?_)
      refine q_ifneB C 33 dX11_clear_27 (by decide) (fun h27 => ?_) (fun h27 => ?_)
      · refine q_iloadn C dX11_clear_33 rfl ?_
        refine q_if_ne C 48 dX11_clear_34 (by decide) (by first | assumption | omega | exact q_tin _ | exact q_bIn _) (fun h34 => ?_) (fun h34 => ?_)
        · refine q_aloadn C dX11_clear_48 rfl ?_
          refine gf_RX11_38 C dX11_clear_49 ?_
          refine q_iloadn C dX11_clear_52 rfl ?_
          refine cv_RX11_277 C (by decide) (m_X10_leastMeaning l g _ hs hS hkq) dX11_clear_53 (Nat.le_of_ble_eq_true rfl) (fun r53 => ?_)
          refine q_iret C' dX11_clear_56 (by first | assumption | omega | exact q_tin _ | exact q_bIn _) ?_
          refine ⟨congrArg some ?_, rfl⟩
          unfold sClear
          first | (rw [if_neg (by omega)]; done) | (rw [if_pos (by omega), if_pos (by omega)]; done) | (rw [if_pos (by omega), if_neg (by omega), if_pos (by omega)]; done) | (rw [if_pos (by omega), if_neg (by omega), if_neg (by omega)]; done)
        · refine q_aloadn C dX11_clear_37 rfl ?_
          refine gf_RX11_38 C dX11_clear_38 ?_
          refine q_iloadn C dX11_clear_41 rfl ?_
          refine cv_RX11_274 C (by decide) (m_X10_countMeaning l g _ hs hS hkq) dX11_clear_42 (Nat.le_of_ble_eq_true rfl) (fun r42 => ?_)
          refine q_goto C (tgt := 56) dX11_clear_45 (by decide) ?_
          refine q_iret C' dX11_clear_56 (by first | assumption | omega | exact q_tin _ | exact q_bIn _) ?_
          refine ⟨congrArg some ?_, rfl⟩
          unfold sClear
          first | (rw [if_neg (by omega)]; done) | (rw [if_pos (by omega), if_pos (by omega)]; done) | (rw [if_pos (by omega), if_neg (by omega), if_pos (by omega)]; done) | (rw [if_pos (by omega), if_neg (by omega), if_neg (by omega)]; done)
      · refine q_ldc C (z := -1000000003) q_ci_RX11_218 (by decide) dX11_clear_30 ?_
        refine q_iret C' dX11_clear_32 (by first | assumption | omega | exact q_tin _ | exact q_bIn _) ?_
        refine ⟨congrArg some ?_, rfl⟩
        unfold sClear
        first | (rw [if_neg (by omega)]; done) | (rw [if_pos (by omega), if_pos (by omega)]; done) | (rw [if_pos (by omega), if_neg (by omega), if_pos (by omega)]; done) | (rw [if_pos (by omega), if_neg (by omega), if_neg (by omega)]; done)
    · refine q_ldc C (z := -1000000002) q_ci_RX11_90 (by decide) dX11_clear_17 ?_
      refine q_iret C' dX11_clear_19 (by first | assumption | omega | exact q_tin _ | exact q_bIn _) ?_
      refine ⟨congrArg some ?_, rfl⟩
      unfold sClear
      first | (rw [if_neg (by omega)]; done) | (rw [if_pos (by omega), if_pos (by omega)]; done) | (rw [if_pos (by omega), if_neg (by omega), if_pos (by omega)]; done) | (rw [if_pos (by omega), if_neg (by omega), if_neg (by omega)]; done)
theorem dX11_letIn_0 : decode cX11_letIn 0 = .ok (.aload_n 0, 1) := by decide +kernel
theorem dX11_letIn_1 : decode cX11_letIn 1 = .ok (.getfield 31, 3) := by decide +kernel
theorem dX11_letIn_4 : decode cX11_letIn 4 = .ok (.iload_n 1, 1) := by decide +kernel
theorem dX11_letIn_5 : decode cX11_letIn 5 = .ok (.invokevirtual 166, 3) := by decide +kernel
theorem dX11_letIn_8 : decode cX11_letIn 8 = .ok (.ifCond .ne 6, 3) := by decide +kernel
theorem dX11_letIn_11 : decode cX11_letIn 11 = .ok (.ldc 169, 2) := by decide +kernel
theorem dX11_letIn_13 : decode cX11_letIn 13 = .ok (.ireturn, 1) := by decide +kernel
theorem dX11_letIn_14 : decode cX11_letIn 14 = .ok (.iload_n 2, 1) := by decide +kernel
theorem dX11_letIn_15 : decode cX11_letIn 15 = .ok (.invokestatic 211, 3) := by decide +kernel
theorem dX11_letIn_18 : decode cX11_letIn 18 = .ok (.ifCond .eq 15, 3) := by decide +kernel
theorem dX11_letIn_21 : decode cX11_letIn 21 = .ok (.aload_n 0, 1) := by decide +kernel
theorem dX11_letIn_22 : decode cX11_letIn 22 = .ok (.getfield 38, 3) := by decide +kernel
theorem dX11_letIn_25 : decode cX11_letIn 25 = .ok (.iload_n 1, 1) := by decide +kernel
theorem dX11_letIn_26 : decode cX11_letIn 26 = .ok (.iload_n 2, 1) := by decide +kernel
theorem dX11_letIn_27 : decode cX11_letIn 27 = .ok (.invokevirtual 280, 3) := by decide +kernel
theorem dX11_letIn_30 : decode cX11_letIn 30 = .ok (.goto 5, 3) := by decide +kernel
theorem dX11_letIn_33 : decode cX11_letIn 33 = .ok (.ldc 90, 2) := by decide +kernel
theorem dX11_letIn_35 : decode cX11_letIn 35 = .ok (.ireturn, 1) := by decide +kernel
set_option maxRecDepth 4000 in
set_option maxHeartbeats 4000000 in
theorem m_X11_letIn (l : Launch) (g : qGm) (M : qMem) {sd : sSD} (hs : sRS sd) (hS : xS M sd) {v : Int → Int} (hv : sRR (sd 4 0) (sd 5 0) v) (hH : xH M 0 (sd 4 0) (sd 5 0) v) {c : Int} (hcq : qIn c) {a : Int} (haq : qIn a) : qOk l g 6 yX11_letIn cX11_letIn 3 (some .int) [qR g 0 0, qI c, qI a] M (qEv (some (sLetIn sd v c a)) M) := by
  refine q_ok (by decide +kernel) (Nat.le_of_ble_eq_true rfl) (fun X C' hn => ?_)
  have C := C'.1
  have hm6 := hs.2.1
  have hn6 := hs.2.2.1
  have w0 := hS.1
  have w1 := hS.2.1
  have w2 := hS.2.2.1
  refine q_aloadn C dX11_letIn_0 rfl ?_
  refine gf_RX11_31 C dX11_letIn_1 ?_
  refine q_iloadn C dX11_letIn_4 rfl ?_
  refine cv_RX11_166 C (by decide) (by decide) (m_X7_hasComer l g _ (by decide) hcq) dX11_letIn_5 (Nat.le_of_ble_eq_true rfl) (fun r5 => ?_)
  refine q_ifneB C 14 dX11_letIn_8 (by decide) (fun h8 => ?_) (fun h8 => ?_)
  · refine q_iloadn C dX11_letIn_14 rfl ?_
    refine cv_RX11_211 C (by decide) (m_X1_isSign l g _ haq) dX11_letIn_15 (Nat.le_of_ble_eq_true rfl) (fun r15 => ?_)
    refine q_ifeqB C 33 dX11_letIn_18 (by decide) (fun h18 => ?_) (fun h18 => ?_)
    · refine q_ldc C (z := -1000000002) q_ci_RX11_90 (by decide) dX11_letIn_33 ?_
      refine q_iret C' dX11_letIn_35 (by first | assumption | omega | exact q_tin _ | exact q_bIn _) ?_
      refine ⟨congrArg some ?_, rfl⟩
      unfold sLetIn
      first | (rw [if_neg (by omega)]; done) | (rw [if_pos (by omega)]; done) | (rw [if_pos (by omega), if_neg (by omega)]; done) | (rw [if_pos (by omega), if_pos (by omega)]; done)
    · refine q_aloadn C dX11_letIn_21 rfl ?_
      refine gf_RX11_38 C dX11_letIn_22 ?_
      refine q_iloadn C dX11_letIn_25 rfl ?_
      refine q_iloadn C dX11_letIn_26 rfl ?_
      refine cv_RX11_280 C (by decide) (m_X10_openHouses l g _ hs hS hv hH (by omega) (by omega)) dX11_letIn_27 (Nat.le_of_ble_eq_true rfl) (fun r27 => ?_)
      refine q_goto C (tgt := 35) dX11_letIn_30 (by decide) ?_
      refine q_iret C' dX11_letIn_35 (by first | assumption | omega | exact q_tin _ | exact q_bIn _) ?_
      refine ⟨congrArg some ?_, rfl⟩
      unfold sLetIn
      first | (rw [if_neg (by omega)]; done) | (rw [if_pos (by omega)]; done) | (rw [if_pos (by omega), if_neg (by omega)]; done) | (rw [if_pos (by omega), if_pos (by omega)]; done)
  · refine q_ldc C (z := -1000000001) q_ci_RX11_169 (by decide) dX11_letIn_11 ?_
    refine q_iret C' dX11_letIn_13 (by first | assumption | omega | exact q_tin _ | exact q_bIn _) ?_
    refine ⟨congrArg some ?_, rfl⟩
    unfold sLetIn
    first | (rw [if_neg (by omega)]; done) | (rw [if_pos (by omega)]; done) | (rw [if_pos (by omega), if_neg (by omega)]; done) | (rw [if_pos (by omega), if_pos (by omega)]; done)
theorem dX11_round_0 : decode cX11_round 0 = .ok (.aload_n 0, 1) := by decide +kernel
theorem dX11_round_1 : decode cX11_round 1 = .ok (.getfield 31, 3) := by decide +kernel
theorem dX11_round_4 : decode cX11_round 4 = .ok (.iload_n 1, 1) := by decide +kernel
theorem dX11_round_5 : decode cX11_round 5 = .ok (.invokevirtual 166, 3) := by decide +kernel
theorem dX11_round_8 : decode cX11_round 8 = .ok (.ifCond .ne 6, 3) := by decide +kernel
theorem dX11_round_11 : decode cX11_round 11 = .ok (.ldc 169, 2) := by decide +kernel
theorem dX11_round_13 : decode cX11_round 13 = .ok (.ireturn, 1) := by decide +kernel
theorem dX11_round_14 : decode cX11_round 14 = .ok (.iload_n 2, 1) := by decide +kernel
theorem dX11_round_15 : decode cX11_round 15 = .ok (.iconst 1, 1) := by decide +kernel
theorem dX11_round_16 : decode cX11_round 16 = .ok (.invokestatic 86, 3) := by decide +kernel
theorem dX11_round_19 : decode cX11_round 19 = .ok (.ifCond .ne 6, 3) := by decide +kernel
theorem dX11_round_22 : decode cX11_round 22 = .ok (.ldc 90, 2) := by decide +kernel
theorem dX11_round_24 : decode cX11_round 24 = .ok (.ireturn, 1) := by decide +kernel
theorem dX11_round_25 : decode cX11_round 25 = .ok (.aload_n 0, 1) := by decide +kernel
theorem dX11_round_26 : decode cX11_round 26 = .ok (.getfield 38, 3) := by decide +kernel
theorem dX11_round_29 : decode cX11_round 29 = .ok (.iload_n 1, 1) := by decide +kernel
theorem dX11_round_30 : decode cX11_round 30 = .ok (.invokevirtual 283, 3) := by decide +kernel
theorem dX11_round_33 : decode cX11_round 33 = .ok (.istore_n 3, 1) := by decide +kernel
theorem dX11_round_34 : decode cX11_round 34 = .ok (.iload_n 2, 1) := by decide +kernel
theorem dX11_round_35 : decode cX11_round 35 = .ok (.ifCond .ne 18, 3) := by decide +kernel
theorem dX11_round_38 : decode cX11_round 38 = .ok (.aload_n 0, 1) := by decide +kernel
theorem dX11_round_39 : decode cX11_round 39 = .ok (.getfield 38, 3) := by decide +kernel
theorem dX11_round_42 : decode cX11_round 42 = .ok (.iload_n 1, 1) := by decide +kernel
theorem dX11_round_43 : decode cX11_round 43 = .ok (.iload_n 3, 1) := by decide +kernel
theorem dX11_round_44 : decode cX11_round 44 = .ok (.invokevirtual 280, 3) := by decide +kernel
theorem dX11_round_47 : decode cX11_round 47 = .ok (.invokestatic 286, 3) := by decide +kernel
theorem dX11_round_50 : decode cX11_round 50 = .ok (.goto 4, 3) := by decide +kernel
theorem dX11_round_53 : decode cX11_round 53 = .ok (.iload_n 3, 1) := by decide +kernel
theorem dX11_round_54 : decode cX11_round 54 = .ok (.ireturn, 1) := by decide +kernel
set_option maxRecDepth 4000 in
set_option maxHeartbeats 4000000 in
theorem m_X11_round (l : Launch) (g : qGm) (M : qMem) {sd : sSD} (hs : sRS sd) (hS : xS M sd) {v : Int → Int} (hv : sRR (sd 4 0) (sd 5 0) v) (hH : xH M 0 (sd 4 0) (sd 5 0) v) {c : Int} (hcq : qIn c) {w : Int} (hwq : qIn w) : qOk l g 7 yX11_round cX11_round 4 (some .int) [qR g 0 0, qI c, qI w] M (qEv (some (sRound sd v c w)) M) := by
  refine q_ok (by decide +kernel) (Nat.le_of_ble_eq_true rfl) (fun X C' hn => ?_)
  have C := C'.1
  have hm6 := hs.2.1
  have hn6 := hs.2.2.1
  have w0 := hS.1
  have w1 := hS.2.1
  have w2 := hS.2.2.1
  have hf : ∀ k, 0 ≤ k → k < 48 → 0 ≤ sPop (sOpen sd v c k) := fun k _ _ => (q_popIn (sOpen_in hs v c k).1 (sOpen_in hs v c k).2).1
  have h2 := sAm_two hf
  have hb := sAm_cases (fun g => sPop (sOpen sd v c g)) (-1) (n := 48) (by omega)
  have hb2 : (sAm (fun g => sPop (sOpen sd v c g)) (-1) (-1) 48).2 = sPop (sOpen sd v c (sAm (fun g => sPop (sOpen sd v c g)) (-1) (-1) 48).1) ∧ 0 ≤ (sAm (fun g => sPop (sOpen sd v c g)) (-1) (-1) 48).1 ∧ (sAm (fun g => sPop (sOpen sd v c g)) (-1) (-1) 48).1 < 48 := by
    rcases hb with ⟨-, q⟩ | q
    · have := q 0 (by omega) (by omega); have := hf 0 (by omega) (by omega); omega
    · exact ⟨q.2.2.2, q.1, q.2.1⟩
  refine q_aloadn C dX11_round_0 rfl ?_
  refine gf_RX11_31 C dX11_round_1 ?_
  refine q_iloadn C dX11_round_4 rfl ?_
  refine cv_RX11_166 C (by decide) (by decide) (m_X7_hasComer l g _ (by decide) hcq) dX11_round_5 (Nat.le_of_ble_eq_true rfl) (fun r5 => ?_)
  refine q_ifneB C 14 dX11_round_8 (by decide) (fun h8 => ?_) (fun h8 => ?_)
  · refine q_iloadn C dX11_round_14 rfl ?_
    refine q_iconst C dX11_round_15 ?_
    refine cv_RX11_86 C (by decide) (m_X11_isWithin l g _ (by assumption) (by omega)) dX11_round_16 (Nat.le_of_ble_eq_true rfl) (fun r16 => ?_)
    refine q_ifneB C 25 dX11_round_19 (by decide) (fun h19 => ?_) (fun h19 => ?_)
    · refine q_aloadn C dX11_round_25 rfl ?_
      refine gf_RX11_38 C dX11_round_26 ?_
      refine q_iloadn C dX11_round_29 rfl ?_
      refine cv_RX11_283 C (by decide) (m_X10_widestSign l g _ hs hS hv hH (by omega)) dX11_round_30 (Nat.le_of_ble_eq_true rfl) (fun r30 => ?_)
      rw [h2] at *
      refine q_istoren C dX11_round_33 hn (by decide) rfl ?_
      refine q_iloadn C dX11_round_34 rfl ?_
      refine q_if_ne C 53 dX11_round_35 (by decide) (by first | assumption | omega | exact q_tin _ | exact q_bIn _) (fun h35 => ?_) (fun h35 => ?_)
      · refine q_iloadn C dX11_round_53 rfl ?_
        refine q_iret C' dX11_round_54 (by first | assumption | omega | exact q_tin _ | exact q_bIn _) ?_
        refine ⟨congrArg some ?_, rfl⟩
        unfold sRound
        first | (rw [if_neg (by omega)]; done) | (rw [if_pos (by omega), if_neg (by omega)]; done) | (rw [if_pos (by omega), if_pos (by omega), if_pos (by omega)]; exact hb2.1.symm) | (rw [if_pos (by omega), if_pos (by omega), if_neg (by omega)]; done)
      · refine q_aloadn C dX11_round_38 rfl ?_
        refine gf_RX11_38 C dX11_round_39 ?_
        refine q_iloadn C dX11_round_42 rfl ?_
        refine q_iloadn C dX11_round_43 rfl ?_
        refine cv_RX11_280 C (by decide) (m_X10_openHouses l g _ hs hS hv hH (by omega) (by omega)) dX11_round_44 (Nat.le_of_ble_eq_true rfl) (fun r44 => ?_)
        refine cv_RX11_286 C (by decide) (m_J6_bitCount_0f7a4 l g _ (sOpen_in hs v c _).1 (sOpen_in hs v c _).2) dX11_round_47 (Nat.le_of_ble_eq_true rfl) (fun r47 => ?_)
        refine q_goto C (tgt := 54) dX11_round_50 (by decide) ?_
        refine q_iret C' dX11_round_54 (by first | assumption | omega | exact q_tin _ | exact q_bIn _) ?_
        refine ⟨congrArg some ?_, rfl⟩
        unfold sRound
        first | (rw [if_neg (by omega)]; done) | (rw [if_pos (by omega), if_neg (by omega)]; done) | (rw [if_pos (by omega), if_pos (by omega), if_pos (by omega)]; exact hb2.1.symm) | (rw [if_pos (by omega), if_pos (by omega), if_neg (by omega)]; done)
    · refine q_ldc C (z := -1000000002) q_ci_RX11_90 (by decide) dX11_round_22 ?_
      refine q_iret C' dX11_round_24 (by first | assumption | omega | exact q_tin _ | exact q_bIn _) ?_
      refine ⟨congrArg some ?_, rfl⟩
      unfold sRound
      first | (rw [if_neg (by omega)]; done) | (rw [if_pos (by omega), if_neg (by omega)]; done) | (rw [if_pos (by omega), if_pos (by omega), if_pos (by omega)]; exact hb2.1.symm) | (rw [if_pos (by omega), if_pos (by omega), if_neg (by omega)]; done)
  · refine q_ldc C (z := -1000000001) q_ci_RX11_169 (by decide) dX11_round_11 ?_
    refine q_iret C' dX11_round_13 (by first | assumption | omega | exact q_tin _ | exact q_bIn _) ?_
    refine ⟨congrArg some ?_, rfl⟩
    unfold sRound
    first | (rw [if_neg (by omega)]; done) | (rw [if_pos (by omega), if_neg (by omega)]; done) | (rw [if_pos (by omega), if_pos (by omega), if_pos (by omega)]; exact hb2.1.symm) | (rw [if_pos (by omega), if_pos (by omega), if_neg (by omega)]; done)
theorem dX11_suits_0 : decode cX11_suits 0 = .ok (.aload_n 0, 1) := by decide +kernel
theorem dX11_suits_1 : decode cX11_suits 1 = .ok (.getfield 31, 3) := by decide +kernel
theorem dX11_suits_4 : decode cX11_suits 4 = .ok (.iload_n 1, 1) := by decide +kernel
theorem dX11_suits_5 : decode cX11_suits 5 = .ok (.iload_n 2, 1) := by decide +kernel
theorem dX11_suits_6 : decode cX11_suits 6 = .ok (.invokevirtual 205, 3) := by decide +kernel
theorem dX11_suits_9 : decode cX11_suits 9 = .ok (.ifCond .eq 15, 3) := by decide +kernel
theorem dX11_suits_12 : decode cX11_suits 12 = .ok (.aload_n 0, 1) := by decide +kernel
theorem dX11_suits_13 : decode cX11_suits 13 = .ok (.getfield 38, 3) := by decide +kernel
theorem dX11_suits_16 : decode cX11_suits 16 = .ok (.iload_n 1, 1) := by decide +kernel
theorem dX11_suits_17 : decode cX11_suits 17 = .ok (.iload_n 2, 1) := by decide +kernel
theorem dX11_suits_18 : decode cX11_suits 18 = .ok (.invokevirtual 291, 3) := by decide +kernel
theorem dX11_suits_21 : decode cX11_suits 21 = .ok (.goto 5, 3) := by decide +kernel
theorem dX11_suits_24 : decode cX11_suits 24 = .ok (.ldc 169, 2) := by decide +kernel
theorem dX11_suits_26 : decode cX11_suits 26 = .ok (.ireturn, 1) := by decide +kernel
set_option maxRecDepth 4000 in
set_option maxHeartbeats 4000000 in
theorem m_X11_suits (l : Launch) (g : qGm) (M : qMem) {sd : sSD} (hs : sRS sd) (hS : xS M sd) {v : Int → Int} (hv : sRR (sd 4 0) (sd 5 0) v) (hH : xH M 0 (sd 4 0) (sd 5 0) v) {c : Int} (hcq : qIn c) {h : Int} (hhq : qIn h) : qOk l g 4 yX11_suits cX11_suits 3 (some .int) [qR g 0 0, qI c, qI h] M (qEv (some (sSuits sd v c h)) M) := by
  refine q_ok (by decide +kernel) (Nat.le_of_ble_eq_true rfl) (fun X C' hn => ?_)
  have C := C'.1
  have hm6 := hs.2.1
  have hn6 := hs.2.2.1
  have w0 := hS.1
  have w1 := hS.2.1
  have w2 := hS.2.2.1
  refine q_aloadn C dX11_suits_0 rfl ?_
  refine gf_RX11_31 C dX11_suits_1 ?_
  refine q_iloadn C dX11_suits_4 rfl ?_
  refine q_iloadn C dX11_suits_5 rfl ?_
  refine cv_RX11_205 C (by decide) (by decide) (m_X7_hasBoth l g _ (by decide) hcq hhq) dX11_suits_6 (Nat.le_of_ble_eq_true rfl) (fun r6 => ?_)
  refine q_ifeqB C 24 dX11_suits_9 (by decide) (fun h9 => ?_) (fun h9 => ?_)
  · refine q_ldc C (z := -1000000001) q_ci_RX11_169 (by decide) dX11_suits_24 ?_
    refine q_iret C' dX11_suits_26 (by first | assumption | omega | exact q_tin _ | exact q_bIn _) ?_
    refine ⟨congrArg some ?_, rfl⟩
    unfold sSuits
    first | (rw [if_neg (by omega)]; done) | (rw [if_pos (by omega)]; done) | (rw [if_pos (by omega), if_neg (by omega)]; done) | (rw [if_pos (by omega), if_pos (by omega)]; done)
  · refine q_aloadn C dX11_suits_12 rfl ?_
    refine gf_RX11_38 C dX11_suits_13 ?_
    refine q_iloadn C dX11_suits_16 rfl ?_
    refine q_iloadn C dX11_suits_17 rfl ?_
    refine cv_RX11_291 C (by decide) (m_X10_suit l g _ hs hS hv hH (by omega) (by omega)) dX11_suits_18 (Nat.le_of_ble_eq_true rfl) (fun r18 => ?_)
    refine q_goto C (tgt := 26) dX11_suits_21 (by decide) ?_
    refine q_iret C' dX11_suits_26 (by first | assumption | omega | exact q_tin _ | exact q_bIn _) ?_
    refine ⟨congrArg some ?_, rfl⟩
    unfold sSuits
    first | (rw [if_neg (by omega)]; done) | (rw [if_pos (by omega)]; done) | (rw [if_pos (by omega), if_neg (by omega)]; done) | (rw [if_pos (by omega), if_pos (by omega)]; done)
theorem dX11_dry_0 : decode cX11_dry 0 = .ok (.iload_n 1, 1) := by decide +kernel
theorem dX11_dry_1 : decode cX11_dry 1 = .ok (.bipush 60, 2) := by decide +kernel
theorem dX11_dry_3 : decode cX11_dry 3 = .ok (.invokestatic 86, 3) := by decide +kernel
theorem dX11_dry_6 : decode cX11_dry 6 = .ok (.ifCond .eq 12, 3) := by decide +kernel
theorem dX11_dry_9 : decode cX11_dry 9 = .ok (.iload_n 2, 1) := by decide +kernel
theorem dX11_dry_10 : decode cX11_dry 10 = .ok (.bipush 100, 2) := by decide +kernel
theorem dX11_dry_12 : decode cX11_dry 12 = .ok (.invokestatic 86, 3) := by decide +kernel
theorem dX11_dry_15 : decode cX11_dry 15 = .ok (.ifCond .ne 6, 3) := by decide +kernel
theorem dX11_dry_18 : decode cX11_dry 18 = .ok (.ldc 90, 2) := by decide +kernel
theorem dX11_dry_20 : decode cX11_dry 20 = .ok (.ireturn, 1) := by decide +kernel
theorem dX11_dry_21 : decode cX11_dry 21 = .ok (.ldc2_w 294, 3) := by decide +kernel
theorem dX11_dry_24 : decode cX11_dry 24 = .ok (.lstore_n 3, 1) := by decide +kernel
theorem dX11_dry_25 : decode cX11_dry 25 = .ok (.iconst 0, 1) := by decide +kernel
theorem dX11_dry_26 : decode cX11_dry 26 = .ok (.istore 5, 2) := by decide +kernel
theorem dX11_dry_28 : decode cX11_dry 28 = .ok (.iload 5, 2) := by decide +kernel
theorem dX11_dry_30 : decode cX11_dry 30 = .ok (.iload_n 1, 1) := by decide +kernel
theorem dX11_dry_31 : decode cX11_dry 31 = .ok (.if_icmp .ge 18, 3) := by decide +kernel
theorem dX11_dry_34 : decode cX11_dry 34 = .ok (.lload_n 3, 1) := by decide +kernel
theorem dX11_dry_35 : decode cX11_dry 35 = .ok (.iload_n 2, 1) := by decide +kernel
theorem dX11_dry_36 : decode cX11_dry 36 = .ok (.i2l, 1) := by decide +kernel
theorem dX11_dry_37 : decode cX11_dry 37 = .ok (.lmul, 1) := by decide +kernel
theorem dX11_dry_38 : decode cX11_dry 38 = .ok (.ldc2_w 296, 3) := by decide +kernel
theorem dX11_dry_41 : decode cX11_dry 41 = .ok (.ldiv, 1) := by decide +kernel
theorem dX11_dry_42 : decode cX11_dry 42 = .ok (.lstore_n 3, 1) := by decide +kernel
theorem dX11_dry_43 : decode cX11_dry 43 = .ok (.iinc 5 1, 3) := by decide +kernel
theorem dX11_dry_46 : decode cX11_dry 46 = .ok (.goto (-18), 3) := by decide +kernel
theorem dX11_dry_49 : decode cX11_dry 49 = .ok (.lload_n 3, 1) := by decide +kernel
theorem dX11_dry_50 : decode cX11_dry 50 = .ok (.l2i, 1) := by decide +kernel
theorem dX11_dry_51 : decode cX11_dry 51 = .ok (.ireturn, 1) := by decide +kernel
set_option maxRecDepth 4000 in
set_option maxHeartbeats 4000000 in
theorem m_X11_dry (l : Launch) (g : qGm) (M : qMem) {n : Int} (hnq : qIn n) {q : Int} (hqq : qIn q) : qOk l g 2 yX11_dry cX11_dry 6 (some .int) [qR g 0 0, qI n, qI q] M (qEv (some (sDry n q)) M) := by
  refine q_ok (by decide +kernel) (Nat.le_of_ble_eq_true rfl) (fun X C' hn => ?_)
  have C := C'.1
  refine q_iloadn C dX11_dry_0 rfl ?_
  refine q_bipush C dX11_dry_1 (by decide) ?_
  refine cv_RX11_86 C (by decide) (m_X11_isWithin l g _ (by assumption) (by omega)) dX11_dry_3 (Nat.le_of_ble_eq_true rfl) (fun r3 => ?_)
  refine q_ifeqB C 18 dX11_dry_6 (by decide) (fun h6 => ?_) (fun h6 => ?_)
  · refine q_ldc C (z := -1000000002) q_ci_RX11_90 (by decide) dX11_dry_18 ?_
    refine q_iret C' dX11_dry_20 (by first | assumption | omega | exact q_tin _ | exact q_bIn _) ?_
    refine ⟨congrArg some ?_, rfl⟩
    unfold sDry
    first | (rw [if_neg (by omega)]; done) | (have e9 : i = n := (by omega); rw [if_pos (by omega), hx, e9])
  · refine q_iloadn C dX11_dry_9 rfl ?_
    refine q_bipush C dX11_dry_10 (by decide) ?_
    refine cv_RX11_86 C (by decide) (m_X11_isWithin l g _ (by assumption) (by omega)) dX11_dry_12 (Nat.le_of_ble_eq_true rfl) (fun r12 => ?_)
    refine q_ifneB C 21 dX11_dry_15 (by decide) (fun h15 => ?_) (fun h15 => ?_)
    · refine q_ldc2 C (z := 1000000000) q_cl_RX11_294 (by decide) dX11_dry_21 ?_
      refine q_lstore3 C dX11_dry_24 hn (by decide) (ls' := [(0, qR g 0 0), (1, qI n), (2, qI q)]) (by exact ⟨rfl, rfl, rfl, trivial⟩) rfl ?_
      refine q_iconst C dX11_dry_25 ?_
      refine q_istore C dX11_dry_26 hn (by decide) rfl ?_
      have L28 : ∀ (n28 : Nat) (x : Int) (i : Int), n - i < (n28 : Int) → (0 ≤ i) → (i ≤ n) → (x = sDryN q i.toNat) → (n ≤ 60 ∧ 0 ≤ q ∧ q ≤ 100) → qV l g X M 28 [(0, qR g 0 0), (1, qI n), (2, qI q), (3, qJ x), (5, qI i)] [] := by
        intro n28
        induction n28 with
        | zero => intro x i hm28 h0 h1 hx hn60; exfalso; first | omega | (simp at *; omega)
        | succ n28 ih28 =>
          intro x i hm28 h0 h1 hx hn60
          have hb := sDryN_in hn60.2 i.toNat
          rw [← hx] at hb
          have hp1 : 0 ≤ x * q := Int.mul_nonneg hb.1 hn60.2.1
          have hp2 : x * q ≤ 1000000000 * 100 := Int.mul_le_mul hb.2 hn60.2.2 hn60.2.1 (by omega)
          refine q_iload C dX11_dry_28 rfl ?_
          refine q_iloadn C dX11_dry_30 rfl ?_
          refine q_icmp_ge C 49 dX11_dry_31 (by decide) (by first | assumption | omega | exact q_tin _ | exact q_bIn _) (by first | assumption | omega | exact q_tin _ | exact q_bIn _) (fun h31 => ?_) (fun h31 => ?_)
          · refine q_lloadn C dX11_dry_49 rfl ?_
            refine q_l2i C dX11_dry_50 ?_
            refine q_iret C' dX11_dry_51 (by first | assumption | omega | exact q_tin _ | exact q_bIn _) ?_
            refine ⟨congrArg some ?_, rfl⟩
            unfold sDry
            first | (rw [if_neg (by omega)]; done) | (have e9 : i = n := (by omega); rw [if_pos (by omega), hx, e9])
          · refine q_lloadn C dX11_dry_34 rfl ?_
            refine q_iloadn C dX11_dry_35 rfl ?_
            refine q_i2l C (by first | assumption | omega | exact q_tin _ | exact q_bIn _) dX11_dry_36 ?_
            refine q_lmul C dX11_dry_37 ?_
            refine q_ldc2 C (z := 100) q_cl_RX11_296 (by decide) dX11_dry_38 ?_
            refine q_ldiv C dX11_dry_41 (by omega) (by omega) (by omega) (by omega) ?_
            refine q_lstore3 C dX11_dry_42 hn (by decide) (ls' := [(0, qR g 0 0), (1, qI n), (2, qI q), (5, qI i)]) (by exact ⟨rfl, rfl, rfl, rfl, trivial⟩) rfl ?_
            refine q_iinc C dX11_dry_43 rfl hn (by decide) rfl ?_
            refine q_goto C (tgt := 28) dX11_dry_46 (by decide) ?_
            exact q_ls (by exact ⟨rfl, rfl, rfl, rfl, rfl, trivial⟩) (ih28 _ _ (by omega) (by omega) (by omega) (by rw [show (i + 1).toNat = i.toNat + 1 by omega, sDryN, ← hx]) (by omega))
      exact q_ls (by exact ⟨rfl, rfl, rfl, rfl, rfl, trivial⟩) (L28 1000 _ _ (by omega) (by omega) (by omega) (by rfl) (by omega))
    · refine q_ldc C (z := -1000000002) q_ci_RX11_90 (by decide) dX11_dry_18 ?_
      refine q_iret C' dX11_dry_20 (by first | assumption | omega | exact q_tin _ | exact q_bIn _) ?_
      refine ⟨congrArg some ?_, rfl⟩
      unfold sDry
      first | (rw [if_neg (by omega)]; done) | (have e9 : i = n := (by omega); rw [if_pos (by omega), hx, e9])
theorem dX11_couldBe_0 : decode cX11_couldBe 0 = .ok (.iload_n 1, 1) := by decide +kernel
theorem dX11_couldBe_1 : decode cX11_couldBe 1 = .ok (.iconst 2, 1) := by decide +kernel
theorem dX11_couldBe_2 : decode cX11_couldBe 2 = .ok (.invokestatic 86, 3) := by decide +kernel
theorem dX11_couldBe_5 : decode cX11_couldBe 5 = .ok (.ifCond .ne 6, 3) := by decide +kernel
theorem dX11_couldBe_8 : decode cX11_couldBe 8 = .ok (.ldc 90, 2) := by decide +kernel
theorem dX11_couldBe_10 : decode cX11_couldBe 10 = .ok (.ireturn, 1) := by decide +kernel
theorem dX11_couldBe_11 : decode cX11_couldBe 11 = .ok (.aload_n 0, 1) := by decide +kernel
theorem dX11_couldBe_12 : decode cX11_couldBe 12 = .ok (.getfield 31, 3) := by decide +kernel
theorem dX11_couldBe_15 : decode cX11_couldBe 15 = .ok (.invokevirtual 214, 3) := by decide +kernel
theorem dX11_couldBe_18 : decode cX11_couldBe 18 = .ok (.ifCond .ne 6, 3) := by decide +kernel
theorem dX11_couldBe_21 : decode cX11_couldBe 21 = .ok (.ldc 218, 2) := by decide +kernel
theorem dX11_couldBe_23 : decode cX11_couldBe 23 = .ok (.ireturn, 1) := by decide +kernel
theorem dX11_couldBe_24 : decode cX11_couldBe 24 = .ok (.iload_n 1, 1) := by decide +kernel
theorem dX11_couldBe_25 : decode cX11_couldBe 25 = .ok (.lookupswitch 57 #[(0, 27), (1, 42)], 27) := by decide +kernel
theorem dX11_couldBe_52 : decode cX11_couldBe 52 = .ok (.aload_n 0, 1) := by decide +kernel
theorem dX11_couldBe_53 : decode cX11_couldBe 53 = .ok (.getfield 71, 3) := by decide +kernel
theorem dX11_couldBe_56 : decode cX11_couldBe 56 = .ok (.aload_n 0, 1) := by decide +kernel
theorem dX11_couldBe_57 : decode cX11_couldBe 57 = .ok (.getfield 31, 3) := by decide +kernel
theorem dX11_couldBe_60 : decode cX11_couldBe 60 = .ok (.getfield 128, 3) := by decide +kernel
theorem dX11_couldBe_63 : decode cX11_couldBe 63 = .ok (.invokevirtual 300, 3) := by decide +kernel
theorem dX11_couldBe_66 : decode cX11_couldBe 66 = .ok (.ireturn, 1) := by decide +kernel
theorem dX11_couldBe_67 : decode cX11_couldBe 67 = .ok (.aload_n 0, 1) := by decide +kernel
theorem dX11_couldBe_68 : decode cX11_couldBe 68 = .ok (.getfield 71, 3) := by decide +kernel
theorem dX11_couldBe_71 : decode cX11_couldBe 71 = .ok (.aload_n 0, 1) := by decide +kernel
theorem dX11_couldBe_72 : decode cX11_couldBe 72 = .ok (.getfield 31, 3) := by decide +kernel
theorem dX11_couldBe_75 : decode cX11_couldBe 75 = .ok (.getfield 128, 3) := by decide +kernel
theorem dX11_couldBe_78 : decode cX11_couldBe 78 = .ok (.invokevirtual 303, 3) := by decide +kernel
theorem dX11_couldBe_81 : decode cX11_couldBe 81 = .ok (.ireturn, 1) := by decide +kernel
theorem dX11_couldBe_82 : decode cX11_couldBe 82 = .ok (.aload_n 0, 1) := by decide +kernel
theorem dX11_couldBe_83 : decode cX11_couldBe 83 = .ok (.getfield 71, 3) := by decide +kernel
theorem dX11_couldBe_86 : decode cX11_couldBe 86 = .ok (.aload_n 0, 1) := by decide +kernel
theorem dX11_couldBe_87 : decode cX11_couldBe 87 = .ok (.getfield 31, 3) := by decide +kernel
theorem dX11_couldBe_90 : decode cX11_couldBe 90 = .ok (.getfield 128, 3) := by decide +kernel
theorem dX11_couldBe_93 : decode cX11_couldBe 93 = .ok (.invokevirtual 306, 3) := by decide +kernel
theorem dX11_couldBe_96 : decode cX11_couldBe 96 = .ok (.ireturn, 1) := by decide +kernel
set_option maxRecDepth 4000 in
set_option maxHeartbeats 4000000 in
theorem m_X11_couldBe (l : Launch) (g : qGm) (M : qMem) {sd : sSD} (hs : sRS sd) (hS : xS M sd) (hsn : 0 ≤ M 29 0 2 ∧ M 29 0 2 ≤ 6) (hsb : ∀ i, 0 ≤ i → i < M 29 0 2 → 0 ≤ M 30 0 i ∧ M 30 0 i < 5) {w : Int} (hwq : qIn w) : qOk l g 4 yX11_couldBe cX11_couldBe 2 (some .int) [qR g 0 0, qI w] M (qEv (some (sCould (sd 0 0) (M 29 0 2) (M 30 0) (M 31 0) w)) M) := by
  refine q_ok (by decide +kernel) (Nat.le_of_ble_eq_true rfl) (fun X C' hn => ?_)
  have C := C'.1
  have hm6 := hs.2.1
  have hn6 := hs.2.2.1
  have w0 := hS.1
  have w1 := hS.2.1
  have w2 := hS.2.2.1
  refine q_iloadn C dX11_couldBe_0 rfl ?_
  refine q_iconst C dX11_couldBe_1 ?_
  refine cv_RX11_86 C (by decide) (m_X11_isWithin l g _ (by assumption) (by omega)) dX11_couldBe_2 (Nat.le_of_ble_eq_true rfl) (fun r2 => ?_)
  refine q_ifneB C 11 dX11_couldBe_5 (by decide) (fun h5 => ?_) (fun h5 => ?_)
  · refine q_aloadn C dX11_couldBe_11 rfl ?_
    refine gf_RX11_31 C dX11_couldBe_12 ?_
    refine cv_RX11_214 C (by decide) (by decide) (m_X7_isOn l g _ (by decide)) dX11_couldBe_15 (Nat.le_of_ble_eq_true rfl) (fun r15 => ?_)
    refine q_ifneB C 24 dX11_couldBe_18 (by decide) (fun h18 => ?_) (fun h18 => ?_)
    · refine q_iloadn C dX11_couldBe_24 rfl ?_
      by_cases hk25_0 : w = 0
      · refine q_lsw C (off := 27) 52 dX11_couldBe_25 (by decide) (by first | assumption | omega | exact q_tin _ | exact q_bIn _) (by show (if (0 : Int) = w then (27 : Int) else if (1 : Int) = w then (42 : Int) else (57 : Int)) = 27; rw [if_pos (by omega)]) (by decide) ?_
        refine q_aloadn C dX11_couldBe_52 rfl ?_
        refine gf_RX11_71 C dX11_couldBe_53 ?_
        refine q_aloadn C dX11_couldBe_56 rfl ?_
        refine gf_RX11_31 C dX11_couldBe_57 ?_
        refine gf_RX11_128 C (by decide) dX11_couldBe_60 (fun r60 => ?_)
        refine cv_RX11_300 C (by decide) (m_X8_countFits l g _ (by assumption) hsn hsb) dX11_couldBe_63 (Nat.le_of_ble_eq_true rfl) (fun r63 => ?_)
        refine q_iret C' dX11_couldBe_66 (by first | assumption | omega | exact q_tin _ | exact q_bIn _) ?_
        refine ⟨congrArg some ?_, rfl⟩
        rw [← w0]
        unfold sCould
        first | (rw [if_neg (by omega)]; done) | (rw [if_pos (by omega), if_pos (by omega)]; done) | (rw [if_pos (by omega), if_neg (by omega), if_pos (by omega)]; done) | (rw [if_pos (by omega), if_neg (by omega), if_neg (by omega), if_pos (by omega)]; done) | (rw [if_pos (by omega), if_neg (by omega), if_neg (by omega), if_neg (by omega)]; done)
      by_cases hk25_1 : w = 1
      · refine q_lsw C (off := 42) 67 dX11_couldBe_25 (by decide) (by first | assumption | omega | exact q_tin _ | exact q_bIn _) (by show (if (0 : Int) = w then (27 : Int) else if (1 : Int) = w then (42 : Int) else (57 : Int)) = 42; rw [if_neg (by omega), if_pos (by omega)]) (by decide) ?_
        refine q_aloadn C dX11_couldBe_67 rfl ?_
        refine gf_RX11_71 C dX11_couldBe_68 ?_
        refine q_aloadn C dX11_couldBe_71 rfl ?_
        refine gf_RX11_31 C dX11_couldBe_72 ?_
        refine gf_RX11_128 C (by decide) dX11_couldBe_75 (fun r75 => ?_)
        refine cv_RX11_303 C (by decide) (m_X8_leastFit l g _ (by assumption) hsn hsb) dX11_couldBe_78 (Nat.le_of_ble_eq_true rfl) (fun r78 => ?_)
        refine q_iret C' dX11_couldBe_81 (by first | assumption | omega | exact q_tin _ | exact q_bIn _) ?_
        refine ⟨congrArg some ?_, rfl⟩
        rw [← w0]
        unfold sCould
        first | (rw [if_neg (by omega)]; done) | (rw [if_pos (by omega), if_pos (by omega)]; done) | (rw [if_pos (by omega), if_neg (by omega), if_pos (by omega)]; done) | (rw [if_pos (by omega), if_neg (by omega), if_neg (by omega), if_pos (by omega)]; done) | (rw [if_pos (by omega), if_neg (by omega), if_neg (by omega), if_neg (by omega)]; done)
      refine q_lsw C (off := 57) 82 dX11_couldBe_25 (by decide) (by first | assumption | omega | exact q_tin _ | exact q_bIn _) (by show (if (0 : Int) = w then (27 : Int) else if (1 : Int) = w then (42 : Int) else (57 : Int)) = 57; rw [if_neg (by omega), if_neg (by omega)]) (by decide) ?_
      refine q_aloadn C dX11_couldBe_82 rfl ?_
      refine gf_RX11_71 C dX11_couldBe_83 ?_
      refine q_aloadn C dX11_couldBe_86 rfl ?_
      refine gf_RX11_31 C dX11_couldBe_87 ?_
      refine gf_RX11_128 C (by decide) dX11_couldBe_90 (fun r90 => ?_)
      refine cv_RX11_306 C (by decide) (m_X8_meaningsThatFit l g _ (by assumption) hsn hsb) dX11_couldBe_93 (Nat.le_of_ble_eq_true rfl) (fun r93 => ?_)
      refine q_iret C' dX11_couldBe_96 (by first | assumption | omega | exact q_tin _ | exact q_bIn _) ?_
      refine ⟨congrArg some ?_, rfl⟩
      rw [← w0]
      unfold sCould
      first | (rw [if_neg (by omega)]; done) | (rw [if_pos (by omega), if_pos (by omega)]; done) | (rw [if_pos (by omega), if_neg (by omega), if_pos (by omega)]; done) | (rw [if_pos (by omega), if_neg (by omega), if_neg (by omega), if_pos (by omega)]; done) | (rw [if_pos (by omega), if_neg (by omega), if_neg (by omega), if_neg (by omega)]; done)
    · refine q_ldc C (z := -1000000003) q_ci_RX11_218 (by decide) dX11_couldBe_21 ?_
      refine q_iret C' dX11_couldBe_23 (by first | assumption | omega | exact q_tin _ | exact q_bIn _) ?_
      refine ⟨congrArg some ?_, rfl⟩
      rw [← w0]
      unfold sCould
      first | (rw [if_neg (by omega)]; done) | (rw [if_pos (by omega), if_pos (by omega)]; done) | (rw [if_pos (by omega), if_neg (by omega), if_pos (by omega)]; done) | (rw [if_pos (by omega), if_neg (by omega), if_neg (by omega), if_pos (by omega)]; done) | (rw [if_pos (by omega), if_neg (by omega), if_neg (by omega), if_neg (by omega)]; done)
  · refine q_ldc C (z := -1000000002) q_ci_RX11_90 (by decide) dX11_couldBe_8 ?_
    refine q_iret C' dX11_couldBe_10 (by first | assumption | omega | exact q_tin _ | exact q_bIn _) ?_
    refine ⟨congrArg some ?_, rfl⟩
    rw [← w0]
    unfold sCould
    first | (rw [if_neg (by omega)]; done) | (rw [if_pos (by omega), if_pos (by omega)]; done) | (rw [if_pos (by omega), if_neg (by omega), if_pos (by omega)]; done) | (rw [if_pos (by omega), if_neg (by omega), if_neg (by omega), if_pos (by omega)]; done) | (rw [if_pos (by omega), if_neg (by omega), if_neg (by omega), if_neg (by omega)]; done)
theorem dX11_part_0 : decode cX11_part 0 = .ok (.aload_n 0, 1) := by decide +kernel
theorem dX11_part_1 : decode cX11_part 1 = .ok (.getfield 31, 3) := by decide +kernel
theorem dX11_part_4 : decode cX11_part 4 = .ok (.invokevirtual 214, 3) := by decide +kernel
theorem dX11_part_7 : decode cX11_part 7 = .ok (.ifCond .eq 20, 3) := by decide +kernel
theorem dX11_part_10 : decode cX11_part 10 = .ok (.aload_n 0, 1) := by decide +kernel
theorem dX11_part_11 : decode cX11_part 11 = .ok (.getfield 71, 3) := by decide +kernel
theorem dX11_part_14 : decode cX11_part 14 = .ok (.aload_n 0, 1) := by decide +kernel
theorem dX11_part_15 : decode cX11_part 15 = .ok (.getfield 31, 3) := by decide +kernel
theorem dX11_part_18 : decode cX11_part 18 = .ok (.getfield 128, 3) := by decide +kernel
theorem dX11_part_21 : decode cX11_part 21 = .ok (.invokevirtual 309, 3) := by decide +kernel
theorem dX11_part_24 : decode cX11_part 24 = .ok (.goto 5, 3) := by decide +kernel
theorem dX11_part_27 : decode cX11_part 27 = .ok (.ldc 218, 2) := by decide +kernel
theorem dX11_part_29 : decode cX11_part 29 = .ok (.ireturn, 1) := by decide +kernel
set_option maxRecDepth 4000 in
set_option maxHeartbeats 4000000 in
theorem m_X11_part (l : Launch) (g : qGm) (M : qMem) {sd : sSD} (hs : sRS sd) (hS : xS M sd) (hsn : 0 ≤ M 29 0 2 ∧ M 29 0 2 ≤ 6) (hsb : ∀ i, 0 ≤ i → i < M 29 0 2 → 0 ≤ M 30 0 i ∧ M 30 0 i < 5) : qOk l g 6 yX11_part cX11_part 1 (some .int) [qR g 0 0] M (qEv (some (sPartQ (sd 0 0) (M 29 0 2) (M 30 0) (M 31 0))) M) := by
  refine q_ok (by decide +kernel) (Nat.le_of_ble_eq_true rfl) (fun X C' hn => ?_)
  have C := C'.1
  have hm6 := hs.2.1
  have hn6 := hs.2.2.1
  have w0 := hS.1
  have w1 := hS.2.1
  have w2 := hS.2.2.1
  refine q_aloadn C dX11_part_0 rfl ?_
  refine gf_RX11_31 C dX11_part_1 ?_
  refine cv_RX11_214 C (by decide) (by decide) (m_X7_isOn l g _ (by decide)) dX11_part_4 (Nat.le_of_ble_eq_true rfl) (fun r4 => ?_)
  refine q_ifeqB C 27 dX11_part_7 (by decide) (fun h7 => ?_) (fun h7 => ?_)
  · refine q_ldc C (z := -1000000003) q_ci_RX11_218 (by decide) dX11_part_27 ?_
    refine q_iret C' dX11_part_29 (by first | assumption | omega | exact q_tin _ | exact q_bIn _) ?_
    refine ⟨congrArg some ?_, rfl⟩
    rw [← w0]
    unfold sPartQ
    first | (rw [if_neg (by omega)]; done) | (rw [if_pos (by omega)]; done)
  · refine q_aloadn C dX11_part_10 rfl ?_
    refine gf_RX11_71 C dX11_part_11 ?_
    refine q_aloadn C dX11_part_14 rfl ?_
    refine gf_RX11_31 C dX11_part_15 ?_
    refine gf_RX11_128 C (by decide) dX11_part_18 (fun r18 => ?_)
    refine cv_RX11_309 C (by decide) (m_X8_bestPart l g _ (by assumption) hsn hsb) dX11_part_21 (Nat.le_of_ble_eq_true rfl) (fun r21 => ?_)
    refine q_goto C (tgt := 29) dX11_part_24 (by decide) ?_
    refine q_iret C' dX11_part_29 (by first | assumption | omega | exact q_tin _ | exact q_bIn _) ?_
    refine ⟨congrArg some ?_, rfl⟩
    rw [← w0]
    unfold sPartQ
    first | (rw [if_neg (by omega)]; done) | (rw [if_pos (by omega)]; done)
theorem dX11_judge_0 : decode cX11_judge 0 = .ok (.aload_n 0, 1) := by decide +kernel
theorem dX11_judge_1 : decode cX11_judge 1 = .ok (.getfield 78, 3) := by decide +kernel
theorem dX11_judge_4 : decode cX11_judge 4 = .ok (.aload_n 0, 1) := by decide +kernel
theorem dX11_judge_5 : decode cX11_judge 5 = .ok (.getfield 34, 3) := by decide +kernel
theorem dX11_judge_8 : decode cX11_judge 8 = .ok (.invokevirtual 313, 3) := by decide +kernel
theorem dX11_judge_11 : decode cX11_judge 11 = .ok (.ireturn, 1) := by decide +kernel
set_option maxRecDepth 4000 in
set_option maxHeartbeats 4000000 in
theorem m_X11_judge (l : Launch) (g : qGm) (M : qMem) (hbn : 0 ≤ M 32 0 2 ∧ M 32 0 2 ≤ 20) (hbb : ∀ i, 0 ≤ i → i < M 32 0 2 → 0 ≤ M 33 0 i ∧ M 33 0 i < 6) : qOk l g 2 yX11_judge cX11_judge 1 (some .int) [qR g 0 0] M (qEv (some (sFr (fun i => decide (M 14 0 (M 33 0 i) ≠ M 34 0 i)) (M 32 0 2) 0)) M) := by
  refine q_ok (by decide +kernel) (Nat.le_of_ble_eq_true rfl) (fun X C' hn => ?_)
  have C := C'.1
  refine q_aloadn C dX11_judge_0 rfl ?_
  refine gf_RX11_78 C dX11_judge_1 ?_
  refine q_aloadn C dX11_judge_4 rfl ?_
  refine gf_RX11_34 C dX11_judge_5 ?_
  refine cv_RX11_313 C (by decide) (m_X0_firstWrong l g _ (by decide) hbn hbb) dX11_judge_8 (Nat.le_of_ble_eq_true rfl) (fun r8 => ?_)
  refine q_iret C' dX11_judge_11 (by first | assumption | omega | exact q_tin _ | exact q_bIn _) ?_
  exact ⟨rfl, rfl⟩
