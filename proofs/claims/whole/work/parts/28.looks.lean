def sCallsAt (m : Int) (v : Int → Int) (h : Int) : Int := sSum (fun c => v (20 + (6 * c + h))) m
theorem sCallsAt_in {m n : Int} {v : Int → Int} (hm : 0 ≤ m ∧ m ≤ 6) (hv : sRR m n v) {h : Int} (hh : 0 ≤ h ∧ h < n) : 0 ≤ sCallsAt m v h ∧ sCallsAt m v h ≤ 5994 := by
  have := sSum_b (f := fun c => v (20 + (6 * c + h))) (n := m) (B := 999) hm.1 (fun k h1 h2 => (hv.2.2.2.2.1 k h h1 h2 hh.1 hh.2).1)
  unfold sCallsAt
  omega
theorem xCalls_eq {M : qMem} {u : Nat} {m n : Int} {v : Int → Int} (hm : 0 ≤ m ∧ m ≤ 6) (hH : xH M u m n v) {h : Int} (hh : 0 ≤ h ∧ h < 6) : xCalls M u h = if h < n then sCallsAt m v h else 0 := by
  have hc := hH.2.2.2.2.1
  unfold xCalls sCallsAt
  by_cases e : h < n
  · rw [if_pos e, sSum_z hm.1 hm.2 (fun k h1 h2 => (hc k h (by omega) h2 hh.1 hh.2).2 (by omega))]
    exact sSum_c (fun k h1 h2 => ((hc k h h1 (by omega) hh.1 hh.2).1 ⟨h2, e⟩).1)
  · rw [if_neg e, sSum_z (n := 0) (by omega) (by omega) (fun k h1 h2 => (hc k h h1 h2 hh.1 hh.2).2 (by omega))]
    rfl
theorem xCalls_b {M : qMem} {u : Nat} {m n : Int} {v : Int → Int} (hH : xH M u m n v) (hv : sRR m n v) : ∀ k, 0 ≤ k → k < 36 → 0 ≤ M 15 u k ∧ M 15 u k ≤ 999 := by
  intro k h0 h1
  have hc := hH.2.2.2.2.1 (k / 6) (k % 6) (by omega) (by omega) (by omega) (by omega)
  rw [show k / 6 * 6 + k % 6 = k by omega] at hc
  by_cases e : k / 6 < m ∧ k % 6 < n
  · rw [(hc.1 e).1]
    exact (hv.2.2.2.2.1 (k / 6) (k % 6) (by omega) e.1 (by omega) e.2).1
  · rw [hc.2 e]; omega
def sSaidN (mn : Int) : Int := sSum (fun k => qB (sSaid mn k)) 48
def sTold (sd : sSD) (v : Int → Int) (tx sn bk un w : Int) : Int := if w = 0 then sd 0 0 else if w = 1 then sd 4 0 else if w = 2 then sd 5 0 else if w = 3 then tx else if w = 4 then v 0 else if w = 5 then v 1 else if w = 6 then sSum (fun h => sCallsAt (sd 4 0) v h) (sd 5 0) else if w = 7 then (sAm (fun h => sCallsAt (sd 4 0) v h) (-1) 0 (sd 5 0)).1 else if w = 8 then (sAm (fun h => v (2 + h)) (-1) (-1) (sd 5 0)).1 else if w = 9 then sSaidN (sd 0 0) else if w = 10 then v 98 else if w = 11 then sn else if w = 12 then bk else if w = 13 then un else -1000000002
theorem xAll_eq {M : qMem} {m n : Int} {v : Int → Int} (hm : 0 ≤ m ∧ m ≤ 6) (hn : 0 ≤ n ∧ n ≤ 6) (hH : xH M 0 m n v) : sSum (fun h => xCalls M 0 h) 6 = sSum (fun h => sCallsAt m v h) n := by
  rw [sSum_z hn.1 hn.2 (fun k h1 h2 => by rw [xCalls_eq hm hH ⟨by omega, h2⟩, if_neg (by omega)])]
  exact sSum_c (fun k h1 h2 => by rw [xCalls_eq hm hH ⟨h1, by omega⟩, if_pos h2])
theorem xWel_eq {M : qMem} {m n : Int} {v : Int → Int} (hm : 0 ≤ m ∧ m ≤ 6) (hn : 0 ≤ n ∧ n ≤ 6) (hH : xH M 0 m n v) : sAm (fun h => xCalls M 0 h) (-1) 0 6 = sAm (fun h => sCallsAt m v h) (-1) 0 n := by
  rw [sAm_z hn.1 hn.2 (fun k h1 h2 => by rw [xCalls_eq hm hH ⟨by omega, h2⟩, if_neg (by omega)]; omega)]
  exact sAm_c (fun k h1 h2 => by rw [xCalls_eq hm hH ⟨h1, by omega⟩, if_pos h2])
theorem dX11_told_0 : decode cX11_told 0 = .ok (.iload_n 1, 1) := by decide +kernel
theorem dX11_told_1 : decode cX11_told 1 = .ok (.tableswitch 196 0 13 #[71, 79, 87, 95, 103, 111, 119, 127, 135, 150, 161, 172, 180, 188], 71) := by decide +kernel
theorem dX11_told_72 : decode cX11_told 72 = .ok (.aload_n 0, 1) := by decide +kernel
theorem dX11_told_73 : decode cX11_told 73 = .ok (.getfield 31, 3) := by decide +kernel
theorem dX11_told_76 : decode cX11_told 76 = .ok (.getfield 128, 3) := by decide +kernel
theorem dX11_told_79 : decode cX11_told 79 = .ok (.ireturn, 1) := by decide +kernel
theorem dX11_told_80 : decode cX11_told 80 = .ok (.aload_n 0, 1) := by decide +kernel
theorem dX11_told_81 : decode cX11_told 81 = .ok (.getfield 31, 3) := by decide +kernel
theorem dX11_told_84 : decode cX11_told 84 = .ok (.getfield 122, 3) := by decide +kernel
theorem dX11_told_87 : decode cX11_told 87 = .ok (.ireturn, 1) := by decide +kernel
theorem dX11_told_88 : decode cX11_told 88 = .ok (.aload_n 0, 1) := by decide +kernel
theorem dX11_told_89 : decode cX11_told 89 = .ok (.getfield 31, 3) := by decide +kernel
theorem dX11_told_92 : decode cX11_told 92 = .ok (.getfield 131, 3) := by decide +kernel
theorem dX11_told_95 : decode cX11_told 95 = .ok (.ireturn, 1) := by decide +kernel
theorem dX11_told_96 : decode cX11_told 96 = .ok (.aload_n 0, 1) := by decide +kernel
theorem dX11_told_97 : decode cX11_told 97 = .ok (.getfield 21, 3) := by decide +kernel
theorem dX11_told_100 : decode cX11_told 100 = .ok (.getfield 95, 3) := by decide +kernel
theorem dX11_told_103 : decode cX11_told 103 = .ok (.ireturn, 1) := by decide +kernel
theorem dX11_told_104 : decode cX11_told 104 = .ok (.aload_n 0, 1) := by decide +kernel
theorem dX11_told_105 : decode cX11_told 105 = .ok (.getfield 34, 3) := by decide +kernel
theorem dX11_told_108 : decode cX11_told 108 = .ok (.getfield 134, 3) := by decide +kernel
theorem dX11_told_111 : decode cX11_told 111 = .ok (.ireturn, 1) := by decide +kernel
theorem dX11_told_112 : decode cX11_told 112 = .ok (.aload_n 0, 1) := by decide +kernel
theorem dX11_told_113 : decode cX11_told 113 = .ok (.getfield 34, 3) := by decide +kernel
theorem dX11_told_116 : decode cX11_told 116 = .ok (.getfield 137, 3) := by decide +kernel
theorem dX11_told_119 : decode cX11_told 119 = .ok (.ireturn, 1) := by decide +kernel
theorem dX11_told_120 : decode cX11_told 120 = .ok (.aload_n 0, 1) := by decide +kernel
theorem dX11_told_121 : decode cX11_told 121 = .ok (.getfield 34, 3) := by decide +kernel
theorem dX11_told_124 : decode cX11_told 124 = .ok (.invokevirtual 140, 3) := by decide +kernel
theorem dX11_told_127 : decode cX11_told 127 = .ok (.ireturn, 1) := by decide +kernel
theorem dX11_told_128 : decode cX11_told 128 = .ok (.aload_n 0, 1) := by decide +kernel
theorem dX11_told_129 : decode cX11_told 129 = .ok (.getfield 34, 3) := by decide +kernel
theorem dX11_told_132 : decode cX11_told 132 = .ok (.invokevirtual 144, 3) := by decide +kernel
theorem dX11_told_135 : decode cX11_told 135 = .ok (.ireturn, 1) := by decide +kernel
theorem dX11_told_136 : decode cX11_told 136 = .ok (.aload_n 0, 1) := by decide +kernel
theorem dX11_told_137 : decode cX11_told 137 = .ok (.getfield 34, 3) := by decide +kernel
theorem dX11_told_140 : decode cX11_told 140 = .ok (.aload_n 0, 1) := by decide +kernel
theorem dX11_told_141 : decode cX11_told 141 = .ok (.getfield 31, 3) := by decide +kernel
theorem dX11_told_144 : decode cX11_told 144 = .ok (.getfield 131, 3) := by decide +kernel
theorem dX11_told_147 : decode cX11_told 147 = .ok (.invokevirtual 147, 3) := by decide +kernel
theorem dX11_told_150 : decode cX11_told 150 = .ok (.ireturn, 1) := by decide +kernel
theorem dX11_told_151 : decode cX11_told 151 = .ok (.aload_n 0, 1) := by decide +kernel
theorem dX11_told_152 : decode cX11_told 152 = .ok (.getfield 31, 3) := by decide +kernel
theorem dX11_told_155 : decode cX11_told 155 = .ok (.getfield 128, 3) := by decide +kernel
theorem dX11_told_158 : decode cX11_told 158 = .ok (.invokestatic 151, 3) := by decide +kernel
theorem dX11_told_161 : decode cX11_told 161 = .ok (.ireturn, 1) := by decide +kernel
theorem dX11_told_162 : decode cX11_told 162 = .ok (.aload_n 0, 1) := by decide +kernel
theorem dX11_told_163 : decode cX11_told 163 = .ok (.getfield 34, 3) := by decide +kernel
theorem dX11_told_166 : decode cX11_told 166 = .ok (.getfield 156, 3) := by decide +kernel
theorem dX11_told_169 : decode cX11_told 169 = .ok (.getfield 160, 3) := by decide +kernel
theorem dX11_told_172 : decode cX11_told 172 = .ok (.ireturn, 1) := by decide +kernel
theorem dX11_told_173 : decode cX11_told 173 = .ok (.aload_n 0, 1) := by decide +kernel
theorem dX11_told_174 : decode cX11_told 174 = .ok (.getfield 71, 3) := by decide +kernel
theorem dX11_told_177 : decode cX11_told 177 = .ok (.getfield 163, 3) := by decide +kernel
theorem dX11_told_180 : decode cX11_told 180 = .ok (.ireturn, 1) := by decide +kernel
theorem dX11_told_181 : decode cX11_told 181 = .ok (.aload_n 0, 1) := by decide +kernel
theorem dX11_told_182 : decode cX11_told 182 = .ok (.getfield 78, 3) := by decide +kernel
theorem dX11_told_185 : decode cX11_told 185 = .ok (.getfield 164, 3) := by decide +kernel
theorem dX11_told_188 : decode cX11_told 188 = .ok (.ireturn, 1) := by decide +kernel
theorem dX11_told_189 : decode cX11_told 189 = .ok (.aload_n 0, 1) := by decide +kernel
theorem dX11_told_190 : decode cX11_told 190 = .ok (.getfield 54, 3) := by decide +kernel
theorem dX11_told_193 : decode cX11_told 193 = .ok (.getfield 165, 3) := by decide +kernel
theorem dX11_told_196 : decode cX11_told 196 = .ok (.ireturn, 1) := by decide +kernel
theorem dX11_told_197 : decode cX11_told 197 = .ok (.ldc 90, 2) := by decide +kernel
theorem dX11_told_199 : decode cX11_told 199 = .ok (.ireturn, 1) := by decide +kernel
set_option maxRecDepth 4000 in
set_option maxHeartbeats 4000000 in
theorem m_X11_told (l : Launch) (g : qGm) (M : qMem) {sd : sSD} (hs : sRS sd) (hS : xS M sd) {v : Int → Int} (hv : sRR (sd 4 0) (sd 5 0) v) (hH : xH M 0 (sd 4 0) (sd 5 0) v) {w : Int} (hwq : qIn w) (htx : 0 ≤ M 1 0 2 ∧ M 1 0 2 ≤ 240) : qOk l g 5 yX11_told cX11_told 2 (some .int) [qR g 0 0, qI w] M (qEv (some (sTold sd v (M 1 0 2) (M 29 0 2) (M 32 0 2) (M 26 0 2) w)) M) := by
  refine q_ok (by decide +kernel) (Nat.le_of_ble_eq_true rfl) (fun X C' hn => ?_)
  have C := C'.1
  have hm6 := hs.2.1
  have hn6 := hs.2.2.1
  have w0 := hS.1
  have w1 := hS.2.1
  have w2 := hS.2.2.1
  have hcb := xCalls_b hH hv
  have hmnq := hs.1
  refine q_iloadn C dX11_told_0 rfl ?_
  by_cases ht1 : w < 0 ∨ 13 < w
  · refine q_tsOut C 197 dX11_told_1 (by first | assumption | omega | exact q_tin _ | exact q_bIn _) ht1 (by decide) ?_
    refine q_ldc C (z := -1000000002) q_ci_RX11_90 (by decide) dX11_told_197 ?_
    refine q_iret C' dX11_told_199 (by first | assumption | omega | exact q_tin _ | exact q_bIn _) ?_
    refine ⟨congrArg some ?_, rfl⟩
    unfold sTold
    first | (simp only [Int.reduceEq, ↓reduceIte] <;> first | rfl | assumption | omega | (rw [xAll_eq hm6 hn6 hH]; done) | (rw [xWel_eq hm6 hn6 hH]; done) | (rw [hH.1]; done) | (rw [hH.2.1]; done) | (rw [hH.2.2.2.2.2.1]; done) | (rw [w2]; exact congrArg Prod.fst (sAm_c (fun k h1 h2 => hH.2.2.1 k h1 h2))) | (rw [w0]; rfl)) | (repeat (rw [if_neg (by omega)]))
  obtain rfl | rfl | rfl | rfl | rfl | rfl | rfl | rfl | rfl | rfl | rfl | rfl | rfl | rfl : w = 0 ∨ w = 1 ∨ w = 2 ∨ w = 3 ∨ w = 4 ∨ w = 5 ∨ w = 6 ∨ w = 7 ∨ w = 8 ∨ w = 9 ∨ w = 10 ∨ w = 11 ∨ w = 12 ∨ w = 13 := by omega
  · refine q_tsIn C (off := 71) 72 dX11_told_1 (by decide) (by decide) (by decide) (by decide) (by decide) ?_
    refine q_aloadn C dX11_told_72 rfl ?_
    refine gf_RX11_31 C dX11_told_73 ?_
    refine gf_RX11_128 C (by decide) dX11_told_76 (fun r76 => ?_)
    refine q_iret C' dX11_told_79 (by first | assumption | omega | exact q_tin _ | exact q_bIn _) ?_
    refine ⟨congrArg some ?_, rfl⟩
    unfold sTold
    first | (simp only [Int.reduceEq, ↓reduceIte] <;> first | rfl | assumption | omega | (rw [xAll_eq hm6 hn6 hH]; done) | (rw [xWel_eq hm6 hn6 hH]; done) | (rw [hH.1]; done) | (rw [hH.2.1]; done) | (rw [hH.2.2.2.2.2.1]; done) | (rw [w2]; exact congrArg Prod.fst (sAm_c (fun k h1 h2 => hH.2.2.1 k h1 h2))) | (rw [w0]; rfl)) | (repeat (rw [if_neg (by omega)]))
  · refine q_tsIn C (off := 79) 80 dX11_told_1 (by decide) (by decide) (by decide) (by decide) (by decide) ?_
    refine q_aloadn C dX11_told_80 rfl ?_
    refine gf_RX11_31 C dX11_told_81 ?_
    refine gf_RX11_122 C (by decide) dX11_told_84 (fun r84 => ?_)
    refine q_iret C' dX11_told_87 (by first | assumption | omega | exact q_tin _ | exact q_bIn _) ?_
    refine ⟨congrArg some ?_, rfl⟩
    unfold sTold
    first | (simp only [Int.reduceEq, ↓reduceIte] <;> first | rfl | assumption | omega | (rw [xAll_eq hm6 hn6 hH]; done) | (rw [xWel_eq hm6 hn6 hH]; done) | (rw [hH.1]; done) | (rw [hH.2.1]; done) | (rw [hH.2.2.2.2.2.1]; done) | (rw [w2]; exact congrArg Prod.fst (sAm_c (fun k h1 h2 => hH.2.2.1 k h1 h2))) | (rw [w0]; rfl)) | (repeat (rw [if_neg (by omega)]))
  · refine q_tsIn C (off := 87) 88 dX11_told_1 (by decide) (by decide) (by decide) (by decide) (by decide) ?_
    refine q_aloadn C dX11_told_88 rfl ?_
    refine gf_RX11_31 C dX11_told_89 ?_
    refine gf_RX11_131 C (by decide) dX11_told_92 (fun r92 => ?_)
    refine q_iret C' dX11_told_95 (by first | assumption | omega | exact q_tin _ | exact q_bIn _) ?_
    refine ⟨congrArg some ?_, rfl⟩
    unfold sTold
    first | (simp only [Int.reduceEq, ↓reduceIte] <;> first | rfl | assumption | omega | (rw [xAll_eq hm6 hn6 hH]; done) | (rw [xWel_eq hm6 hn6 hH]; done) | (rw [hH.1]; done) | (rw [hH.2.1]; done) | (rw [hH.2.2.2.2.2.1]; done) | (rw [w2]; exact congrArg Prod.fst (sAm_c (fun k h1 h2 => hH.2.2.1 k h1 h2))) | (rw [w0]; rfl)) | (repeat (rw [if_neg (by omega)]))
  · refine q_tsIn C (off := 95) 96 dX11_told_1 (by decide) (by decide) (by decide) (by decide) (by decide) ?_
    refine q_aloadn C dX11_told_96 rfl ?_
    refine gf_RX11_21 C dX11_told_97 ?_
    refine gf_RX11_95 C dX11_told_100 (fun r100 => ?_)
    refine q_iret C' dX11_told_103 (by first | assumption | omega | exact q_tin _ | exact q_bIn _) ?_
    refine ⟨congrArg some ?_, rfl⟩
    unfold sTold
    first | (simp only [Int.reduceEq, ↓reduceIte] <;> first | rfl | assumption | omega | (rw [xAll_eq hm6 hn6 hH]; done) | (rw [xWel_eq hm6 hn6 hH]; done) | (rw [hH.1]; done) | (rw [hH.2.1]; done) | (rw [hH.2.2.2.2.2.1]; done) | (rw [w2]; exact congrArg Prod.fst (sAm_c (fun k h1 h2 => hH.2.2.1 k h1 h2))) | (rw [w0]; rfl)) | (repeat (rw [if_neg (by omega)]))
  · refine q_tsIn C (off := 103) 104 dX11_told_1 (by decide) (by decide) (by decide) (by decide) (by decide) ?_
    refine q_aloadn C dX11_told_104 rfl ?_
    refine gf_RX11_34 C dX11_told_105 ?_
    refine gf_RX11_134 C (by decide) dX11_told_108 (fun r108 => ?_)
    refine q_iret C' dX11_told_111 (by first | assumption | omega | exact q_tin _ | exact q_bIn _) ?_
    refine ⟨congrArg some ?_, rfl⟩
    unfold sTold
    first | (simp only [Int.reduceEq, ↓reduceIte] <;> first | rfl | assumption | omega | (rw [xAll_eq hm6 hn6 hH]; done) | (rw [xWel_eq hm6 hn6 hH]; done) | (rw [hH.1]; done) | (rw [hH.2.1]; done) | (rw [hH.2.2.2.2.2.1]; done) | (rw [w2]; exact congrArg Prod.fst (sAm_c (fun k h1 h2 => hH.2.2.1 k h1 h2))) | (rw [w0]; rfl)) | (repeat (rw [if_neg (by omega)]))
  · refine q_tsIn C (off := 111) 112 dX11_told_1 (by decide) (by decide) (by decide) (by decide) (by decide) ?_
    refine q_aloadn C dX11_told_112 rfl ?_
    refine gf_RX11_34 C dX11_told_113 ?_
    refine gf_RX11_137 C (by decide) dX11_told_116 (fun r116 => ?_)
    refine q_iret C' dX11_told_119 (by first | assumption | omega | exact q_tin _ | exact q_bIn _) ?_
    refine ⟨congrArg some ?_, rfl⟩
    unfold sTold
    first | (simp only [Int.reduceEq, ↓reduceIte] <;> first | rfl | assumption | omega | (rw [xAll_eq hm6 hn6 hH]; done) | (rw [xWel_eq hm6 hn6 hH]; done) | (rw [hH.1]; done) | (rw [hH.2.1]; done) | (rw [hH.2.2.2.2.2.1]; done) | (rw [w2]; exact congrArg Prod.fst (sAm_c (fun k h1 h2 => hH.2.2.1 k h1 h2))) | (rw [w0]; rfl)) | (repeat (rw [if_neg (by omega)]))
  · refine q_tsIn C (off := 119) 120 dX11_told_1 (by decide) (by decide) (by decide) (by decide) (by decide) ?_
    refine q_aloadn C dX11_told_120 rfl ?_
    refine gf_RX11_34 C dX11_told_121 ?_
    refine cv_RX11_140 C (by decide) (by decide) (m_X2_callsOfAll l g _ (by decide) hcb) dX11_told_124 (Nat.le_of_ble_eq_true rfl) (fun r124 => ?_)
    refine q_iret C' dX11_told_127 (by first | assumption | omega | exact q_tin _ | exact q_bIn _) ?_
    refine ⟨congrArg some ?_, rfl⟩
    unfold sTold
    first | (simp only [Int.reduceEq, ↓reduceIte] <;> first | rfl | assumption | omega | (rw [xAll_eq hm6 hn6 hH]; done) | (rw [xWel_eq hm6 hn6 hH]; done) | (rw [hH.1]; done) | (rw [hH.2.1]; done) | (rw [hH.2.2.2.2.2.1]; done) | (rw [w2]; exact congrArg Prod.fst (sAm_c (fun k h1 h2 => hH.2.2.1 k h1 h2))) | (rw [w0]; rfl)) | (repeat (rw [if_neg (by omega)]))
  · refine q_tsIn C (off := 127) 128 dX11_told_1 (by decide) (by decide) (by decide) (by decide) (by decide) ?_
    refine q_aloadn C dX11_told_128 rfl ?_
    refine gf_RX11_34 C dX11_told_129 ?_
    refine cv_RX11_144 C (by decide) (by decide) (m_X2_welcome l g _ (by decide) hcb) dX11_told_132 (Nat.le_of_ble_eq_true rfl) (fun r132 => ?_)
    refine q_iret C' dX11_told_135 (by first | assumption | omega | exact q_tin _ | exact q_bIn _) ?_
    refine ⟨congrArg some ?_, rfl⟩
    unfold sTold
    first | (simp only [Int.reduceEq, ↓reduceIte] <;> first | rfl | assumption | omega | (rw [xAll_eq hm6 hn6 hH]; done) | (rw [xWel_eq hm6 hn6 hH]; done) | (rw [hH.1]; done) | (rw [hH.2.1]; done) | (rw [hH.2.2.2.2.2.1]; done) | (rw [w2]; exact congrArg Prod.fst (sAm_c (fun k h1 h2 => hH.2.2.1 k h1 h2))) | (rw [w0]; rfl)) | (repeat (rw [if_neg (by omega)]))
  · refine q_tsIn C (off := 135) 136 dX11_told_1 (by decide) (by decide) (by decide) (by decide) (by decide) ?_
    refine q_aloadn C dX11_told_136 rfl ?_
    refine gf_RX11_34 C dX11_told_137 ?_
    refine q_aloadn C dX11_told_140 rfl ?_
    refine gf_RX11_31 C dX11_told_141 ?_
    refine gf_RX11_131 C (by decide) dX11_told_144 (fun r144 => ?_)
    refine cv_RX11_147 C (by decide) (by decide) (m_X2_coldest l g _ (by decide) (by omega) (fun h a1 a2 => by rw [hH.2.2.1 h a1 (by omega)]; exact (hv.2.2.1 h a1 (by omega)).1)) dX11_told_147 (Nat.le_of_ble_eq_true rfl) (fun r147 => ?_)
    refine q_iret C' dX11_told_150 (by first | assumption | omega | exact q_tin _ | exact q_bIn _) ?_
    refine ⟨congrArg some ?_, rfl⟩
    unfold sTold
    first | (simp only [Int.reduceEq, ↓reduceIte] <;> first | rfl | assumption | omega | (rw [xAll_eq hm6 hn6 hH]; done) | (rw [xWel_eq hm6 hn6 hH]; done) | (rw [hH.1]; done) | (rw [hH.2.1]; done) | (rw [hH.2.2.2.2.2.1]; done) | (rw [w2]; exact congrArg Prod.fst (sAm_c (fun k h1 h2 => hH.2.2.1 k h1 h2))) | (rw [w0]; rfl)) | (repeat (rw [if_neg (by omega)]))
  · refine q_tsIn C (off := 150) 151 dX11_told_1 (by decide) (by decide) (by decide) (by decide) (by decide) ?_
    refine q_aloadn C dX11_told_151 rfl ?_
    refine gf_RX11_31 C dX11_told_152 ?_
    refine gf_RX11_128 C (by decide) dX11_told_155 (fun r155 => ?_)
    refine cv_RX11_151 C (by decide) (m_X1_countSaid l g _ (by assumption)) dX11_told_158 (Nat.le_of_ble_eq_true rfl) (fun r158 => ?_)
    refine q_iret C' dX11_told_161 (by first | assumption | omega | exact q_tin _ | exact q_bIn _) ?_
    refine ⟨congrArg some ?_, rfl⟩
    unfold sTold
    first | (simp only [Int.reduceEq, ↓reduceIte] <;> first | rfl | assumption | omega | (rw [xAll_eq hm6 hn6 hH]; done) | (rw [xWel_eq hm6 hn6 hH]; done) | (rw [hH.1]; done) | (rw [hH.2.1]; done) | (rw [hH.2.2.2.2.2.1]; done) | (rw [w2]; exact congrArg Prod.fst (sAm_c (fun k h1 h2 => hH.2.2.1 k h1 h2))) | (rw [w0]; rfl)) | (repeat (rw [if_neg (by omega)]))
  · refine q_tsIn C (off := 161) 162 dX11_told_1 (by decide) (by decide) (by decide) (by decide) (by decide) ?_
    refine q_aloadn C dX11_told_162 rfl ?_
    refine gf_RX11_34 C dX11_told_163 ?_
    refine gf_RX11_156 C (by decide) dX11_told_166 ?_
    refine gf_RX11_160 C (by decide) dX11_told_169 (fun r169 => ?_)
    refine q_iret C' dX11_told_172 (by first | assumption | omega | exact q_tin _ | exact q_bIn _) ?_
    refine ⟨congrArg some ?_, rfl⟩
    unfold sTold
    first | (simp only [Int.reduceEq, ↓reduceIte] <;> first | rfl | assumption | omega | (rw [xAll_eq hm6 hn6 hH]; done) | (rw [xWel_eq hm6 hn6 hH]; done) | (rw [hH.1]; done) | (rw [hH.2.1]; done) | (rw [hH.2.2.2.2.2.1]; done) | (rw [w2]; exact congrArg Prod.fst (sAm_c (fun k h1 h2 => hH.2.2.1 k h1 h2))) | (rw [w0]; rfl)) | (repeat (rw [if_neg (by omega)]))
  · refine q_tsIn C (off := 172) 173 dX11_told_1 (by decide) (by decide) (by decide) (by decide) (by decide) ?_
    refine q_aloadn C dX11_told_173 rfl ?_
    refine gf_RX11_71 C dX11_told_174 ?_
    refine gf_RX11_163 C dX11_told_177 (fun r177 => ?_)
    refine q_iret C' dX11_told_180 (by first | assumption | omega | exact q_tin _ | exact q_bIn _) ?_
    refine ⟨congrArg some ?_, rfl⟩
    unfold sTold
    first | (simp only [Int.reduceEq, ↓reduceIte] <;> first | rfl | assumption | omega | (rw [xAll_eq hm6 hn6 hH]; done) | (rw [xWel_eq hm6 hn6 hH]; done) | (rw [hH.1]; done) | (rw [hH.2.1]; done) | (rw [hH.2.2.2.2.2.1]; done) | (rw [w2]; exact congrArg Prod.fst (sAm_c (fun k h1 h2 => hH.2.2.1 k h1 h2))) | (rw [w0]; rfl)) | (repeat (rw [if_neg (by omega)]))
  · refine q_tsIn C (off := 180) 181 dX11_told_1 (by decide) (by decide) (by decide) (by decide) (by decide) ?_
    refine q_aloadn C dX11_told_181 rfl ?_
    refine gf_RX11_78 C dX11_told_182 ?_
    refine gf_RX11_164 C dX11_told_185 (fun r185 => ?_)
    refine q_iret C' dX11_told_188 (by first | assumption | omega | exact q_tin _ | exact q_bIn _) ?_
    refine ⟨congrArg some ?_, rfl⟩
    unfold sTold
    first | (simp only [Int.reduceEq, ↓reduceIte] <;> first | rfl | assumption | omega | (rw [xAll_eq hm6 hn6 hH]; done) | (rw [xWel_eq hm6 hn6 hH]; done) | (rw [hH.1]; done) | (rw [hH.2.1]; done) | (rw [hH.2.2.2.2.2.1]; done) | (rw [w2]; exact congrArg Prod.fst (sAm_c (fun k h1 h2 => hH.2.2.1 k h1 h2))) | (rw [w0]; rfl)) | (repeat (rw [if_neg (by omega)]))
  · refine q_tsIn C (off := 188) 189 dX11_told_1 (by decide) (by decide) (by decide) (by decide) (by decide) ?_
    refine q_aloadn C dX11_told_189 rfl ?_
    refine gf_RX11_54 C dX11_told_190 ?_
    refine gf_RX11_165 C dX11_told_193 (fun r193 => ?_)
    refine q_iret C' dX11_told_196 (by first | assumption | omega | exact q_tin _ | exact q_bIn _) ?_
    refine ⟨congrArg some ?_, rfl⟩
    unfold sTold
    first | (simp only [Int.reduceEq, ↓reduceIte] <;> first | rfl | assumption | omega | (rw [xAll_eq hm6 hn6 hH]; done) | (rw [xWel_eq hm6 hn6 hH]; done) | (rw [hH.1]; done) | (rw [hH.2.1]; done) | (rw [hH.2.2.2.2.2.1]; done) | (rw [w2]; exact congrArg Prod.fst (sAm_c (fun k h1 h2 => hH.2.2.1 k h1 h2))) | (rw [w0]; rfl)) | (repeat (rw [if_neg (by omega)]))
