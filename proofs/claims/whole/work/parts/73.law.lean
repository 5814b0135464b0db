theorem dL_18 : decode code 18 = .ok (.iload_n 3, 1) := by decide +kernel
theorem dL_19 : decode code 19 = .ok (.aload_n 0, 1) := by decide +kernel
theorem dL_20 : decode code 20 = .ok (.arraylength, 1) := by decide +kernel
theorem dL_21 : decode code 21 = .ok (.iconst 5, 1) := by decide +kernel
theorem dL_22 : decode code 22 = .ok (.isub, 1) := by decide +kernel
theorem dL_23 : decode code 23 = .ok (.if_icmp .gt 1139, 3) := by decide +kernel
theorem dL_26 : decode code 26 = .ok (.aload_n 0, 1) := by decide +kernel
theorem dL_27 : decode code 27 = .ok (.iload_n 3, 1) := by decide +kernel
theorem dL_28 : decode code 28 = .ok (.iaload, 1) := by decide +kernel
theorem dL_29 : decode code 29 = .ok (.bipush 63, 2) := by decide +kernel
theorem dL_31 : decode code 31 = .ok (.iand, 1) := by decide +kernel
theorem dL_32 : decode code 32 = .ok (.tableswitch 1124 0 33 #[152, 175, 188, 201, 224, 257, 290, 323, 356, 389, 422, 465, 488, 521, 554, 587, 610, 633, 686, 729, 762, 795, 828, 861, 894, 927, 960, 983, 996, 1029, 1042, 1055, 1078, 1101], 152) := by decide +kernel
theorem dL_1156 : decode code 1156 = .ok (.iinc 3 5, 3) := by decide +kernel
theorem dL_1159 : decode code 1159 = .ok (.goto (-1141), 3) := by decide +kernel
set_option maxRecDepth 8000 in
set_option maxHeartbeats 4000000 in
theorem lw_loop {l : Launch} {g : qGm} {X : qCt} {b L : Nat} {xs : Nat → Int32} (C : qCx l g X code RL 9) (D : lCx X b L xs) (hn : qNL X = 4) (hL : L ≤ 320) (hE : ∀ (M : qMem) (ls : List (Nat × Value)), qV l g X M 1162 ls []) : ∀ (n : Nat) (i : Int) (M : qMem) (sd : sSD), 0 ≤ i → i ≤ (L : Int) + 5 → (L : Int) + 10 - i < n → qInv M sd → qV l g X M 18 (lwL g b i) [] := by
  intro n
  induction n with
  | zero => intro i M sd h0 h1 h2 h; exfalso; omega
  | succ n ih =>
    intro i M sd h0 h1 h2 h
    refine q_iloadn C dL_18 rfl ?_
    refine q_aloadn C dL_19 rfl ?_
    refine q_slen C D dL_20 ?_
    refine q_iconst C dL_21 ?_
    refine q_isub C dL_22 ?_
    refine q_icmp_gt C 1162 dL_23 (by decide) (by omega) (by omega) (fun h23 => hE M _) (fun h23 => ?_)
    have hi : 0 ≤ i ∧ i + 5 ≤ (L : Int) := by omega
    have k : ∀ M' sd', qInv M' sd' → qV l g X M' 1156 (lwL g b i) [] := by
      intro M' sd' h'
      refine q_iinc C dL_1156 rfl hn (by decide) rfl ?_
      refine q_goto C (tgt := 18) dL_1159 (by decide) ?_
      exact q_ls (by exact ⟨rfl, rfl, rfl, rfl, trivial⟩) (ih (i + 5) M' sd' (by omega) (by omega) (by omega) h')
    refine q_aloadn C dL_26 rfl ?_
    refine q_iloadn C dL_27 rfl ?_
    refine q_sld C D (by omega) (by omega) hL dL_28 ?_
    refine q_bipush C dL_29 (by decide) ?_
    refine q_iand C dL_31 ?_
    have hq : qIn (qAnd (lSc xs i) 63) := q_tin _
    generalize qAnd (lSc xs i) 63 = v at hq ⊢
    by_cases ht : v < 0 ∨ 33 < v
    · exact q_tsOut C 1156 dL_32 hq ht (by decide) (k M sd h)
    obtain rfl | rfl | rfl | rfl | rfl | rfl | rfl | rfl | rfl | rfl | rfl | rfl | rfl | rfl | rfl | rfl | rfl | rfl | rfl | rfl | rfl | rfl | rfl | rfl | rfl | rfl | rfl | rfl | rfl | rfl | rfl | rfl | rfl | rfl : v = 0 ∨ v = 1 ∨ v = 2 ∨ v = 3 ∨ v = 4 ∨ v = 5 ∨ v = 6 ∨ v = 7 ∨ v = 8 ∨ v = 9 ∨ v = 10 ∨ v = 11 ∨ v = 12 ∨ v = 13 ∨ v = 14 ∨ v = 15 ∨ v = 16 ∨ v = 17 ∨ v = 18 ∨ v = 19 ∨ v = 20 ∨ v = 21 ∨ v = 22 ∨ v = 23 ∨ v = 24 ∨ v = 25 ∨ v = 26 ∨ v = 27 ∨ v = 28 ∨ v = 29 ∨ v = 30 ∨ v = 31 ∨ v = 32 ∨ v = 33 := by omega
    · exact q_tsIn C (off := 152) 184 dL_32 (by decide) (by decide) (by decide) (by decide) (by decide) (lw_c0 C D hi hL h k)
    · exact q_tsIn C (off := 175) 207 dL_32 (by decide) (by decide) (by decide) (by decide) (by decide) (lw_c1 C D hi hL h k)
    · exact q_tsIn C (off := 188) 220 dL_32 (by decide) (by decide) (by decide) (by decide) (by decide) (lw_c2 C D hi hL h k)
    · exact q_tsIn C (off := 201) 233 dL_32 (by decide) (by decide) (by decide) (by decide) (by decide) (lw_c3 C D hi hL h k)
    · exact q_tsIn C (off := 224) 256 dL_32 (by decide) (by decide) (by decide) (by decide) (by decide) (lw_c4 C D hi hL h k)
    · exact q_tsIn C (off := 257) 289 dL_32 (by decide) (by decide) (by decide) (by decide) (by decide) (lw_c5 C D hi hL h k)
    · exact q_tsIn C (off := 290) 322 dL_32 (by decide) (by decide) (by decide) (by decide) (by decide) (lw_c6 C D hi hL h k)
    · exact q_tsIn C (off := 323) 355 dL_32 (by decide) (by decide) (by decide) (by decide) (by decide) (lw_c7 C D hi hL h k)
    · exact q_tsIn C (off := 356) 388 dL_32 (by decide) (by decide) (by decide) (by decide) (by decide) (lw_c8 C D hi hL h k)
    · exact q_tsIn C (off := 389) 421 dL_32 (by decide) (by decide) (by decide) (by decide) (by decide) (lw_c9 C D hi hL h k)
    · exact q_tsIn C (off := 422) 454 dL_32 (by decide) (by decide) (by decide) (by decide) (by decide) (lw_c10 C D hi hL h k)
    · exact q_tsIn C (off := 465) 497 dL_32 (by decide) (by decide) (by decide) (by decide) (by decide) (lw_c11 C D hi hL h k)
    · exact q_tsIn C (off := 488) 520 dL_32 (by decide) (by decide) (by decide) (by decide) (by decide) (lw_c12 C D hi hL h k)
    · exact q_tsIn C (off := 521) 553 dL_32 (by decide) (by decide) (by decide) (by decide) (by decide) (lw_c13 C D hi hL h k)
    · exact q_tsIn C (off := 554) 586 dL_32 (by decide) (by decide) (by decide) (by decide) (by decide) (lw_c14 C D hi hL h k)
    · exact q_tsIn C (off := 587) 619 dL_32 (by decide) (by decide) (by decide) (by decide) (by decide) (lw_c15 C D hi hL h k)
    · exact q_tsIn C (off := 610) 642 dL_32 (by decide) (by decide) (by decide) (by decide) (by decide) (lw_c16 C D hi hL h k)
    · exact q_tsIn C (off := 633) 665 dL_32 (by decide) (by decide) (by decide) (by decide) (by decide) (lw_c17 C D hi hL h k)
    · exact q_tsIn C (off := 686) 718 dL_32 (by decide) (by decide) (by decide) (by decide) (by decide) (lw_c18 C D hi hL h k)
    · exact q_tsIn C (off := 729) 761 dL_32 (by decide) (by decide) (by decide) (by decide) (by decide) (lw_c19 C D hi hL h k)
    · exact q_tsIn C (off := 762) 794 dL_32 (by decide) (by decide) (by decide) (by decide) (by decide) (lw_c20 C D hi hL h k)
    · exact q_tsIn C (off := 795) 827 dL_32 (by decide) (by decide) (by decide) (by decide) (by decide) (lw_c21 C D hi hL h k)
    · exact q_tsIn C (off := 828) 860 dL_32 (by decide) (by decide) (by decide) (by decide) (by decide) (lw_c22 C D hi hL h k)
    · exact q_tsIn C (off := 861) 893 dL_32 (by decide) (by decide) (by decide) (by decide) (by decide) (lw_c23 C D hi hL h k)
    · exact q_tsIn C (off := 894) 926 dL_32 (by decide) (by decide) (by decide) (by decide) (by decide) (lw_c24 C D hi hL h k)
    · exact q_tsIn C (off := 927) 959 dL_32 (by decide) (by decide) (by decide) (by decide) (by decide) (lw_c25 C D hi hL h k)
    · exact q_tsIn C (off := 960) 992 dL_32 (by decide) (by decide) (by decide) (by decide) (by decide) (lw_c26 C D hi hL h k)
    · exact q_tsIn C (off := 983) 1015 dL_32 (by decide) (by decide) (by decide) (by decide) (by decide) (lw_c27 C D hi hL h k)
    · exact q_tsIn C (off := 996) 1028 dL_32 (by decide) (by decide) (by decide) (by decide) (by decide) (lw_c28 C D hi hL h k)
    · exact q_tsIn C (off := 1029) 1061 dL_32 (by decide) (by decide) (by decide) (by decide) (by decide) (lw_c29 C D hi hL h k)
    · exact q_tsIn C (off := 1042) 1074 dL_32 (by decide) (by decide) (by decide) (by decide) (by decide) (lw_c30 C D hi hL h k)
    · exact q_tsIn C (off := 1055) 1087 dL_32 (by decide) (by decide) (by decide) (by decide) (by decide) (lw_c31 C D hi hL h k)
    · exact q_tsIn C (off := 1078) 1110 dL_32 (by decide) (by decide) (by decide) (by decide) (by decide) (lw_c32 C D hi hL h k)
    · exact q_tsIn C (off := 1101) 1133 dL_32 (by decide) (by decide) (by decide) (by decide) (by decide) (lw_c33 C D hi hL h k)
