theorem dL_1074 : decode code 1074 = .ok (.aload_n 1, 1) := by decide +kernel
theorem dL_1075 : decode code 1075 = .ok (.invokevirtual 138, 3) := by decide +kernel
theorem dL_1078 : decode code 1078 = .ok (.aload_n 2, 1) := by decide +kernel
theorem dL_1079 : decode code 1079 = .ok (.invokevirtual 141, 3) := by decide +kernel
theorem dL_1082 : decode code 1082 = .ok (.if_icmp .eq 74, 3) := by decide +kernel
set_option maxRecDepth 8000 in
set_option maxHeartbeats 4000000 in
theorem lw_c30 {l : Launch} {g : qGm} {X : qCt} {M : qMem} {b L : Nat} {xs : Nat → Int32} {i : Int} {sd : sSD} (C : qCx l g X code RL 9) (D : lCx X b L xs) (hi : 0 ≤ i ∧ i + 5 ≤ (L : Int)) (hL : L ≤ 320) (h : qInv M sd) (k : ∀ M' sd', qInv M' sd' → qV l g X M' 1156 (lwL g b i) []) : qV l g X M 1074 (lwL g b i) [] := by
  have hI := h
  obtain ⟨hT, hSt, hSn, hBk⟩ := h
  have hs := hSt.1
  have hxS := hSt.2.1
  have hmS := hSt.2.2.1
  have hZ := hSt.2.2.2.1
  have hI0 := hSt.2.2.2.2.1
  have hI1 := hSt.2.2.2.2.2
  have hv := hSt.v
  have hH := hSt.h
  have hk := hSt.k
  refine q_aloadn C dL_1074 rfl ?_
  have hn1 : 0 ≤ M 29 0 2 ∧ M 29 0 2 ≤ 6 := by rw [hSn.1]; exact hSn.2.1
  have hb1 : 0 ≤ M 32 0 2 ∧ M 32 0 2 ≤ 20 := by rw [hBk.1]; exact hBk.2.1
  have e35 : qUp (qUp M 29 0 2 0) 32 0 2 0 35 0 = M 35 0 := by rw [q_upF (by decide), q_upF (by decide)]
  refine cv_RL_138 C (by decide) (m_X11_tear l g M hn1 hb1) dL_1075 (Nat.le_of_ble_eq_true rfl) (fun r1 => ?_)
  refine q_aloadn C dL_1078 rfl ?_
  refine cv_RL_141 C (by decide) (m_X12_tear l g _ (by rw [e35]; exact hSn.2.1) (by rw [e35]; exact hBk.2.1)) dL_1079 (Nat.le_of_ble_eq_true rfl) (fun r2 => ?_)
  exact q_icmp_eq C 1156 dL_1082 (by decide) (r1) (r2) (fun _ => k _ _ (qInv_tear hI)) (fun hne => absurd (by rw [e35, hSn.1, hBk.1]) hne)
theorem dL_1087 : decode code 1087 = .ok (.aload_n 1, 1) := by decide +kernel
theorem dL_1088 : decode code 1088 = .ok (.aload_n 0, 1) := by decide +kernel
theorem dL_1089 : decode code 1089 = .ok (.iload_n 3, 1) := by decide +kernel
theorem dL_1090 : decode code 1090 = .ok (.iconst 1, 1) := by decide +kernel
theorem dL_1091 : decode code 1091 = .ok (.iadd, 1) := by decide +kernel
theorem dL_1092 : decode code 1092 = .ok (.iaload, 1) := by decide +kernel
theorem dL_1093 : decode code 1093 = .ok (.invokevirtual 142, 3) := by decide +kernel
theorem dL_1096 : decode code 1096 = .ok (.aload_n 2, 1) := by decide +kernel
theorem dL_1097 : decode code 1097 = .ok (.aload_n 0, 1) := by decide +kernel
theorem dL_1098 : decode code 1098 = .ok (.iload_n 3, 1) := by decide +kernel
theorem dL_1099 : decode code 1099 = .ok (.iconst 1, 1) := by decide +kernel
theorem dL_1100 : decode code 1100 = .ok (.iadd, 1) := by decide +kernel
theorem dL_1101 : decode code 1101 = .ok (.iaload, 1) := by decide +kernel
theorem dL_1102 : decode code 1102 = .ok (.invokevirtual 145, 3) := by decide +kernel
theorem dL_1105 : decode code 1105 = .ok (.if_icmp .eq 51, 3) := by decide +kernel
set_option maxRecDepth 8000 in
set_option maxHeartbeats 4000000 in
theorem lw_c31 {l : Launch} {g : qGm} {X : qCt} {M : qMem} {b L : Nat} {xs : Nat → Int32} {i : Int} {sd : sSD} (C : qCx l g X code RL 9) (D : lCx X b L xs) (hi : 0 ≤ i ∧ i + 5 ≤ (L : Int)) (hL : L ≤ 320) (h : qInv M sd) (k : ∀ M' sd', qInv M' sd' → qV l g X M' 1156 (lwL g b i) []) : qV l g X M 1087 (lwL g b i) [] := by
  have hI := h
  obtain ⟨hT, hSt, hSn, hBk⟩ := h
  have hs := hSt.1
  have hxS := hSt.2.1
  have hmS := hSt.2.2.1
  have hZ := hSt.2.2.2.1
  have hI0 := hSt.2.2.2.2.1
  have hI1 := hSt.2.2.2.2.2
  have hv := hSt.v
  have hH := hSt.h
  have hk := hSt.k
  refine q_aloadn C dL_1087 rfl ?_
  refine q_aloadn C dL_1088 rfl ?_
  refine q_iloadn C dL_1089 rfl ?_
  refine q_iconst C dL_1090 ?_
  refine q_iadd C dL_1091 ?_
  refine q_sld C D (by omega) (by omega) hL dL_1092 ?_
  refine cw_RL_142 C (by decide) (m_X11_seed l g M (sd := sd) hZ (lSc_in _ _)) dL_1093 (Nat.le_of_ble_eq_true rfl) (fun r1 N hz1 hp1 => ?_)
  have hx := xD.e (Z := zM M) hp1 (zIm_sd _ _) hI0 hI1
  have ez := hx.2.2.z
  obtain ⟨nS, nK, nV⟩ := hx.2.2.st hSt
  obtain ⟨e1, -⟩ := id hx
  subst e1
  show qV l g X _ _ _ (qI _ :: [])
  refine q_aloadn C dL_1096 rfl ?_
  refine q_aloadn C dL_1097 rfl ?_
  refine q_iloadn C dL_1098 rfl ?_
  refine q_iconst C dL_1099 ?_
  refine q_iadd C dL_1100 ?_
  refine q_sld C D (by omega) (by omega) hL dL_1101 ?_
  refine cw_RL_145 C (by decide) (m_X12_seed l g N nK (lSc_in _ _)) dL_1102 (Nat.le_of_ble_eq_true rfl) (fun r2 K hz2 hp2 => ?_)
  rw [ez] at hp2
  have hm := mD.e hp2
  obtain ⟨hq, he⟩ := qInv_deed hI hx hm
  subst he
  show qV l g X _ _ _ (qI _ :: qI _ :: [])
  exact q_icmp_eq C 1156 dL_1105 (by decide) (hz1 _ rfl) (hz1 _ rfl) (fun _ => k _ _ (hq)) (fun hne => absurd (rfl) hne)
theorem dL_1110 : decode code 1110 = .ok (.aload_n 1, 1) := by decide +kernel
theorem dL_1111 : decode code 1111 = .ok (.aload_n 0, 1) := by decide +kernel
theorem dL_1112 : decode code 1112 = .ok (.iload_n 3, 1) := by decide +kernel
theorem dL_1113 : decode code 1113 = .ok (.iconst 1, 1) := by decide +kernel
theorem dL_1114 : decode code 1114 = .ok (.iadd, 1) := by decide +kernel
theorem dL_1115 : decode code 1115 = .ok (.iaload, 1) := by decide +kernel
theorem dL_1116 : decode code 1116 = .ok (.invokevirtual 146, 3) := by decide +kernel
theorem dL_1119 : decode code 1119 = .ok (.aload_n 2, 1) := by decide +kernel
theorem dL_1120 : decode code 1120 = .ok (.aload_n 0, 1) := by decide +kernel
theorem dL_1121 : decode code 1121 = .ok (.iload_n 3, 1) := by decide +kernel
theorem dL_1122 : decode code 1122 = .ok (.iconst 1, 1) := by decide +kernel
theorem dL_1123 : decode code 1123 = .ok (.iadd, 1) := by decide +kernel
theorem dL_1124 : decode code 1124 = .ok (.iaload, 1) := by decide +kernel
theorem dL_1125 : decode code 1125 = .ok (.invokevirtual 149, 3) := by decide +kernel
theorem dL_1128 : decode code 1128 = .ok (.if_icmp .eq 28, 3) := by decide +kernel
set_option maxRecDepth 8000 in
set_option maxHeartbeats 4000000 in
theorem lw_c32 {l : Launch} {g : qGm} {X : qCt} {M : qMem} {b L : Nat} {xs : Nat → Int32} {i : Int} {sd : sSD} (C : qCx l g X code RL 9) (D : lCx X b L xs) (hi : 0 ≤ i ∧ i + 5 ≤ (L : Int)) (hL : L ≤ 320) (h : qInv M sd) (k : ∀ M' sd', qInv M' sd' → qV l g X M' 1156 (lwL g b i) []) : qV l g X M 1110 (lwL g b i) [] := by
  have hI := h
  obtain ⟨hT, hSt, hSn, hBk⟩ := h
  have hs := hSt.1
  have hxS := hSt.2.1
  have hmS := hSt.2.2.1
  have hZ := hSt.2.2.2.1
  have hI0 := hSt.2.2.2.2.1
  have hI1 := hSt.2.2.2.2.2
  have hv := hSt.v
  have hH := hSt.h
  have hk := hSt.k
  refine q_aloadn C dL_1110 rfl ?_
  refine q_aloadn C dL_1111 rfl ?_
  refine q_iloadn C dL_1112 rfl ?_
  refine q_iconst C dL_1113 ?_
  refine q_iadd C dL_1114 ?_
  refine q_sld C D (by omega) (by omega) hL dL_1115 ?_
  refine cw_RL_146 C (by decide) (m_X11_keep l g M hs hxS hZ hI0 hI1 (lSc_in _ _)) dL_1116 (Nat.le_of_ble_eq_true rfl) (fun r1 N hz1 hp1 => ?_)
  have hx := hp1
  have ez := hx.2.2.z
  obtain ⟨nS, nK, nV⟩ := hx.2.2.st hSt
  obtain ⟨e1, -⟩ := id hx
  subst e1
  show qV l g X _ _ _ (qI _ :: [])
  refine q_aloadn C dL_1119 rfl ?_
  refine q_aloadn C dL_1120 rfl ?_
  refine q_iloadn C dL_1121 rfl ?_
  refine q_iconst C dL_1122 ?_
  refine q_iadd C dL_1123 ?_
  refine q_sld C D (by omega) (by omega) hL dL_1124 ?_
  refine cw_RL_149 C (by decide) (m_X12_keep l g N nK (lSc_in _ _)) dL_1125 (Nat.le_of_ble_eq_true rfl) (fun r2 K hz2 hp2 => ?_)
  rw [ez] at hp2
  have hm := hp2
  obtain ⟨hq, he⟩ := qInv_deed hI hx hm
  subst he
  show qV l g X _ _ _ (qI _ :: qI _ :: [])
  exact q_icmp_eq C 1156 dL_1128 (by decide) (hz1 _ rfl) (hz1 _ rfl) (fun _ => k _ _ (hq)) (fun hne => absurd (rfl) hne)
theorem dL_1133 : decode code 1133 = .ok (.aload_n 1, 1) := by decide +kernel
theorem dL_1134 : decode code 1134 = .ok (.aload_n 0, 1) := by decide +kernel
theorem dL_1135 : decode code 1135 = .ok (.iload_n 3, 1) := by decide +kernel
theorem dL_1136 : decode code 1136 = .ok (.iconst 1, 1) := by decide +kernel
theorem dL_1137 : decode code 1137 = .ok (.iadd, 1) := by decide +kernel
theorem dL_1138 : decode code 1138 = .ok (.iaload, 1) := by decide +kernel
theorem dL_1139 : decode code 1139 = .ok (.invokevirtual 150, 3) := by decide +kernel
theorem dL_1142 : decode code 1142 = .ok (.aload_n 2, 1) := by decide +kernel
theorem dL_1143 : decode code 1143 = .ok (.aload_n 0, 1) := by decide +kernel
theorem dL_1144 : decode code 1144 = .ok (.iload_n 3, 1) := by decide +kernel
theorem dL_1145 : decode code 1145 = .ok (.iconst 1, 1) := by decide +kernel
theorem dL_1146 : decode code 1146 = .ok (.iadd, 1) := by decide +kernel
theorem dL_1147 : decode code 1147 = .ok (.iaload, 1) := by decide +kernel
theorem dL_1148 : decode code 1148 = .ok (.invokevirtual 153, 3) := by decide +kernel
theorem dL_1151 : decode code 1151 = .ok (.if_icmp .eq 5, 3) := by decide +kernel
set_option maxRecDepth 8000 in
set_option maxHeartbeats 4000000 in
theorem lw_c33 {l : Launch} {g : qGm} {X : qCt} {M : qMem} {b L : Nat} {xs : Nat → Int32} {i : Int} {sd : sSD} (C : qCx l g X code RL 9) (D : lCx X b L xs) (hi : 0 ≤ i ∧ i + 5 ≤ (L : Int)) (hL : L ≤ 320) (h : qInv M sd) (k : ∀ M' sd', qInv M' sd' → qV l g X M' 1156 (lwL g b i) []) : qV l g X M 1133 (lwL g b i) [] := by
  have hI := h
  obtain ⟨hT, hSt, hSn, hBk⟩ := h
  have hs := hSt.1
  have hxS := hSt.2.1
  have hmS := hSt.2.2.1
  have hZ := hSt.2.2.2.1
  have hI0 := hSt.2.2.2.2.1
  have hI1 := hSt.2.2.2.2.2
  have hv := hSt.v
  have hH := hSt.h
  have hk := hSt.k
  refine q_aloadn C dL_1133 rfl ?_
  refine q_aloadn C dL_1134 rfl ?_
  refine q_iloadn C dL_1135 rfl ?_
  refine q_iconst C dL_1136 ?_
  refine q_iadd C dL_1137 ?_
  refine q_sld C D (by omega) (by omega) hL dL_1138 ?_
  refine cw_RL_150 C (by decide) (m_X11_goBack l g M hs hxS hZ hI0 hI1 (lSc_in _ _)) dL_1139 (Nat.le_of_ble_eq_true rfl) (fun r1 N hz1 hp1 => ?_)
  have hx := hp1
  have ez := hx.2.2.z
  obtain ⟨nS, nK, nV⟩ := hx.2.2.st hSt
  obtain ⟨e1, -⟩ := id hx
  subst e1
  show qV l g X _ _ _ (qI _ :: [])
  refine q_aloadn C dL_1142 rfl ?_
  refine q_aloadn C dL_1143 rfl ?_
  refine q_iloadn C dL_1144 rfl ?_
  refine q_iconst C dL_1145 ?_
  refine q_iadd C dL_1146 ?_
  refine q_sld C D (by omega) (by omega) hL dL_1147 ?_
  refine cw_RL_153 C (by decide) (m_X12_goBack l g N nK (lSc_in _ _)) dL_1148 (Nat.le_of_ble_eq_true rfl) (fun r2 K hz2 hp2 => ?_)
  rw [ez] at hp2
  have hm := hp2
  obtain ⟨hq, he⟩ := qInv_deed hI hx hm
  subst he
  show qV l g X _ _ _ (qI _ :: qI _ :: [])
  exact q_icmp_eq C 1156 dL_1151 (by decide) (hz1 _ rfl) (hz1 _ rfl) (fun _ => k _ _ (hq)) (fun hne => absurd (rfl) hne)
