theorem dL_959 : decode code 959 = .ok (.aload_n 1, 1) := by decide +kernel
theorem dL_960 : decode code 960 = .ok (.aload_n 0, 1) := by decide +kernel
theorem dL_961 : decode code 961 = .ok (.iload_n 3, 1) := by decide +kernel
theorem dL_962 : decode code 962 = .ok (.iconst 1, 1) := by decide +kernel
theorem dL_963 : decode code 963 = .ok (.iadd, 1) := by decide +kernel
theorem dL_964 : decode code 964 = .ok (.iaload, 1) := by decide +kernel
theorem dL_965 : decode code 965 = .ok (.aload_n 0, 1) := by decide +kernel
theorem dL_966 : decode code 966 = .ok (.iload_n 3, 1) := by decide +kernel
theorem dL_967 : decode code 967 = .ok (.iconst 2, 1) := by decide +kernel
theorem dL_968 : decode code 968 = .ok (.iadd, 1) := by decide +kernel
theorem dL_969 : decode code 969 = .ok (.iaload, 1) := by decide +kernel
theorem dL_970 : decode code 970 = .ok (.invokevirtual 118, 3) := by decide +kernel
theorem dL_973 : decode code 973 = .ok (.aload_n 2, 1) := by decide +kernel
theorem dL_974 : decode code 974 = .ok (.aload_n 0, 1) := by decide +kernel
theorem dL_975 : decode code 975 = .ok (.iload_n 3, 1) := by decide +kernel
theorem dL_976 : decode code 976 = .ok (.iconst 1, 1) := by decide +kernel
theorem dL_977 : decode code 977 = .ok (.iadd, 1) := by decide +kernel
theorem dL_978 : decode code 978 = .ok (.iaload, 1) := by decide +kernel
theorem dL_979 : decode code 979 = .ok (.aload_n 0, 1) := by decide +kernel
theorem dL_980 : decode code 980 = .ok (.iload_n 3, 1) := by decide +kernel
theorem dL_981 : decode code 981 = .ok (.iconst 2, 1) := by decide +kernel
theorem dL_982 : decode code 982 = .ok (.iadd, 1) := by decide +kernel
theorem dL_983 : decode code 983 = .ok (.iaload, 1) := by decide +kernel
theorem dL_984 : decode code 984 = .ok (.invokevirtual 121, 3) := by decide +kernel
theorem dL_987 : decode code 987 = .ok (.if_icmp .eq 169, 3) := by decide +kernel
set_option maxRecDepth 8000 in
set_option maxHeartbeats 4000000 in
theorem lw_c25 {l : Launch} {g : qGm} {X : qCt} {M : qMem} {b L : Nat} {xs : Nat → Int32} {i : Int} {sd : sSD} (C : qCx l g X code RL 9) (D : lCx X b L xs) (hi : 0 ≤ i ∧ i + 5 ≤ (L : Int)) (hL : L ≤ 320) (h : qInv M sd) (k : ∀ M' sd', qInv M' sd' → qV l g X M' 1156 (lwL g b i) []) : qV l g X M 959 (lwL g b i) [] := by
  have hI := h
  obtain ⟨hT, hSt, hSn, hBk⟩ := h
  have hs := hSt.1
  have hxS := hSt.2.1
  have hmS := hSt.2.2.1
  have hZ := hSt.2.2.2.1
  have hI0 := hSt.2.2.2.2.1
  have hI1 := hSt.2.2.2.2.2
  have hv := hSt.v
  have hH := hSt.h
  have hk := hSt.k
  refine q_aloadn C dL_959 rfl ?_
  refine q_aloadn C dL_960 rfl ?_
  refine q_iloadn C dL_961 rfl ?_
  refine q_iconst C dL_962 ?_
  refine q_iadd C dL_963 ?_
  refine q_sld C D (by omega) (by omega) hL dL_964 ?_
  refine q_aloadn C dL_965 rfl ?_
  refine q_iloadn C dL_966 rfl ?_
  refine q_iconst C dL_967 ?_
  refine q_iadd C dL_968 ?_
  refine q_sld C D (by omega) (by omega) hL dL_969 ?_
  obtain ⟨e0, hq⟩ := qInv_meant (p := (lSc xs (i + 1))) (x := (lSc xs (i + 2))) hI
  refine cv_RL_118 C (by decide) (m_X11_meant l g M (by rw [hSn.1]; exact hSn.2.1) (lSc_in _ _) (lSc_in _ _)) dL_970 (Nat.le_of_ble_eq_true rfl) (fun r1 => ?_)
  refine q_aloadn C dL_973 rfl ?_
  refine q_aloadn C dL_974 rfl ?_
  refine q_iloadn C dL_975 rfl ?_
  refine q_iconst C dL_976 ?_
  refine q_iadd C dL_977 ?_
  refine q_sld C D (by omega) (by omega) hL dL_978 ?_
  refine q_aloadn C dL_979 rfl ?_
  refine q_iloadn C dL_980 rfl ?_
  refine q_iconst C dL_981 ?_
  refine q_iadd C dL_982 ?_
  refine q_sld C D (by omega) (by omega) hL dL_983 ?_
  refine cv_RL_121 C (by decide) (m_X12_meant l g _ (by rw [e0]; exact hSn.2.1) (lSc_in _ _) (lSc_in _ _)) dL_984 (Nat.le_of_ble_eq_true rfl) (fun r2 => ?_)
  exact q_icmp_eq C 1156 dL_987 (by decide) (r1) (r2) (fun _ => k _ _ (hq)) (fun hne => absurd (by rw [e0, hSn.1]) hne)
theorem dL_992 : decode code 992 = .ok (.aload_n 1, 1) := by decide +kernel
theorem dL_993 : decode code 993 = .ok (.aload_n 0, 1) := by decide +kernel
theorem dL_994 : decode code 994 = .ok (.iload_n 3, 1) := by decide +kernel
theorem dL_995 : decode code 995 = .ok (.iconst 1, 1) := by decide +kernel
theorem dL_996 : decode code 996 = .ok (.iadd, 1) := by decide +kernel
theorem dL_997 : decode code 997 = .ok (.iaload, 1) := by decide +kernel
theorem dL_998 : decode code 998 = .ok (.invokevirtual 122, 3) := by decide +kernel
theorem dL_1001 : decode code 1001 = .ok (.aload_n 2, 1) := by decide +kernel
theorem dL_1002 : decode code 1002 = .ok (.aload_n 0, 1) := by decide +kernel
theorem dL_1003 : decode code 1003 = .ok (.iload_n 3, 1) := by decide +kernel
theorem dL_1004 : decode code 1004 = .ok (.iconst 1, 1) := by decide +kernel
theorem dL_1005 : decode code 1005 = .ok (.iadd, 1) := by decide +kernel
theorem dL_1006 : decode code 1006 = .ok (.iaload, 1) := by decide +kernel
theorem dL_1007 : decode code 1007 = .ok (.invokevirtual 125, 3) := by decide +kernel
theorem dL_1010 : decode code 1010 = .ok (.if_icmp .eq 146, 3) := by decide +kernel
set_option maxRecDepth 8000 in
set_option maxHeartbeats 4000000 in
theorem lw_c26 {l : Launch} {g : qGm} {X : qCt} {M : qMem} {b L : Nat} {xs : Nat → Int32} {i : Int} {sd : sSD} (C : qCx l g X code RL 9) (D : lCx X b L xs) (hi : 0 ≤ i ∧ i + 5 ≤ (L : Int)) (hL : L ≤ 320) (h : qInv M sd) (k : ∀ M' sd', qInv M' sd' → qV l g X M' 1156 (lwL g b i) []) : qV l g X M 992 (lwL g b i) [] := by
  have hI := h
  obtain ⟨hT, hSt, hSn, hBk⟩ := h
  have hs := hSt.1
  have hxS := hSt.2.1
  have hmS := hSt.2.2.1
  have hZ := hSt.2.2.2.1
  have hI0 := hSt.2.2.2.2.1
  have hI1 := hSt.2.2.2.2.2
  have hv := hSt.v
  have hH := hSt.h
  have hk := hSt.k
  refine q_aloadn C dL_992 rfl ?_
  refine q_aloadn C dL_993 rfl ?_
  refine q_iloadn C dL_994 rfl ?_
  refine q_iconst C dL_995 ?_
  refine q_iadd C dL_996 ?_
  refine q_sld C D (by omega) (by omega) hL dL_997 ?_
  have hn1 : 0 ≤ M 29 0 2 ∧ M 29 0 2 ≤ 6 := by rw [hSn.1]; exact hSn.2.1
  have hn2 : ∀ i, 0 ≤ i → i < M 29 0 2 → 0 ≤ M 30 0 i ∧ M 30 0 i < 5 := fun i a b => by rw [hSn.1] at b; rw [(hSn.2.2 i a b).1.1]; exact (hSn.2.2 i a b).2
  refine cv_RL_122 C (by decide) (m_X11_couldBe l g M hs hxS hn1 hn2 (lSc_in _ _)) dL_998 (Nat.le_of_ble_eq_true rfl) (fun r1 => ?_)
  refine q_aloadn C dL_1001 rfl ?_
  refine q_aloadn C dL_1002 rfl ?_
  refine q_iloadn C dL_1003 rfl ?_
  refine q_iconst C dL_1004 ?_
  refine q_iadd C dL_1005 ?_
  refine q_sld C D (by omega) (by omega) hL dL_1006 ?_
  refine cv_RL_125 C (by decide) (m_X12_couldBe l g M hs hmS hSn.2.1 (fun k a b => (hSn.2.2 k a b).2) (lSc_in _ _)) dL_1007 (Nat.le_of_ble_eq_true rfl) (fun r2 => ?_)
  exact q_icmp_eq C 1156 dL_1010 (by decide) (r1) (r2) (fun _ => k _ _ (hI)) (fun hne => absurd (qInv_could hSn _ _) hne)
theorem dL_1015 : decode code 1015 = .ok (.aload_n 1, 1) := by decide +kernel
theorem dL_1016 : decode code 1016 = .ok (.invokevirtual 126, 3) := by decide +kernel
theorem dL_1019 : decode code 1019 = .ok (.aload_n 2, 1) := by decide +kernel
theorem dL_1020 : decode code 1020 = .ok (.invokevirtual 129, 3) := by decide +kernel
theorem dL_1023 : decode code 1023 = .ok (.if_icmp .eq 133, 3) := by decide +kernel
set_option maxRecDepth 8000 in
set_option maxHeartbeats 4000000 in
theorem lw_c27 {l : Launch} {g : qGm} {X : qCt} {M : qMem} {b L : Nat} {xs : Nat → Int32} {i : Int} {sd : sSD} (C : qCx l g X code RL 9) (D : lCx X b L xs) (hi : 0 ≤ i ∧ i + 5 ≤ (L : Int)) (hL : L ≤ 320) (h : qInv M sd) (k : ∀ M' sd', qInv M' sd' → qV l g X M' 1156 (lwL g b i) []) : qV l g X M 1015 (lwL g b i) [] := by
  have hI := h
  obtain ⟨hT, hSt, hSn, hBk⟩ := h
  have hs := hSt.1
  have hxS := hSt.2.1
  have hmS := hSt.2.2.1
  have hZ := hSt.2.2.2.1
  have hI0 := hSt.2.2.2.2.1
  have hI1 := hSt.2.2.2.2.2
  have hv := hSt.v
  have hH := hSt.h
  have hk := hSt.k
  refine q_aloadn C dL_1015 rfl ?_
  have hn1 : 0 ≤ M 29 0 2 ∧ M 29 0 2 ≤ 6 := by rw [hSn.1]; exact hSn.2.1
  have hn2 : ∀ i, 0 ≤ i → i < M 29 0 2 → 0 ≤ M 30 0 i ∧ M 30 0 i < 5 := fun i a b => by rw [hSn.1] at b; rw [(hSn.2.2 i a b).1.1]; exact (hSn.2.2 i a b).2
  refine cv_RL_126 C (by decide) (m_X11_part l g M hs hxS hn1 hn2 ) dL_1016 (Nat.le_of_ble_eq_true rfl) (fun r1 => ?_)
  refine q_aloadn C dL_1019 rfl ?_
  refine cv_RL_129 C (by decide) (m_X12_part l g M hs hmS hSn.2.1 (fun k a b => (hSn.2.2 k a b).2) ) dL_1020 (Nat.le_of_ble_eq_true rfl) (fun r2 => ?_)
  exact q_icmp_eq C 1156 dL_1023 (by decide) (r1) (r2) (fun _ => k _ _ (hI)) (fun hne => absurd (qInv_part hSn _) hne)
theorem dL_1028 : decode code 1028 = .ok (.aload_n 1, 1) := by decide +kernel
theorem dL_1029 : decode code 1029 = .ok (.aload_n 0, 1) := by decide +kernel
theorem dL_1030 : decode code 1030 = .ok (.iload_n 3, 1) := by decide +kernel
theorem dL_1031 : decode code 1031 = .ok (.iconst 1, 1) := by decide +kernel
theorem dL_1032 : decode code 1032 = .ok (.iadd, 1) := by decide +kernel
theorem dL_1033 : decode code 1033 = .ok (.iaload, 1) := by decide +kernel
theorem dL_1034 : decode code 1034 = .ok (.aload_n 0, 1) := by decide +kernel
theorem dL_1035 : decode code 1035 = .ok (.iload_n 3, 1) := by decide +kernel
theorem dL_1036 : decode code 1036 = .ok (.iconst 2, 1) := by decide +kernel
theorem dL_1037 : decode code 1037 = .ok (.iadd, 1) := by decide +kernel
theorem dL_1038 : decode code 1038 = .ok (.iaload, 1) := by decide +kernel
theorem dL_1039 : decode code 1039 = .ok (.invokevirtual 130, 3) := by decide +kernel
theorem dL_1042 : decode code 1042 = .ok (.aload_n 2, 1) := by decide +kernel
theorem dL_1043 : decode code 1043 = .ok (.aload_n 0, 1) := by decide +kernel
theorem dL_1044 : decode code 1044 = .ok (.iload_n 3, 1) := by decide +kernel
theorem dL_1045 : decode code 1045 = .ok (.iconst 1, 1) := by decide +kernel
theorem dL_1046 : decode code 1046 = .ok (.iadd, 1) := by decide +kernel
theorem dL_1047 : decode code 1047 = .ok (.iaload, 1) := by decide +kernel
theorem dL_1048 : decode code 1048 = .ok (.aload_n 0, 1) := by decide +kernel
theorem dL_1049 : decode code 1049 = .ok (.iload_n 3, 1) := by decide +kernel
theorem dL_1050 : decode code 1050 = .ok (.iconst 2, 1) := by decide +kernel
theorem dL_1051 : decode code 1051 = .ok (.iadd, 1) := by decide +kernel
theorem dL_1052 : decode code 1052 = .ok (.iaload, 1) := by decide +kernel
theorem dL_1053 : decode code 1053 = .ok (.invokevirtual 133, 3) := by decide +kernel
theorem dL_1056 : decode code 1056 = .ok (.if_icmp .eq 100, 3) := by decide +kernel
set_option maxRecDepth 8000 in
set_option maxHeartbeats 4000000 in
theorem lw_c28 {l : Launch} {g : qGm} {X : qCt} {M : qMem} {b L : Nat} {xs : Nat → Int32} {i : Int} {sd : sSD} (C : qCx l g X code RL 9) (D : lCx X b L xs) (hi : 0 ≤ i ∧ i + 5 ≤ (L : Int)) (hL : L ≤ 320) (h : qInv M sd) (k : ∀ M' sd', qInv M' sd' → qV l g X M' 1156 (lwL g b i) []) : qV l g X M 1028 (lwL g b i) [] := by
  have hI := h
  obtain ⟨hT, hSt, hSn, hBk⟩ := h
  have hs := hSt.1
  have hxS := hSt.2.1
  have hmS := hSt.2.2.1
  have hZ := hSt.2.2.2.1
  have hI0 := hSt.2.2.2.2.1
  have hI1 := hSt.2.2.2.2.2
  have hv := hSt.v
  have hH := hSt.h
  have hk := hSt.k
  refine q_aloadn C dL_1028 rfl ?_
  refine q_aloadn C dL_1029 rfl ?_
  refine q_iloadn C dL_1030 rfl ?_
  refine q_iconst C dL_1031 ?_
  refine q_iadd C dL_1032 ?_
  refine q_sld C D (by omega) (by omega) hL dL_1033 ?_
  refine q_aloadn C dL_1034 rfl ?_
  refine q_iloadn C dL_1035 rfl ?_
  refine q_iconst C dL_1036 ?_
  refine q_iadd C dL_1037 ?_
  refine q_sld C D (by omega) (by omega) hL dL_1038 ?_
  obtain ⟨e0, em, hq⟩ := qInv_write (p := (lSc xs (i + 1))) (x := (lSc xs (i + 2))) hI
  refine cv_RL_130 C (by decide) (m_X11_write l g M hs hxS (by rw [hBk.1]; exact hBk.2.1) (lSc_in _ _) (lSc_in _ _)) dL_1039 (Nat.le_of_ble_eq_true rfl) (fun r1 => ?_)
  refine q_aloadn C dL_1042 rfl ?_
  refine q_aloadn C dL_1043 rfl ?_
  refine q_iloadn C dL_1044 rfl ?_
  refine q_iconst C dL_1045 ?_
  refine q_iadd C dL_1046 ?_
  refine q_sld C D (by omega) (by omega) hL dL_1047 ?_
  refine q_aloadn C dL_1048 rfl ?_
  refine q_iloadn C dL_1049 rfl ?_
  refine q_iconst C dL_1050 ?_
  refine q_iadd C dL_1051 ?_
  refine q_sld C D (by omega) (by omega) hL dL_1052 ?_
  refine cv_RL_133 C (by decide) (m_X12_write l g _ hs em (by rw [e0]; exact hBk.2.1) (lSc_in _ _) (lSc_in _ _)) dL_1053 (Nat.le_of_ble_eq_true rfl) (fun r2 => ?_)
  exact q_icmp_eq C 1156 dL_1056 (by decide) (r1) (r2) (fun _ => k _ _ (hq)) (fun hne => absurd (by rw [e0, hBk.1]) hne)
theorem dL_1061 : decode code 1061 = .ok (.aload_n 1, 1) := by decide +kernel
theorem dL_1062 : decode code 1062 = .ok (.invokevirtual 134, 3) := by decide +kernel
theorem dL_1065 : decode code 1065 = .ok (.aload_n 2, 1) := by decide +kernel
theorem dL_1066 : decode code 1066 = .ok (.invokevirtual 137, 3) := by decide +kernel
theorem dL_1069 : decode code 1069 = .ok (.if_icmp .eq 87, 3) := by decide +kernel
set_option maxRecDepth 8000 in
set_option maxHeartbeats 4000000 in
theorem lw_c29 {l : Launch} {g : qGm} {X : qCt} {M : qMem} {b L : Nat} {xs : Nat → Int32} {i : Int} {sd : sSD} (C : qCx l g X code RL 9) (D : lCx X b L xs) (hi : 0 ≤ i ∧ i + 5 ≤ (L : Int)) (hL : L ≤ 320) (h : qInv M sd) (k : ∀ M' sd', qInv M' sd' → qV l g X M' 1156 (lwL g b i) []) : qV l g X M 1061 (lwL g b i) [] := by
  have hI := h
  obtain ⟨hT, hSt, hSn, hBk⟩ := h
  have hs := hSt.1
  have hxS := hSt.2.1
  have hmS := hSt.2.2.1
  have hZ := hSt.2.2.2.1
  have hI0 := hSt.2.2.2.2.1
  have hI1 := hSt.2.2.2.2.2
  have hv := hSt.v
  have hH := hSt.h
  have hk := hSt.k
  refine q_aloadn C dL_1061 rfl ?_
  have hb1 : 0 ≤ M 32 0 2 ∧ M 32 0 2 ≤ 20 := by rw [hBk.1]; exact hBk.2.1
  have hb2 : ∀ i, 0 ≤ i → i < M 32 0 2 → 0 ≤ M 33 0 i ∧ M 33 0 i < 6 := fun i a b => by rw [hBk.1] at b; rw [(hBk.2.2 i a b).1.1]; have := (hBk.2.2 i a b).2; have := hs.2.2.1; omega
  refine cv_RL_134 C (by decide) (m_X11_judge l g M hb1 hb2 ) dL_1062 (Nat.le_of_ble_eq_true rfl) (fun r1 => ?_)
  refine q_aloadn C dL_1065 rfl ?_
  refine cv_RL_137 C (by decide) (m_X12_judge l g M hBk.2.1 (fun k a b => ⟨(hBk.2.2 k a b).2.1, by have := (hBk.2.2 k a b).2.2; have := hs.2.2.1; omega⟩) ) dL_1066 (Nat.le_of_ble_eq_true rfl) (fun r2 => ?_)
  exact q_icmp_eq C 1156 dL_1069 (by decide) (r1) (r2) (fun _ => k _ _ (hI)) (fun hne => absurd (qInv_judge hI) hne)
