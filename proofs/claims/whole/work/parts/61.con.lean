theorem dX12_init_0 : decode cX12_init 0 = .ok (.aload_n 0, 1) := by decide +kernel
theorem dX12_init_1 : decode cX12_init 1 = .ok (.invokespecial 1, 3) := by decide +kernel
theorem dX12_init_4 : decode cX12_init 4 = .ok (.aload_n 0, 1) := by decide +kernel
theorem dX12_init_5 : decode cX12_init 5 = .ok (.sipush 240, 3) := by decide +kernel
theorem dX12_init_8 : decode cX12_init 8 = .ok (.newarray .int, 2) := by decide +kernel
theorem dX12_init_10 : decode cX12_init 10 = .ok (.putfield 7, 3) := by decide +kernel
theorem dX12_init_13 : decode cX12_init 13 = .ok (.aload_n 0, 1) := by decide +kernel
theorem dX12_init_14 : decode cX12_init 14 = .ok (.iconst (-1), 1) := by decide +kernel
theorem dX12_init_15 : decode cX12_init 15 = .ok (.putfield 13, 3) := by decide +kernel
theorem dX12_init_18 : decode cX12_init 18 = .ok (.aload_n 0, 1) := by decide +kernel
theorem dX12_init_19 : decode cX12_init 19 = .ok (.bipush 6, 2) := by decide +kernel
theorem dX12_init_21 : decode cX12_init 21 = .ok (.newarray .int, 2) := by decide +kernel
theorem dX12_init_23 : decode cX12_init 23 = .ok (.putfield 17, 3) := by decide +kernel
theorem dX12_init_26 : decode cX12_init 26 = .ok (.aload_n 0, 1) := by decide +kernel
theorem dX12_init_27 : decode cX12_init 27 = .ok (.bipush 6, 2) := by decide +kernel
theorem dX12_init_29 : decode cX12_init 29 = .ok (.newarray .int, 2) := by decide +kernel
theorem dX12_init_31 : decode cX12_init 31 = .ok (.putfield 20, 3) := by decide +kernel
theorem dX12_init_34 : decode cX12_init 34 = .ok (.aload_n 0, 1) := by decide +kernel
theorem dX12_init_35 : decode cX12_init 35 = .ok (.bipush 6, 2) := by decide +kernel
theorem dX12_init_37 : decode cX12_init 37 = .ok (.newarray .int, 2) := by decide +kernel
theorem dX12_init_39 : decode cX12_init 39 = .ok (.putfield 23, 3) := by decide +kernel
theorem dX12_init_42 : decode cX12_init 42 = .ok (.aload_n 0, 1) := by decide +kernel
theorem dX12_init_43 : decode cX12_init 43 = .ok (.bipush 6, 2) := by decide +kernel
theorem dX12_init_45 : decode cX12_init 45 = .ok (.newarray .int, 2) := by decide +kernel
theorem dX12_init_47 : decode cX12_init 47 = .ok (.putfield 26, 3) := by decide +kernel
theorem dX12_init_50 : decode cX12_init 50 = .ok (.aload_n 0, 1) := by decide +kernel
theorem dX12_init_51 : decode cX12_init 51 = .ok (.bipush 6, 2) := by decide +kernel
theorem dX12_init_53 : decode cX12_init 53 = .ok (.newarray .int, 2) := by decide +kernel
theorem dX12_init_55 : decode cX12_init 55 = .ok (.putfield 29, 3) := by decide +kernel
theorem dX12_init_58 : decode cX12_init 58 = .ok (.aload_n 0, 1) := by decide +kernel
theorem dX12_init_59 : decode cX12_init 59 = .ok (.bipush 48, 2) := by decide +kernel
theorem dX12_init_61 : decode cX12_init 61 = .ok (.newarray .int, 2) := by decide +kernel
theorem dX12_init_63 : decode cX12_init 63 = .ok (.putfield 32, 3) := by decide +kernel
theorem dX12_init_66 : decode cX12_init 66 = .ok (.aload_n 0, 1) := by decide +kernel
theorem dX12_init_67 : decode cX12_init 67 = .ok (.iconst (-1), 1) := by decide +kernel
theorem dX12_init_68 : decode cX12_init 68 = .ok (.putfield 35, 3) := by decide +kernel
theorem dX12_init_71 : decode cX12_init 71 = .ok (.aload_n 0, 1) := by decide +kernel
theorem dX12_init_72 : decode cX12_init 72 = .ok (.bipush 6, 2) := by decide +kernel
theorem dX12_init_74 : decode cX12_init 74 = .ok (.newarray .int, 2) := by decide +kernel
theorem dX12_init_76 : decode cX12_init 76 = .ok (.putfield 38, 3) := by decide +kernel
theorem dX12_init_79 : decode cX12_init 79 = .ok (.aload_n 0, 1) := by decide +kernel
theorem dX12_init_80 : decode cX12_init 80 = .ok (.bipush 6, 2) := by decide +kernel
theorem dX12_init_82 : decode cX12_init 82 = .ok (.newarray .int, 2) := by decide +kernel
theorem dX12_init_84 : decode cX12_init 84 = .ok (.putfield 41, 3) := by decide +kernel
theorem dX12_init_87 : decode cX12_init 87 = .ok (.aload_n 0, 1) := by decide +kernel
theorem dX12_init_88 : decode cX12_init 88 = .ok (.bipush 48, 2) := by decide +kernel
theorem dX12_init_90 : decode cX12_init 90 = .ok (.newarray .int, 2) := by decide +kernel
theorem dX12_init_92 : decode cX12_init 92 = .ok (.putfield 44, 3) := by decide +kernel
theorem dX12_init_95 : decode cX12_init 95 = .ok (.aload_n 0, 1) := by decide +kernel
theorem dX12_init_96 : decode cX12_init 96 = .ok (.sipush 199, 3) := by decide +kernel
theorem dX12_init_99 : decode cX12_init 99 = .ok (.newarray .int, 2) := by decide +kernel
theorem dX12_init_101 : decode cX12_init 101 = .ok (.putfield 47, 3) := by decide +kernel
theorem dX12_init_104 : decode cX12_init 104 = .ok (.aload_n 0, 1) := by decide +kernel
theorem dX12_init_105 : decode cX12_init 105 = .ok (.bipush 6, 2) := by decide +kernel
theorem dX12_init_107 : decode cX12_init 107 = .ok (.newarray .int, 2) := by decide +kernel
theorem dX12_init_109 : decode cX12_init 109 = .ok (.putfield 50, 3) := by decide +kernel
theorem dX12_init_112 : decode cX12_init 112 = .ok (.aload_n 0, 1) := by decide +kernel
theorem dX12_init_113 : decode cX12_init 113 = .ok (.bipush 6, 2) := by decide +kernel
theorem dX12_init_115 : decode cX12_init 115 = .ok (.newarray .int, 2) := by decide +kernel
theorem dX12_init_117 : decode cX12_init 117 = .ok (.putfield 53, 3) := by decide +kernel
theorem dX12_init_120 : decode cX12_init 120 = .ok (.aload_n 0, 1) := by decide +kernel
theorem dX12_init_121 : decode cX12_init 121 = .ok (.bipush 6, 2) := by decide +kernel
theorem dX12_init_123 : decode cX12_init 123 = .ok (.newarray .int, 2) := by decide +kernel
theorem dX12_init_125 : decode cX12_init 125 = .ok (.putfield 56, 3) := by decide +kernel
theorem dX12_init_128 : decode cX12_init 128 = .ok (.aload_n 0, 1) := by decide +kernel
theorem dX12_init_129 : decode cX12_init 129 = .ok (.sipush 5970, 3) := by decide +kernel
theorem dX12_init_132 : decode cX12_init 132 = .ok (.newarray .int, 2) := by decide +kernel
theorem dX12_init_134 : decode cX12_init 134 = .ok (.putfield 59, 3) := by decide +kernel
theorem dX12_init_137 : decode cX12_init 137 = .ok (.aload_n 0, 1) := by decide +kernel
theorem dX12_init_138 : decode cX12_init 138 = .ok (.bipush 6, 2) := by decide +kernel
theorem dX12_init_140 : decode cX12_init 140 = .ok (.newarray .int, 2) := by decide +kernel
theorem dX12_init_142 : decode cX12_init 142 = .ok (.putfield 62, 3) := by decide +kernel
theorem dX12_init_145 : decode cX12_init 145 = .ok (.aload_n 0, 1) := by decide +kernel
theorem dX12_init_146 : decode cX12_init 146 = .ok (.bipush 6, 2) := by decide +kernel
theorem dX12_init_148 : decode cX12_init 148 = .ok (.newarray .int, 2) := by decide +kernel
theorem dX12_init_150 : decode cX12_init 150 = .ok (.putfield 65, 3) := by decide +kernel
theorem dX12_init_153 : decode cX12_init 153 = .ok (.aload_n 0, 1) := by decide +kernel
theorem dX12_init_154 : decode cX12_init 154 = .ok (.bipush 20, 2) := by decide +kernel
theorem dX12_init_156 : decode cX12_init 156 = .ok (.newarray .int, 2) := by decide +kernel
theorem dX12_init_158 : decode cX12_init 158 = .ok (.putfield 68, 3) := by decide +kernel
theorem dX12_init_161 : decode cX12_init 161 = .ok (.aload_n 0, 1) := by decide +kernel
theorem dX12_init_162 : decode cX12_init 162 = .ok (.bipush 20, 2) := by decide +kernel
theorem dX12_init_164 : decode cX12_init 164 = .ok (.newarray .int, 2) := by decide +kernel
theorem dX12_init_166 : decode cX12_init 166 = .ok (.putfield 71, 3) := by decide +kernel
theorem dX12_init_169 : decode cX12_init 169 = .ok (.aload_n 0, 1) := by decide +kernel
theorem dX12_init_170 : decode cX12_init 170 = .ok (.iconst 2, 1) := by decide +kernel
theorem dX12_init_171 : decode cX12_init 171 = .ok (.newarray .boolean, 2) := by decide +kernel
theorem dX12_init_173 : decode cX12_init 173 = .ok (.putfield 74, 3) := by decide +kernel
theorem dX12_init_176 : decode cX12_init 176 = .ok (.aload_n 0, 1) := by decide +kernel
theorem dX12_init_177 : decode cX12_init 177 = .ok (.sipush 398, 3) := by decide +kernel
theorem dX12_init_180 : decode cX12_init 180 = .ok (.newarray .int, 2) := by decide +kernel
theorem dX12_init_182 : decode cX12_init 182 = .ok (.putfield 78, 3) := by decide +kernel
theorem dX12_init_185 : decode cX12_init 185 = .ok (.aload_n 0, 1) := by decide +kernel
theorem dX12_init_186 : decode cX12_init 186 = .ok (.iconst 2, 1) := by decide +kernel
theorem dX12_init_187 : decode cX12_init 187 = .ok (.newarray .long, 2) := by decide +kernel
theorem dX12_init_189 : decode cX12_init 189 = .ok (.putfield 81, 3) := by decide +kernel
theorem dX12_init_192 : decode cX12_init 192 = .ok (.return_, 1) := by decide +kernel
set_option maxRecDepth 8000 in
set_option maxHeartbeats 4000000 in
theorem i_X12 (l : Launch) (g : qGm) (n0 : Nat) (ad : Nat → Nat) (E : Nat → va_E) (p a : Nat) (ha : ad p = a) (hE : E p = .inr (12, [qI 0, .null, qI 0, qI 0, qI 0, qI 0, qI 0, qI 0, qI 0, .null, .null, .null, .null, .null, .null, qI 0, qI 0, qI 0, .null, .null, .null, .null, .null, .null, .null, qI 0, qI 0, .null, qJ 0, qI 0, .null, .null, qI 0, .null, .null, .null, .null, .null])) : cOk l g 1 yX12_init cX12_init 1 [.ref a] n0 ad (p + 1) E (p + 23) 22 7019 (fun ad' E' => cFr p ad E ad' E' ∧ cMod g ad' E' p) := by
  refine c_ok (by decide +kernel) (Nat.le_of_ble_eq_true rfl) rfl (fun X C' hn => ?_)
  have C := C'.1
  refine c_aloadn C dX12_init_0 rfl ?_
  refine c_obj C q_ml_RX12_1 (by decide) (Nat.le_of_ble_eq_true rfl) dX12_init_1 ?_
  refine c_aloadn C dX12_init_4 rfl ?_
  refine c_sipush C dX12_init_5 (by decide) ?_
  refine c_newI C 240 (f := fun _ => 0) rfl (by decide) (fun _ => rfl) (by decide) dX12_init_8 (fun q8 => ?_)
  refine c_putF C' (p0 := p) (ci := 12) (kf := 1) (fs := [qI 0, .null, qI 0, qI 0, qI 0, qI 0, qI 0, qI 0, qI 0, .null, .null, .null, .null, .null, .null, qI 0, qI 0, qI 0, .null, .null, .null, .null, .null, .null, .null, qI 0, qI 0, .null, qJ 0, qI 0, .null, .null, qI 0, .null, .null, .null, .null, .null]) (fs' := [qI 0, .ref q8, qI 0, qI 0, qI 0, qI 0, qI 0, qI 0, qI 0, .null, .null, .null, .null, .null, .null, qI 0, qI 0, qI 0, .null, .null, .null, .null, .null, .null, .null, qI 0, qI 0, .null, qJ 0, qI 0, .null, .null, qI 0, .null, .null, .null, .null, .null]) (ty := (.array .int)) (by omega) (by (repeat rw [va_upN (by omega)]); exact ha) (by (repeat rw [va_upN (by omega)]); first | exact va_upO | exact hE) rfl q_fX12 tyX12 tyX12_ok nmX12 (by decide) q_fl_RX12_7 rfl rfl (by decide +kernel) rfl rfl (Nat.le_of_ble_eq_true rfl) rfl dX12_init_10 ?_
  refine c_aloadn C dX12_init_13 rfl ?_
  refine c_iconst C dX12_init_14 ?_
  refine c_put C (p0 := p) (ci := 12) (kf := 5) (fs := [qI 0, .ref q8, qI 0, qI 0, qI 0, qI 0, qI 0, qI 0, qI 0, .null, .null, .null, .null, .null, .null, qI 0, qI 0, qI 0, .null, .null, .null, .null, .null, .null, .null, qI 0, qI 0, .null, qJ 0, qI 0, .null, .null, qI 0, .null, .null, .null, .null, .null]) (fs' := [qI 0, .ref q8, qI 0, qI 0, qI 0, qI (-1), qI 0, qI 0, qI 0, .null, .null, .null, .null, .null, .null, qI 0, qI 0, qI 0, .null, .null, .null, .null, .null, .null, .null, qI 0, qI 0, .null, qJ 0, qI 0, .null, .null, qI 0, .null, .null, .null, .null, .null]) (ty := .int) (by omega) (by (repeat rw [va_upN (by omega)]); exact ha) (by (repeat rw [va_upN (by omega)]); first | exact va_upO | exact hE) rfl q_fX12 tyX12 tyX12_ok nmX12 (by decide) q_fl_RX12_13 rfl (by decide +kernel) rfl rfl (Nat.le_of_ble_eq_true rfl) rfl dX12_init_15 ?_
  refine c_aloadn C dX12_init_18 rfl ?_
  refine c_bipush C dX12_init_19 (by decide) ?_
  refine c_newI C 6 (f := fun _ => 0) rfl (by decide) (fun _ => rfl) (by decide) dX12_init_21 (fun q21 => ?_)
  refine c_putF C' (p0 := p) (ci := 12) (kf := 9) (fs := [qI 0, .ref q8, qI 0, qI 0, qI 0, qI (-1), qI 0, qI 0, qI 0, .null, .null, .null, .null, .null, .null, qI 0, qI 0, qI 0, .null, .null, .null, .null, .null, .null, .null, qI 0, qI 0, .null, qJ 0, qI 0, .null, .null, qI 0, .null, .null, .null, .null, .null]) (fs' := [qI 0, .ref q8, qI 0, qI 0, qI 0, qI (-1), qI 0, qI 0, qI 0, .ref q21, .null, .null, .null, .null, .null, qI 0, qI 0, qI 0, .null, .null, .null, .null, .null, .null, .null, qI 0, qI 0, .null, qJ 0, qI 0, .null, .null, qI 0, .null, .null, .null, .null, .null]) (ty := (.array .int)) (by omega) (by (repeat rw [va_upN (by omega)]); exact ha) (by (repeat rw [va_upN (by omega)]); first | exact va_upO | exact hE) rfl q_fX12 tyX12 tyX12_ok nmX12 (by decide) q_fl_RX12_17 rfl rfl (by decide +kernel) rfl rfl (Nat.le_of_ble_eq_true rfl) rfl dX12_init_23 ?_
  refine c_aloadn C dX12_init_26 rfl ?_
  refine c_bipush C dX12_init_27 (by decide) ?_
  refine c_newI C 6 (f := fun _ => 0) rfl (by decide) (fun _ => rfl) (by decide) dX12_init_29 (fun q29 => ?_)
  refine c_putF C' (p0 := p) (ci := 12) (kf := 10) (fs := [qI 0, .ref q8, qI 0, qI 0, qI 0, qI (-1), qI 0, qI 0, qI 0, .ref q21, .null, .null, .null, .null, .null, qI 0, qI 0, qI 0, .null, .null, .null, .null, .null, .null, .null, qI 0, qI 0, .null, qJ 0, qI 0, .null, .null, qI 0, .null, .null, .null, .null, .null]) (fs' := [qI 0, .ref q8, qI 0, qI 0, qI 0, qI (-1), qI 0, qI 0, qI 0, .ref q21, .ref q29, .null, .null, .null, .null, qI 0, qI 0, qI 0, .null, .null, .null, .null, .null, .null, .null, qI 0, qI 0, .null, qJ 0, qI 0, .null, .null, qI 0, .null, .null, .null, .null, .null]) (ty := (.array .int)) (by omega) (by (repeat rw [va_upN (by omega)]); exact ha) (by (repeat rw [va_upN (by omega)]); first | exact va_upO | exact hE) rfl q_fX12 tyX12 tyX12_ok nmX12 (by decide) q_fl_RX12_20 rfl rfl (by decide +kernel) rfl rfl (Nat.le_of_ble_eq_true rfl) rfl dX12_init_31 ?_
  refine c_aloadn C dX12_init_34 rfl ?_
  refine c_bipush C dX12_init_35 (by decide) ?_
  refine c_newI C 6 (f := fun _ => 0) rfl (by decide) (fun _ => rfl) (by decide) dX12_init_37 (fun q37 => ?_)
  refine c_putF C' (p0 := p) (ci := 12) (kf := 11) (fs := [qI 0, .ref q8, qI 0, qI 0, qI 0, qI (-1), qI 0, qI 0, qI 0, .ref q21, .ref q29, .null, .null, .null, .null, qI 0, qI 0, qI 0, .null, .null, .null, .null, .null, .null, .null, qI 0, qI 0, .null, qJ 0, qI 0, .null, .null, qI 0, .null, .null, .null, .null, .null]) (fs' := [qI 0, .ref q8, qI 0, qI 0, qI 0, qI (-1), qI 0, qI 0, qI 0, .ref q21, .ref q29, .ref q37, .null, .null, .null, qI 0, qI 0, qI 0, .null, .null, .null, .null, .null, .null, .null, qI 0, qI 0, .null, qJ 0, qI 0, .null, .null, qI 0, .null, .null, .null, .null, .null]) (ty := (.array .int)) (by omega) (by (repeat rw [va_upN (by omega)]); exact ha) (by (repeat rw [va_upN (by omega)]); first | exact va_upO | exact hE) rfl q_fX12 tyX12 tyX12_ok nmX12 (by decide) q_fl_RX12_23 rfl rfl (by decide +kernel) rfl rfl (Nat.le_of_ble_eq_true rfl) rfl dX12_init_39 ?_
  refine c_aloadn C dX12_init_42 rfl ?_
  refine c_bipush C dX12_init_43 (by decide) ?_
  refine c_newI C 6 (f := fun _ => 0) rfl (by decide) (fun _ => rfl) (by decide) dX12_init_45 (fun q45 => ?_)
  refine c_putF C' (p0 := p) (ci := 12) (kf := 12) (fs := [qI 0, .ref q8, qI 0, qI 0, qI 0, qI (-1), qI 0, qI 0, qI 0, .ref q21, .ref q29, .ref q37, .null, .null, .null, qI 0, qI 0, qI 0, .null, .null, .null, .null, .null, .null, .null, qI 0, qI 0, .null, qJ 0, qI 0, .null, .null, qI 0, .null, .null, .null, .null, .null]) (fs' := [qI 0, .ref q8, qI 0, qI 0, qI 0, qI (-1), qI 0, qI 0, qI 0, .ref q21, .ref q29, .ref q37, .ref q45, .null, .null, qI 0, qI 0, qI 0, .null, .null, .null, .null, .null, .null, .null, qI 0, qI 0, .null, qJ 0, qI 0, .null, .null, qI 0, .null, .null, .null, .null, .null]) (ty := (.array .int)) (by omega) (by (repeat rw [va_upN (by omega)]); exact ha) (by (repeat rw [va_upN (by omega)]); first | exact va_upO | exact hE) rfl q_fX12 tyX12 tyX12_ok nmX12 (by decide) q_fl_RX12_26 rfl rfl (by decide +kernel) rfl rfl (Nat.le_of_ble_eq_true rfl) rfl dX12_init_47 ?_
  refine c_aloadn C dX12_init_50 rfl ?_
  refine c_bipush C dX12_init_51 (by decide) ?_
  refine c_newI C 6 (f := fun _ => 0) rfl (by decide) (fun _ => rfl) (by decide) dX12_init_53 (fun q53 => ?_)
  refine c_putF C' (p0 := p) (ci := 12) (kf := 13) (fs := [qI 0, .ref q8, qI 0, qI 0, qI 0, qI (-1), qI 0, qI 0, qI 0, .ref q21, .ref q29, .ref q37, .ref q45, .null, .null, qI 0, qI 0, qI 0, .null, .null, .null, .null, .null, .null, .null, qI 0, qI 0, .null, qJ 0, qI 0, .null, .null, qI 0, .null, .null, .null, .null, .null]) (fs' := [qI 0, .ref q8, qI 0, qI 0, qI 0, qI (-1), qI 0, qI 0, qI 0, .ref q21, .ref q29, .ref q37, .ref q45, .ref q53, .null, qI 0, qI 0, qI 0, .null, .null, .null, .null, .null, .null, .null, qI 0, qI 0, .null, qJ 0, qI 0, .null, .null, qI 0, .null, .null, .null, .null, .null]) (ty := (.array .int)) (by omega) (by (repeat rw [va_upN (by omega)]); exact ha) (by (repeat rw [va_upN (by omega)]); first | exact va_upO | exact hE) rfl q_fX12 tyX12 tyX12_ok nmX12 (by decide) q_fl_RX12_29 rfl rfl (by decide +kernel) rfl rfl (Nat.le_of_ble_eq_true rfl) rfl dX12_init_55 ?_
  refine c_aloadn C dX12_init_58 rfl ?_
  refine c_bipush C dX12_init_59 (by decide) ?_
  refine c_newI C 48 (f := fun _ => 0) rfl (by decide) (fun _ => rfl) (by decide) dX12_init_61 (fun q61 => ?_)
  refine c_putF C' (p0 := p) (ci := 12) (kf := 14) (fs := [qI 0, .ref q8, qI 0, qI 0, qI 0, qI (-1), qI 0, qI 0, qI 0, .ref q21, .ref q29, .ref q37, .ref q45, .ref q53, .null, qI 0, qI 0, qI 0, .null, .null, .null, .null, .null, .null, .null, qI 0, qI 0, .null, qJ 0, qI 0, .null, .null, qI 0, .null, .null, .null, .null, .null]) (fs' := [qI 0, .ref q8, qI 0, qI 0, qI 0, qI (-1), qI 0, qI 0, qI 0, .ref q21, .ref q29, .ref q37, .ref q45, .ref q53, .ref q61, qI 0, qI 0, qI 0, .null, .null, .null, .null, .null, .null, .null, qI 0, qI 0, .null, qJ 0, qI 0, .null, .null, qI 0, .null, .null, .null, .null, .null]) (ty := (.array .int)) (by omega) (by (repeat rw [va_upN (by omega)]); exact ha) (by (repeat rw [va_upN (by omega)]); first | exact va_upO | exact hE) rfl q_fX12 tyX12 tyX12_ok nmX12 (by decide) q_fl_RX12_32 rfl rfl (by decide +kernel) rfl rfl (Nat.le_of_ble_eq_true rfl) rfl dX12_init_63 ?_
  refine c_aloadn C dX12_init_66 rfl ?_
  refine c_iconst C dX12_init_67 ?_
  refine c_put C (p0 := p) (ci := 12) (kf := 15) (fs := [qI 0, .ref q8, qI 0, qI 0, qI 0, qI (-1), qI 0, qI 0, qI 0, .ref q21, .ref q29, .ref q37, .ref q45, .ref q53, .ref q61, qI 0, qI 0, qI 0, .null, .null, .null, .null, .null, .null, .null, qI 0, qI 0, .null, qJ 0, qI 0, .null, .null, qI 0, .null, .null, .null, .null, .null]) (fs' := [qI 0, .ref q8, qI 0, qI 0, qI 0, qI (-1), qI 0, qI 0, qI 0, .ref q21, .ref q29, .ref q37, .ref q45, .ref q53, .ref q61, qI (-1), qI 0, qI 0, .null, .null, .null, .null, .null, .null, .null, qI 0, qI 0, .null, qJ 0, qI 0, .null, .null, qI 0, .null, .null, .null, .null, .null]) (ty := .int) (by omega) (by (repeat rw [va_upN (by omega)]); exact ha) (by (repeat rw [va_upN (by omega)]); first | exact va_upO | exact hE) rfl q_fX12 tyX12 tyX12_ok nmX12 (by decide) q_fl_RX12_35 rfl (by decide +kernel) rfl rfl (Nat.le_of_ble_eq_true rfl) rfl dX12_init_68 ?_
  refine c_aloadn C dX12_init_71 rfl ?_
  refine c_bipush C dX12_init_72 (by decide) ?_
  refine c_newI C 6 (f := fun _ => 0) rfl (by decide) (fun _ => rfl) (by decide) dX12_init_74 (fun q74 => ?_)
  refine c_putF C' (p0 := p) (ci := 12) (kf := 18) (fs := [qI 0, .ref q8, qI 0, qI 0, qI 0, qI (-1), qI 0, qI 0, qI 0, .ref q21, .ref q29, .ref q37, .ref q45, .ref q53, .ref q61, qI (-1), qI 0, qI 0, .null, .null, .null, .null, .null, .null, .null, qI 0, qI 0, .null, qJ 0, qI 0, .null, .null, qI 0, .null, .null, .null, .null, .null]) (fs' := [qI 0, .ref q8, qI 0, qI 0, qI 0, qI (-1), qI 0, qI 0, qI 0, .ref q21, .ref q29, .ref q37, .ref q45, .ref q53, .ref q61, qI (-1), qI 0, qI 0, .ref q74, .null, .null, .null, .null, .null, .null, qI 0, qI 0, .null, qJ 0, qI 0, .null, .null, qI 0, .null, .null, .null, .null, .null]) (ty := (.array .int)) (by omega) (by (repeat rw [va_upN (by omega)]); exact ha) (by (repeat rw [va_upN (by omega)]); first | exact va_upO | exact hE) rfl q_fX12 tyX12 tyX12_ok nmX12 (by decide) q_fl_RX12_38 rfl rfl (by decide +kernel) rfl rfl (Nat.le_of_ble_eq_true rfl) rfl dX12_init_76 ?_
  refine c_aloadn C dX12_init_79 rfl ?_
  refine c_bipush C dX12_init_80 (by decide) ?_
  refine c_newI C 6 (f := fun _ => 0) rfl (by decide) (fun _ => rfl) (by decide) dX12_init_82 (fun q82 => ?_)
  refine c_putF C' (p0 := p) (ci := 12) (kf := 19) (fs := [qI 0, .ref q8, qI 0, qI 0, qI 0, qI (-1), qI 0, qI 0, qI 0, .ref q21, .ref q29, .ref q37, .ref q45, .ref q53, .ref q61, qI (-1), qI 0, qI 0, .ref q74, .null, .null, .null, .null, .null, .null, qI 0, qI 0, .null, qJ 0, qI 0, .null, .null, qI 0, .null, .null, .null, .null, .null]) (fs' := [qI 0, .ref q8, qI 0, qI 0, qI 0, qI (-1), qI 0, qI 0, qI 0, .ref q21, .ref q29, .ref q37, .ref q45, .ref q53, .ref q61, qI (-1), qI 0, qI 0, .ref q74, .ref q82, .null, .null, .null, .null, .null, qI 0, qI 0, .null, qJ 0, qI 0, .null, .null, qI 0, .null, .null, .null, .null, .null]) (ty := (.array .int)) (by omega) (by (repeat rw [va_upN (by omega)]); exact ha) (by (repeat rw [va_upN (by omega)]); first | exact va_upO | exact hE) rfl q_fX12 tyX12 tyX12_ok nmX12 (by decide) q_fl_RX12_41 rfl rfl (by decide +kernel) rfl rfl (Nat.le_of_ble_eq_true rfl) rfl dX12_init_84 ?_
  refine c_aloadn C dX12_init_87 rfl ?_
  refine c_bipush C dX12_init_88 (by decide) ?_
  refine c_newI C 48 (f := fun _ => 0) rfl (by decide) (fun _ => rfl) (by decide) dX12_init_90 (fun q90 => ?_)
  refine c_putF C' (p0 := p) (ci := 12) (kf := 20) (fs := [qI 0, .ref q8, qI 0, qI 0, qI 0, qI (-1), qI 0, qI 0, qI 0, .ref q21, .ref q29, .ref q37, .ref q45, .ref q53, .ref q61, qI (-1), qI 0, qI 0, .ref q74, .ref q82, .null, .null, .null, .null, .null, qI 0, qI 0, .null, qJ 0, qI 0, .null, .null, qI 0, .null, .null, .null, .null, .null]) (fs' := [qI 0, .ref q8, qI 0, qI 0, qI 0, qI (-1), qI 0, qI 0, qI 0, .ref q21, .ref q29, .ref q37, .ref q45, .ref q53, .ref q61, qI (-1), qI 0, qI 0, .ref q74, .ref q82, .ref q90, .null, .null, .null, .null, qI 0, qI 0, .null, qJ 0, qI 0, .null, .null, qI 0, .null, .null, .null, .null, .null]) (ty := (.array .int)) (by omega) (by (repeat rw [va_upN (by omega)]); exact ha) (by (repeat rw [va_upN (by omega)]); first | exact va_upO | exact hE) rfl q_fX12 tyX12 tyX12_ok nmX12 (by decide) q_fl_RX12_44 rfl rfl (by decide +kernel) rfl rfl (Nat.le_of_ble_eq_true rfl) rfl dX12_init_92 ?_
  refine c_aloadn C dX12_init_95 rfl ?_
  refine c_sipush C dX12_init_96 (by decide) ?_
  refine c_newI C 199 (f := fun _ => 0) rfl (by decide) (fun _ => rfl) (by decide) dX12_init_99 (fun q99 => ?_)
  refine c_putF C' (p0 := p) (ci := 12) (kf := 21) (fs := [qI 0, .ref q8, qI 0, qI 0, qI 0, qI (-1), qI 0, qI 0, qI 0, .ref q21, .ref q29, .ref q37, .ref q45, .ref q53, .ref q61, qI (-1), qI 0, qI 0, .ref q74, .ref q82, .ref q90, .null, .null, .null, .null, qI 0, qI 0, .null, qJ 0, qI 0, .null, .null, qI 0, .null, .null, .null, .null, .null]) (fs' := [qI 0, .ref q8, qI 0, qI 0, qI 0, qI (-1), qI 0, qI 0, qI 0, .ref q21, .ref q29, .ref q37, .ref q45, .ref q53, .ref q61, qI (-1), qI 0, qI 0, .ref q74, .ref q82, .ref q90, .ref q99, .null, .null, .null, qI 0, qI 0, .null, qJ 0, qI 0, .null, .null, qI 0, .null, .null, .null, .null, .null]) (ty := (.array .int)) (by omega) (by (repeat rw [va_upN (by omega)]); exact ha) (by (repeat rw [va_upN (by omega)]); first | exact va_upO | exact hE) rfl q_fX12 tyX12 tyX12_ok nmX12 (by decide) q_fl_RX12_47 rfl rfl (by decide +kernel) rfl rfl (Nat.le_of_ble_eq_true rfl) rfl dX12_init_101 ?_
  refine c_aloadn C dX12_init_104 rfl ?_
  refine c_bipush C dX12_init_105 (by decide) ?_
  refine c_newI C 6 (f := fun _ => 0) rfl (by decide) (fun _ => rfl) (by decide) dX12_init_107 (fun q107 => ?_)
  refine c_putF C' (p0 := p) (ci := 12) (kf := 22) (fs := [qI 0, .ref q8, qI 0, qI 0, qI 0, qI (-1), qI 0, qI 0, qI 0, .ref q21, .ref q29, .ref q37, .ref q45, .ref q53, .ref q61, qI (-1), qI 0, qI 0, .ref q74, .ref q82, .ref q90, .ref q99, .null, .null, .null, qI 0, qI 0, .null, qJ 0, qI 0, .null, .null, qI 0, .null, .null, .null, .null, .null]) (fs' := [qI 0, .ref q8, qI 0, qI 0, qI 0, qI (-1), qI 0, qI 0, qI 0, .ref q21, .ref q29, .ref q37, .ref q45, .ref q53, .ref q61, qI (-1), qI 0, qI 0, .ref q74, .ref q82, .ref q90, .ref q99, .ref q107, .null, .null, qI 0, qI 0, .null, qJ 0, qI 0, .null, .null, qI 0, .null, .null, .null, .null, .null]) (ty := (.array .int)) (by omega) (by (repeat rw [va_upN (by omega)]); exact ha) (by (repeat rw [va_upN (by omega)]); first | exact va_upO | exact hE) rfl q_fX12 tyX12 tyX12_ok nmX12 (by decide) q_fl_RX12_50 rfl rfl (by decide +kernel) rfl rfl (Nat.le_of_ble_eq_true rfl) rfl dX12_init_109 ?_
  refine c_aloadn C dX12_init_112 rfl ?_
  refine c_bipush C dX12_init_113 (by decide) ?_
  refine c_newI C 6 (f := fun _ => 0) rfl (by decide) (fun _ => rfl) (by decide) dX12_init_115 (fun q115 => ?_)
  refine c_putF C' (p0 := p) (ci := 12) (kf := 23) (fs := [qI 0, .ref q8, qI 0, qI 0, qI 0, qI (-1), qI 0, qI 0, qI 0, .ref q21, .ref q29, .ref q37, .ref q45, .ref q53, .ref q61, qI (-1), qI 0, qI 0, .ref q74, .ref q82, .ref q90, .ref q99, .ref q107, .null, .null, qI 0, qI 0, .null, qJ 0, qI 0, .null, .null, qI 0, .null, .null, .null, .null, .null]) (fs' := [qI 0, .ref q8, qI 0, qI 0, qI 0, qI (-1), qI 0, qI 0, qI 0, .ref q21, .ref q29, .ref q37, .ref q45, .ref q53, .ref q61, qI (-1), qI 0, qI 0, .ref q74, .ref q82, .ref q90, .ref q99, .ref q107, .ref q115, .null, qI 0, qI 0, .null, qJ 0, qI 0, .null, .null, qI 0, .null, .null, .null, .null, .null]) (ty := (.array .int)) (by omega) (by (repeat rw [va_upN (by omega)]); exact ha) (by (repeat rw [va_upN (by omega)]); first | exact va_upO | exact hE) rfl q_fX12 tyX12 tyX12_ok nmX12 (by decide) q_fl_RX12_53 rfl rfl (by decide +kernel) rfl rfl (Nat.le_of_ble_eq_true rfl) rfl dX12_init_117 ?_
  refine c_aloadn C dX12_init_120 rfl ?_
  refine c_bipush C dX12_init_121 (by decide) ?_
  refine c_newI C 6 (f := fun _ => 0) rfl (by decide) (fun _ => rfl) (by decide) dX12_init_123 (fun q123 => ?_)
  refine c_putF C' (p0 := p) (ci := 12) (kf := 24) (fs := [qI 0, .ref q8, qI 0, qI 0, qI 0, qI (-1), qI 0, qI 0, qI 0, .ref q21, .ref q29, .ref q37, .ref q45, .ref q53, .ref q61, qI (-1), qI 0, qI 0, .ref q74, .ref q82, .ref q90, .ref q99, .ref q107, .ref q115, .null, qI 0, qI 0, .null, qJ 0, qI 0, .null, .null, qI 0, .null, .null, .null, .null, .null]) (fs' := [qI 0, .ref q8, qI 0, qI 0, qI 0, qI (-1), qI 0, qI 0, qI 0, .ref q21, .ref q29, .ref q37, .ref q45, .ref q53, .ref q61, qI (-1), qI 0, qI 0, .ref q74, .ref q82, .ref q90, .ref q99, .ref q107, .ref q115, .ref q123, qI 0, qI 0, .null, qJ 0, qI 0, .null, .null, qI 0, .null, .null, .null, .null, .null]) (ty := (.array .int)) (by omega) (by (repeat rw [va_upN (by omega)]); exact ha) (by (repeat rw [va_upN (by omega)]); first | exact va_upO | exact hE) rfl q_fX12 tyX12 tyX12_ok nmX12 (by decide) q_fl_RX12_56 rfl rfl (by decide +kernel) rfl rfl (Nat.le_of_ble_eq_true rfl) rfl dX12_init_125 ?_
  refine c_aloadn C dX12_init_128 rfl ?_
  refine c_sipush C dX12_init_129 (by decide) ?_
  refine c_newI C 5970 (f := fun _ => 0) rfl (by decide) (fun _ => rfl) (by decide) dX12_init_132 (fun q132 => ?_)
  refine c_putF C' (p0 := p) (ci := 12) (kf := 27) (fs := [qI 0, .ref q8, qI 0, qI 0, qI 0, qI (-1), qI 0, qI 0, qI 0, .ref q21, .ref q29, .ref q37, .ref q45, .ref q53, .ref q61, qI (-1), qI 0, qI 0, .ref q74, .ref q82, .ref q90, .ref q99, .ref q107, .ref q115, .ref q123, qI 0, qI 0, .null, qJ 0, qI 0, .null, .null, qI 0, .null, .null, .null, .null, .null]) (fs' := [qI 0, .ref q8, qI 0, qI 0, qI 0, qI (-1), qI 0, qI 0, qI 0, .ref q21, .ref q29, .ref q37, .ref q45, .ref q53, .ref q61, qI (-1), qI 0, qI 0, .ref q74, .ref q82, .ref q90, .ref q99, .ref q107, .ref q115, .ref q123, qI 0, qI 0, .ref q132, qJ 0, qI 0, .null, .null, qI 0, .null, .null, .null, .null, .null]) (ty := (.array .int)) (by omega) (by (repeat rw [va_upN (by omega)]); exact ha) (by (repeat rw [va_upN (by omega)]); first | exact va_upO | exact hE) rfl q_fX12 tyX12 tyX12_ok nmX12 (by decide) q_fl_RX12_59 rfl rfl (by decide +kernel) rfl rfl (Nat.le_of_ble_eq_true rfl) rfl dX12_init_134 ?_
  refine c_aloadn C dX12_init_137 rfl ?_
  refine c_bipush C dX12_init_138 (by decide) ?_
  refine c_newI C 6 (f := fun _ => 0) rfl (by decide) (fun _ => rfl) (by decide) dX12_init_140 (fun q140 => ?_)
  refine c_putF C' (p0 := p) (ci := 12) (kf := 30) (fs := [qI 0, .ref q8, qI 0, qI 0, qI 0, qI (-1), qI 0, qI 0, qI 0, .ref q21, .ref q29, .ref q37, .ref q45, .ref q53, .ref q61, qI (-1), qI 0, qI 0, .ref q74, .ref q82, .ref q90, .ref q99, .ref q107, .ref q115, .ref q123, qI 0, qI 0, .ref q132, qJ 0, qI 0, .null, .null, qI 0, .null, .null, .null, .null, .null]) (fs' := [qI 0, .ref q8, qI 0, qI 0, qI 0, qI (-1), qI 0, qI 0, qI 0, .ref q21, .ref q29, .ref q37, .ref q45, .ref q53, .ref q61, qI (-1), qI 0, qI 0, .ref q74, .ref q82, .ref q90, .ref q99, .ref q107, .ref q115, .ref q123, qI 0, qI 0, .ref q132, qJ 0, qI 0, .ref q140, .null, qI 0, .null, .null, .null, .null, .null]) (ty := (.array .int)) (by omega) (by (repeat rw [va_upN (by omega)]); exact ha) (by (repeat rw [va_upN (by omega)]); first | exact va_upO | exact hE) rfl q_fX12 tyX12 tyX12_ok nmX12 (by decide) q_fl_RX12_62 rfl rfl (by decide +kernel) rfl rfl (Nat.le_of_ble_eq_true rfl) rfl dX12_init_142 ?_
  refine c_aloadn C dX12_init_145 rfl ?_
  refine c_bipush C dX12_init_146 (by decide) ?_
  refine c_newI C 6 (f := fun _ => 0) rfl (by decide) (fun _ => rfl) (by decide) dX12_init_148 (fun q148 => ?_)
  refine c_putF C' (p0 := p) (ci := 12) (kf := 31) (fs := [qI 0, .ref q8, qI 0, qI 0, qI 0, qI (-1), qI 0, qI 0, qI 0, .ref q21, .ref q29, .ref q37, .ref q45, .ref q53, .ref q61, qI (-1), qI 0, qI 0, .ref q74, .ref q82, .ref q90, .ref q99, .ref q107, .ref q115, .ref q123, qI 0, qI 0, .ref q132, qJ 0, qI 0, .ref q140, .null, qI 0, .null, .null, .null, .null, .null]) (fs' := [qI 0, .ref q8, qI 0, qI 0, qI 0, qI (-1), qI 0, qI 0, qI 0, .ref q21, .ref q29, .ref q37, .ref q45, .ref q53, .ref q61, qI (-1), qI 0, qI 0, .ref q74, .ref q82, .ref q90, .ref q99, .ref q107, .ref q115, .ref q123, qI 0, qI 0, .ref q132, qJ 0, qI 0, .ref q140, .ref q148, qI 0, .null, .null, .null, .null, .null]) (ty := (.array .int)) (by omega) (by (repeat rw [va_upN (by omega)]); exact ha) (by (repeat rw [va_upN (by omega)]); first | exact va_upO | exact hE) rfl q_fX12 tyX12 tyX12_ok nmX12 (by decide) q_fl_RX12_65 rfl rfl (by decide +kernel) rfl rfl (Nat.le_of_ble_eq_true rfl) rfl dX12_init_150 ?_
  refine c_aloadn C dX12_init_153 rfl ?_
  refine c_bipush C dX12_init_154 (by decide) ?_
  refine c_newI C 20 (f := fun _ => 0) rfl (by decide) (fun _ => rfl) (by decide) dX12_init_156 (fun q156 => ?_)
  refine c_putF C' (p0 := p) (ci := 12) (kf := 33) (fs := [qI 0, .ref q8, qI 0, qI 0, qI 0, qI (-1), qI 0, qI 0, qI 0, .ref q21, .ref q29, .ref q37, .ref q45, .ref q53, .ref q61, qI (-1), qI 0, qI 0, .ref q74, .ref q82, .ref q90, .ref q99, .ref q107, .ref q115, .ref q123, qI 0, qI 0, .ref q132, qJ 0, qI 0, .ref q140, .ref q148, qI 0, .null, .null, .null, .null, .null]) (fs' := [qI 0, .ref q8, qI 0, qI 0, qI 0, qI (-1), qI 0, qI 0, qI 0, .ref q21, .ref q29, .ref q37, .ref q45, .ref q53, .ref q61, qI (-1), qI 0, qI 0, .ref q74, .ref q82, .ref q90, .ref q99, .ref q107, .ref q115, .ref q123, qI 0, qI 0, .ref q132, qJ 0, qI 0, .ref q140, .ref q148, qI 0, .ref q156, .null, .null, .null, .null]) (ty := (.array .int)) (by omega) (by (repeat rw [va_upN (by omega)]); exact ha) (by (repeat rw [va_upN (by omega)]); first | exact va_upO | exact hE) rfl q_fX12 tyX12 tyX12_ok nmX12 (by decide) q_fl_RX12_68 rfl rfl (by decide +kernel) rfl rfl (Nat.le_of_ble_eq_true rfl) rfl dX12_init_158 ?_
  refine c_aloadn C dX12_init_161 rfl ?_
  refine c_bipush C dX12_init_162 (by decide) ?_
  refine c_newI C 20 (f := fun _ => 0) rfl (by decide) (fun _ => rfl) (by decide) dX12_init_164 (fun q164 => ?_)
  refine c_putF C' (p0 := p) (ci := 12) (kf := 34) (fs := [qI 0, .ref q8, qI 0, qI 0, qI 0, qI (-1), qI 0, qI 0, qI 0, .ref q21, .ref q29, .ref q37, .ref q45, .ref q53, .ref q61, qI (-1), qI 0, qI 0, .ref q74, .ref q82, .ref q90, .ref q99, .ref q107, .ref q115, .ref q123, qI 0, qI 0, .ref q132, qJ 0, qI 0, .ref q140, .ref q148, qI 0, .ref q156, .null, .null, .null, .null]) (fs' := [qI 0, .ref q8, qI 0, qI 0, qI 0, qI (-1), qI 0, qI 0, qI 0, .ref q21, .ref q29, .ref q37, .ref q45, .ref q53, .ref q61, qI (-1), qI 0, qI 0, .ref q74, .ref q82, .ref q90, .ref q99, .ref q107, .ref q115, .ref q123, qI 0, qI 0, .ref q132, qJ 0, qI 0, .ref q140, .ref q148, qI 0, .ref q156, .ref q164, .null, .null, .null]) (ty := (.array .int)) (by omega) (by (repeat rw [va_upN (by omega)]); exact ha) (by (repeat rw [va_upN (by omega)]); first | exact va_upO | exact hE) rfl q_fX12 tyX12 tyX12_ok nmX12 (by decide) q_fl_RX12_71 rfl rfl (by decide +kernel) rfl rfl (Nat.le_of_ble_eq_true rfl) rfl dX12_init_166 ?_
  refine c_aloadn C dX12_init_169 rfl ?_
  refine c_iconst C dX12_init_170 ?_
  refine c_newZ C 2 (f := fun _ => 0) rfl (by decide) (fun _ => rfl) (by decide) dX12_init_171 (fun q171 => ?_)
  refine c_putF C' (p0 := p) (ci := 12) (kf := 35) (fs := [qI 0, .ref q8, qI 0, qI 0, qI 0, qI (-1), qI 0, qI 0, qI 0, .ref q21, .ref q29, .ref q37, .ref q45, .ref q53, .ref q61, qI (-1), qI 0, qI 0, .ref q74, .ref q82, .ref q90, .ref q99, .ref q107, .ref q115, .ref q123, qI 0, qI 0, .ref q132, qJ 0, qI 0, .ref q140, .ref q148, qI 0, .ref q156, .ref q164, .null, .null, .null]) (fs' := [qI 0, .ref q8, qI 0, qI 0, qI 0, qI (-1), qI 0, qI 0, qI 0, .ref q21, .ref q29, .ref q37, .ref q45, .ref q53, .ref q61, qI (-1), qI 0, qI 0, .ref q74, .ref q82, .ref q90, .ref q99, .ref q107, .ref q115, .ref q123, qI 0, qI 0, .ref q132, qJ 0, qI 0, .ref q140, .ref q148, qI 0, .ref q156, .ref q164, .ref q171, .null, .null]) (ty := (.array .boolean)) (by omega) (by (repeat rw [va_upN (by omega)]); exact ha) (by (repeat rw [va_upN (by omega)]); first | exact va_upO | exact hE) rfl q_fX12 tyX12 tyX12_ok nmX12 (by decide) q_fl_RX12_74 rfl rfl (by decide +kernel) rfl rfl (Nat.le_of_ble_eq_true rfl) rfl dX12_init_173 ?_
  refine c_aloadn C dX12_init_176 rfl ?_
  refine c_sipush C dX12_init_177 (by decide) ?_
  refine c_newI C 398 (f := fun _ => 0) rfl (by decide) (fun _ => rfl) (by decide) dX12_init_180 (fun q180 => ?_)
  refine c_putF C' (p0 := p) (ci := 12) (kf := 36) (fs := [qI 0, .ref q8, qI 0, qI 0, qI 0, qI (-1), qI 0, qI 0, qI 0, .ref q21, .ref q29, .ref q37, .ref q45, .ref q53, .ref q61, qI (-1), qI 0, qI 0, .ref q74, .ref q82, .ref q90, .ref q99, .ref q107, .ref q115, .ref q123, qI 0, qI 0, .ref q132, qJ 0, qI 0, .ref q140, .ref q148, qI 0, .ref q156, .ref q164, .ref q171, .null, .null]) (fs' := [qI 0, .ref q8, qI 0, qI 0, qI 0, qI (-1), qI 0, qI 0, qI 0, .ref q21, .ref q29, .ref q37, .ref q45, .ref q53, .ref q61, qI (-1), qI 0, qI 0, .ref q74, .ref q82, .ref q90, .ref q99, .ref q107, .ref q115, .ref q123, qI 0, qI 0, .ref q132, qJ 0, qI 0, .ref q140, .ref q148, qI 0, .ref q156, .ref q164, .ref q171, .ref q180, .null]) (ty := (.array .int)) (by omega) (by (repeat rw [va_upN (by omega)]); exact ha) (by (repeat rw [va_upN (by omega)]); first | exact va_upO | exact hE) rfl q_fX12 tyX12 tyX12_ok nmX12 (by decide) q_fl_RX12_78 rfl rfl (by decide +kernel) rfl rfl (Nat.le_of_ble_eq_true rfl) rfl dX12_init_182 ?_
  refine c_aloadn C dX12_init_185 rfl ?_
  refine c_iconst C dX12_init_186 ?_
  refine c_newJ C 2 (f := fun _ => 0) rfl (by decide) (fun _ => rfl) (by decide) dX12_init_187 (fun q187 => ?_)
  refine c_putF C' (p0 := p) (ci := 12) (kf := 37) (fs := [qI 0, .ref q8, qI 0, qI 0, qI 0, qI (-1), qI 0, qI 0, qI 0, .ref q21, .ref q29, .ref q37, .ref q45, .ref q53, .ref q61, qI (-1), qI 0, qI 0, .ref q74, .ref q82, .ref q90, .ref q99, .ref q107, .ref q115, .ref q123, qI 0, qI 0, .ref q132, qJ 0, qI 0, .ref q140, .ref q148, qI 0, .ref q156, .ref q164, .ref q171, .ref q180, .null]) (fs' := [qI 0, .ref q8, qI 0, qI 0, qI 0, qI (-1), qI 0, qI 0, qI 0, .ref q21, .ref q29, .ref q37, .ref q45, .ref q53, .ref q61, qI (-1), qI 0, qI 0, .ref q74, .ref q82, .ref q90, .ref q99, .ref q107, .ref q115, .ref q123, qI 0, qI 0, .ref q132, qJ 0, qI 0, .ref q140, .ref q148, qI 0, .ref q156, .ref q164, .ref q171, .ref q180, .ref q187]) (ty := (.array .long)) (by omega) (by (repeat rw [va_upN (by omega)]); exact ha) (by (repeat rw [va_upN (by omega)]); first | exact va_upO | exact hE) rfl q_fX12 tyX12 tyX12_ok nmX12 (by decide) q_fl_RX12_81 rfl rfl (by decide +kernel) rfl rfl (Nat.le_of_ble_eq_true rfl) rfl dX12_init_189 ?_
  refine c_vret C' dX12_init_192 (by decide) ?_
  refine ⟨⟨fun k hk => by (repeat rw [va_upN (by omega)]), fun k hk => by (repeat rw [va_upN (by omega)])⟩, ?_⟩
  unfold cMod
  exact ⟨by simp [Nat.add_assoc, va_up], by (repeat rw [va_upN (by omega)]); exact va_upO, by (repeat rw [va_upN (by omega)]); exact va_upO, by (repeat rw [va_upN (by omega)]); exact va_upO, by (repeat rw [va_upN (by omega)]); exact va_upO, by (repeat rw [va_upN (by omega)]); exact va_upO, by (repeat rw [va_upN (by omega)]); exact va_upO, by (repeat rw [va_upN (by omega)]); exact va_upO, by (repeat rw [va_upN (by omega)]); exact va_upO, by (repeat rw [va_upN (by omega)]); exact va_upO, by (repeat rw [va_upN (by omega)]); exact va_upO, by (repeat rw [va_upN (by omega)]); exact va_upO, by (repeat rw [va_upN (by omega)]); exact va_upO, by (repeat rw [va_upN (by omega)]); exact va_upO, by (repeat rw [va_upN (by omega)]); exact va_upO, by (repeat rw [va_upN (by omega)]); exact va_upO, by (repeat rw [va_upN (by omega)]); exact va_upO, by (repeat rw [va_upN (by omega)]); exact va_upO, by (repeat rw [va_upN (by omega)]); exact va_upO, by (repeat rw [va_upN (by omega)]); exact va_upO, by (repeat rw [va_upN (by omega)]); exact va_upO, by (repeat rw [va_upN (by omega)]); exact va_upO, by (repeat rw [va_upN (by omega)]); exact va_upO⟩
