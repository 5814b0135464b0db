def cAll (g : qGm) (ad : Nat → Nat) (E : Nat → va_E) (p : Nat) : Prop := E p = .inr (11, [.ref (ad (p + 18)), .ref (ad (p + 20)), .ref (ad (p + 1)), .ref (ad (p + 8)), .ref (ad (p + 17)), .ref (ad (p + 27)), .ref (ad (p + 32)), .ref (ad (p + 304)), .ref (ad (p + 314)), .ref (ad (p + 324)), .ref (ad (p + 327)), qI 0]) ∧ cSeas g ad E (p + 1) ∧ cHall g ad E (p + 8) ∧ cTri g ad E (p + 17) (ad (p + 1)) (ad (p + 8)) ∧ cTxt g ad E (p + 18) ∧ cSeas g ad E (p + 20) ∧ cMat g ad E (p + 27) (ad (p + 17)) ∧ cPast g ad E (p + 32) ∧ cImg g ad E (p + 304) ∧ cImg g ad E (p + 314) ∧ cSeen g ad E (p + 324) ∧ cBook g ad E (p + 327)
theorem dX11_init_0 : decode cX11_init 0 = .ok (.aload_n 0, 1) := by decide +kernel
theorem dX11_init_1 : decode cX11_init 1 = .ok (.invokespecial 1, 3) := by decide +kernel
theorem dX11_init_4 : decode cX11_init 4 = .ok (.new 7, 3) := by decide +kernel
theorem dX11_init_7 : decode cX11_init 7 = .ok (.dup, 1) := by decide +kernel
theorem dX11_init_8 : decode cX11_init 8 = .ok (.invokespecial 9, 3) := by decide +kernel
theorem dX11_init_11 : decode cX11_init 11 = .ok (.astore_n 1, 1) := by decide +kernel
theorem dX11_init_12 : decode cX11_init 12 = .ok (.new 10, 3) := by decide +kernel
theorem dX11_init_15 : decode cX11_init 15 = .ok (.dup, 1) := by decide +kernel
theorem dX11_init_16 : decode cX11_init 16 = .ok (.invokespecial 12, 3) := by decide +kernel
theorem dX11_init_19 : decode cX11_init 19 = .ok (.astore_n 2, 1) := by decide +kernel
theorem dX11_init_20 : decode cX11_init 20 = .ok (.new 13, 3) := by decide +kernel
theorem dX11_init_23 : decode cX11_init 23 = .ok (.dup, 1) := by decide +kernel
theorem dX11_init_24 : decode cX11_init 24 = .ok (.aload_n 1, 1) := by decide +kernel
theorem dX11_init_25 : decode cX11_init 25 = .ok (.aload_n 2, 1) := by decide +kernel
theorem dX11_init_26 : decode cX11_init 26 = .ok (.invokespecial 15, 3) := by decide +kernel
theorem dX11_init_29 : decode cX11_init 29 = .ok (.astore_n 3, 1) := by decide +kernel
theorem dX11_init_30 : decode cX11_init 30 = .ok (.aload_n 0, 1) := by decide +kernel
theorem dX11_init_31 : decode cX11_init 31 = .ok (.new 18, 3) := by decide +kernel
theorem dX11_init_34 : decode cX11_init 34 = .ok (.dup, 1) := by decide +kernel
theorem dX11_init_35 : decode cX11_init 35 = .ok (.invokespecial 20, 3) := by decide +kernel
theorem dX11_init_38 : decode cX11_init 38 = .ok (.putfield 21, 3) := by decide +kernel
theorem dX11_init_41 : decode cX11_init 41 = .ok (.aload_n 0, 1) := by decide +kernel
theorem dX11_init_42 : decode cX11_init 42 = .ok (.new 7, 3) := by decide +kernel
theorem dX11_init_45 : decode cX11_init 45 = .ok (.dup, 1) := by decide +kernel
theorem dX11_init_46 : decode cX11_init 46 = .ok (.invokespecial 9, 3) := by decide +kernel
theorem dX11_init_49 : decode cX11_init 49 = .ok (.putfield 27, 3) := by decide +kernel
theorem dX11_init_52 : decode cX11_init 52 = .ok (.aload_n 0, 1) := by decide +kernel
theorem dX11_init_53 : decode cX11_init 53 = .ok (.aload_n 1, 1) := by decide +kernel
theorem dX11_init_54 : decode cX11_init 54 = .ok (.putfield 31, 3) := by decide +kernel
theorem dX11_init_57 : decode cX11_init 57 = .ok (.aload_n 0, 1) := by decide +kernel
theorem dX11_init_58 : decode cX11_init 58 = .ok (.aload_n 2, 1) := by decide +kernel
theorem dX11_init_59 : decode cX11_init 59 = .ok (.putfield 34, 3) := by decide +kernel
theorem dX11_init_62 : decode cX11_init 62 = .ok (.aload_n 0, 1) := by decide +kernel
theorem dX11_init_63 : decode cX11_init 63 = .ok (.aload_n 3, 1) := by decide +kernel
theorem dX11_init_64 : decode cX11_init 64 = .ok (.putfield 38, 3) := by decide +kernel
theorem dX11_init_67 : decode cX11_init 67 = .ok (.aload_n 0, 1) := by decide +kernel
theorem dX11_init_68 : decode cX11_init 68 = .ok (.new 42, 3) := by decide +kernel
theorem dX11_init_71 : decode cX11_init 71 = .ok (.dup, 1) := by decide +kernel
theorem dX11_init_72 : decode cX11_init 72 = .ok (.aload_n 3, 1) := by decide +kernel
theorem dX11_init_73 : decode cX11_init 73 = .ok (.invokespecial 44, 3) := by decide +kernel
theorem dX11_init_76 : decode cX11_init 76 = .ok (.putfield 47, 3) := by decide +kernel
theorem dX11_init_79 : decode cX11_init 79 = .ok (.aload_n 0, 1) := by decide +kernel
theorem dX11_init_80 : decode cX11_init 80 = .ok (.new 51, 3) := by decide +kernel
theorem dX11_init_83 : decode cX11_init 83 = .ok (.dup, 1) := by decide +kernel
theorem dX11_init_84 : decode cX11_init 84 = .ok (.invokespecial 53, 3) := by decide +kernel
theorem dX11_init_87 : decode cX11_init 87 = .ok (.putfield 54, 3) := by decide +kernel
theorem dX11_init_90 : decode cX11_init 90 = .ok (.aload_n 0, 1) := by decide +kernel
theorem dX11_init_91 : decode cX11_init 91 = .ok (.new 58, 3) := by decide +kernel
theorem dX11_init_94 : decode cX11_init 94 = .ok (.dup, 1) := by decide +kernel
theorem dX11_init_95 : decode cX11_init 95 = .ok (.invokespecial 60, 3) := by decide +kernel
theorem dX11_init_98 : decode cX11_init 98 = .ok (.putfield 61, 3) := by decide +kernel
theorem dX11_init_101 : decode cX11_init 101 = .ok (.aload_n 0, 1) := by decide +kernel
theorem dX11_init_102 : decode cX11_init 102 = .ok (.new 58, 3) := by decide +kernel
theorem dX11_init_105 : decode cX11_init 105 = .ok (.dup, 1) := by decide +kernel
theorem dX11_init_106 : decode cX11_init 106 = .ok (.invokespecial 60, 3) := by decide +kernel
theorem dX11_init_109 : decode cX11_init 109 = .ok (.putfield 65, 3) := by decide +kernel
theorem dX11_init_112 : decode cX11_init 112 = .ok (.aload_n 0, 1) := by decide +kernel
theorem dX11_init_113 : decode cX11_init 113 = .ok (.new 68, 3) := by decide +kernel
theorem dX11_init_116 : decode cX11_init 116 = .ok (.dup, 1) := by decide +kernel
theorem dX11_init_117 : decode cX11_init 117 = .ok (.invokespecial 70, 3) := by decide +kernel
theorem dX11_init_120 : decode cX11_init 120 = .ok (.putfield 71, 3) := by decide +kernel
theorem dX11_init_123 : decode cX11_init 123 = .ok (.aload_n 0, 1) := by decide +kernel
theorem dX11_init_124 : decode cX11_init 124 = .ok (.new 75, 3) := by decide +kernel
theorem dX11_init_127 : decode cX11_init 127 = .ok (.dup, 1) := by decide +kernel
theorem dX11_init_128 : decode cX11_init 128 = .ok (.invokespecial 77, 3) := by decide +kernel
theorem dX11_init_131 : decode cX11_init 131 = .ok (.putfield 78, 3) := by decide +kernel
theorem dX11_init_134 : decode cX11_init 134 = .ok (.aload_n 0, 1) := by decide +kernel
theorem dX11_init_135 : decode cX11_init 135 = .ok (.iconst 0, 1) := by decide +kernel
theorem dX11_init_136 : decode cX11_init 136 = .ok (.putfield 82, 3) := by decide +kernel
theorem dX11_init_139 : decode cX11_init 139 = .ok (.return_, 1) := by decide +kernel
set_option maxRecDepth 8000 in
set_option maxHeartbeats 4000000 in
theorem i_X11 (l : Launch) (g : qGm) (n0 : Nat) (ad : Nat → Nat) (E : Nat → va_E) (p a : Nat) (ha : ad p = a) (hE : E p = .inr (11, [.null, .null, .null, .null, .null, .null, .null, .null, .null, .null, .null, qI 0])) : cOk l g 4 yX11_init cX11_init 4 [.ref a] n0 ad (p + 1) E (p + 330) 329 7442 (fun ad' E' => cFr p ad E ad' E' ∧ cAll g ad' E' p) := by
  refine c_ok (by decide +kernel) (Nat.le_of_ble_eq_true rfl) rfl (fun X C' hn => ?_)
  have C := C'.1
  have hA := ha
  have hB := hE
  have hF1 : ∀ k, k ≤ p → ad k = ad k := fun _ _ => rfl
  have hF2 : ∀ k, k < p → E k = E k := fun _ _ => rfl
  refine c_aloadn C dX11_init_0 rfl ?_
  refine c_obj C q_ml_RX11_1 (by decide) (Nat.le_of_ble_eq_true rfl) dX11_init_1 ?_
  refine c_new C (ci := 7) (fs := [qI 0, qI 0, qI 0, .null, .null, .null, .null, .null, .null]) (q_mt 90 (by decide +kernel) (by decide +kernel)) (q_mt 91 (by decide +kernel) (by decide +kernel)) q_in_RX7 rfl q_fX7 tyX7 tyX7_ok (fun j hj => by rcases (show j = 0 ∨ j = 1 ∨ j = 2 ∨ j = 3 ∨ j = 4 ∨ j = 5 ∨ j = 6 ∨ j = 7 ∨ j = 8 by omega) with rfl | rfl | rfl | rfl | rfl | rfl | rfl | rfl | rfl <;> rfl) (by decide) dX11_init_4 (fun q4 => ?_)
  refine c_dup C dX11_init_7 rfl ?_
  refine c_callN C (a := q4) (As := []) (rest := [.ref q4]) (n := 0) (host := RX11) (List.mem_of_getElem? (i := 0) rfl) q_in_RX7 q_cd_yX7_init ⟨by decide, by decide, by decide +kernel⟩ (by decide) q_im_yX7_init rfl rfl (by decide) (i_X7 l g n0 _ _ (p + 1) q4 va_upO va_upO) dX11_init_8 (Nat.le_of_ble_eq_true rfl) rfl (by decide) (fun ad8 E8 hp8 => ?_)
  obtain ⟨⟨f1_8, f2_8⟩, b1⟩ := hp8
  have hA := (f1_8 p (by omega)).trans (show _ = a from by (repeat rw [va_upN (by omega)]); exact hA)
  have hB : E8 p = .inr (11, [.null, .null, .null, .null, .null, .null, .null, .null, .null, .null, .null, qI 0]) := (f2_8 p (by omega)).trans (by (repeat rw [va_upN (by omega)]); first | exact va_upO | exact hB)
  have hF1 : ∀ k, k ≤ p → ad8 k = ad k := fun k hk => (f1_8 k (by omega)).trans (by (repeat rw [va_upN (by omega)]); first | done | exact hF1 k hk)
  have hF2 : ∀ k, k < p → E8 k = E k := fun k hk => (f2_8 k (by omega)).trans (by (repeat rw [va_upN (by omega)]); first | done | exact hF2 k hk)
  have a1 : ad8 (p + 1) = q4 := (f1_8 _ (by omega)).trans va_upO
  refine c_t (t' := p + 8) (by omega) rfl rfl ?_
  refine c_astoren C dX11_init_11 hn (by decide) rfl ?_
  refine c_new C (ci := 2) (fs := [qI 0, qI 0, .null, .null, .null, .null, .null, .null, .null]) (q_mt 141 (by decide +kernel) (by decide +kernel)) (q_mt 142 (by decide +kernel) (by decide +kernel)) q_in_RX2 rfl q_fX2 tyX2 tyX2_ok (fun j hj => by rcases (show j = 0 ∨ j = 1 ∨ j = 2 ∨ j = 3 ∨ j = 4 ∨ j = 5 ∨ j = 6 ∨ j = 7 ∨ j = 8 by omega) with rfl | rfl | rfl | rfl | rfl | rfl | rfl | rfl | rfl <;> rfl) (by decide) dX11_init_12 (fun q12 => ?_)
  refine c_dup C dX11_init_15 rfl ?_
  refine c_callN C (a := q12) (As := []) (rest := [.ref q12]) (n := 0) (host := RX11) (List.mem_of_getElem? (i := 1) rfl) q_in_RX2 q_cd_yX2_init ⟨by decide, by decide, by decide +kernel⟩ (by decide) q_im_yX2_init rfl rfl (by decide) (i_X2 l g n0 _ _ (p + 8) q12 va_upO va_upO) dX11_init_16 (Nat.le_of_ble_eq_true rfl) rfl (by decide) (fun ad16 E16 hp16 => ?_)
  obtain ⟨⟨f1_16, f2_16⟩, b8⟩ := hp16
  have hA := (f1_16 p (by omega)).trans (show _ = a from by (repeat rw [va_upN (by omega)]); exact hA)
  have hB : E16 p = .inr (11, [.null, .null, .null, .null, .null, .null, .null, .null, .null, .null, .null, qI 0]) := (f2_16 p (by omega)).trans (by (repeat rw [va_upN (by omega)]); first | exact va_upO | exact hB)
  have hF1 : ∀ k, k ≤ p → ad16 k = ad k := fun k hk => (f1_16 k (by omega)).trans (by (repeat rw [va_upN (by omega)]); first | done | exact hF1 k hk)
  have hF2 : ∀ k, k < p → E16 k = E k := fun k hk => (f2_16 k (by omega)).trans (by (repeat rw [va_upN (by omega)]); first | done | exact hF2 k hk)
  have a1 : ad16 (p + 1) = q4 := (f1_16 _ (by omega)).trans (by (repeat rw [va_upN (by omega)]); exact a1)
  have b1 := b1.mv (fun k h1 h2 => (f1_16 k (by omega)).trans (by (repeat rw [va_upN (by omega)]))) (fun k h1 h2 => (f2_16 k (by omega)).trans (by (repeat rw [va_upN (by omega)])))
  have a8 : ad16 (p + 8) = q12 := (f1_16 _ (by omega)).trans va_upO
  refine c_t (t' := p + 17) (by omega) rfl rfl ?_
  refine c_astoren C dX11_init_19 hn (by decide) rfl ?_
  refine c_new C (ci := 10) (fs := [.null, .null]) (q_mt 203 (by decide +kernel) (by decide +kernel)) (q_mt 204 (by decide +kernel) (by decide +kernel)) q_in_RX10 rfl q_fX10 tyX10 tyX10_ok (fun j hj => by rcases (show j = 0 ∨ j = 1 by omega) with rfl | rfl <;> rfl) (by decide) dX11_init_20 (fun q20 => ?_)
  refine c_dup C dX11_init_23 rfl ?_
  refine c_aloadn C dX11_init_24 rfl ?_
  refine c_aloadn C dX11_init_25 rfl ?_
  refine c_call C (a := q20) (As := [.ref q4, .ref q12]) (rest := [.ref q20]) (n := 2) ⟨q_ml_RX11_15, q_in_RX10, q_cd_yX10_init, ⟨by decide, by decide⟩, by decide +kernel, by decide⟩ q_im_yX10_init rfl rfl (by decide) (i_X10 l g n0 _ _ (p + 17) q20 va_upO va_upO q4 q12) dX11_init_26 (Nat.le_of_ble_eq_true rfl) rfl (by decide) (fun ad26 E26 hp26 => ?_)
  obtain ⟨⟨f1_26, f2_26⟩, b17⟩ := hp26
  have hA := (f1_26 p (by omega)).trans (show _ = a from by (repeat rw [va_upN (by omega)]); exact hA)
  have hB : E26 p = .inr (11, [.null, .null, .null, .null, .null, .null, .null, .null, .null, .null, .null, qI 0]) := (f2_26 p (by omega)).trans (by (repeat rw [va_upN (by omega)]); first | exact va_upO | exact hB)
  have hF1 : ∀ k, k ≤ p → ad26 k = ad k := fun k hk => (f1_26 k (by omega)).trans (by (repeat rw [va_upN (by omega)]); first | done | exact hF1 k hk)
  have hF2 : ∀ k, k < p → E26 k = E k := fun k hk => (f2_26 k (by omega)).trans (by (repeat rw [va_upN (by omega)]); first | done | exact hF2 k hk)
  have a1 : ad26 (p + 1) = q4 := (f1_26 _ (by omega)).trans (by (repeat rw [va_upN (by omega)]); exact a1)
  have b1 := b1.mv (fun k h1 h2 => (f1_26 k (by omega)).trans (by (repeat rw [va_upN (by omega)]))) (fun k h1 h2 => (f2_26 k (by omega)).trans (by (repeat rw [va_upN (by omega)])))
  have a8 : ad26 (p + 8) = q12 := (f1_26 _ (by omega)).trans (by (repeat rw [va_upN (by omega)]); exact a8)
  have b8 := b8.mv (fun k h1 h2 => (f1_26 k (by omega)).trans (by (repeat rw [va_upN (by omega)]))) (fun k h1 h2 => (f2_26 k (by omega)).trans (by (repeat rw [va_upN (by omega)])))
  have a17 : ad26 (p + 17) = q20 := (f1_26 _ (by omega)).trans va_upO
  refine c_t (t' := p + 18) (by omega) rfl rfl ?_
  refine c_astoren C dX11_init_29 hn (by decide) rfl ?_
  refine c_aloadn C dX11_init_30 rfl ?_
  refine c_new C (ci := 9) (fs := [.null, qI 0, qI 0, qI 0, qI 0]) (q_mt 216 (by decide +kernel) (by decide +kernel)) (q_mt 217 (by decide +kernel) (by decide +kernel)) q_in_RX9 rfl q_fX9 tyX9 tyX9_ok (fun j hj => by rcases (show j = 0 ∨ j = 1 ∨ j = 2 ∨ j = 3 ∨ j = 4 by omega) with rfl | rfl | rfl | rfl | rfl <;> rfl) (by decide) dX11_init_31 (fun q31 => ?_)
  refine c_dup C dX11_init_34 rfl ?_
  refine c_callN C (a := q31) (As := []) (rest := [.ref q31, .ref a]) (n := 0) (host := RX11) (List.mem_of_getElem? (i := 3) rfl) q_in_RX9 q_cd_yX9_init ⟨by decide, by decide, by decide +kernel⟩ (by decide) q_im_yX9_init rfl rfl (by decide) (i_X9 l g n0 _ _ (p + 18) q31 va_upO va_upO) dX11_init_35 (Nat.le_of_ble_eq_true rfl) rfl (by decide) (fun ad35 E35 hp35 => ?_)
  obtain ⟨⟨f1_35, f2_35⟩, b18⟩ := hp35
  have hA := (f1_35 p (by omega)).trans (show _ = a from by (repeat rw [va_upN (by omega)]); exact hA)
  have hB : E35 p = .inr (11, [.null, .null, .null, .null, .null, .null, .null, .null, .null, .null, .null, qI 0]) := (f2_35 p (by omega)).trans (by (repeat rw [va_upN (by omega)]); first | exact va_upO | exact hB)
  have hF1 : ∀ k, k ≤ p → ad35 k = ad k := fun k hk => (f1_35 k (by omega)).trans (by (repeat rw [va_upN (by omega)]); first | done | exact hF1 k hk)
  have hF2 : ∀ k, k < p → E35 k = E k := fun k hk => (f2_35 k (by omega)).trans (by (repeat rw [va_upN (by omega)]); first | done | exact hF2 k hk)
  have a1 : ad35 (p + 1) = q4 := (f1_35 _ (by omega)).trans (by (repeat rw [va_upN (by omega)]); exact a1)
  have b1 := b1.mv (fun k h1 h2 => (f1_35 k (by omega)).trans (by (repeat rw [va_upN (by omega)]))) (fun k h1 h2 => (f2_35 k (by omega)).trans (by (repeat rw [va_upN (by omega)])))
  have a8 : ad35 (p + 8) = q12 := (f1_35 _ (by omega)).trans (by (repeat rw [va_upN (by omega)]); exact a8)
  have b8 := b8.mv (fun k h1 h2 => (f1_35 k (by omega)).trans (by (repeat rw [va_upN (by omega)]))) (fun k h1 h2 => (f2_35 k (by omega)).trans (by (repeat rw [va_upN (by omega)])))
  have a17 : ad35 (p + 17) = q20 := (f1_35 _ (by omega)).trans (by (repeat rw [va_upN (by omega)]); exact a17)
  have b17 := b17.mv (fun k h1 h2 => (f1_35 k (by omega)).trans (by (repeat rw [va_upN (by omega)]))) (fun k h1 h2 => (f2_35 k (by omega)).trans (by (repeat rw [va_upN (by omega)])))
  have a18 : ad35 (p + 18) = q31 := (f1_35 _ (by omega)).trans va_upO
  refine c_t (t' := p + 20) (by omega) rfl rfl ?_
  refine c_putF C' (p0 := p) (ci := 11) (kf := 0) (fs := [.null, .null, .null, .null, .null, .null, .null, .null, .null, .null, .null, qI 0]) (fs' := [.ref q31, .null, .null, .null, .null, .null, .null, .null, .null, .null, .null, qI 0]) (ty := (.object "GloveSigns$Text")) (by omega) (by first | exact hA | ((repeat rw [va_upN (by omega)]); exact hA)) (by first | exact hB | exact va_upO | ((repeat rw [va_upN (by omega)]); first | exact va_upO | exact hB)) rfl q_fX11 tyX11 tyX11_ok nmX11 (by decide) q_fl_RX11_21 rfl rfl (by decide +kernel) rfl rfl (Nat.le_of_ble_eq_true rfl) rfl dX11_init_38 ?_
  refine c_aloadn C dX11_init_41 rfl ?_
  refine c_new C (ci := 7) (fs := [qI 0, qI 0, qI 0, .null, .null, .null, .null, .null, .null]) (q_mt 90 (by decide +kernel) (by decide +kernel)) (q_mt 91 (by decide +kernel) (by decide +kernel)) q_in_RX7 rfl q_fX7 tyX7 tyX7_ok (fun j hj => by rcases (show j = 0 ∨ j = 1 ∨ j = 2 ∨ j = 3 ∨ j = 4 ∨ j = 5 ∨ j = 6 ∨ j = 7 ∨ j = 8 by omega) with rfl | rfl | rfl | rfl | rfl | rfl | rfl | rfl | rfl <;> rfl) (by decide) dX11_init_42 (fun q42 => ?_)
  refine c_dup C dX11_init_45 rfl ?_
  refine c_callN C (a := q42) (As := []) (rest := [.ref q42, .ref a]) (n := 0) (host := RX11) (List.mem_of_getElem? (i := 0) rfl) q_in_RX7 q_cd_yX7_init ⟨by decide, by decide, by decide +kernel⟩ (by decide) q_im_yX7_init rfl rfl (by decide) (i_X7 l g n0 _ _ (p + 20) q42 va_upO va_upO) dX11_init_46 (Nat.le_of_ble_eq_true rfl) rfl (by decide) (fun ad46 E46 hp46 => ?_)
  obtain ⟨⟨f1_46, f2_46⟩, b20⟩ := hp46
  have hA := (f1_46 p (by omega)).trans (show _ = a from by (repeat rw [va_upN (by omega)]); exact hA)
  have hB : E46 p = .inr (11, [.ref q31, .null, .null, .null, .null, .null, .null, .null, .null, .null, .null, qI 0]) := (f2_46 p (by omega)).trans (by (repeat rw [va_upN (by omega)]); first | exact va_upO | exact hB)
  have hF1 : ∀ k, k ≤ p → ad46 k = ad k := fun k hk => (f1_46 k (by omega)).trans (by (repeat rw [va_upN (by omega)]); first | done | exact hF1 k hk)
  have hF2 : ∀ k, k < p → E46 k = E k := fun k hk => (f2_46 k (by omega)).trans (by (repeat rw [va_upN (by omega)]); first | done | exact hF2 k hk)
  have a1 : ad46 (p + 1) = q4 := (f1_46 _ (by omega)).trans (by (repeat rw [va_upN (by omega)]); exact a1)
  have b1 := b1.mv (fun k h1 h2 => (f1_46 k (by omega)).trans (by (repeat rw [va_upN (by omega)]))) (fun k h1 h2 => (f2_46 k (by omega)).trans (by (repeat rw [va_upN (by omega)])))
  have a8 : ad46 (p + 8) = q12 := (f1_46 _ (by omega)).trans (by (repeat rw [va_upN (by omega)]); exact a8)
  have b8 := b8.mv (fun k h1 h2 => (f1_46 k (by omega)).trans (by (repeat rw [va_upN (by omega)]))) (fun k h1 h2 => (f2_46 k (by omega)).trans (by (repeat rw [va_upN (by omega)])))
  have a17 : ad46 (p + 17) = q20 := (f1_46 _ (by omega)).trans (by (repeat rw [va_upN (by omega)]); exact a17)
  have b17 := b17.mv (fun k h1 h2 => (f1_46 k (by omega)).trans (by (repeat rw [va_upN (by omega)]))) (fun k h1 h2 => (f2_46 k (by omega)).trans (by (repeat rw [va_upN (by omega)])))
  have a18 : ad46 (p + 18) = q31 := (f1_46 _ (by omega)).trans (by (repeat rw [va_upN (by omega)]); exact a18)
  have b18 := b18.mv (fun k h1 h2 => (f1_46 k (by omega)).trans (by (repeat rw [va_upN (by omega)]))) (fun k h1 h2 => (f2_46 k (by omega)).trans (by (repeat rw [va_upN (by omega)])))
  have a20 : ad46 (p + 20) = q42 := (f1_46 _ (by omega)).trans va_upO
  refine c_t (t' := p + 27) (by omega) rfl rfl ?_
  refine c_putF C' (p0 := p) (ci := 11) (kf := 1) (fs := [.ref q31, .null, .null, .null, .null, .null, .null, .null, .null, .null, .null, qI 0]) (fs' := [.ref q31, .ref q42, .null, .null, .null, .null, .null, .null, .null, .null, .null, qI 0]) (ty := (.object "GloveSigns$Season")) (by omega) (by first | exact hA | ((repeat rw [va_upN (by omega)]); exact hA)) (by first | exact hB | exact va_upO | ((repeat rw [va_upN (by omega)]); first | exact va_upO | exact hB)) rfl q_fX11 tyX11 tyX11_ok nmX11 (by decide) q_fl_RX11_27 rfl rfl (by decide +kernel) rfl rfl (Nat.le_of_ble_eq_true rfl) rfl dX11_init_49 ?_
  refine c_aloadn C dX11_init_52 rfl ?_
  refine c_aloadn C dX11_init_53 rfl ?_
  refine c_putF C' (p0 := p) (ci := 11) (kf := 2) (fs := [.ref q31, .ref q42, .null, .null, .null, .null, .null, .null, .null, .null, .null, qI 0]) (fs' := [.ref q31, .ref q42, .ref q4, .null, .null, .null, .null, .null, .null, .null, .null, qI 0]) (ty := (.object "GloveSigns$Season")) (by omega) (by first | exact hA | ((repeat rw [va_upN (by omega)]); exact hA)) (by first | exact hB | exact va_upO | ((repeat rw [va_upN (by omega)]); first | exact va_upO | exact hB)) rfl q_fX11 tyX11 tyX11_ok nmX11 (by decide) q_fl_RX11_31 rfl rfl (by decide +kernel) rfl rfl (Nat.le_of_ble_eq_true rfl) rfl dX11_init_54 ?_
  refine c_aloadn C dX11_init_57 rfl ?_
  refine c_aloadn C dX11_init_58 rfl ?_
  refine c_putF C' (p0 := p) (ci := 11) (kf := 3) (fs := [.ref q31, .ref q42, .ref q4, .null, .null, .null, .null, .null, .null, .null, .null, qI 0]) (fs' := [.ref q31, .ref q42, .ref q4, .ref q12, .null, .null, .null, .null, .null, .null, .null, qI 0]) (ty := (.object "GloveSigns$Hall")) (by omega) (by first | exact hA | ((repeat rw [va_upN (by omega)]); exact hA)) (by first | exact hB | exact va_upO | ((repeat rw [va_upN (by omega)]); first | exact va_upO | exact hB)) rfl q_fX11 tyX11 tyX11_ok nmX11 (by decide) q_fl_RX11_34 rfl rfl (by decide +kernel) rfl rfl (Nat.le_of_ble_eq_true rfl) rfl dX11_init_59 ?_
  refine c_aloadn C dX11_init_62 rfl ?_
  refine c_aloadn C dX11_init_63 rfl ?_
  refine c_putF C' (p0 := p) (ci := 11) (kf := 4) (fs := [.ref q31, .ref q42, .ref q4, .ref q12, .null, .null, .null, .null, .null, .null, .null, qI 0]) (fs' := [.ref q31, .ref q42, .ref q4, .ref q12, .ref q20, .null, .null, .null, .null, .null, .null, qI 0]) (ty := (.object "GloveSigns$Trial")) (by omega) (by first | exact hA | ((repeat rw [va_upN (by omega)]); exact hA)) (by first | exact hB | exact va_upO | ((repeat rw [va_upN (by omega)]); first | exact va_upO | exact hB)) rfl q_fX11 tyX11 tyX11_ok nmX11 (by decide) q_fl_RX11_38 rfl rfl (by decide +kernel) rfl rfl (Nat.le_of_ble_eq_true rfl) rfl dX11_init_64 ?_
  refine c_aloadn C dX11_init_67 rfl ?_
  refine c_new C (ci := 5) (fs := [.null, .null, .null, .null, .null, qI 0]) (q_mt 241 (by decide +kernel) (by decide +kernel)) (q_mt 242 (by decide +kernel) (by decide +kernel)) q_in_RX5 rfl q_fX5 tyX5 tyX5_ok (fun j hj => by rcases (show j = 0 ∨ j = 1 ∨ j = 2 ∨ j = 3 ∨ j = 4 ∨ j = 5 by omega) with rfl | rfl | rfl | rfl | rfl | rfl <;> rfl) (by decide) dX11_init_68 (fun q68 => ?_)
  refine c_dup C dX11_init_71 rfl ?_
  refine c_aloadn C dX11_init_72 rfl ?_
  refine c_call C (a := q68) (As := [.ref q20]) (rest := [.ref q68, .ref a]) (n := 1) ⟨q_ml_RX11_44, q_in_RX5, q_cd_yX5_init, ⟨by decide, by decide⟩, by decide +kernel, by decide⟩ q_im_yX5_init rfl rfl (by decide) (i_X5 l g n0 _ _ (p + 27) q68 va_upO va_upO q20) dX11_init_73 (Nat.le_of_ble_eq_true rfl) rfl (by decide) (fun ad73 E73 hp73 => ?_)
  obtain ⟨⟨f1_73, f2_73⟩, b27⟩ := hp73
  have hA := (f1_73 p (by omega)).trans (show _ = a from by (repeat rw [va_upN (by omega)]); exact hA)
  have hB : E73 p = .inr (11, [.ref q31, .ref q42, .ref q4, .ref q12, .ref q20, .null, .null, .null, .null, .null, .null, qI 0]) := (f2_73 p (by omega)).trans (by (repeat rw [va_upN (by omega)]); first | exact va_upO | exact hB)
  have hF1 : ∀ k, k ≤ p → ad73 k = ad k := fun k hk => (f1_73 k (by omega)).trans (by (repeat rw [va_upN (by omega)]); first | done | exact hF1 k hk)
  have hF2 : ∀ k, k < p → E73 k = E k := fun k hk => (f2_73 k (by omega)).trans (by (repeat rw [va_upN (by omega)]); first | done | exact hF2 k hk)
  have a1 : ad73 (p + 1) = q4 := (f1_73 _ (by omega)).trans (by (repeat rw [va_upN (by omega)]); exact a1)
  have b1 := b1.mv (fun k h1 h2 => (f1_73 k (by omega)).trans (by (repeat rw [va_upN (by omega)]))) (fun k h1 h2 => (f2_73 k (by omega)).trans (by (repeat rw [va_upN (by omega)])))
  have a8 : ad73 (p + 8) = q12 := (f1_73 _ (by omega)).trans (by (repeat rw [va_upN (by omega)]); exact a8)
  have b8 := b8.mv (fun k h1 h2 => (f1_73 k (by omega)).trans (by (repeat rw [va_upN (by omega)]))) (fun k h1 h2 => (f2_73 k (by omega)).trans (by (repeat rw [va_upN (by omega)])))
  have a17 : ad73 (p + 17) = q20 := (f1_73 _ (by omega)).trans (by (repeat rw [va_upN (by omega)]); exact a17)
  have b17 := b17.mv (fun k h1 h2 => (f1_73 k (by omega)).trans (by (repeat rw [va_upN (by omega)]))) (fun k h1 h2 => (f2_73 k (by omega)).trans (by (repeat rw [va_upN (by omega)])))
  have a18 : ad73 (p + 18) = q31 := (f1_73 _ (by omega)).trans (by (repeat rw [va_upN (by omega)]); exact a18)
  have b18 := b18.mv (fun k h1 h2 => (f1_73 k (by omega)).trans (by (repeat rw [va_upN (by omega)]))) (fun k h1 h2 => (f2_73 k (by omega)).trans (by (repeat rw [va_upN (by omega)])))
  have a20 : ad73 (p + 20) = q42 := (f1_73 _ (by omega)).trans (by (repeat rw [va_upN (by omega)]); exact a20)
  have b20 := b20.mv (fun k h1 h2 => (f1_73 k (by omega)).trans (by (repeat rw [va_upN (by omega)]))) (fun k h1 h2 => (f2_73 k (by omega)).trans (by (repeat rw [va_upN (by omega)])))
  have a27 : ad73 (p + 27) = q68 := (f1_73 _ (by omega)).trans va_upO
  refine c_t (t' := p + 32) (by omega) rfl rfl ?_
  refine c_putF C' (p0 := p) (ci := 11) (kf := 5) (fs := [.ref q31, .ref q42, .ref q4, .ref q12, .ref q20, .null, .null, .null, .null, .null, .null, qI 0]) (fs' := [.ref q31, .ref q42, .ref q4, .ref q12, .ref q20, .ref q68, .null, .null, .null, .null, .null, qI 0]) (ty := (.object "GloveSigns$Matching")) (by omega) (by first | exact hA | ((repeat rw [va_upN (by omega)]); exact hA)) (by first | exact hB | exact va_upO | ((repeat rw [va_upN (by omega)]); first | exact va_upO | exact hB)) rfl q_fX11 tyX11 tyX11_ok nmX11 (by decide) q_fl_RX11_47 rfl rfl (by decide +kernel) rfl rfl (Nat.le_of_ble_eq_true rfl) rfl dX11_init_76 ?_
  refine c_aloadn C dX11_init_79 rfl ?_
  refine c_new C (ci := 6) (fs := [.null, qI 0, qI 0]) (q_mt 266 (by decide +kernel) (by decide +kernel)) (q_mt 267 (by decide +kernel) (by decide +kernel)) q_in_RX6 rfl q_fX6 tyX6 tyX6_ok (fun j hj => by rcases (show j = 0 ∨ j = 1 ∨ j = 2 by omega) with rfl | rfl | rfl <;> rfl) (by decide) dX11_init_80 (fun q80 => ?_)
  refine c_dup C dX11_init_83 rfl ?_
  refine c_call C (a := q80) (As := []) (rest := [.ref q80, .ref a]) (n := 0) ⟨q_ml_RX11_53, q_in_RX6, q_cd_yX6_init, ⟨by decide, by decide⟩, by decide +kernel, by decide⟩ q_im_yX6_init rfl rfl (by decide) (i_X6 l g n0 _ _ (p + 32) q80 va_upO va_upO) dX11_init_84 (Nat.le_of_ble_eq_true rfl) rfl (by decide) (fun ad84 E84 hp84 => ?_)
  obtain ⟨⟨f1_84, f2_84⟩, b32⟩ := hp84
  have hA := (f1_84 p (by omega)).trans (show _ = a from by (repeat rw [va_upN (by omega)]); exact hA)
  have hB : E84 p = .inr (11, [.ref q31, .ref q42, .ref q4, .ref q12, .ref q20, .ref q68, .null, .null, .null, .null, .null, qI 0]) := (f2_84 p (by omega)).trans (by (repeat rw [va_upN (by omega)]); first | exact va_upO | exact hB)
  have hF1 : ∀ k, k ≤ p → ad84 k = ad k := fun k hk => (f1_84 k (by omega)).trans (by (repeat rw [va_upN (by omega)]); first | done | exact hF1 k hk)
  have hF2 : ∀ k, k < p → E84 k = E k := fun k hk => (f2_84 k (by omega)).trans (by (repeat rw [va_upN (by omega)]); first | done | exact hF2 k hk)
  have a1 : ad84 (p + 1) = q4 := (f1_84 _ (by omega)).trans (by (repeat rw [va_upN (by omega)]); exact a1)
  have b1 := b1.mv (fun k h1 h2 => (f1_84 k (by omega)).trans (by (repeat rw [va_upN (by omega)]))) (fun k h1 h2 => (f2_84 k (by omega)).trans (by (repeat rw [va_upN (by omega)])))
  have a8 : ad84 (p + 8) = q12 := (f1_84 _ (by omega)).trans (by (repeat rw [va_upN (by omega)]); exact a8)
  have b8 := b8.mv (fun k h1 h2 => (f1_84 k (by omega)).trans (by (repeat rw [va_upN (by omega)]))) (fun k h1 h2 => (f2_84 k (by omega)).trans (by (repeat rw [va_upN (by omega)])))
  have a17 : ad84 (p + 17) = q20 := (f1_84 _ (by omega)).trans (by (repeat rw [va_upN (by omega)]); exact a17)
  have b17 := b17.mv (fun k h1 h2 => (f1_84 k (by omega)).trans (by (repeat rw [va_upN (by omega)]))) (fun k h1 h2 => (f2_84 k (by omega)).trans (by (repeat rw [va_upN (by omega)])))
  have a18 : ad84 (p + 18) = q31 := (f1_84 _ (by omega)).trans (by (repeat rw [va_upN (by omega)]); exact a18)
  have b18 := b18.mv (fun k h1 h2 => (f1_84 k (by omega)).trans (by (repeat rw [va_upN (by omega)]))) (fun k h1 h2 => (f2_84 k (by omega)).trans (by (repeat rw [va_upN (by omega)])))
  have a20 : ad84 (p + 20) = q42 := (f1_84 _ (by omega)).trans (by (repeat rw [va_upN (by omega)]); exact a20)
  have b20 := b20.mv (fun k h1 h2 => (f1_84 k (by omega)).trans (by (repeat rw [va_upN (by omega)]))) (fun k h1 h2 => (f2_84 k (by omega)).trans (by (repeat rw [va_upN (by omega)])))
  have a27 : ad84 (p + 27) = q68 := (f1_84 _ (by omega)).trans (by (repeat rw [va_upN (by omega)]); exact a27)
  have b27 := b27.mv (fun k h1 h2 => (f1_84 k (by omega)).trans (by (repeat rw [va_upN (by omega)]))) (fun k h1 h2 => (f2_84 k (by omega)).trans (by (repeat rw [va_upN (by omega)])))
  have a32 : ad84 (p + 32) = q80 := (f1_84 _ (by omega)).trans va_upO
  refine c_t (t' := p + 304) (by omega) rfl rfl ?_
  refine c_putF C' (p0 := p) (ci := 11) (kf := 6) (fs := [.ref q31, .ref q42, .ref q4, .ref q12, .ref q20, .ref q68, .null, .null, .null, .null, .null, qI 0]) (fs' := [.ref q31, .ref q42, .ref q4, .ref q12, .ref q20, .ref q68, .ref q80, .null, .null, .null, .null, qI 0]) (ty := (.object "GloveSigns$Past")) (by omega) (by first | exact hA | ((repeat rw [va_upN (by omega)]); exact hA)) (by first | exact hB | exact va_upO | ((repeat rw [va_upN (by omega)]); first | exact va_upO | exact hB)) rfl q_fX11 tyX11 tyX11_ok nmX11 (by decide) q_fl_RX11_54 rfl rfl (by decide +kernel) rfl rfl (Nat.le_of_ble_eq_true rfl) rfl dX11_init_87 ?_
  refine c_aloadn C dX11_init_90 rfl ?_
  refine c_new C (ci := 3) (fs := [qI 0, qI 0, .null]) (q_mt 286 (by decide +kernel) (by decide +kernel)) (q_mt 287 (by decide +kernel) (by decide +kernel)) q_in_RX3 rfl q_fX3 tyX3 tyX3_ok (fun j hj => by rcases (show j = 0 ∨ j = 1 ∨ j = 2 by omega) with rfl | rfl | rfl <;> rfl) (by decide) dX11_init_91 (fun q91 => ?_)
  refine c_dup C dX11_init_94 rfl ?_
  refine c_callN C (a := q91) (As := []) (rest := [.ref q91, .ref a]) (n := 0) (host := RX11) (List.mem_of_getElem? (i := 5) rfl) q_in_RX3 q_cd_yX3_init ⟨by decide, by decide, by decide +kernel⟩ (by decide) q_im_yX3_init rfl rfl (by decide) (i_X3 l g n0 _ _ (p + 304) q91 va_upO va_upO) dX11_init_95 (Nat.le_of_ble_eq_true rfl) rfl (by decide) (fun ad95 E95 hp95 => ?_)
  obtain ⟨⟨f1_95, f2_95⟩, b304⟩ := hp95
  have hA := (f1_95 p (by omega)).trans (show _ = a from by (repeat rw [va_upN (by omega)]); exact hA)
  have hB : E95 p = .inr (11, [.ref q31, .ref q42, .ref q4, .ref q12, .ref q20, .ref q68, .ref q80, .null, .null, .null, .null, qI 0]) := (f2_95 p (by omega)).trans (by (repeat rw [va_upN (by omega)]); first | exact va_upO | exact hB)
  have hF1 : ∀ k, k ≤ p → ad95 k = ad k := fun k hk => (f1_95 k (by omega)).trans (by (repeat rw [va_upN (by omega)]); first | done | exact hF1 k hk)
  have hF2 : ∀ k, k < p → E95 k = E k := fun k hk => (f2_95 k (by omega)).trans (by (repeat rw [va_upN (by omega)]); first | done | exact hF2 k hk)
  have a1 : ad95 (p + 1) = q4 := (f1_95 _ (by omega)).trans (by (repeat rw [va_upN (by omega)]); exact a1)
  have b1 := b1.mv (fun k h1 h2 => (f1_95 k (by omega)).trans (by (repeat rw [va_upN (by omega)]))) (fun k h1 h2 => (f2_95 k (by omega)).trans (by (repeat rw [va_upN (by omega)])))
  have a8 : ad95 (p + 8) = q12 := (f1_95 _ (by omega)).trans (by (repeat rw [va_upN (by omega)]); exact a8)
  have b8 := b8.mv (fun k h1 h2 => (f1_95 k (by omega)).trans (by (repeat rw [va_upN (by omega)]))) (fun k h1 h2 => (f2_95 k (by omega)).trans (by (repeat rw [va_upN (by omega)])))
  have a17 : ad95 (p + 17) = q20 := (f1_95 _ (by omega)).trans (by (repeat rw [va_upN (by omega)]); exact a17)
  have b17 := b17.mv (fun k h1 h2 => (f1_95 k (by omega)).trans (by (repeat rw [va_upN (by omega)]))) (fun k h1 h2 => (f2_95 k (by omega)).trans (by (repeat rw [va_upN (by omega)])))
  have a18 : ad95 (p + 18) = q31 := (f1_95 _ (by omega)).trans (by (repeat rw [va_upN (by omega)]); exact a18)
  have b18 := b18.mv (fun k h1 h2 => (f1_95 k (by omega)).trans (by (repeat rw [va_upN (by omega)]))) (fun k h1 h2 => (f2_95 k (by omega)).trans (by (repeat rw [va_upN (by omega)])))
  have a20 : ad95 (p + 20) = q42 := (f1_95 _ (by omega)).trans (by (repeat rw [va_upN (by omega)]); exact a20)
  have b20 := b20.mv (fun k h1 h2 => (f1_95 k (by omega)).trans (by (repeat rw [va_upN (by omega)]))) (fun k h1 h2 => (f2_95 k (by omega)).trans (by (repeat rw [va_upN (by omega)])))
  have a27 : ad95 (p + 27) = q68 := (f1_95 _ (by omega)).trans (by (repeat rw [va_upN (by omega)]); exact a27)
  have b27 := b27.mv (fun k h1 h2 => (f1_95 k (by omega)).trans (by (repeat rw [va_upN (by omega)]))) (fun k h1 h2 => (f2_95 k (by omega)).trans (by (repeat rw [va_upN (by omega)])))
  have a32 : ad95 (p + 32) = q80 := (f1_95 _ (by omega)).trans (by (repeat rw [va_upN (by omega)]); exact a32)
  have b32 := b32.mv (fun k h1 h2 => (f1_95 k (by omega)).trans (by (repeat rw [va_upN (by omega)]))) (fun k h1 h2 => (f2_95 k (by omega)).trans (by (repeat rw [va_upN (by omega)])))
  have a304 : ad95 (p + 304) = q91 := (f1_95 _ (by omega)).trans va_upO
  refine c_t (t' := p + 314) (by omega) rfl rfl ?_
  refine c_putF C' (p0 := p) (ci := 11) (kf := 7) (fs := [.ref q31, .ref q42, .ref q4, .ref q12, .ref q20, .ref q68, .ref q80, .null, .null, .null, .null, qI 0]) (fs' := [.ref q31, .ref q42, .ref q4, .ref q12, .ref q20, .ref q68, .ref q80, .ref q91, .null, .null, .null, qI 0]) (ty := (.object "GloveSigns$Image")) (by omega) (by first | exact hA | ((repeat rw [va_upN (by omega)]); exact hA)) (by first | exact hB | exact va_upO | ((repeat rw [va_upN (by omega)]); first | exact va_upO | exact hB)) rfl q_fX11 tyX11 tyX11_ok nmX11 (by decide) q_fl_RX11_61 rfl rfl (by decide +kernel) rfl rfl (Nat.le_of_ble_eq_true rfl) rfl dX11_init_98 ?_
  refine c_aloadn C dX11_init_101 rfl ?_
  refine c_new C (ci := 3) (fs := [qI 0, qI 0, .null]) (q_mt 286 (by decide +kernel) (by decide +kernel)) (q_mt 287 (by decide +kernel) (by decide +kernel)) q_in_RX3 rfl q_fX3 tyX3 tyX3_ok (fun j hj => by rcases (show j = 0 ∨ j = 1 ∨ j = 2 by omega) with rfl | rfl | rfl <;> rfl) (by decide) dX11_init_102 (fun q102 => ?_)
  refine c_dup C dX11_init_105 rfl ?_
  refine c_callN C (a := q102) (As := []) (rest := [.ref q102, .ref a]) (n := 0) (host := RX11) (List.mem_of_getElem? (i := 5) rfl) q_in_RX3 q_cd_yX3_init ⟨by decide, by decide, by decide +kernel⟩ (by decide) q_im_yX3_init rfl rfl (by decide) (i_X3 l g n0 _ _ (p + 314) q102 va_upO va_upO) dX11_init_106 (Nat.le_of_ble_eq_true rfl) rfl (by decide) (fun ad106 E106 hp106 => ?_)
  obtain ⟨⟨f1_106, f2_106⟩, b314⟩ := hp106
  have hA := (f1_106 p (by omega)).trans (show _ = a from by (repeat rw [va_upN (by omega)]); exact hA)
  have hB : E106 p = .inr (11, [.ref q31, .ref q42, .ref q4, .ref q12, .ref q20, .ref q68, .ref q80, .ref q91, .null, .null, .null, qI 0]) := (f2_106 p (by omega)).trans (by (repeat rw [va_upN (by omega)]); first | exact va_upO | exact hB)
  have hF1 : ∀ k, k ≤ p → ad106 k = ad k := fun k hk => (f1_106 k (by omega)).trans (by (repeat rw [va_upN (by omega)]); first | done | exact hF1 k hk)
  have hF2 : ∀ k, k < p → E106 k = E k := fun k hk => (f2_106 k (by omega)).trans (by (repeat rw [va_upN (by omega)]); first | done | exact hF2 k hk)
  have a1 : ad106 (p + 1) = q4 := (f1_106 _ (by omega)).trans (by (repeat rw [va_upN (by omega)]); exact a1)
  have b1 := b1.mv (fun k h1 h2 => (f1_106 k (by omega)).trans (by (repeat rw [va_upN (by omega)]))) (fun k h1 h2 => (f2_106 k (by omega)).trans (by (repeat rw [va_upN (by omega)])))
  have a8 : ad106 (p + 8) = q12 := (f1_106 _ (by omega)).trans (by (repeat rw [va_upN (by omega)]); exact a8)
  have b8 := b8.mv (fun k h1 h2 => (f1_106 k (by omega)).trans (by (repeat rw [va_upN (by omega)]))) (fun k h1 h2 => (f2_106 k (by omega)).trans (by (repeat rw [va_upN (by omega)])))
  have a17 : ad106 (p + 17) = q20 := (f1_106 _ (by omega)).trans (by (repeat rw [va_upN (by omega)]); exact a17)
  have b17 := b17.mv (fun k h1 h2 => (f1_106 k (by omega)).trans (by (repeat rw [va_upN (by omega)]))) (fun k h1 h2 => (f2_106 k (by omega)).trans (by (repeat rw [va_upN (by omega)])))
  have a18 : ad106 (p + 18) = q31 := (f1_106 _ (by omega)).trans (by (repeat rw [va_upN (by omega)]); exact a18)
  have b18 := b18.mv (fun k h1 h2 => (f1_106 k (by omega)).trans (by (repeat rw [va_upN (by omega)]))) (fun k h1 h2 => (f2_106 k (by omega)).trans (by (repeat rw [va_upN (by omega)])))
  have a20 : ad106 (p + 20) = q42 := (f1_106 _ (by omega)).trans (by (repeat rw [va_upN (by omega)]); exact a20)
  have b20 := b20.mv (fun k h1 h2 => (f1_106 k (by omega)).trans (by (repeat rw [va_upN (by omega)]))) (fun k h1 h2 => (f2_106 k (by omega)).trans (by (repeat rw [va_upN (by omega)])))
  have a27 : ad106 (p + 27) = q68 := (f1_106 _ (by omega)).trans (by (repeat rw [va_upN (by omega)]); exact a27)
  have b27 := b27.mv (fun k h1 h2 => (f1_106 k (by omega)).trans (by (repeat rw [va_upN (by omega)]))) (fun k h1 h2 => (f2_106 k (by omega)).trans (by (repeat rw [va_upN (by omega)])))
  have a32 : ad106 (p + 32) = q80 := (f1_106 _ (by omega)).trans (by (repeat rw [va_upN (by omega)]); exact a32)
  have b32 := b32.mv (fun k h1 h2 => (f1_106 k (by omega)).trans (by (repeat rw [va_upN (by omega)]))) (fun k h1 h2 => (f2_106 k (by omega)).trans (by (repeat rw [va_upN (by omega)])))
  have a304 : ad106 (p + 304) = q91 := (f1_106 _ (by omega)).trans (by (repeat rw [va_upN (by omega)]); exact a304)
  have b304 := b304.mv (fun k h1 h2 => (f1_106 k (by omega)).trans (by (repeat rw [va_upN (by omega)]))) (fun k h1 h2 => (f2_106 k (by omega)).trans (by (repeat rw [va_upN (by omega)])))
  have a314 : ad106 (p + 314) = q102 := (f1_106 _ (by omega)).trans va_upO
  refine c_t (t' := p + 324) (by omega) rfl rfl ?_
  refine c_putF C' (p0 := p) (ci := 11) (kf := 8) (fs := [.ref q31, .ref q42, .ref q4, .ref q12, .ref q20, .ref q68, .ref q80, .ref q91, .null, .null, .null, qI 0]) (fs' := [.ref q31, .ref q42, .ref q4, .ref q12, .ref q20, .ref q68, .ref q80, .ref q91, .ref q102, .null, .null, qI 0]) (ty := (.object "GloveSigns$Image")) (by omega) (by first | exact hA | ((repeat rw [va_upN (by omega)]); exact hA)) (by first | exact hB | exact va_upO | ((repeat rw [va_upN (by omega)]); first | exact va_upO | exact hB)) rfl q_fX11 tyX11 tyX11_ok nmX11 (by decide) q_fl_RX11_65 rfl rfl (by decide +kernel) rfl rfl (Nat.le_of_ble_eq_true rfl) rfl dX11_init_109 ?_
  refine c_aloadn C dX11_init_112 rfl ?_
  refine c_new C (ci := 8) (fs := [.null, .null, qI 0]) (q_mt 307 (by decide +kernel) (by decide +kernel)) (q_mt 308 (by decide +kernel) (by decide +kernel)) q_in_RX8 rfl q_fX8 tyX8 tyX8_ok (fun j hj => by rcases (show j = 0 ∨ j = 1 ∨ j = 2 by omega) with rfl | rfl | rfl <;> rfl) (by decide) dX11_init_113 (fun q113 => ?_)
  refine c_dup C dX11_init_116 rfl ?_
  refine c_callN C (a := q113) (As := []) (rest := [.ref q113, .ref a]) (n := 0) (host := RX11) (List.mem_of_getElem? (i := 7) rfl) q_in_RX8 q_cd_yX8_init ⟨by decide, by decide, by decide +kernel⟩ (by decide) q_im_yX8_init rfl rfl (by decide) (i_X8 l g n0 _ _ (p + 324) q113 va_upO va_upO) dX11_init_117 (Nat.le_of_ble_eq_true rfl) rfl (by decide) (fun ad117 E117 hp117 => ?_)
  obtain ⟨⟨f1_117, f2_117⟩, b324⟩ := hp117
  have hA := (f1_117 p (by omega)).trans (show _ = a from by (repeat rw [va_upN (by omega)]); exact hA)
  have hB : E117 p = .inr (11, [.ref q31, .ref q42, .ref q4, .ref q12, .ref q20, .ref q68, .ref q80, .ref q91, .ref q102, .null, .null, qI 0]) := (f2_117 p (by omega)).trans (by (repeat rw [va_upN (by omega)]); first | exact va_upO | exact hB)
  have hF1 : ∀ k, k ≤ p → ad117 k = ad k := fun k hk => (f1_117 k (by omega)).trans (by (repeat rw [va_upN (by omega)]); first | done | exact hF1 k hk)
  have hF2 : ∀ k, k < p → E117 k = E k := fun k hk => (f2_117 k (by omega)).trans (by (repeat rw [va_upN (by omega)]); first | done | exact hF2 k hk)
  have a1 : ad117 (p + 1) = q4 := (f1_117 _ (by omega)).trans (by (repeat rw [va_upN (by omega)]); exact a1)
  have b1 := b1.mv (fun k h1 h2 => (f1_117 k (by omega)).trans (by (repeat rw [va_upN (by omega)]))) (fun k h1 h2 => (f2_117 k (by omega)).trans (by (repeat rw [va_upN (by omega)])))
  have a8 : ad117 (p + 8) = q12 := (f1_117 _ (by omega)).trans (by (repeat rw [va_upN (by omega)]); exact a8)
  have b8 := b8.mv (fun k h1 h2 => (f1_117 k (by omega)).trans (by (repeat rw [va_upN (by omega)]))) (fun k h1 h2 => (f2_117 k (by omega)).trans (by (repeat rw [va_upN (by omega)])))
  have a17 : ad117 (p + 17) = q20 := (f1_117 _ (by omega)).trans (by (repeat rw [va_upN (by omega)]); exact a17)
  have b17 := b17.mv (fun k h1 h2 => (f1_117 k (by omega)).trans (by (repeat rw [va_upN (by omega)]))) (fun k h1 h2 => (f2_117 k (by omega)).trans (by (repeat rw [va_upN (by omega)])))
  have a18 : ad117 (p + 18) = q31 := (f1_117 _ (by omega)).trans (by (repeat rw [va_upN (by omega)]); exact a18)
  have b18 := b18.mv (fun k h1 h2 => (f1_117 k (by omega)).trans (by (repeat rw [va_upN (by omega)]))) (fun k h1 h2 => (f2_117 k (by omega)).trans (by (repeat rw [va_upN (by omega)])))
  have a20 : ad117 (p + 20) = q42 := (f1_117 _ (by omega)).trans (by (repeat rw [va_upN (by omega)]); exact a20)
  have b20 := b20.mv (fun k h1 h2 => (f1_117 k (by omega)).trans (by (repeat rw [va_upN (by omega)]))) (fun k h1 h2 => (f2_117 k (by omega)).trans (by (repeat rw [va_upN (by omega)])))
  have a27 : ad117 (p + 27) = q68 := (f1_117 _ (by omega)).trans (by (repeat rw [va_upN (by omega)]); exact a27)
  have b27 := b27.mv (fun k h1 h2 => (f1_117 k (by omega)).trans (by (repeat rw [va_upN (by omega)]))) (fun k h1 h2 => (f2_117 k (by omega)).trans (by (repeat rw [va_upN (by omega)])))
  have a32 : ad117 (p + 32) = q80 := (f1_117 _ (by omega)).trans (by (repeat rw [va_upN (by omega)]); exact a32)
  have b32 := b32.mv (fun k h1 h2 => (f1_117 k (by omega)).trans (by (repeat rw [va_upN (by omega)]))) (fun k h1 h2 => (f2_117 k (by omega)).trans (by (repeat rw [va_upN (by omega)])))
  have a304 : ad117 (p + 304) = q91 := (f1_117 _ (by omega)).trans (by (repeat rw [va_upN (by omega)]); exact a304)
  have b304 := b304.mv (fun k h1 h2 => (f1_117 k (by omega)).trans (by (repeat rw [va_upN (by omega)]))) (fun k h1 h2 => (f2_117 k (by omega)).trans (by (repeat rw [va_upN (by omega)])))
  have a314 : ad117 (p + 314) = q102 := (f1_117 _ (by omega)).trans (by (repeat rw [va_upN (by omega)]); exact a314)
  have b314 := b314.mv (fun k h1 h2 => (f1_117 k (by omega)).trans (by (repeat rw [va_upN (by omega)]))) (fun k h1 h2 => (f2_117 k (by omega)).trans (by (repeat rw [va_upN (by omega)])))
  have a324 : ad117 (p + 324) = q113 := (f1_117 _ (by omega)).trans va_upO
  refine c_t (t' := p + 327) (by omega) rfl rfl ?_
  refine c_putF C' (p0 := p) (ci := 11) (kf := 9) (fs := [.ref q31, .ref q42, .ref q4, .ref q12, .ref q20, .ref q68, .ref q80, .ref q91, .ref q102, .null, .null, qI 0]) (fs' := [.ref q31, .ref q42, .ref q4, .ref q12, .ref q20, .ref q68, .ref q80, .ref q91, .ref q102, .ref q113, .null, qI 0]) (ty := (.object "GloveSigns$Seen")) (by omega) (by first | exact hA | ((repeat rw [va_upN (by omega)]); exact hA)) (by first | exact hB | exact va_upO | ((repeat rw [va_upN (by omega)]); first | exact va_upO | exact hB)) rfl q_fX11 tyX11 tyX11_ok nmX11 (by decide) q_fl_RX11_71 rfl rfl (by decide +kernel) rfl rfl (Nat.le_of_ble_eq_true rfl) rfl dX11_init_120 ?_
  refine c_aloadn C dX11_init_123 rfl ?_
  refine c_new C (ci := 0) (fs := [.null, .null, qI 0]) (q_mt 324 (by decide +kernel) (by decide +kernel)) (q_mt 325 (by decide +kernel) (by decide +kernel)) q_in_RX0 rfl q_fX0 tyX0 tyX0_ok (fun j hj => by rcases (show j = 0 ∨ j = 1 ∨ j = 2 by omega) with rfl | rfl | rfl <;> rfl) (by decide) dX11_init_124 (fun q124 => ?_)
  refine c_dup C dX11_init_127 rfl ?_
  refine c_callN C (a := q124) (As := []) (rest := [.ref q124, .ref a]) (n := 0) (host := RX11) (List.mem_of_getElem? (i := 8) rfl) q_in_RX0 q_cd_yX0_init ⟨by decide, by decide, by decide +kernel⟩ (by decide) q_im_yX0_init rfl rfl (by decide) (i_X0 l g n0 _ _ (p + 327) q124 va_upO va_upO) dX11_init_128 (Nat.le_of_ble_eq_true rfl) rfl (by decide) (fun ad128 E128 hp128 => ?_)
  obtain ⟨⟨f1_128, f2_128⟩, b327⟩ := hp128
  have hA := (f1_128 p (by omega)).trans (show _ = a from by (repeat rw [va_upN (by omega)]); exact hA)
  have hB : E128 p = .inr (11, [.ref q31, .ref q42, .ref q4, .ref q12, .ref q20, .ref q68, .ref q80, .ref q91, .ref q102, .ref q113, .null, qI 0]) := (f2_128 p (by omega)).trans (by (repeat rw [va_upN (by omega)]); first | exact va_upO | exact hB)
  have hF1 : ∀ k, k ≤ p → ad128 k = ad k := fun k hk => (f1_128 k (by omega)).trans (by (repeat rw [va_upN (by omega)]); first | done | exact hF1 k hk)
  have hF2 : ∀ k, k < p → E128 k = E k := fun k hk => (f2_128 k (by omega)).trans (by (repeat rw [va_upN (by omega)]); first | done | exact hF2 k hk)
  have a1 : ad128 (p + 1) = q4 := (f1_128 _ (by omega)).trans (by (repeat rw [va_upN (by omega)]); exact a1)
  have b1 := b1.mv (fun k h1 h2 => (f1_128 k (by omega)).trans (by (repeat rw [va_upN (by omega)]))) (fun k h1 h2 => (f2_128 k (by omega)).trans (by (repeat rw [va_upN (by omega)])))
  have a8 : ad128 (p + 8) = q12 := (f1_128 _ (by omega)).trans (by (repeat rw [va_upN (by omega)]); exact a8)
  have b8 := b8.mv (fun k h1 h2 => (f1_128 k (by omega)).trans (by (repeat rw [va_upN (by omega)]))) (fun k h1 h2 => (f2_128 k (by omega)).trans (by (repeat rw [va_upN (by omega)])))
  have a17 : ad128 (p + 17) = q20 := (f1_128 _ (by omega)).trans (by (repeat rw [va_upN (by omega)]); exact a17)
  have b17 := b17.mv (fun k h1 h2 => (f1_128 k (by omega)).trans (by (repeat rw [va_upN (by omega)]))) (fun k h1 h2 => (f2_128 k (by omega)).trans (by (repeat rw [va_upN (by omega)])))
  have a18 : ad128 (p + 18) = q31 := (f1_128 _ (by omega)).trans (by (repeat rw [va_upN (by omega)]); exact a18)
  have b18 := b18.mv (fun k h1 h2 => (f1_128 k (by omega)).trans (by (repeat rw [va_upN (by omega)]))) (fun k h1 h2 => (f2_128 k (by omega)).trans (by (repeat rw [va_upN (by omega)])))
  have a20 : ad128 (p + 20) = q42 := (f1_128 _ (by omega)).trans (by (repeat rw [va_upN (by omega)]); exact a20)
  have b20 := b20.mv (fun k h1 h2 => (f1_128 k (by omega)).trans (by (repeat rw [va_upN (by omega)]))) (fun k h1 h2 => (f2_128 k (by omega)).trans (by (repeat rw [va_upN (by omega)])))
  have a27 : ad128 (p + 27) = q68 := (f1_128 _ (by omega)).trans (by (repeat rw [va_upN (by omega)]); exact a27)
  have b27 := b27.mv (fun k h1 h2 => (f1_128 k (by omega)).trans (by (repeat rw [va_upN (by omega)]))) (fun k h1 h2 => (f2_128 k (by omega)).trans (by (repeat rw [va_upN (by omega)])))
  have a32 : ad128 (p + 32) = q80 := (f1_128 _ (by omega)).trans (by (repeat rw [va_upN (by omega)]); exact a32)
  have b32 := b32.mv (fun k h1 h2 => (f1_128 k (by omega)).trans (by (repeat rw [va_upN (by omega)]))) (fun k h1 h2 => (f2_128 k (by omega)).trans (by (repeat rw [va_upN (by omega)])))
  have a304 : ad128 (p + 304) = q91 := (f1_128 _ (by omega)).trans (by (repeat rw [va_upN (by omega)]); exact a304)
  have b304 := b304.mv (fun k h1 h2 => (f1_128 k (by omega)).trans (by (repeat rw [va_upN (by omega)]))) (fun k h1 h2 => (f2_128 k (by omega)).trans (by (repeat rw [va_upN (by omega)])))
  have a314 : ad128 (p + 314) = q102 := (f1_128 _ (by omega)).trans (by (repeat rw [va_upN (by omega)]); exact a314)
  have b314 := b314.mv (fun k h1 h2 => (f1_128 k (by omega)).trans (by (repeat rw [va_upN (by omega)]))) (fun k h1 h2 => (f2_128 k (by omega)).trans (by (repeat rw [va_upN (by omega)])))
  have a324 : ad128 (p + 324) = q113 := (f1_128 _ (by omega)).trans (by (repeat rw [va_upN (by omega)]); exact a324)
  have b324 := b324.mv (fun k h1 h2 => (f1_128 k (by omega)).trans (by (repeat rw [va_upN (by omega)]))) (fun k h1 h2 => (f2_128 k (by omega)).trans (by (repeat rw [va_upN (by omega)])))
  have a327 : ad128 (p + 327) = q124 := (f1_128 _ (by omega)).trans va_upO
  refine c_t (t' := p + 330) (by omega) rfl rfl ?_
  refine c_putF C' (p0 := p) (ci := 11) (kf := 10) (fs := [.ref q31, .ref q42, .ref q4, .ref q12, .ref q20, .ref q68, .ref q80, .ref q91, .ref q102, .ref q113, .null, qI 0]) (fs' := [.ref q31, .ref q42, .ref q4, .ref q12, .ref q20, .ref q68, .ref q80, .ref q91, .ref q102, .ref q113, .ref q124, qI 0]) (ty := (.object "GloveSigns$Book")) (by omega) (by first | exact hA | ((repeat rw [va_upN (by omega)]); exact hA)) (by first | exact hB | exact va_upO | ((repeat rw [va_upN (by omega)]); first | exact va_upO | exact hB)) rfl q_fX11 tyX11 tyX11_ok nmX11 (by decide) q_fl_RX11_78 rfl rfl (by decide +kernel) rfl rfl (Nat.le_of_ble_eq_true rfl) rfl dX11_init_131 ?_
  refine c_aloadn C dX11_init_134 rfl ?_
  refine c_iconst C dX11_init_135 ?_
  refine c_put C (p0 := p) (ci := 11) (kf := 11) (fs := [.ref q31, .ref q42, .ref q4, .ref q12, .ref q20, .ref q68, .ref q80, .ref q91, .ref q102, .ref q113, .ref q124, qI 0]) (fs' := [.ref q31, .ref q42, .ref q4, .ref q12, .ref q20, .ref q68, .ref q80, .ref q91, .ref q102, .ref q113, .ref q124, qI 0]) (ty := .int) (by omega) (by first | exact hA | ((repeat rw [va_upN (by omega)]); exact hA)) (by first | exact hB | exact va_upO | ((repeat rw [va_upN (by omega)]); first | exact va_upO | exact hB)) rfl q_fX11 tyX11 tyX11_ok nmX11 (by decide) q_fl_RX11_82 rfl (by decide +kernel) rfl rfl (Nat.le_of_ble_eq_true rfl) rfl dX11_init_136 ?_
  refine c_vret C' dX11_init_139 (by decide) ?_
  refine ⟨⟨fun k hk => hF1 k hk, fun k hk => ?_⟩, ?_, b1.mv (fun _ _ _ => rfl) (fun k h1 h2 => by (repeat rw [va_upN (by omega)])), b8.mv (fun _ _ _ => rfl) (fun k h1 h2 => by (repeat rw [va_upN (by omega)])), ?_, b18.mv (fun _ _ _ => rfl) (fun k h1 h2 => by (repeat rw [va_upN (by omega)])), b20.mv (fun _ _ _ => rfl) (fun k h1 h2 => by (repeat rw [va_upN (by omega)])), ?_, b32.mv (fun _ _ _ => rfl) (fun k h1 h2 => by (repeat rw [va_upN (by omega)])), b304.mv (fun _ _ _ => rfl) (fun k h1 h2 => by (repeat rw [va_upN (by omega)])), b314.mv (fun _ _ _ => rfl) (fun k h1 h2 => by (repeat rw [va_upN (by omega)])), b324.mv (fun _ _ _ => rfl) (fun k h1 h2 => by (repeat rw [va_upN (by omega)])), b327.mv (fun _ _ _ => rfl) (fun k h1 h2 => by (repeat rw [va_upN (by omega)]))⟩
  · (repeat rw [va_upN (by omega)]); exact hF2 k hk
  · rw [va_upO, a18, a20, a1, a8, a17, a27, a32, a304, a314, a324, a327]
  · rw [a1, a8]; exact b17.mv (fun _ _ _ => rfl) (fun k h1 h2 => by (repeat rw [va_upN (by omega)]))
  · rw [a17]; exact b27.mv (fun _ _ _ => rfl) (fun k h1 h2 => by (repeat rw [va_upN (by omega)]))
def cMod (g : qGm) (ad : Nat → Nat) (E : Nat → va_E) (q : Nat) : Prop := E q = .inr (12, [qI 0, .ref (ad (q + 1)), qI 0, qI 0, qI 0, qI (-1), qI 0, qI 0, qI 0, .ref (ad (q + 2)), .ref (ad (q + 3)), .ref (ad (q + 4)), .ref (ad (q + 5)), .ref (ad (q + 6)), .ref (ad (q + 7)), qI (-1), qI 0, qI 0, .ref (ad (q + 8)), .ref (ad (q + 9)), .ref (ad (q + 10)), .ref (ad (q + 11)), .ref (ad (q + 12)), .ref (ad (q + 13)), .ref (ad (q + 14)), qI 0, qI 0, .ref (ad (q + 15)), qJ 0, qI 0, .ref (ad (q + 16)), .ref (ad (q + 17)), qI 0, .ref (ad (q + 18)), .ref (ad (q + 19)), .ref (ad (q + 20)), .ref (ad (q + 21)), .ref (ad (q + 22))]) ∧ E (q + 1) = cRw g 240 ∧ E (q + 2) = cRw g 6 ∧ E (q + 3) = cRw g 6 ∧ E (q + 4) = cRw g 6 ∧ E (q + 5) = cRw g 6 ∧ E (q + 6) = cRw g 6 ∧ E (q + 7) = cRw g 48 ∧ E (q + 8) = cRw g 6 ∧ E (q + 9) = cRw g 6 ∧ E (q + 10) = cRw g 48 ∧ E (q + 11) = cRw g 199 ∧ E (q + 12) = cRw g 6 ∧ E (q + 13) = cRw g 6 ∧ E (q + 14) = cRw g 6 ∧ E (q + 15) = cRw g 5970 ∧ E (q + 16) = cRw g 6 ∧ E (q + 17) = cRw g 6 ∧ E (q + 18) = cRw g 20 ∧ E (q + 19) = cRw g 20 ∧ E (q + 20) = .inl (g.2.1.2.2.1, 2, .inl (fun _ => 0)) ∧ E (q + 21) = cRw g 398 ∧ E (q + 22) = .inl (g.2.1.2.1, 2, .inr (.inl (fun _ => 0)))
theorem cMod.mv {g : qGm} {ad ad' : Nat → Nat} {E E' : Nat → va_E} {q : Nat} (h : cMod g ad E q ) (ha : ∀ k, q ≤ k → k < q + 23 → ad' k = ad k) (he : ∀ k, q ≤ k → k < q + 23 → E' k = E k) : cMod g ad' E' q  := by
  unfold cMod at *
  rw [ha (q + 1) (by omega) (by omega), ha (q + 2) (by omega) (by omega), ha (q + 3) (by omega) (by omega), ha (q + 4) (by omega) (by omega), ha (q + 5) (by omega) (by omega), ha (q + 6) (by omega) (by omega), ha (q + 7) (by omega) (by omega), ha (q + 8) (by omega) (by omega), ha (q + 9) (by omega) (by omega), ha (q + 10) (by omega) (by omega), ha (q + 11) (by omega) (by omega), ha (q + 12) (by omega) (by omega), ha (q + 13) (by omega) (by omega), ha (q + 14) (by omega) (by omega), ha (q + 15) (by omega) (by omega), ha (q + 16) (by omega) (by omega), ha (q + 17) (by omega) (by omega), ha (q + 18) (by omega) (by omega), ha (q + 19) (by omega) (by omega), ha (q + 20) (by omega) (by omega), ha (q + 21) (by omega) (by omega), ha (q + 22) (by omega) (by omega), he q (by omega) (by omega), he (q + 1) (by omega) (by omega), he (q + 2) (by omega) (by omega), he (q + 3) (by omega) (by omega), he (q + 4) (by omega) (by omega), he (q + 5) (by omega) (by omega), he (q + 6) (by omega) (by omega), he (q + 7) (by omega) (by omega), he (q + 8) (by omega) (by omega), he (q + 9) (by omega) (by omega), he (q + 10) (by omega) (by omega), he (q + 11) (by omega) (by omega), he (q + 12) (by omega) (by omega), he (q + 13) (by omega) (by omega), he (q + 14) (by omega) (by omega), he (q + 15) (by omega) (by omega), he (q + 16) (by omega) (by omega), he (q + 17) (by omega) (by omega), he (q + 18) (by omega) (by omega), he (q + 19) (by omega) (by omega), he (q + 20) (by omega) (by omega), he (q + 21) (by omega) (by omega), he (q + 22) (by omega) (by omega)]
  exact h
