theorem dX11_isWithin_0 : decode cX11_isWithin 0 = .ok (.iload_n 0, 1) := by decide +kernel
theorem dX11_isWithin_1 : decode cX11_isWithin 1 = .ok (.ifCond .lt 12, 3) := by decide +kernel
theorem dX11_isWithin_4 : decode cX11_isWithin 4 = .ok (.iload_n 0, 1) := by decide +kernel
theorem dX11_isWithin_5 : decode cX11_isWithin 5 = .ok (.iload_n 1, 1) := by decide +kernel
theorem dX11_isWithin_6 : decode cX11_isWithin 6 = .ok (.if_icmp .gt 7, 3) := by decide +kernel
theorem dX11_isWithin_9 : decode cX11_isWithin 9 = .ok (.iconst 1, 1) := by decide +kernel
theorem dX11_isWithin_10 : decode cX11_isWithin 10 = .ok (.goto 4, 3) := by decide +kernel
theorem dX11_isWithin_13 : decode cX11_isWithin 13 = .ok (.iconst 0, 1) := by decide +kernel
theorem dX11_isWithin_14 : decode cX11_isWithin 14 = .ok (.ireturn, 1) := by decide +kernel
set_option maxRecDepth 4000 in
set_option maxHeartbeats 4000000 in
theorem m_X11_isWithin (l : Launch) (g : qGm) (M : qMem) {x y : Int} (hx : qIn x) (hy : qIn y) : qOk l g 1 yX11_isWithin cX11_isWithin 2 (some .boolean) [qI x, qI y] M (qEv (some (qB (0 ≤ x ∧ x ≤ y))) M) := by
  refine q_ok (by decide +kernel) (Nat.le_of_ble_eq_true rfl) (fun X C' hn => ?_)
  have C := C'.1
  refine q_iloadn C dX11_isWithin_0 rfl ?_
  refine q_if_lt C 13 dX11_isWithin_1 (by decide) (by first | assumption | omega | exact q_tin _ | exact q_bIn _) (fun h1 => ?_) (fun h1 => ?_)
  · refine q_iconst C dX11_isWithin_13 ?_
    refine q_zret C' dX11_isWithin_14 (by first | omega | exact q_b01 _ | simp) ?_
    refine ⟨congrArg some ?_, rfl⟩
    first | (rw [q_bT (by omega)]; done) | (rw [q_bF (by omega)]; done) | exact q_bIff (by omega)
  · refine q_iloadn C dX11_isWithin_4 rfl ?_
    refine q_iloadn C dX11_isWithin_5 rfl ?_
    refine q_tI_gt C 13 14 dX11_isWithin_6 dX11_isWithin_9 dX11_isWithin_10 dX11_isWithin_13 (by decide) (by decide) rfl (by first | assumption | omega | exact q_tin _ | exact q_bIn _) (by first | assumption | omega | exact q_tin _ | exact q_bIn _) ?_
    refine q_zret C' dX11_isWithin_14 (by first | omega | exact q_b01 _ | simp) ?_
    refine ⟨congrArg some ?_, rfl⟩
    first | (rw [q_bT (by omega)]; done) | (rw [q_bF (by omega)]; done) | exact q_bIff (by omega)
theorem dX7_isOn_0 : decode cX7_isOn 0 = .ok (.aload_n 0, 1) := by decide +kernel
theorem dX7_isOn_1 : decode cX7_isOn 1 = .ok (.getfield 9, 3) := by decide +kernel
theorem dX7_isOn_4 : decode cX7_isOn 4 = .ok (.iconst (-1), 1) := by decide +kernel
theorem dX7_isOn_5 : decode cX7_isOn 5 = .ok (.if_icmp .eq 7, 3) := by decide +kernel
theorem dX7_isOn_8 : decode cX7_isOn 8 = .ok (.iconst 1, 1) := by decide +kernel
theorem dX7_isOn_9 : decode cX7_isOn 9 = .ok (.goto 4, 3) := by decide +kernel
theorem dX7_isOn_12 : decode cX7_isOn 12 = .ok (.iconst 0, 1) := by decide +kernel
theorem dX7_isOn_13 : decode cX7_isOn 13 = .ok (.ireturn, 1) := by decide +kernel
set_option maxRecDepth 4000 in
set_option maxHeartbeats 4000000 in
theorem m_X7_isOn (l : Launch) (g : qGm) (M : qMem) {u : Nat} (hu : u < 2) : qOk l g 1 yX7_isOn cX7_isOn 1 (some .boolean) [qR g 3 u] M (qEv (some (qB (M 3 u 0 ≠ -1))) M) := by
  refine q_ok (by decide +kernel) (Nat.le_of_ble_eq_true rfl) (fun X C' hn => ?_)
  have C := C'.1
  refine q_aloadn C dX7_isOn_0 rfl ?_
  refine gf_RX7_9 C (by first | assumption | decide | omega) dX7_isOn_1 (fun r1 => ?_)
  refine q_iconst C dX7_isOn_4 ?_
  refine q_tI_eq C 12 13 dX7_isOn_5 dX7_isOn_8 dX7_isOn_9 dX7_isOn_12 (by decide) (by decide) rfl (by first | assumption | omega | exact q_tin _ | exact q_bIn _) (by first | assumption | omega | exact q_tin _ | exact q_bIn _) ?_
  refine q_zret C' dX7_isOn_13 (by first | omega | exact q_b01 _ | simp) ?_
  refine ⟨congrArg some ?_, rfl⟩
  first | (rw [q_bT (by omega)]; done) | (rw [q_bF (by omega)]; done) | exact q_bIff (by omega)
theorem dX7_hasComer_0 : decode cX7_hasComer 0 = .ok (.iload_n 1, 1) := by decide +kernel
theorem dX7_hasComer_1 : decode cX7_hasComer 1 = .ok (.ifCond .lt 15, 3) := by decide +kernel
theorem dX7_hasComer_4 : decode cX7_hasComer 4 = .ok (.iload_n 1, 1) := by decide +kernel
theorem dX7_hasComer_5 : decode cX7_hasComer 5 = .ok (.aload_n 0, 1) := by decide +kernel
theorem dX7_hasComer_6 : decode cX7_hasComer 6 = .ok (.getfield 15, 3) := by decide +kernel
theorem dX7_hasComer_9 : decode cX7_hasComer 9 = .ok (.if_icmp .ge 7, 3) := by decide +kernel
theorem dX7_hasComer_12 : decode cX7_hasComer 12 = .ok (.iconst 1, 1) := by decide +kernel
theorem dX7_hasComer_13 : decode cX7_hasComer 13 = .ok (.goto 4, 3) := by decide +kernel
theorem dX7_hasComer_16 : decode cX7_hasComer 16 = .ok (.iconst 0, 1) := by decide +kernel
theorem dX7_hasComer_17 : decode cX7_hasComer 17 = .ok (.ireturn, 1) := by decide +kernel
set_option maxRecDepth 4000 in
set_option maxHeartbeats 4000000 in
theorem m_X7_hasComer (l : Launch) (g : qGm) (M : qMem) {u : Nat} (hu : u < 2) {x : Int} (hx : qIn x) : qOk l g 1 yX7_hasComer cX7_hasComer 2 (some .boolean) [qR g 3 u, qI x] M (qEv (some (qB (0 ≤ x ∧ x < M 3 u 1))) M) := by
  refine q_ok (by decide +kernel) (Nat.le_of_ble_eq_true rfl) (fun X C' hn => ?_)
  have C := C'.1
  refine q_iloadn C dX7_hasComer_0 rfl ?_
  refine q_if_lt C 16 dX7_hasComer_1 (by decide) (by first | assumption | omega | exact q_tin _ | exact q_bIn _) (fun h1 => ?_) (fun h1 => ?_)
  · refine q_iconst C dX7_hasComer_16 ?_
    refine q_zret C' dX7_hasComer_17 (by first | omega | exact q_b01 _ | simp) ?_
    refine ⟨congrArg some ?_, rfl⟩
    first | (rw [q_bT (by omega)]; done) | (rw [q_bF (by omega)]; done) | exact q_bIff (by omega)
  · refine q_iloadn C dX7_hasComer_4 rfl ?_
    refine q_aloadn C dX7_hasComer_5 rfl ?_
    refine gf_RX7_15 C (by first | assumption | decide | omega) dX7_hasComer_6 (fun r6 => ?_)
    refine q_tI_ge C 16 17 dX7_hasComer_9 dX7_hasComer_12 dX7_hasComer_13 dX7_hasComer_16 (by decide) (by decide) rfl (by first | assumption | omega | exact q_tin _ | exact q_bIn _) (by first | assumption | omega | exact q_tin _ | exact q_bIn _) ?_
    refine q_zret C' dX7_hasComer_17 (by first | omega | exact q_b01 _ | simp) ?_
    refine ⟨congrArg some ?_, rfl⟩
    first | (rw [q_bT (by omega)]; done) | (rw [q_bF (by omega)]; done) | exact q_bIff (by omega)
theorem dX7_hasHouse_0 : decode cX7_hasHouse 0 = .ok (.iload_n 1, 1) := by decide +kernel
theorem dX7_hasHouse_1 : decode cX7_hasHouse 1 = .ok (.ifCond .lt 15, 3) := by decide +kernel
theorem dX7_hasHouse_4 : decode cX7_hasHouse 4 = .ok (.iload_n 1, 1) := by decide +kernel
theorem dX7_hasHouse_5 : decode cX7_hasHouse 5 = .ok (.aload_n 0, 1) := by decide +kernel
theorem dX7_hasHouse_6 : decode cX7_hasHouse 6 = .ok (.getfield 18, 3) := by decide +kernel
theorem dX7_hasHouse_9 : decode cX7_hasHouse 9 = .ok (.if_icmp .ge 7, 3) := by decide +kernel
theorem dX7_hasHouse_12 : decode cX7_hasHouse 12 = .ok (.iconst 1, 1) := by decide +kernel
theorem dX7_hasHouse_13 : decode cX7_hasHouse 13 = .ok (.goto 4, 3) := by decide +kernel
theorem dX7_hasHouse_16 : decode cX7_hasHouse 16 = .ok (.iconst 0, 1) := by decide +kernel
theorem dX7_hasHouse_17 : decode cX7_hasHouse 17 = .ok (.ireturn, 1) := by decide +kernel
set_option maxRecDepth 4000 in
set_option maxHeartbeats 4000000 in
theorem m_X7_hasHouse (l : Launch) (g : qGm) (M : qMem) {u : Nat} (hu : u < 2) {x : Int} (hx : qIn x) : qOk l g 1 yX7_hasHouse cX7_hasHouse 2 (some .boolean) [qR g 3 u, qI x] M (qEv (some (qB (0 ≤ x ∧ x < M 3 u 2))) M) := by
  refine q_ok (by decide +kernel) (Nat.le_of_ble_eq_true rfl) (fun X C' hn => ?_)
  have C := C'.1
  refine q_iloadn C dX7_hasHouse_0 rfl ?_
  refine q_if_lt C 16 dX7_hasHouse_1 (by decide) (by first | assumption | omega | exact q_tin _ | exact q_bIn _) (fun h1 => ?_) (fun h1 => ?_)
  · refine q_iconst C dX7_hasHouse_16 ?_
    refine q_zret C' dX7_hasHouse_17 (by first | omega | exact q_b01 _ | simp) ?_
    refine ⟨congrArg some ?_, rfl⟩
    first | (rw [q_bT (by omega)]; done) | (rw [q_bF (by omega)]; done) | exact q_bIff (by omega)
  · refine q_iloadn C dX7_hasHouse_4 rfl ?_
    refine q_aloadn C dX7_hasHouse_5 rfl ?_
    refine gf_RX7_18 C (by first | assumption | decide | omega) dX7_hasHouse_6 (fun r6 => ?_)
    refine q_tI_ge C 16 17 dX7_hasHouse_9 dX7_hasHouse_12 dX7_hasHouse_13 dX7_hasHouse_16 (by decide) (by decide) rfl (by first | assumption | omega | exact q_tin _ | exact q_bIn _) (by first | assumption | omega | exact q_tin _ | exact q_bIn _) ?_
    refine q_zret C' dX7_hasHouse_17 (by first | omega | exact q_b01 _ | simp) ?_
    refine ⟨congrArg some ?_, rfl⟩
    first | (rw [q_bT (by omega)]; done) | (rw [q_bF (by omega)]; done) | exact q_bIff (by omega)
theorem dX7_hasBoth_0 : decode cX7_hasBoth 0 = .ok (.aload_n 0, 1) := by decide +kernel
theorem dX7_hasBoth_1 : decode cX7_hasBoth 1 = .ok (.iload_n 1, 1) := by decide +kernel
theorem dX7_hasBoth_2 : decode cX7_hasBoth 2 = .ok (.invokevirtual 40, 3) := by decide +kernel
theorem dX7_hasBoth_5 : decode cX7_hasBoth 5 = .ok (.ifCond .eq 15, 3) := by decide +kernel
theorem dX7_hasBoth_8 : decode cX7_hasBoth 8 = .ok (.aload_n 0, 1) := by decide +kernel
theorem dX7_hasBoth_9 : decode cX7_hasBoth 9 = .ok (.iload_n 2, 1) := by decide +kernel
theorem dX7_hasBoth_10 : decode cX7_hasBoth 10 = .ok (.invokevirtual 44, 3) := by decide +kernel
theorem dX7_hasBoth_13 : decode cX7_hasBoth 13 = .ok (.ifCond .eq 7, 3) := by decide +kernel
theorem dX7_hasBoth_16 : decode cX7_hasBoth 16 = .ok (.iconst 1, 1) := by decide +kernel
theorem dX7_hasBoth_17 : decode cX7_hasBoth 17 = .ok (.goto 4, 3) := by decide +kernel
theorem dX7_hasBoth_20 : decode cX7_hasBoth 20 = .ok (.iconst 0, 1) := by decide +kernel
theorem dX7_hasBoth_21 : decode cX7_hasBoth 21 = .ok (.ireturn, 1) := by decide +kernel
set_option maxRecDepth 4000 in
set_option maxHeartbeats 4000000 in
theorem m_X7_hasBoth (l : Launch) (g : qGm) (M : qMem) {u : Nat} (hu : u < 2) {x y : Int} (hx : qIn x) (hy : qIn y) : qOk l g 2 yX7_hasBoth cX7_hasBoth 3 (some .boolean) [qR g 3 u, qI x, qI y] M (qEv (some (qB ((0 ≤ x ∧ x < M 3 u 1) ∧ (0 ≤ y ∧ y < M 3 u 2)))) M) := by
  refine q_ok (by decide +kernel) (Nat.le_of_ble_eq_true rfl) (fun X C' hn => ?_)
  have C := C'.1
  refine q_aloadn C dX7_hasBoth_0 rfl ?_
  refine q_iloadn C dX7_hasBoth_1 rfl ?_
  refine cv_RX7_40 C (by decide) (by first | assumption | decide | omega) (m_X7_hasComer l g _ hu hx) dX7_hasBoth_2 (Nat.le_of_ble_eq_true rfl) (fun r2 => ?_)
  refine q_ifeqB C 20 dX7_hasBoth_5 (by decide) (fun h5 => ?_) (fun h5 => ?_)
  · refine q_iconst C dX7_hasBoth_20 ?_
    refine q_zret C' dX7_hasBoth_21 (by first | omega | exact q_b01 _ | simp) ?_
    refine ⟨congrArg some ?_, rfl⟩
    first | (rw [q_bT (by omega)]; done) | (rw [q_bF (by omega)]; done) | exact q_bIff (by omega)
  · refine q_aloadn C dX7_hasBoth_8 rfl ?_
    refine q_iloadn C dX7_hasBoth_9 rfl ?_
    refine cv_RX7_44 C (by decide) (by first | assumption | decide | omega) (m_X7_hasHouse l g _ hu hy) dX7_hasBoth_10 (Nat.le_of_ble_eq_true rfl) (fun r10 => ?_)
    refine q_tB_eq C 20 21 dX7_hasBoth_13 dX7_hasBoth_16 dX7_hasBoth_17 dX7_hasBoth_20 (by decide) (by decide) rfl ?_
    refine q_zret C' dX7_hasBoth_21 (by first | omega | exact q_b01 _ | simp) ?_
    refine ⟨congrArg some ?_, rfl⟩
    first | (rw [q_bT (by omega)]; done) | (rw [q_bF (by omega)]; done) | exact q_bIff (by omega)
theorem dX7_prizeOf_0 : decode cX7_prizeOf 0 = .ok (.aload_n 0, 1) := by decide +kernel
theorem dX7_prizeOf_1 : decode cX7_prizeOf 1 = .ok (.getfield 37, 3) := by decide +kernel
theorem dX7_prizeOf_4 : decode cX7_prizeOf 4 = .ok (.iload_n 1, 1) := by decide +kernel
theorem dX7_prizeOf_5 : decode cX7_prizeOf 5 = .ok (.bipush 8, 2) := by decide +kernel
theorem dX7_prizeOf_7 : decode cX7_prizeOf 7 = .ok (.imul, 1) := by decide +kernel
theorem dX7_prizeOf_8 : decode cX7_prizeOf 8 = .ok (.iload_n 2, 1) := by decide +kernel
theorem dX7_prizeOf_9 : decode cX7_prizeOf 9 = .ok (.iadd, 1) := by decide +kernel
theorem dX7_prizeOf_10 : decode cX7_prizeOf 10 = .ok (.iaload, 1) := by decide +kernel
theorem dX7_prizeOf_11 : decode cX7_prizeOf 11 = .ok (.ireturn, 1) := by decide +kernel
set_option maxRecDepth 4000 in
set_option maxHeartbeats 4000000 in
theorem m_X7_prizeOf (l : Launch) (g : qGm) (M : qMem) {u : Nat} (hu : u < 2) {h k : Int} (hh : 0 ≤ h ∧ h < 6) (hk : 0 ≤ k ∧ k < 8) : qOk l g 1 yX7_prizeOf cX7_prizeOf 3 (some .int) [qR g 3 u, qI h, qI k] M (qEv (some (M 9 u (h * 8 + k))) M) := by
  refine q_ok (by decide +kernel) (Nat.le_of_ble_eq_true rfl) (fun X C' hn => ?_)
  have C := C'.1
  refine q_aloadn C dX7_prizeOf_0 rfl ?_
  refine gf_RX7_37 C (by first | assumption | decide | omega) dX7_prizeOf_1 ?_
  refine q_iloadn C dX7_prizeOf_4 rfl ?_
  refine q_bipush C dX7_prizeOf_5 (by decide) ?_
  refine q_imul C dX7_prizeOf_7 ?_
  refine q_iloadn C dX7_prizeOf_8 rfl ?_
  refine q_iadd C dX7_prizeOf_9 ?_
  refine q_iald C (by first | assumption | decide | omega) rfl dX7_prizeOf_10 (by omega) (by omega) (by decide) (fun r10 => ?_)
  refine q_iret C' dX7_prizeOf_11 (by first | assumption | omega | exact q_tin _ | exact q_bIn _) ?_
  exact ⟨rfl, rfl⟩
theorem dX7_setPrize_0 : decode cX7_setPrize 0 = .ok (.aload_n 0, 1) := by decide +kernel
theorem dX7_setPrize_1 : decode cX7_setPrize 1 = .ok (.iload_n 1, 1) := by decide +kernel
theorem dX7_setPrize_2 : decode cX7_setPrize 2 = .ok (.invokevirtual 44, 3) := by decide +kernel
theorem dX7_setPrize_5 : decode cX7_setPrize 5 = .ok (.ifCond .eq 24, 3) := by decide +kernel
theorem dX7_setPrize_8 : decode cX7_setPrize 8 = .ok (.iload_n 2, 1) := by decide +kernel
theorem dX7_setPrize_9 : decode cX7_setPrize 9 = .ok (.bipush 7, 2) := by decide +kernel
theorem dX7_setPrize_11 : decode cX7_setPrize 11 = .ok (.invokestatic 47, 3) := by decide +kernel
theorem dX7_setPrize_14 : decode cX7_setPrize 14 = .ok (.ifCond .eq 15, 3) := by decide +kernel
theorem dX7_setPrize_17 : decode cX7_setPrize 17 = .ok (.aload_n 0, 1) := by decide +kernel
theorem dX7_setPrize_18 : decode cX7_setPrize 18 = .ok (.getfield 37, 3) := by decide +kernel
theorem dX7_setPrize_21 : decode cX7_setPrize 21 = .ok (.iload_n 1, 1) := by decide +kernel
theorem dX7_setPrize_22 : decode cX7_setPrize 22 = .ok (.bipush 8, 2) := by decide +kernel
theorem dX7_setPrize_24 : decode cX7_setPrize 24 = .ok (.imul, 1) := by decide +kernel
theorem dX7_setPrize_25 : decode cX7_setPrize 25 = .ok (.iload_n 2, 1) := by decide +kernel
theorem dX7_setPrize_26 : decode cX7_setPrize 26 = .ok (.iadd, 1) := by decide +kernel
theorem dX7_setPrize_27 : decode cX7_setPrize 27 = .ok (.iload_n 3, 1) := by decide +kernel
theorem dX7_setPrize_28 : decode cX7_setPrize 28 = .ok (.iastore, 1) := by decide +kernel
theorem dX7_setPrize_29 : decode cX7_setPrize 29 = .ok (.return_, 1) := by decide +kernel
set_option maxRecDepth 4000 in
set_option maxHeartbeats 4000000 in
theorem m_X7_setPrize (l : Launch) (g : qGm) (M : qMem) {u : Nat} (hu : u < 2) {h k z : Int} (hh : 0 ≤ h ∧ h < M 3 u 2) (hh6 : h < 6) (hk : 0 ≤ k ∧ k < 8) (hz : qIn z) : qOk l g 2 yX7_setPrize cX7_setPrize 4 none [qR g 3 u, qI h, qI k, qI z] M (qEv none (qUp M 9 u (h * 8 + k) z)) := by
  refine q_ok (by decide +kernel) (Nat.le_of_ble_eq_true rfl) (fun X C' hn => ?_)
  have C := C'.1
  refine q_aloadn C dX7_setPrize_0 rfl ?_
  refine q_iloadn C dX7_setPrize_1 rfl ?_
  refine cv_RX7_44 C (by decide) (by first | assumption | decide | omega) (m_X7_hasHouse l g _ hu (by omega)) dX7_setPrize_2 (Nat.le_of_ble_eq_true rfl) (fun r2 => ?_)
  refine q_ifeqB C 29 dX7_setPrize_5 (by decide) (fun h5 => ?_) (fun h5 => ?_)
  · refine q_vret C' dX7_setPrize_29 ?_
    first | exact ⟨rfl, rfl⟩ | (exfalso; omega)
  · refine q_iloadn C dX7_setPrize_8 rfl ?_
    refine q_bipush C dX7_setPrize_9 (by decide) ?_
    refine q_callN C rfl (by decide) (m_X11_isWithin l g _ (by omega) (by omega)) dX7_setPrize_11 (Nat.le_of_ble_eq_true rfl) rfl (q_evI (fun r11 => ?_))
    refine q_ifeqB C 29 dX7_setPrize_14 (by decide) (fun h14 => ?_) (fun h14 => ?_)
    · refine q_vret C' dX7_setPrize_29 ?_
      first | exact ⟨rfl, rfl⟩ | (exfalso; omega)
    · refine q_aloadn C dX7_setPrize_17 rfl ?_
      refine gf_RX7_37 C (by first | assumption | decide | omega) dX7_setPrize_18 ?_
      refine q_iloadn C dX7_setPrize_21 rfl ?_
      refine q_bipush C dX7_setPrize_22 (by decide) ?_
      refine q_imul C dX7_setPrize_24 ?_
      refine q_iloadn C dX7_setPrize_25 rfl ?_
      refine q_iadd C dX7_setPrize_26 ?_
      refine q_iloadn C dX7_setPrize_27 rfl ?_
      refine q_iast C (by first | assumption | decide | omega) (fun _ => rfl) dX7_setPrize_28 (by omega) (by omega) (by decide) (by first | assumption | omega | exact q_tin _ | exact q_bIn _) ?_
      refine q_vret C' dX7_setPrize_29 ?_
      first | exact ⟨rfl, rfl⟩ | (exfalso; omega)
def xAddC (M : qMem) (u : Nat) (a s m : Int) : qMem := qUp (qUp (qUp (qUp M 4 u (M 3 u 1) a) 5 u (M 3 u 1) s) 6 u (M 3 u 1) m) 3 u 1 (M 3 u 1 + 1)
def xAddH (M : qMem) (u : Nat) (a f : Int) : qMem := qUp (qUp (qUp M 7 u (M 3 u 2) a) 8 u (M 3 u 2) f) 3 u 2 (M 3 u 2 + 1)
def xEmp (M : qMem) (u : Nat) : qMem := qSet (qUp (qUp (qUp M 3 u 0 (-1)) 3 u 1 0) 3 u 2 0) 9 u (fun _ => 0)
def xSBec (M : qMem) (u w : Nat) : qMem := qSet (qSet (qSet (qSet (qSet (qSet (qUp (qUp (qUp M 3 u 0 (M 3 w 0)) 3 u 1 (M 3 w 1)) 3 u 2 (M 3 w 2)) 4 u (M 4 w)) 5 u (M 5 w)) 6 u (M 6 w)) 7 u (M 7 w)) 8 u (M 8 w)) 9 u (M 9 w)
theorem dX7_addComer_0 : decode cX7_addComer 0 = .ok (.aload_n 0, 1) := by decide +kernel
theorem dX7_addComer_1 : decode cX7_addComer 1 = .ok (.getfield 15, 3) := by decide +kernel
theorem dX7_addComer_4 : decode cX7_addComer 4 = .ok (.bipush 6, 2) := by decide +kernel
theorem dX7_addComer_6 : decode cX7_addComer 6 = .ok (.if_icmp .ge 43, 3) := by decide +kernel
theorem dX7_addComer_9 : decode cX7_addComer 9 = .ok (.aload_n 0, 1) := by decide +kernel
theorem dX7_addComer_10 : decode cX7_addComer 10 = .ok (.getfield 21, 3) := by decide +kernel
theorem dX7_addComer_13 : decode cX7_addComer 13 = .ok (.aload_n 0, 1) := by decide +kernel
theorem dX7_addComer_14 : decode cX7_addComer 14 = .ok (.getfield 15, 3) := by decide +kernel
theorem dX7_addComer_17 : decode cX7_addComer 17 = .ok (.iload_n 1, 1) := by decide +kernel
theorem dX7_addComer_18 : decode cX7_addComer 18 = .ok (.iastore, 1) := by decide +kernel
theorem dX7_addComer_19 : decode cX7_addComer 19 = .ok (.aload_n 0, 1) := by decide +kernel
theorem dX7_addComer_20 : decode cX7_addComer 20 = .ok (.getfield 25, 3) := by decide +kernel
theorem dX7_addComer_23 : decode cX7_addComer 23 = .ok (.aload_n 0, 1) := by decide +kernel
theorem dX7_addComer_24 : decode cX7_addComer 24 = .ok (.getfield 15, 3) := by decide +kernel
theorem dX7_addComer_27 : decode cX7_addComer 27 = .ok (.iload_n 2, 1) := by decide +kernel
theorem dX7_addComer_28 : decode cX7_addComer 28 = .ok (.iastore, 1) := by decide +kernel
theorem dX7_addComer_29 : decode cX7_addComer 29 = .ok (.aload_n 0, 1) := by decide +kernel
theorem dX7_addComer_30 : decode cX7_addComer 30 = .ok (.getfield 28, 3) := by decide +kernel
theorem dX7_addComer_33 : decode cX7_addComer 33 = .ok (.aload_n 0, 1) := by decide +kernel
theorem dX7_addComer_34 : decode cX7_addComer 34 = .ok (.getfield 15, 3) := by decide +kernel
theorem dX7_addComer_37 : decode cX7_addComer 37 = .ok (.iload_n 3, 1) := by decide +kernel
theorem dX7_addComer_38 : decode cX7_addComer 38 = .ok (.iastore, 1) := by decide +kernel
theorem dX7_addComer_39 : decode cX7_addComer 39 = .ok (.aload_n 0, 1) := by decide +kernel
theorem dX7_addComer_40 : decode cX7_addComer 40 = .ok (.dup, 1) := by decide +kernel
theorem dX7_addComer_41 : decode cX7_addComer 41 = .ok (.getfield 15, 3) := by decide +kernel
theorem dX7_addComer_44 : decode cX7_addComer 44 = .ok (.iconst 1, 1) := by decide +kernel
theorem dX7_addComer_45 : decode cX7_addComer 45 = .ok (.iadd, 1) := by decide +kernel
theorem dX7_addComer_46 : decode cX7_addComer 46 = .ok (.putfield 15, 3) := by decide +kernel
theorem dX7_addComer_49 : decode cX7_addComer 49 = .ok (.return_, 1) := by decide +kernel
set_option maxRecDepth 4000 in
set_option maxHeartbeats 4000000 in
theorem m_X7_addComer (l : Launch) (g : qGm) (M : qMem) {u : Nat} (hu : u < 2) {a s m : Int} (ha : qIn a) (hs : qIn s) (hm : qIn m) (hc : 0 ≤ M 3 u 1 ∧ M 3 u 1 < 6) : qOk l g 1 yX7_addComer cX7_addComer 4 none [qR g 3 u, qI a, qI s, qI m] M (qEv none (xAddC M u a s m)) := by
  refine q_ok (by decide +kernel) (Nat.le_of_ble_eq_true rfl) (fun X C' hn => ?_)
  have C := C'.1
  refine q_aloadn C dX7_addComer_0 rfl ?_
  refine gf_RX7_15 C (by first | assumption | decide | omega) dX7_addComer_1 (fun r1 => ?_)
  refine q_bipush C dX7_addComer_4 (by decide) ?_
  refine q_icmp_ge C 49 dX7_addComer_6 (by decide) (by first | assumption | omega | exact q_tin _ | exact q_bIn _) (by first | assumption | omega | exact q_tin _ | exact q_bIn _) (fun h6 => ?_) (fun h6 => ?_)
  · refine q_vret C' dX7_addComer_49 ?_
    first | exact ⟨rfl, rfl⟩ | (exfalso; omega)
  · refine q_aloadn C dX7_addComer_9 rfl ?_
    refine gf_RX7_21 C (by first | assumption | decide | omega) dX7_addComer_10 ?_
    refine q_aloadn C dX7_addComer_13 rfl ?_
    refine gf_RX7_15 C (by first | assumption | decide | omega) dX7_addComer_14 (fun r14 => ?_)
    refine q_iloadn C dX7_addComer_17 rfl ?_
    refine q_iast C (by first | assumption | decide | omega) (fun _ => rfl) dX7_addComer_18 (by omega) (by omega) (by decide) (by first | assumption | omega | exact q_tin _ | exact q_bIn _) ?_
    refine q_aloadn C dX7_addComer_19 rfl ?_
    refine gf_RX7_25 C (by first | assumption | decide | omega) dX7_addComer_20 ?_
    refine q_aloadn C dX7_addComer_23 rfl ?_
    refine gf_RX7_15 C (by first | assumption | decide | omega) dX7_addComer_24 (fun r24 => ?_)
    try simp only [q_rd, q_rdS, ↓reduceIte, if_true, if_false, eq_self, Nat.reduceEqDiff, Int.reduceEq, Int.reduceNeg, reduceCtorEq] at r24 ⊢
    refine q_iloadn C dX7_addComer_27 rfl ?_
    refine q_iast C (by first | assumption | decide | omega) (fun _ => rfl) dX7_addComer_28 (by omega) (by omega) (by decide) (by first | assumption | omega | exact q_tin _ | exact q_bIn _) ?_
    refine q_aloadn C dX7_addComer_29 rfl ?_
    refine gf_RX7_28 C (by first | assumption | decide | omega) dX7_addComer_30 ?_
    refine q_aloadn C dX7_addComer_33 rfl ?_
    refine gf_RX7_15 C (by first | assumption | decide | omega) dX7_addComer_34 (fun r34 => ?_)
    try simp only [q_rd, q_rdS, ↓reduceIte, if_true, if_false, eq_self, Nat.reduceEqDiff, Int.reduceEq, Int.reduceNeg, reduceCtorEq] at r34 ⊢
    refine q_iloadn C dX7_addComer_37 rfl ?_
    refine q_iast C (by first | assumption | decide | omega) (fun _ => rfl) dX7_addComer_38 (by omega) (by omega) (by decide) (by first | assumption | omega | exact q_tin _ | exact q_bIn _) ?_
    refine q_aloadn C dX7_addComer_39 rfl ?_
    refine q_dup C dX7_addComer_40 rfl ?_
    refine gf_RX7_15 C (by first | assumption | decide | omega) dX7_addComer_41 (fun r41 => ?_)
    try simp only [q_rd, q_rdS, ↓reduceIte, if_true, if_false, eq_self, Nat.reduceEqDiff, Int.reduceEq, Int.reduceNeg, reduceCtorEq] at r41 ⊢
    refine q_iconst C dX7_addComer_44 ?_
    refine q_iadd C dX7_addComer_45 ?_
    refine pf_RX7_15 C (by first | assumption | decide | omega) (by first | assumption | omega | exact q_tin _ | exact q_bIn _) dX7_addComer_46 ?_
    refine q_vret C' dX7_addComer_49 ?_
    first | exact ⟨rfl, rfl⟩ | (exfalso; omega)
theorem dX7_addHouse_0 : decode cX7_addHouse 0 = .ok (.aload_n 0, 1) := by decide +kernel
theorem dX7_addHouse_1 : decode cX7_addHouse 1 = .ok (.getfield 18, 3) := by decide +kernel
theorem dX7_addHouse_4 : decode cX7_addHouse 4 = .ok (.bipush 6, 2) := by decide +kernel
theorem dX7_addHouse_6 : decode cX7_addHouse 6 = .ok (.if_icmp .ge 33, 3) := by decide +kernel
theorem dX7_addHouse_9 : decode cX7_addHouse 9 = .ok (.aload_n 0, 1) := by decide +kernel
theorem dX7_addHouse_10 : decode cX7_addHouse 10 = .ok (.getfield 31, 3) := by decide +kernel
theorem dX7_addHouse_13 : decode cX7_addHouse 13 = .ok (.aload_n 0, 1) := by decide +kernel
theorem dX7_addHouse_14 : decode cX7_addHouse 14 = .ok (.getfield 18, 3) := by decide +kernel
theorem dX7_addHouse_17 : decode cX7_addHouse 17 = .ok (.iload_n 1, 1) := by decide +kernel
theorem dX7_addHouse_18 : decode cX7_addHouse 18 = .ok (.iastore, 1) := by decide +kernel
theorem dX7_addHouse_19 : decode cX7_addHouse 19 = .ok (.aload_n 0, 1) := by decide +kernel
theorem dX7_addHouse_20 : decode cX7_addHouse 20 = .ok (.getfield 34, 3) := by decide +kernel
theorem dX7_addHouse_23 : decode cX7_addHouse 23 = .ok (.aload_n 0, 1) := by decide +kernel
theorem dX7_addHouse_24 : decode cX7_addHouse 24 = .ok (.getfield 18, 3) := by decide +kernel
theorem dX7_addHouse_27 : decode cX7_addHouse 27 = .ok (.iload_n 2, 1) := by decide +kernel
theorem dX7_addHouse_28 : decode cX7_addHouse 28 = .ok (.iastore, 1) := by decide +kernel
theorem dX7_addHouse_29 : decode cX7_addHouse 29 = .ok (.aload_n 0, 1) := by decide +kernel
theorem dX7_addHouse_30 : decode cX7_addHouse 30 = .ok (.dup, 1) := by decide +kernel
theorem dX7_addHouse_31 : decode cX7_addHouse 31 = .ok (.getfield 18, 3) := by decide +kernel
theorem dX7_addHouse_34 : decode cX7_addHouse 34 = .ok (.iconst 1, 1) := by decide +kernel
theorem dX7_addHouse_35 : decode cX7_addHouse 35 = .ok (.iadd, 1) := by decide +kernel
theorem dX7_addHouse_36 : decode cX7_addHouse 36 = .ok (.putfield 18, 3) := by decide +kernel
theorem dX7_addHouse_39 : decode cX7_addHouse 39 = .ok (.return_, 1) := by decide +kernel
set_option maxRecDepth 4000 in
set_option maxHeartbeats 4000000 in
theorem m_X7_addHouse (l : Launch) (g : qGm) (M : qMem) {u : Nat} (hu : u < 2) {a s : Int} (ha : qIn a) (hs : qIn s) (hc : 0 ≤ M 3 u 2 ∧ M 3 u 2 < 6) : qOk l g 1 yX7_addHouse cX7_addHouse 3 none [qR g 3 u, qI a, qI s] M (qEv none (xAddH M u a s)) := by
  refine q_ok (by decide +kernel) (Nat.le_of_ble_eq_true rfl) (fun X C' hn => ?_)
  have C := C'.1
  refine q_aloadn C dX7_addHouse_0 rfl ?_
  refine gf_RX7_18 C (by first | assumption | decide | omega) dX7_addHouse_1 (fun r1 => ?_)
  refine q_bipush C dX7_addHouse_4 (by decide) ?_
  refine q_icmp_ge C 39 dX7_addHouse_6 (by decide) (by first | assumption | omega | exact q_tin _ | exact q_bIn _) (by first | assumption | omega | exact q_tin _ | exact q_bIn _) (fun h6 => ?_) (fun h6 => ?_)
  · refine q_vret C' dX7_addHouse_39 ?_
    first | exact ⟨rfl, rfl⟩ | (exfalso; omega)
  · refine q_aloadn C dX7_addHouse_9 rfl ?_
    refine gf_RX7_31 C (by first | assumption | decide | omega) dX7_addHouse_10 ?_
    refine q_aloadn C dX7_addHouse_13 rfl ?_
    refine gf_RX7_18 C (by first | assumption | decide | omega) dX7_addHouse_14 (fun r14 => ?_)
    refine q_iloadn C dX7_addHouse_17 rfl ?_
    refine q_iast C (by first | assumption | decide | omega) (fun _ => rfl) dX7_addHouse_18 (by omega) (by omega) (by decide) (by first | assumption | omega | exact q_tin _ | exact q_bIn _) ?_
    refine q_aloadn C dX7_addHouse_19 rfl ?_
    refine gf_RX7_34 C (by first | assumption | decide | omega) dX7_addHouse_20 ?_
    refine q_aloadn C dX7_addHouse_23 rfl ?_
    refine gf_RX7_18 C (by first | assumption | decide | omega) dX7_addHouse_24 (fun r24 => ?_)
    try simp only [q_rd, q_rdS, ↓reduceIte, if_true, if_false, eq_self, Nat.reduceEqDiff, Int.reduceEq, Int.reduceNeg, reduceCtorEq] at r24 ⊢
    refine q_iloadn C dX7_addHouse_27 rfl ?_
    refine q_iast C (by first | assumption | decide | omega) (fun _ => rfl) dX7_addHouse_28 (by omega) (by omega) (by decide) (by first | assumption | omega | exact q_tin _ | exact q_bIn _) ?_
    refine q_aloadn C dX7_addHouse_29 rfl ?_
    refine q_dup C dX7_addHouse_30 rfl ?_
    refine gf_RX7_18 C (by first | assumption | decide | omega) dX7_addHouse_31 (fun r31 => ?_)
    try simp only [q_rd, q_rdS, ↓reduceIte, if_true, if_false, eq_self, Nat.reduceEqDiff, Int.reduceEq, Int.reduceNeg, reduceCtorEq] at r31 ⊢
    refine q_iconst C dX7_addHouse_34 ?_
    refine q_iadd C dX7_addHouse_35 ?_
    refine pf_RX7_18 C (by first | assumption | decide | omega) (by first | assumption | omega | exact q_tin _ | exact q_bIn _) dX7_addHouse_36 ?_
    refine q_vret C' dX7_addHouse_39 ?_
    first | exact ⟨rfl, rfl⟩ | (exfalso; omega)
theorem dX7_empty_0 : decode cX7_empty 0 = .ok (.aload_n 0, 1) := by decide +kernel
theorem dX7_empty_1 : decode cX7_empty 1 = .ok (.iconst (-1), 1) := by decide +kernel
theorem dX7_empty_2 : decode cX7_empty 2 = .ok (.putfield 9, 3) := by decide +kernel
theorem dX7_empty_5 : decode cX7_empty 5 = .ok (.aload_n 0, 1) := by decide +kernel
theorem dX7_empty_6 : decode cX7_empty 6 = .ok (.iconst 0, 1) := by decide +kernel
theorem dX7_empty_7 : decode cX7_empty 7 = .ok (.putfield 15, 3) := by decide +kernel
theorem dX7_empty_10 : decode cX7_empty 10 = .ok (.aload_n 0, 1) := by decide +kernel
theorem dX7_empty_11 : decode cX7_empty 11 = .ok (.iconst 0, 1) := by decide +kernel
theorem dX7_empty_12 : decode cX7_empty 12 = .ok (.putfield 18, 3) := by decide +kernel
theorem dX7_empty_15 : decode cX7_empty 15 = .ok (.aload_n 0, 1) := by decide +kernel
theorem dX7_empty_16 : decode cX7_empty 16 = .ok (.getfield 37, 3) := by decide +kernel
theorem dX7_empty_19 : decode cX7_empty 19 = .ok (.iconst 0, 1) := by decide +kernel
theorem dX7_empty_20 : decode cX7_empty 20 = .ok (.invokestatic 51, 3) := by decide +kernel
theorem dX7_empty_23 : decode cX7_empty 23 = .ok (.return_, 1) := by decide +kernel
set_option maxRecDepth 4000 in
set_option maxHeartbeats 4000000 in
theorem m_X7_empty (l : Launch) (g : qGm) (M : qMem) {u : Nat} (hu : u < 2) : qOk l g 2 yX7_empty cX7_empty 1 none [qR g 3 u] M (qEv none (xEmp M u)) := by
  refine q_ok (by decide +kernel) (Nat.le_of_ble_eq_true rfl) (fun X C' hn => ?_)
  have C := C'.1
  refine q_aloadn C dX7_empty_0 rfl ?_
  refine q_iconst C dX7_empty_1 ?_
  refine pf_RX7_9 C (by first | assumption | decide | omega) (by first | assumption | omega | exact q_tin _ | exact q_bIn _) dX7_empty_2 ?_
  refine q_aloadn C dX7_empty_5 rfl ?_
  refine q_iconst C dX7_empty_6 ?_
  refine pf_RX7_15 C (by first | assumption | decide | omega) (by first | assumption | omega | exact q_tin _ | exact q_bIn _) dX7_empty_7 ?_
  refine q_aloadn C dX7_empty_10 rfl ?_
  refine q_iconst C dX7_empty_11 ?_
  refine pf_RX7_18 C (by first | assumption | decide | omega) (by first | assumption | omega | exact q_tin _ | exact q_bIn _) dX7_empty_12 ?_
  refine q_aloadn C dX7_empty_15 rfl ?_
  refine gf_RX7_37 C (by first | assumption | decide | omega) dX7_empty_16 ?_
  refine q_iconst C dX7_empty_19 ?_
  refine cv_RX7_51 C (by decide) (m_J7_fill l g _ (by assumption) (fun _ => rfl) (by decide) (by omega)) dX7_empty_20 (Nat.le_of_ble_eq_true rfl) ?_
  refine q_vret C' dX7_empty_23 ?_
  exact ⟨rfl, rfl⟩
theorem dX7_become_0 : decode cX7_become 0 = .ok (.aload_n 0, 1) := by decide +kernel
theorem dX7_become_1 : decode cX7_become 1 = .ok (.aload_n 1, 1) := by decide +kernel
theorem dX7_become_2 : decode cX7_become 2 = .ok (.getfield 9, 3) := by decide +kernel
theorem dX7_become_5 : decode cX7_become 5 = .ok (.putfield 9, 3) := by decide +kernel
theorem dX7_become_8 : decode cX7_become 8 = .ok (.aload_n 0, 1) := by decide +kernel
theorem dX7_become_9 : decode cX7_become 9 = .ok (.aload_n 1, 1) := by decide +kernel
theorem dX7_become_10 : decode cX7_become 10 = .ok (.getfield 15, 3) := by decide +kernel
theorem dX7_become_13 : decode cX7_become 13 = .ok (.putfield 15, 3) := by decide +kernel
theorem dX7_become_16 : decode cX7_become 16 = .ok (.aload_n 0, 1) := by decide +kernel
theorem dX7_become_17 : decode cX7_become 17 = .ok (.aload_n 1, 1) := by decide +kernel
theorem dX7_become_18 : decode cX7_become 18 = .ok (.getfield 18, 3) := by decide +kernel
theorem dX7_become_21 : decode cX7_become 21 = .ok (.putfield 18, 3) := by decide +kernel
theorem dX7_become_24 : decode cX7_become 24 = .ok (.aload_n 1, 1) := by decide +kernel
theorem dX7_become_25 : decode cX7_become 25 = .ok (.getfield 21, 3) := by decide +kernel
theorem dX7_become_28 : decode cX7_become 28 = .ok (.iconst 0, 1) := by decide +kernel
theorem dX7_become_29 : decode cX7_become 29 = .ok (.aload_n 0, 1) := by decide +kernel
theorem dX7_become_30 : decode cX7_become 30 = .ok (.getfield 21, 3) := by decide +kernel
theorem dX7_become_33 : decode cX7_become 33 = .ok (.iconst 0, 1) := by decide +kernel
theorem dX7_become_34 : decode cX7_become 34 = .ok (.bipush 6, 2) := by decide +kernel
theorem dX7_become_36 : decode cX7_become 36 = .ok (.invokestatic 57, 3) := by decide +kernel
theorem dX7_become_39 : decode cX7_become 39 = .ok (.aload_n 1, 1) := by decide +kernel
theorem dX7_become_40 : decode cX7_become 40 = .ok (.getfield 25, 3) := by decide +kernel
theorem dX7_become_43 : decode cX7_become 43 = .ok (.iconst 0, 1) := by decide +kernel
theorem dX7_become_44 : decode cX7_become 44 = .ok (.aload_n 0, 1) := by decide +kernel
theorem dX7_become_45 : decode cX7_become 45 = .ok (.getfield 25, 3) := by decide +kernel
theorem dX7_become_48 : decode cX7_become 48 = .ok (.iconst 0, 1) := by decide +kernel
theorem dX7_become_49 : decode cX7_become 49 = .ok (.bipush 6, 2) := by decide +kernel
theorem dX7_become_51 : decode cX7_become 51 = .ok (.invokestatic 57, 3) := by decide +kernel
theorem dX7_become_54 : decode cX7_become 54 = .ok (.aload_n 1, 1) := by decide +kernel
theorem dX7_become_55 : decode cX7_become 55 = .ok (.getfield 28, 3) := by decide +kernel
theorem dX7_become_58 : decode cX7_become 58 = .ok (.iconst 0, 1) := by decide +kernel
theorem dX7_become_59 : decode cX7_become 59 = .ok (.aload_n 0, 1) := by decide +kernel
theorem dX7_become_60 : decode cX7_become 60 = .ok (.getfield 28, 3) := by decide +kernel
theorem dX7_become_63 : decode cX7_become 63 = .ok (.iconst 0, 1) := by decide +kernel
theorem dX7_become_64 : decode cX7_become 64 = .ok (.bipush 6, 2) := by decide +kernel
theorem dX7_become_66 : decode cX7_become 66 = .ok (.invokestatic 57, 3) := by decide +kernel
theorem dX7_become_69 : decode cX7_become 69 = .ok (.aload_n 1, 1) := by decide +kernel
theorem dX7_become_70 : decode cX7_become 70 = .ok (.getfield 31, 3) := by decide +kernel
theorem dX7_become_73 : decode cX7_become 73 = .ok (.iconst 0, 1) := by decide +kernel
theorem dX7_become_74 : decode cX7_become 74 = .ok (.aload_n 0, 1) := by decide +kernel
theorem dX7_become_75 : decode cX7_become 75 = .ok (.getfield 31, 3) := by decide +kernel
theorem dX7_become_78 : decode cX7_become 78 = .ok (.iconst 0, 1) := by decide +kernel
theorem dX7_become_79 : decode cX7_become 79 = .ok (.bipush 6, 2) := by decide +kernel
theorem dX7_become_81 : decode cX7_become 81 = .ok (.invokestatic 57, 3) := by decide +kernel
theorem dX7_become_84 : decode cX7_become 84 = .ok (.aload_n 1, 1) := by decide +kernel
theorem dX7_become_85 : decode cX7_become 85 = .ok (.getfield 34, 3) := by decide +kernel
theorem dX7_become_88 : decode cX7_become 88 = .ok (.iconst 0, 1) := by decide +kernel
theorem dX7_become_89 : decode cX7_become 89 = .ok (.aload_n 0, 1) := by decide +kernel
theorem dX7_become_90 : decode cX7_become 90 = .ok (.getfield 34, 3) := by decide +kernel
theorem dX7_become_93 : decode cX7_become 93 = .ok (.iconst 0, 1) := by decide +kernel
theorem dX7_become_94 : decode cX7_become 94 = .ok (.bipush 6, 2) := by decide +kernel
theorem dX7_become_96 : decode cX7_become 96 = .ok (.invokestatic 57, 3) := by decide +kernel
theorem dX7_become_99 : decode cX7_become 99 = .ok (.aload_n 1, 1) := by decide +kernel
theorem dX7_become_100 : decode cX7_become 100 = .ok (.getfield 37, 3) := by decide +kernel
theorem dX7_become_103 : decode cX7_become 103 = .ok (.iconst 0, 1) := by decide +kernel
theorem dX7_become_104 : decode cX7_become 104 = .ok (.aload_n 0, 1) := by decide +kernel
theorem dX7_become_105 : decode cX7_become 105 = .ok (.getfield 37, 3) := by decide +kernel
theorem dX7_become_108 : decode cX7_become 108 = .ok (.iconst 0, 1) := by decide +kernel
theorem dX7_become_109 : decode cX7_become 109 = .ok (.bipush 48, 2) := by decide +kernel
theorem dX7_become_111 : decode cX7_become 111 = .ok (.invokestatic 57, 3) := by decide +kernel
theorem dX7_become_114 : decode cX7_become 114 = .ok (.return_, 1) := by decide +kernel
set_option maxRecDepth 4000 in
set_option maxHeartbeats 4000000 in
theorem m_X7_become (l : Launch) (g : qGm) (M : qMem) {u : Nat} (hu : u < 2) {w : Nat} (hw : w < 2) (hne : ¬ w = u) : qOk l g 1 yX7_become cX7_become 2 none [qR g 3 u, qR g 3 w] M (qEv none (xSBec M u w)) := by
  refine q_ok (by decide +kernel) (Nat.le_of_ble_eq_true rfl) (fun X C' hn => ?_)
  have C := C'.1
  refine q_aloadn C dX7_become_0 rfl ?_
  refine q_aloadn C dX7_become_1 rfl ?_
  refine gf_RX7_9 C (by first | assumption | decide | omega) dX7_become_2 (fun r2 => ?_)
  refine pf_RX7_9 C (by first | assumption | decide | omega) (by first | assumption | omega | exact q_tin _ | exact q_bIn _) dX7_become_5 ?_
  refine q_aloadn C dX7_become_8 rfl ?_
  refine q_aloadn C dX7_become_9 rfl ?_
  refine gf_RX7_15 C (by first | assumption | decide | omega) dX7_become_10 (fun r10 => ?_)
  try simp only [q_rd, q_rdS, ↓reduceIte, if_true, if_false, eq_self, Nat.reduceEqDiff, Int.reduceEq, Int.reduceNeg, reduceCtorEq, if_neg hne] at r10 ⊢
  refine pf_RX7_15 C (by first | assumption | decide | omega) (by first | assumption | omega | exact q_tin _ | exact q_bIn _) dX7_become_13 ?_
  refine q_aloadn C dX7_become_16 rfl ?_
  refine q_aloadn C dX7_become_17 rfl ?_
  refine gf_RX7_18 C (by first | assumption | decide | omega) dX7_become_18 (fun r18 => ?_)
  try simp only [q_rd, q_rdS, ↓reduceIte, if_true, if_false, eq_self, Nat.reduceEqDiff, Int.reduceEq, Int.reduceNeg, reduceCtorEq, if_neg hne] at r18 ⊢
  refine pf_RX7_18 C (by first | assumption | decide | omega) (by first | assumption | omega | exact q_tin _ | exact q_bIn _) dX7_become_21 ?_
  refine q_aloadn C dX7_become_24 rfl ?_
  refine gf_RX7_21 C (by first | assumption | decide | omega) dX7_become_25 ?_
  refine q_iconst C dX7_become_28 ?_
  refine q_aloadn C dX7_become_29 rfl ?_
  refine gf_RX7_21 C (by first | assumption | decide | omega) dX7_become_30 ?_
  refine q_iconst C dX7_become_33 ?_
  refine q_bipush C dX7_become_34 (by decide) ?_
  refine q_copy C (by first | assumption | decide) (by first | assumption | decide) rfl (fun _ => rfl) (by decide) q_ml_RX7_57 q_nat q_sta q_sin (by decide) (Nat.le_of_ble_eq_true rfl) dX7_become_36 ?_
  simp only [q_rdR, q_rdSR, q_rd, q_rdS, ↓reduceIte, if_true, if_false, eq_self, Nat.reduceEqDiff, Int.reduceEq, Int.reduceNeg, reduceCtorEq, if_neg hne]
  refine q_aloadn C dX7_become_39 rfl ?_
  refine gf_RX7_25 C (by first | assumption | decide | omega) dX7_become_40 ?_
  refine q_iconst C dX7_become_43 ?_
  refine q_aloadn C dX7_become_44 rfl ?_
  refine gf_RX7_25 C (by first | assumption | decide | omega) dX7_become_45 ?_
  refine q_iconst C dX7_become_48 ?_
  refine q_bipush C dX7_become_49 (by decide) ?_
  refine q_copy C (by first | assumption | decide) (by first | assumption | decide) rfl (fun _ => rfl) (by decide) q_ml_RX7_57 q_nat q_sta q_sin (by decide) (Nat.le_of_ble_eq_true rfl) dX7_become_51 ?_
  simp only [q_rdR, q_rdSR, q_rd, q_rdS, ↓reduceIte, if_true, if_false, eq_self, Nat.reduceEqDiff, Int.reduceEq, Int.reduceNeg, reduceCtorEq, if_neg hne]
  refine q_aloadn C dX7_become_54 rfl ?_
  refine gf_RX7_28 C (by first | assumption | decide | omega) dX7_become_55 ?_
  refine q_iconst C dX7_become_58 ?_
  refine q_aloadn C dX7_become_59 rfl ?_
  refine gf_RX7_28 C (by first | assumption | decide | omega) dX7_become_60 ?_
  refine q_iconst C dX7_become_63 ?_
  refine q_bipush C dX7_become_64 (by decide) ?_
  refine q_copy C (by first | assumption | decide) (by first | assumption | decide) rfl (fun _ => rfl) (by decide) q_ml_RX7_57 q_nat q_sta q_sin (by decide) (Nat.le_of_ble_eq_true rfl) dX7_become_66 ?_
  simp only [q_rdR, q_rdSR, q_rd, q_rdS, ↓reduceIte, if_true, if_false, eq_self, Nat.reduceEqDiff, Int.reduceEq, Int.reduceNeg, reduceCtorEq, if_neg hne]
  refine q_aloadn C dX7_become_69 rfl ?_
  refine gf_RX7_31 C (by first | assumption | decide | omega) dX7_become_70 ?_
  refine q_iconst C dX7_become_73 ?_
  refine q_aloadn C dX7_become_74 rfl ?_
  refine gf_RX7_31 C (by first | assumption | decide | omega) dX7_become_75 ?_
  refine q_iconst C dX7_become_78 ?_
  refine q_bipush C dX7_become_79 (by decide) ?_
  refine q_copy C (by first | assumption | decide) (by first | assumption | decide) rfl (fun _ => rfl) (by decide) q_ml_RX7_57 q_nat q_sta q_sin (by decide) (Nat.le_of_ble_eq_true rfl) dX7_become_81 ?_
  simp only [q_rdR, q_rdSR, q_rd, q_rdS, ↓reduceIte, if_true, if_false, eq_self, Nat.reduceEqDiff, Int.reduceEq, Int.reduceNeg, reduceCtorEq, if_neg hne]
  refine q_aloadn C dX7_become_84 rfl ?_
  refine gf_RX7_34 C (by first | assumption | decide | omega) dX7_become_85 ?_
  refine q_iconst C dX7_become_88 ?_
  refine q_aloadn C dX7_become_89 rfl ?_
  refine gf_RX7_34 C (by first | assumption | decide | omega) dX7_become_90 ?_
  refine q_iconst C dX7_become_93 ?_
  refine q_bipush C dX7_become_94 (by decide) ?_
  refine q_copy C (by first | assumption | decide) (by first | assumption | decide) rfl (fun _ => rfl) (by decide) q_ml_RX7_57 q_nat q_sta q_sin (by decide) (Nat.le_of_ble_eq_true rfl) dX7_become_96 ?_
  simp only [q_rdR, q_rdSR, q_rd, q_rdS, ↓reduceIte, if_true, if_false, eq_self, Nat.reduceEqDiff, Int.reduceEq, Int.reduceNeg, reduceCtorEq, if_neg hne]
  refine q_aloadn C dX7_become_99 rfl ?_
  refine gf_RX7_37 C (by first | assumption | decide | omega) dX7_become_100 ?_
  refine q_iconst C dX7_become_103 ?_
  refine q_aloadn C dX7_become_104 rfl ?_
  refine gf_RX7_37 C (by first | assumption | decide | omega) dX7_become_105 ?_
  refine q_iconst C dX7_become_108 ?_
  refine q_bipush C dX7_become_109 (by decide) ?_
  refine q_copy C (by first | assumption | decide) (by first | assumption | decide) rfl (fun _ => rfl) (by decide) q_ml_RX7_57 q_nat q_sta q_sin (by decide) (Nat.le_of_ble_eq_true rfl) dX7_become_111 ?_
  simp only [q_rdR, q_rdSR, q_rd, q_rdS, ↓reduceIte, if_true, if_false, eq_self, Nat.reduceEqDiff, Int.reduceEq, Int.reduceNeg, reduceCtorEq, if_neg hne]
  refine q_vret C' dX7_become_114 ?_
  exact ⟨rfl, rfl⟩
/-- the past holds one hall more -/
def xRem (M : qMem) : qMem := qUp (qUp (xBec M ((M 26 0 1).toNat + 1) 0) 26 0 1 (if M 26 0 1 < 29 then M 26 0 1 + 1 else 0)) 26 0 2 (sMin (M 26 0 2 + 1) 30)
def xPos (p n : Int) : Int := if n ≤ p then p - n else p - n + 30
def xBack (M : qMem) (n : Int) : qMem := xBec (qUp (qUp M 26 0 1 (xPos (M 26 0 1) n)) 26 0 2 (M 26 0 2 - n)) 0 ((xPos (M 26 0 1) n).toNat + 1)
theorem dX6_remember_0 : decode cX6_remember 0 = .ok (.aload_n 0, 1) := by decide +kernel
theorem dX6_remember_1 : decode cX6_remember 1 = .ok (.getfield 11, 3) := by decide +kernel
theorem dX6_remember_4 : decode cX6_remember 4 = .ok (.aload_n 0, 1) := by decide +kernel
theorem dX6_remember_5 : decode cX6_remember 5 = .ok (.getfield 17, 3) := by decide +kernel
theorem dX6_remember_8 : decode cX6_remember 8 = .ok (.aaload, 1) := by decide +kernel
theorem dX6_remember_9 : decode cX6_remember 9 = .ok (.aload_n 1, 1) := by decide +kernel
theorem dX6_remember_10 : decode cX6_remember 10 = .ok (.invokevirtual 25, 3) := by decide +kernel
theorem dX6_remember_13 : decode cX6_remember 13 = .ok (.aload_n 0, 1) := by decide +kernel
theorem dX6_remember_14 : decode cX6_remember 14 = .ok (.aload_n 0, 1) := by decide +kernel
theorem dX6_remember_15 : decode cX6_remember 15 = .ok (.getfield 17, 3) := by decide +kernel
theorem dX6_remember_18 : decode cX6_remember 18 = .ok (.bipush 29, 2) := by decide +kernel
theorem dX6_remember_20 : decode cX6_remember 20 = .ok (.if_icmp .ge 12, 3) := by decide +kernel
theorem dX6_remember_23 : decode cX6_remember 23 = .ok (.aload_n 0, 1) := by decide +kernel
theorem dX6_remember_24 : decode cX6_remember 24 = .ok (.getfield 17, 3) := by decide +kernel
theorem dX6_remember_27 : decode cX6_remember 27 = .ok (.iconst 1, 1) := by decide +kernel
theorem dX6_remember_28 : decode cX6_remember 28 = .ok (.iadd, 1) := by decide +kernel
theorem dX6_remember_29 : decode cX6_remember 29 = .ok (.goto 4, 3) := by decide +kernel
theorem dX6_remember_32 : decode cX6_remember 32 = .ok (.iconst 0, 1) := by decide +kernel
theorem dX6_remember_33 : decode cX6_remember 33 = .ok (.putfield 17, 3) := by decide +kernel
theorem dX6_remember_36 : decode cX6_remember 36 = .ok (.aload_n 0, 1) := by decide +kernel
theorem dX6_remember_37 : decode cX6_remember 37 = .ok (.aload_n 0, 1) := by decide +kernel
theorem dX6_remember_38 : decode cX6_remember 38 = .ok (.getfield 21, 3) := by decide +kernel
theorem dX6_remember_41 : decode cX6_remember 41 = .ok (.iconst 1, 1) := by decide +kernel
theorem dX6_remember_42 : decode cX6_remember 42 = .ok (.iadd, 1) := by decide +kernel
theorem dX6_remember_43 : decode cX6_remember 43 = .ok (.bipush 30, 2) := by decide +kernel
theorem dX6_remember_45 : decode cX6_remember 45 = .ok (.invokestatic 29, 3) := by decide +kernel
theorem dX6_remember_48 : decode cX6_remember 48 = .ok (.putfield 21, 3) := by decide +kernel
theorem dX6_remember_51 : decode cX6_remember 51 = .ok (.return_, 1) := by decide +kernel
set_option maxRecDepth 4000 in
set_option maxHeartbeats 4000000 in
theorem m_X6_remember (l : Launch) (g : qGm) (M : qMem) (hp : 0 ≤ M 26 0 1 ∧ M 26 0 1 < 30) (hs : 0 ≤ M 26 0 2 ∧ M 26 0 2 ≤ 30) : qOk l g 3 yX6_remember cX6_remember 2 none [qR g 26 0, qR g 10 0] M (qEv none (xRem M)) := by
  refine q_ok (by decide +kernel) (Nat.le_of_ble_eq_true rfl) (fun X C' hn => ?_)
  have C := C'.1
  refine q_aloadn C dX6_remember_0 rfl ?_
  refine gf_RX6_11 C dX6_remember_1 ?_
  refine q_aloadn C dX6_remember_4 rfl ?_
  refine gf_RX6_17 C dX6_remember_5 (fun r5 => ?_)
  refine q_aald C dX6_remember_8 (by omega) (by omega) ?_
  refine q_aloadn C dX6_remember_9 rfl ?_
  refine cv_RX6_25 C (by decide) (by first | assumption | decide | omega) (m_X2_become l g _ (by omega) (by decide) (by omega)) dX6_remember_10 (Nat.le_of_ble_eq_true rfl) ?_
  refine q_aloadn C dX6_remember_13 rfl ?_
  refine q_aloadn C dX6_remember_14 rfl ?_
  refine gf_RX6_17 C dX6_remember_15 (fun r15 => ?_)
  try simp only [q_rd, q_rdS, ↓reduceIte, if_true, if_false, eq_self, Nat.reduceEqDiff, Int.reduceEq, Int.reduceNeg, reduceCtorEq, xBec_26] at r15 ⊢
  refine q_bipush C dX6_remember_18 (by decide) ?_
  refine q_icmp_ge C 32 dX6_remember_20 (by decide) (by first | assumption | omega | exact q_tin _ | exact q_bIn _) (by first | assumption | omega | exact q_tin _ | exact q_bIn _) (fun h20 => ?_) (fun h20 => ?_)
  · refine q_iconst C dX6_remember_32 ?_
    refine pf_RX6_17 C (by first | assumption | omega | exact q_tin _ | exact q_bIn _) dX6_remember_33 ?_
    refine q_aloadn C dX6_remember_36 rfl ?_
    refine q_aloadn C dX6_remember_37 rfl ?_
    refine gf_RX6_21 C dX6_remember_38 (fun r38 => ?_)
    try simp only [q_rd, q_rdS, ↓reduceIte, if_true, if_false, eq_self, Nat.reduceEqDiff, Int.reduceEq, Int.reduceNeg, reduceCtorEq, xBec_26] at r38 ⊢
    refine q_iconst C dX6_remember_41 ?_
    refine q_iadd C dX6_remember_42 ?_
    refine q_bipush C dX6_remember_43 (by decide) ?_
    refine q_mmin C q_ml_RX6_29 (by first | assumption | omega | exact q_tin _ | exact q_bIn _) (by first | assumption | omega | exact q_tin _ | exact q_bIn _) (by decide) (Nat.le_of_ble_eq_true rfl) dX6_remember_45 (fun r45 => ?_)
    refine pf_RX6_21 C (by first | assumption | omega | exact q_tin _ | exact q_bIn _) dX6_remember_48 ?_
    refine q_vret C' dX6_remember_51 ?_
    refine ⟨rfl, ?_⟩
    unfold xRem
    first | (rw [if_pos (by omega)]; done) | (rw [if_neg (by omega)]; done)
  · refine q_aloadn C dX6_remember_23 rfl ?_
    refine gf_RX6_17 C dX6_remember_24 (fun r24 => ?_)
    try simp only [q_rd, q_rdS, ↓reduceIte, if_true, if_false, eq_self, Nat.reduceEqDiff, Int.reduceEq, Int.reduceNeg, reduceCtorEq, xBec_26] at r24 ⊢
    refine q_iconst C dX6_remember_27 ?_
    refine q_iadd C dX6_remember_28 ?_
    refine q_goto C (tgt := 33) dX6_remember_29 (by decide) ?_
    refine pf_RX6_17 C (by first | assumption | omega | exact q_tin _ | exact q_bIn _) dX6_remember_33 ?_
    refine q_aloadn C dX6_remember_36 rfl ?_
    refine q_aloadn C dX6_remember_37 rfl ?_
    refine gf_RX6_21 C dX6_remember_38 (fun r38 => ?_)
    try simp only [q_rd, q_rdS, ↓reduceIte, if_true, if_false, eq_self, Nat.reduceEqDiff, Int.reduceEq, Int.reduceNeg, reduceCtorEq, xBec_26] at r38 ⊢
    refine q_iconst C dX6_remember_41 ?_
    refine q_iadd C dX6_remember_42 ?_
    refine q_bipush C dX6_remember_43 (by decide) ?_
    refine q_mmin C q_ml_RX6_29 (by first | assumption | omega | exact q_tin _ | exact q_bIn _) (by first | assumption | omega | exact q_tin _ | exact q_bIn _) (by decide) (Nat.le_of_ble_eq_true rfl) dX6_remember_45 (fun r45 => ?_)
    refine pf_RX6_21 C (by first | assumption | omega | exact q_tin _ | exact q_bIn _) dX6_remember_48 ?_
    refine q_vret C' dX6_remember_51 ?_
    refine ⟨rfl, ?_⟩
    unfold xRem
    first | (rw [if_pos (by omega)]; done) | (rw [if_neg (by omega)]; done)
theorem dX6_bringBack_0 : decode cX6_bringBack 0 = .ok (.iload_n 1, 1) := by decide +kernel
theorem dX6_bringBack_1 : decode cX6_bringBack 1 = .ok (.iconst 1, 1) := by decide +kernel
theorem dX6_bringBack_2 : decode cX6_bringBack 2 = .ok (.if_icmp .lt 11, 3) := by decide +kernel
theorem dX6_bringBack_5 : decode cX6_bringBack 5 = .ok (.iload_n 1, 1) := by decide +kernel
theorem dX6_bringBack_6 : decode cX6_bringBack 6 = .ok (.aload_n 0, 1) := by decide +kernel
theorem dX6_bringBack_7 : decode cX6_bringBack 7 = .ok (.getfield 21, 3) := by decide +kernel
theorem dX6_bringBack_10 : decode cX6_bringBack 10 = .ok (.if_icmp .le 5, 3) := by decide +kernel
theorem dX6_bringBack_13 : decode cX6_bringBack 13 = .ok (.iconst 0, 1) := by decide +kernel
theorem dX6_bringBack_14 : decode cX6_bringBack 14 = .ok (.ireturn, 1) := by decide +kernel
theorem dX6_bringBack_15 : decode cX6_bringBack 15 = .ok (.aload_n 0, 1) := by decide +kernel
theorem dX6_bringBack_16 : decode cX6_bringBack 16 = .ok (.aload_n 0, 1) := by decide +kernel
theorem dX6_bringBack_17 : decode cX6_bringBack 17 = .ok (.getfield 17, 3) := by decide +kernel
theorem dX6_bringBack_20 : decode cX6_bringBack 20 = .ok (.iload_n 1, 1) := by decide +kernel
theorem dX6_bringBack_21 : decode cX6_bringBack 21 = .ok (.if_icmp .lt 12, 3) := by decide +kernel
theorem dX6_bringBack_24 : decode cX6_bringBack 24 = .ok (.aload_n 0, 1) := by decide +kernel
theorem dX6_bringBack_25 : decode cX6_bringBack 25 = .ok (.getfield 17, 3) := by decide +kernel
theorem dX6_bringBack_28 : decode cX6_bringBack 28 = .ok (.iload_n 1, 1) := by decide +kernel
theorem dX6_bringBack_29 : decode cX6_bringBack 29 = .ok (.isub, 1) := by decide +kernel
theorem dX6_bringBack_30 : decode cX6_bringBack 30 = .ok (.goto 12, 3) := by decide +kernel
theorem dX6_bringBack_33 : decode cX6_bringBack 33 = .ok (.aload_n 0, 1) := by decide +kernel
theorem dX6_bringBack_34 : decode cX6_bringBack 34 = .ok (.getfield 17, 3) := by decide +kernel
theorem dX6_bringBack_37 : decode cX6_bringBack 37 = .ok (.iload_n 1, 1) := by decide +kernel
theorem dX6_bringBack_38 : decode cX6_bringBack 38 = .ok (.isub, 1) := by decide +kernel
theorem dX6_bringBack_39 : decode cX6_bringBack 39 = .ok (.bipush 30, 2) := by decide +kernel
theorem dX6_bringBack_41 : decode cX6_bringBack 41 = .ok (.iadd, 1) := by decide +kernel
theorem dX6_bringBack_42 : decode cX6_bringBack 42 = .ok (.putfield 17, 3) := by decide +kernel
theorem dX6_bringBack_45 : decode cX6_bringBack 45 = .ok (.aload_n 0, 1) := by decide +kernel
theorem dX6_bringBack_46 : decode cX6_bringBack 46 = .ok (.dup, 1) := by decide +kernel
theorem dX6_bringBack_47 : decode cX6_bringBack 47 = .ok (.getfield 21, 3) := by decide +kernel
theorem dX6_bringBack_50 : decode cX6_bringBack 50 = .ok (.iload_n 1, 1) := by decide +kernel
theorem dX6_bringBack_51 : decode cX6_bringBack 51 = .ok (.isub, 1) := by decide +kernel
theorem dX6_bringBack_52 : decode cX6_bringBack 52 = .ok (.putfield 21, 3) := by decide +kernel
theorem dX6_bringBack_55 : decode cX6_bringBack 55 = .ok (.aload_n 2, 1) := by decide +kernel
theorem dX6_bringBack_56 : decode cX6_bringBack 56 = .ok (.aload_n 0, 1) := by decide +kernel
theorem dX6_bringBack_57 : decode cX6_bringBack 57 = .ok (.getfield 11, 3) := by decide +kernel
theorem dX6_bringBack_60 : decode cX6_bringBack 60 = .ok (.aload_n 0, 1) := by decide +kernel
theorem dX6_bringBack_61 : decode cX6_bringBack 61 = .ok (.getfield 17, 3) := by decide +kernel
theorem dX6_bringBack_64 : decode cX6_bringBack 64 = .ok (.aaload, 1) := by decide +kernel
theorem dX6_bringBack_65 : decode cX6_bringBack 65 = .ok (.invokevirtual 25, 3) := by decide +kernel
theorem dX6_bringBack_68 : decode cX6_bringBack 68 = .ok (.iconst 1, 1) := by decide +kernel
theorem dX6_bringBack_69 : decode cX6_bringBack 69 = .ok (.ireturn, 1) := by decide +kernel
set_option maxRecDepth 4000 in
set_option maxHeartbeats 4000000 in
theorem m_X6_bringBack (l : Launch) (g : qGm) (M : qMem) (hp : 0 ≤ M 26 0 1 ∧ M 26 0 1 < 30) (hs : 0 ≤ M 26 0 2 ∧ M 26 0 2 ≤ 30) {n : Int} (hnn : qIn n) : qOk l g 3 yX6_bringBack cX6_bringBack 3 (some .boolean) [qR g 26 0, qI n, qR g 10 0] M (qEv (some (qB (1 ≤ n ∧ n ≤ M 26 0 2))) (if 1 ≤ n ∧ n ≤ M 26 0 2 then xBack M n else M)) := by
  refine q_ok (by decide +kernel) (Nat.le_of_ble_eq_true rfl) (fun X C' hn => ?_)
  have C := C'.1
  refine q_iloadn C dX6_bringBack_0 rfl ?_
  refine q_iconst C dX6_bringBack_1 ?_
  refine q_icmp_lt C 13 dX6_bringBack_2 (by decide) (by first | assumption | omega | exact q_tin _ | exact q_bIn _) (by first | assumption | omega | exact q_tin _ | exact q_bIn _) (fun h2 => ?_) (fun h2 => ?_)
  · refine q_iconst C dX6_bringBack_13 ?_
    refine q_zret C' dX6_bringBack_14 (by first | omega | exact q_b01 _ | simp) ?_
    refine ⟨congrArg some ?_, ?_⟩
    · first | (rw [q_bT (by omega)]; done) | (rw [q_bF (by omega)]; done)
    · first | (rw [if_neg (by omega)]; done) | (rw [if_pos (by omega)]; unfold xBack xPos; first | (rw [if_pos (by omega)]; done) | (rw [if_neg (by omega)]; done))
  · refine q_iloadn C dX6_bringBack_5 rfl ?_
    refine q_aloadn C dX6_bringBack_6 rfl ?_
    refine gf_RX6_21 C dX6_bringBack_7 (fun r7 => ?_)
    refine q_icmp_le C 15 dX6_bringBack_10 (by decide) (by first | assumption | omega | exact q_tin _ | exact q_bIn _) (by first | assumption | omega | exact q_tin _ | exact q_bIn _) (fun h10 => ?_) (fun h10 => ?_)
    · refine q_aloadn C dX6_bringBack_15 rfl ?_
      refine q_aloadn C dX6_bringBack_16 rfl ?_
      refine gf_RX6_17 C dX6_bringBack_17 (fun r17 => ?_)
      refine q_iloadn C dX6_bringBack_20 rfl ?_
      refine q_icmp_lt C 33 dX6_bringBack_21 (by decide) (by first | assumption | omega | exact q_tin _ | exact q_bIn _) (by first | assumption | omega | exact q_tin _ | exact q_bIn _) (fun h21 => ?_) (fun h21 => ?_)
      · refine q_aloadn C dX6_bringBack_33 rfl ?_
        refine gf_RX6_17 C dX6_bringBack_34 (fun r34 => ?_)
        refine q_iloadn C dX6_bringBack_37 rfl ?_
        refine q_isub C dX6_bringBack_38 ?_
        refine q_bipush C dX6_bringBack_39 (by decide) ?_
        refine q_iadd C dX6_bringBack_41 ?_
        refine pf_RX6_17 C (by first | assumption | omega | exact q_tin _ | exact q_bIn _) dX6_bringBack_42 ?_
        refine q_aloadn C dX6_bringBack_45 rfl ?_
        refine q_dup C dX6_bringBack_46 rfl ?_
        refine gf_RX6_21 C dX6_bringBack_47 (fun r47 => ?_)
        try simp only [q_rd, q_rdS, ↓reduceIte, if_true, if_false, eq_self, Nat.reduceEqDiff, Int.reduceEq, Int.reduceNeg, reduceCtorEq] at r47 ⊢
        refine q_iloadn C dX6_bringBack_50 rfl ?_
        refine q_isub C dX6_bringBack_51 ?_
        refine pf_RX6_21 C (by first | assumption | omega | exact q_tin _ | exact q_bIn _) dX6_bringBack_52 ?_
        refine q_aloadn C dX6_bringBack_55 rfl ?_
        refine q_aloadn C dX6_bringBack_56 rfl ?_
        refine gf_RX6_11 C dX6_bringBack_57 ?_
        refine q_aloadn C dX6_bringBack_60 rfl ?_
        refine gf_RX6_17 C dX6_bringBack_61 (fun r61 => ?_)
        try simp only [q_rd, q_rdS, ↓reduceIte, if_true, if_false, eq_self, Nat.reduceEqDiff, Int.reduceEq, Int.reduceNeg, reduceCtorEq] at r61 ⊢
        refine q_aald C dX6_bringBack_64 (by omega) (by omega) ?_
        refine cv_RX6_25 C (by decide) (by first | assumption | decide | omega) (m_X2_become l g _ (by decide) (by omega) (by omega)) dX6_bringBack_65 (Nat.le_of_ble_eq_true rfl) ?_
        refine q_iconst C dX6_bringBack_68 ?_
        refine q_zret C' dX6_bringBack_69 (by first | omega | exact q_b01 _ | simp) ?_
        refine ⟨congrArg some ?_, ?_⟩
        · first | (rw [q_bT (by omega)]; done) | (rw [q_bF (by omega)]; done)
        · first | (rw [if_neg (by omega)]; done) | (rw [if_pos (by omega)]; unfold xBack xPos; first | (rw [if_pos (by omega)]; done) | (rw [if_neg (by omega)]; done))
      · refine q_aloadn C dX6_bringBack_24 rfl ?_
        refine gf_RX6_17 C dX6_bringBack_25 (fun r25 => ?_)
        refine q_iloadn C dX6_bringBack_28 rfl ?_
        refine q_isub C dX6_bringBack_29 ?_
        refine q_goto C (tgt := 42) dX6_bringBack_30 (by decide) ?_
        refine pf_RX6_17 C (by first | assumption | omega | exact q_tin _ | exact q_bIn _) dX6_bringBack_42 ?_
        refine q_aloadn C dX6_bringBack_45 rfl ?_
        refine q_dup C dX6_bringBack_46 rfl ?_
        refine gf_RX6_21 C dX6_bringBack_47 (fun r47 => ?_)
        try simp only [q_rd, q_rdS, ↓reduceIte, if_true, if_false, eq_self, Nat.reduceEqDiff, Int.reduceEq, Int.reduceNeg, reduceCtorEq] at r47 ⊢
        refine q_iloadn C dX6_bringBack_50 rfl ?_
        refine q_isub C dX6_bringBack_51 ?_
        refine pf_RX6_21 C (by first | assumption | omega | exact q_tin _ | exact q_bIn _) dX6_bringBack_52 ?_
        refine q_aloadn C dX6_bringBack_55 rfl ?_
        refine q_aloadn C dX6_bringBack_56 rfl ?_
        refine gf_RX6_11 C dX6_bringBack_57 ?_
        refine q_aloadn C dX6_bringBack_60 rfl ?_
        refine gf_RX6_17 C dX6_bringBack_61 (fun r61 => ?_)
        try simp only [q_rd, q_rdS, ↓reduceIte, if_true, if_false, eq_self, Nat.reduceEqDiff, Int.reduceEq, Int.reduceNeg, reduceCtorEq] at r61 ⊢
        refine q_aald C dX6_bringBack_64 (by omega) (by omega) ?_
        refine cv_RX6_25 C (by decide) (by first | assumption | decide | omega) (m_X2_become l g _ (by decide) (by omega) (by omega)) dX6_bringBack_65 (Nat.le_of_ble_eq_true rfl) ?_
        refine q_iconst C dX6_bringBack_68 ?_
        refine q_zret C' dX6_bringBack_69 (by first | omega | exact q_b01 _ | simp) ?_
        refine ⟨congrArg some ?_, ?_⟩
        · first | (rw [q_bT (by omega)]; done) | (rw [q_bF (by omega)]; done)
        · first | (rw [if_neg (by omega)]; done) | (rw [if_pos (by omega)]; unfold xBack xPos; first | (rw [if_pos (by omega)]; done) | (rw [if_neg (by omega)]; done))
    · refine q_iconst C dX6_bringBack_13 ?_
      refine q_zret C' dX6_bringBack_14 (by first | omega | exact q_b01 _ | simp) ?_
      refine ⟨congrArg some ?_, ?_⟩
      · first | (rw [q_bT (by omega)]; done) | (rw [q_bF (by omega)]; done)
      · first | (rw [if_neg (by omega)]; done) | (rw [if_pos (by omega)]; unfold xBack xPos; first | (rw [if_pos (by omega)]; done) | (rw [if_neg (by omega)]; done))
theorem dX6_forget_0 : decode cX6_forget 0 = .ok (.aload_n 0, 1) := by decide +kernel
theorem dX6_forget_1 : decode cX6_forget 1 = .ok (.iconst 0, 1) := by decide +kernel
theorem dX6_forget_2 : decode cX6_forget 2 = .ok (.putfield 21, 3) := by decide +kernel
theorem dX6_forget_5 : decode cX6_forget 5 = .ok (.return_, 1) := by decide +kernel
set_option maxRecDepth 4000 in
set_option maxHeartbeats 4000000 in
theorem m_X6_forget (l : Launch) (g : qGm) (M : qMem) : qOk l g 1 yX6_forget cX6_forget 1 none [qR g 26 0] M (qEv none (qUp M 26 0 2 0)) := by
  refine q_ok (by decide +kernel) (Nat.le_of_ble_eq_true rfl) (fun X C' hn => ?_)
  have C := C'.1
  refine q_aloadn C dX6_forget_0 rfl ?_
  refine q_iconst C dX6_forget_1 ?_
  refine pf_RX6_21 C (by first | assumption | omega | exact q_tin _ | exact q_bIn _) dX6_forget_2 ?_
  refine q_vret C' dX6_forget_5 ?_
  exact ⟨rfl, rfl⟩
