theorem dX11_drift_0 : decode cX11_drift 0 = .ok (.aload_n 0, 1) := by decide +kernel
theorem dX11_drift_1 : decode cX11_drift 1 = .ok (.iload_n 1, 1) := by decide +kernel
theorem dX11_drift_2 : decode cX11_drift 2 = .ok (.invokevirtual 235, 3) := by decide +kernel
theorem dX11_drift_5 : decode cX11_drift 5 = .ok (.istore_n 2, 1) := by decide +kernel
theorem dX11_drift_6 : decode cX11_drift 6 = .ok (.iload_n 2, 1) := by decide +kernel
theorem dX11_drift_7 : decode cX11_drift 7 = .ok (.ifCond .eq 5, 3) := by decide +kernel
theorem dX11_drift_10 : decode cX11_drift 10 = .ok (.iload_n 2, 1) := by decide +kernel
theorem dX11_drift_11 : decode cX11_drift 11 = .ok (.ireturn, 1) := by decide +kernel
theorem dX11_drift_12 : decode cX11_drift 12 = .ok (.iconst 0, 1) := by decide +kernel
theorem dX11_drift_13 : decode cX11_drift 13 = .ok (.istore_n 3, 1) := by decide +kernel
theorem dX11_drift_14 : decode cX11_drift 14 = .ok (.iload_n 3, 1) := by decide +kernel
theorem dX11_drift_15 : decode cX11_drift 15 = .ok (.iload_n 1, 1) := by decide +kernel
theorem dX11_drift_16 : decode cX11_drift 16 = .ok (.if_icmp .ge 42, 3) := by decide +kernel
theorem dX11_drift_19 : decode cX11_drift 19 = .ok (.aload_n 0, 1) := by decide +kernel
theorem dX11_drift_20 : decode cX11_drift 20 = .ok (.getfield 54, 3) := by decide +kernel
theorem dX11_drift_23 : decode cX11_drift 23 = .ok (.aload_n 0, 1) := by decide +kernel
theorem dX11_drift_24 : decode cX11_drift 24 = .ok (.getfield 34, 3) := by decide +kernel
theorem dX11_drift_27 : decode cX11_drift 27 = .ok (.invokevirtual 227, 3) := by decide +kernel
theorem dX11_drift_30 : decode cX11_drift 30 = .ok (.aload_n 0, 1) := by decide +kernel
theorem dX11_drift_31 : decode cX11_drift 31 = .ok (.invokevirtual 249, 3) := by decide +kernel
theorem dX11_drift_34 : decode cX11_drift 34 = .ok (.aload_n 0, 1) := by decide +kernel
theorem dX11_drift_35 : decode cX11_drift 35 = .ok (.invokevirtual 249, 3) := by decide +kernel
theorem dX11_drift_38 : decode cX11_drift 38 = .ok (.aload_n 0, 1) := by decide +kernel
theorem dX11_drift_39 : decode cX11_drift 39 = .ok (.getfield 34, 3) := by decide +kernel
theorem dX11_drift_42 : decode cX11_drift 42 = .ok (.aload_n 0, 1) := by decide +kernel
theorem dX11_drift_43 : decode cX11_drift 43 = .ok (.getfield 31, 3) := by decide +kernel
theorem dX11_drift_46 : decode cX11_drift 46 = .ok (.getfield 131, 3) := by decide +kernel
theorem dX11_drift_49 : decode cX11_drift 49 = .ok (.invokevirtual 238, 3) := by decide +kernel
theorem dX11_drift_52 : decode cX11_drift 52 = .ok (.iinc 3 1, 3) := by decide +kernel
theorem dX11_drift_55 : decode cX11_drift 55 = .ok (.goto (-41), 3) := by decide +kernel
theorem dX11_drift_58 : decode cX11_drift 58 = .ok (.aload_n 0, 1) := by decide +kernel
theorem dX11_drift_59 : decode cX11_drift 59 = .ok (.getfield 34, 3) := by decide +kernel
theorem dX11_drift_62 : decode cX11_drift 62 = .ok (.getfield 134, 3) := by decide +kernel
theorem dX11_drift_65 : decode cX11_drift 65 = .ok (.ireturn, 1) := by decide +kernel
set_option maxRecDepth 4000 in
set_option maxHeartbeats 4000000 in
theorem m_X11_drift (l : Launch) (g : qGm) (M : qMem) {sd : sSD} (hs : sRS sd) (hS : xS M sd) {Z : sZ} (hZ : xZ M (sd 4 0) (sd 5 0) Z) {k : Int} (hkq : qIn k) : qOk l g 7 yX11_drift cX11_drift 4 (some .int) [qR g 0 0, qI k] M (fun r N => xD M sd (dDrift sd Z k) r N) := by
  refine q_ok (by decide +kernel) (Nat.le_of_ble_eq_true rfl) (fun X C' hn => ?_)
  have C := C'.1
  have hm6 := hs.2.1
  have hn6 := hs.2.2.1
  have w0 := hS.1
  have w1 := hS.2.1
  have w2 := hS.2.2.1
  have y1 := hZ.1.1
  have y2 := hZ.1.2
  have y3 := hZ.2.1
  have y4 := hZ.2.2.1
  have y5 := hZ.2.2.2.2
  have yd := y1.1
  have ye := dNo_in sd Z k
  refine q_aloadn C dX11_drift_0 rfl ?_
  refine q_iloadn C dX11_drift_1 rfl ?_
  refine cv_RX11_235 C (by decide) (m_X11_refusalOfDays l g _ hs hS hZ hkq) dX11_drift_2 (Nat.le_of_ble_eq_true rfl) (fun r2 => ?_)
  refine q_istoren C dX11_drift_5 hn (by decide) rfl ?_
  refine q_iloadn C dX11_drift_6 rfl ?_
  refine q_if_eq C 12 dX11_drift_7 (by decide) (by first | assumption | omega | exact q_tin _ | exact q_bIn _) (fun h7 => ?_) (fun h7 => ?_)
  · refine q_iconst C dX11_drift_12 ?_
    have hd0 := dNo_0 (show dNo sd Z k = 0 by omega)
    refine q_istoren C dX11_drift_13 hn (by decide) rfl ?_
    have L14 : ∀ (n14 : Nat) (i : Int) (N : qMem), k - i < (n14 : Int) → (0 ≤ i) → (i ≤ k) → (xZ N (sd 4 0) (sd 5 0) (zDrift sd Z i.toNat)) → (xDP M N) → qV l g X N 14 [(0, qR g 0 0), (1, qI k), (3, qI i)] [] := by
      intro n14
      induction n14 with
      | zero => intro i N hm14 i0 i1 kz kd; exfalso; first | omega | (simp at *; omega)
      | succ n14 ih14 =>
        intro i N hm14 i0 i1 kz kd
        have vS := kd.xS hS
        have v2 := vS.2.2.1
        have x1 := kz.1.1
        have x2 := kz.1.2
        have x3 := kz.2.1
        have x4 := kz.2.2.1
        have x0 := x1.1
        have xz := zDrift_0 sd Z i.toNat
        obtain ⟨kr, dr⟩ := xZ_rem kz
        refine q_iloadn C dX11_drift_14 rfl ?_
        refine q_iloadn C dX11_drift_15 rfl ?_
        refine q_icmp_ge C 58 dX11_drift_16 (by decide) (by first | assumption | omega | exact q_tin _ | exact q_bIn _) (by first | assumption | omega | exact q_tin _ | exact q_bIn _) (fun h16 => ?_) (fun h16 => ?_)
        · refine q_aloadn C dX11_drift_58 rfl ?_
          refine gf_RX11_34 C dX11_drift_59 ?_
          refine gf_RX11_134 C (by decide) dX11_drift_62 (fun r62 => ?_)
          refine q_iret C' dX11_drift_65 (by first | assumption | omega | exact q_tin _ | exact q_bIn _) ?_
          have ei : i = k := (by omega)
          refine ⟨congrArg some ?_, ?_, kd⟩
          · unfold dDrift; rw [if_pos (by omega), x0, xz, ei]; omega
          · unfold dDrift; rw [if_pos (by omega), ← ei]; exact kz
        · refine q_aloadn C dX11_drift_19 rfl ?_
          refine gf_RX11_54 C dX11_drift_20 ?_
          refine q_aloadn C dX11_drift_23 rfl ?_
          refine gf_RX11_34 C dX11_drift_24 ?_
          refine cv_RX11_227 C (by decide) (m_X6_remember l g _ (by omega) (by omega)) dX11_drift_27 (Nat.le_of_ble_eq_true rfl) ?_
          refine q_aloadn C dX11_drift_30 rfl ?_
          refine cw_RX11_249 C (by decide) (m_X11_layByDraws l g _ hs (dr.xS vS) kr) dX11_drift_31 (Nat.le_of_ble_eq_true rfl) (fun r N1 hz hp => ?_)
          obtain ⟨rfl, k1, d1⟩ := hp
          show qV l g X _ _ _ []
          refine q_aloadn C dX11_drift_34 rfl ?_
          refine cw_RX11_249 C (by decide) (m_X11_layByDraws l g _ hs (d1.xS (dr.xS vS)) k1) dX11_drift_35 (Nat.le_of_ble_eq_true rfl) (fun r N2 hz hp => ?_)
          obtain ⟨rfl, k2, d2⟩ := hp
          show qV l g X _ _ _ []
          refine q_aloadn C dX11_drift_38 rfl ?_
          refine gf_RX11_34 C dX11_drift_39 ?_
          refine q_aloadn C dX11_drift_42 rfl ?_
          refine gf_RX11_31 C dX11_drift_43 ?_
          refine gf_RX11_131 C (by decide) dX11_drift_46 (fun r46 => ?_)
          try simp only [q_rd, q_rdS, ↓reduceIte, if_true, if_false, eq_self, Nat.reduceEqDiff, Int.reduceEq, Int.reduceNeg, reduceCtorEq] at r46 ⊢
          rw [show N2 3 1 2 = sd 5 0 from (d2.xS (d1.xS (dr.xS vS))).2.2.1]
          refine cv_RX11_238 C (by decide) (by decide) (m_X2_endDay l g _ (by decide) (by omega) (by rw [k2.1.1.2.1]; exact k2.1.2.2.1) (fun h a1 a2 => by rw [k2.1.1.2.2.1 h a1 (by omega)]; exact k2.1.2.2.2.1 h a1 (by omega)) (by rw [k2.1.1.1]; exact k2.1.2.1)) dX11_drift_49 (Nat.le_of_ble_eq_true rfl) ?_
          refine q_iinc C dX11_drift_52 rfl hn (by decide) rfl ?_
          refine q_goto C (tgt := 14) dX11_drift_55 (by decide) ?_
          exact q_ls (by exact ⟨rfl, rfl, rfl, trivial⟩) (ih14 _ (xDay N2 0 (sd 5 0)) (by omega) (by omega) (by omega) (by rw [show (i + 1).toNat = i.toNat + 1 by omega, zDrift]; exact (xZ_day k2 (by omega) (by omega) (by rw [zLbd_0, zLbd_0, zRem_r]; omega)).1) (by exact ((((kd.tr dr).tr d1).tr d2)).tr (xZ_day k2 (by omega) (by omega) (by rw [zLbd_0, zLbd_0, zRem_r]; omega)).2))
    exact q_ls (by exact ⟨rfl, rfl, rfl, trivial⟩) (L14 1000 _ M (by omega) (by omega) (by omega) (by exact hZ) (by exact xDP.rf))
  · refine q_iloadn C dX11_drift_10 rfl ?_
    refine q_iret C' dX11_drift_11 (by first | assumption | omega | exact q_tin _ | exact q_bIn _) ?_
    refine ⟨congrArg some ?_, ?_, xDP.rf⟩
    · unfold dDrift; rw [if_neg (by omega)]
    · unfold dDrift; rw [if_neg (by omega)]; exact hZ
def dFeed (L x : Int) : Int := if 0 ≤ x ∧ x ≤ 255 then (if L < 240 then L + 1 else -1000000004) else -1000000002
def xFeed (M : qMem) (x : Int) : qMem := if (0 ≤ x ∧ x ≤ 255) ∧ M 1 0 2 < 240 then qUp (qUp M 2 0 (M 1 0 2) x) 1 0 2 (M 1 0 2 + 1) else M
def dMeant (k p x : Int) : Int := if (0 ≤ p ∧ p ≤ 4) ∧ (0 ≤ x ∧ x ≤ (if p = 4 then 2 else 1)) then (if k < 6 then k + 1 else -1000000004) else -1000000002
def xMeant (M : qMem) (p x : Int) : qMem := if ((0 ≤ p ∧ p ≤ 4) ∧ (0 ≤ x ∧ x ≤ (if p = 4 then 2 else 1))) ∧ M 29 0 2 < 6 then qUp (qUp (qUp M 30 0 (M 29 0 2) p) 31 0 (M 29 0 2) x) 29 0 2 (M 29 0 2 + 1) else M
def dWrite (n k h x : Int) : Int := if 0 ≤ h ∧ h < n then (if 0 ≤ x ∧ x ≤ 40 then (if k < 20 then k + 1 else -1000000004) else -1000000002) else -1000000001
def xWrite (n : Int) (M : qMem) (h x : Int) : qMem := if ((0 ≤ h ∧ h < n) ∧ (0 ≤ x ∧ x ≤ 40)) ∧ M 32 0 2 < 20 then qUp (qUp (qUp M 33 0 (M 32 0 2) h) 34 0 (M 32 0 2) x) 32 0 2 (M 32 0 2 + 1) else M
theorem dX11_feed_0 : decode cX11_feed 0 = .ok (.iload_n 1, 1) := by decide +kernel
theorem dX11_feed_1 : decode cX11_feed 1 = .ok (.sipush 255, 3) := by decide +kernel
theorem dX11_feed_4 : decode cX11_feed 4 = .ok (.invokestatic 86, 3) := by decide +kernel
theorem dX11_feed_7 : decode cX11_feed 7 = .ok (.ifCond .ne 6, 3) := by decide +kernel
theorem dX11_feed_10 : decode cX11_feed 10 = .ok (.ldc 90, 2) := by decide +kernel
theorem dX11_feed_12 : decode cX11_feed 12 = .ok (.ireturn, 1) := by decide +kernel
theorem dX11_feed_13 : decode cX11_feed 13 = .ok (.aload_n 0, 1) := by decide +kernel
theorem dX11_feed_14 : decode cX11_feed 14 = .ok (.getfield 21, 3) := by decide +kernel
theorem dX11_feed_17 : decode cX11_feed 17 = .ok (.iload_n 1, 1) := by decide +kernel
theorem dX11_feed_18 : decode cX11_feed 18 = .ok (.invokevirtual 91, 3) := by decide +kernel
theorem dX11_feed_21 : decode cX11_feed 21 = .ok (.ifCond .eq 13, 3) := by decide +kernel
theorem dX11_feed_24 : decode cX11_feed 24 = .ok (.aload_n 0, 1) := by decide +kernel
theorem dX11_feed_25 : decode cX11_feed 25 = .ok (.getfield 21, 3) := by decide +kernel
theorem dX11_feed_28 : decode cX11_feed 28 = .ok (.getfield 95, 3) := by decide +kernel
theorem dX11_feed_31 : decode cX11_feed 31 = .ok (.goto 5, 3) := by decide +kernel
theorem dX11_feed_34 : decode cX11_feed 34 = .ok (.ldc 98, 2) := by decide +kernel
theorem dX11_feed_36 : decode cX11_feed 36 = .ok (.ireturn, 1) := by decide +kernel
set_option maxRecDepth 4000 in
set_option maxHeartbeats 4000000 in
theorem m_X11_feed (l : Launch) (g : qGm) (M : qMem) (hL : 0 ≤ M 1 0 2 ∧ M 1 0 2 ≤ 240) {x : Int} (hxq : qIn x) : qOk l g 2 yX11_feed cX11_feed 2 (some .int) [qR g 0 0, qI x] M (qEv (some (dFeed (M 1 0 2) x)) (xFeed M x)) := by
  refine q_ok (by decide +kernel) (Nat.le_of_ble_eq_true rfl) (fun X C' hn => ?_)
  have C := C'.1
  refine q_iloadn C dX11_feed_0 rfl ?_
  refine q_sipush C dX11_feed_1 (by decide) ?_
  refine cv_RX11_86 C (by decide) (m_X11_isWithin l g _ (by assumption) (by omega)) dX11_feed_4 (Nat.le_of_ble_eq_true rfl) (fun r4 => ?_)
  refine q_ifneB C 13 dX11_feed_7 (by decide) (fun h7 => ?_) (fun h7 => ?_)
  · refine q_aloadn C dX11_feed_13 rfl ?_
    refine gf_RX11_21 C dX11_feed_14 ?_
    refine q_iloadn C dX11_feed_17 rfl ?_
    refine cv_RX11_91 C (by decide) (m_X9_append l g _ hxq hL) dX11_feed_18 (Nat.le_of_ble_eq_true rfl) (fun r18 => ?_)
    refine q_ifeqB C 34 dX11_feed_21 (by decide) (fun h21 => ?_) (fun h21 => ?_)
    · rw [if_neg (show ¬ M 1 0 2 < 240 by omega)]
      refine q_ldc C (z := -1000000004) q_ci_RX11_98 (by decide) dX11_feed_34 ?_
      refine q_iret C' dX11_feed_36 (by first | assumption | omega | exact q_tin _ | exact q_bIn _) ?_
      refine ⟨congrArg some ?_, ?_⟩
      · unfold dFeed
        first | (rw [if_neg (by omega)]; done) | (rw [if_pos (by omega), if_neg (by omega)]; done) | (rw [if_pos (by omega), if_pos (by omega)]; done) | (rw [if_pos (by omega), if_pos (by omega), if_pos (by omega)]; done) | (rw [if_pos (by omega), if_pos (by omega), if_neg (by omega)]; done)
      · unfold xFeed
        first | (rw [if_pos (by omega)]; done) | (rw [if_neg (by omega)]; done)
    · rw [if_pos (show M 1 0 2 < 240 by omega)]
      refine q_aloadn C dX11_feed_24 rfl ?_
      refine gf_RX11_21 C dX11_feed_25 ?_
      refine gf_RX11_95 C dX11_feed_28 (fun r28 => ?_)
      try simp only [q_rd, q_rdS, ↓reduceIte, if_true, if_false, eq_self, Nat.reduceEqDiff, Int.reduceEq, Int.reduceNeg, reduceCtorEq] at r28 ⊢
      refine q_goto C (tgt := 36) dX11_feed_31 (by decide) ?_
      refine q_iret C' dX11_feed_36 (by first | assumption | omega | exact q_tin _ | exact q_bIn _) ?_
      refine ⟨congrArg some ?_, ?_⟩
      · unfold dFeed
        first | (rw [if_neg (by omega)]; done) | (rw [if_pos (by omega), if_neg (by omega)]; done) | (rw [if_pos (by omega), if_pos (by omega)]; done) | (rw [if_pos (by omega), if_pos (by omega), if_pos (by omega)]; done) | (rw [if_pos (by omega), if_pos (by omega), if_neg (by omega)]; done)
      · unfold xFeed
        first | (rw [if_pos (by omega)]; done) | (rw [if_neg (by omega)]; done)
  · refine q_ldc C (z := -1000000002) q_ci_RX11_90 (by decide) dX11_feed_10 ?_
    refine q_iret C' dX11_feed_12 (by first | assumption | omega | exact q_tin _ | exact q_bIn _) ?_
    refine ⟨congrArg some ?_, ?_⟩
    · unfold dFeed
      first | (rw [if_neg (by omega)]; done) | (rw [if_pos (by omega), if_neg (by omega)]; done) | (rw [if_pos (by omega), if_pos (by omega)]; done) | (rw [if_pos (by omega), if_pos (by omega), if_pos (by omega)]; done) | (rw [if_pos (by omega), if_pos (by omega), if_neg (by omega)]; done)
    · unfold xFeed
      first | (rw [if_pos (by omega)]; done) | (rw [if_neg (by omega)]; done)
theorem dX11_meant_0 : decode cX11_meant 0 = .ok (.iload_n 1, 1) := by decide +kernel
theorem dX11_meant_1 : decode cX11_meant 1 = .ok (.iconst 4, 1) := by decide +kernel
theorem dX11_meant_2 : decode cX11_meant 2 = .ok (.invokestatic 86, 3) := by decide +kernel
theorem dX11_meant_5 : decode cX11_meant 5 = .ok (.ifCond .eq 20, 3) := by decide +kernel
theorem dX11_meant_8 : decode cX11_meant 8 = .ok (.iload_n 2, 1) := by decide +kernel
theorem dX11_meant_9 : decode cX11_meant 9 = .ok (.iload_n 1, 1) := by decide +kernel
theorem dX11_meant_10 : decode cX11_meant 10 = .ok (.iconst 4, 1) := by decide +kernel
theorem dX11_meant_11 : decode cX11_meant 11 = .ok (.if_icmp .ne 7, 3) := by decide +kernel
theorem dX11_meant_14 : decode cX11_meant 14 = .ok (.iconst 2, 1) := by decide +kernel
theorem dX11_meant_15 : decode cX11_meant 15 = .ok (.goto 4, 3) := by decide +kernel
theorem dX11_meant_18 : decode cX11_meant 18 = .ok (.iconst 1, 1) := by decide +kernel
theorem dX11_meant_19 : decode cX11_meant 19 = .ok (.invokestatic 86, 3) := by decide +kernel
theorem dX11_meant_22 : decode cX11_meant 22 = .ok (.ifCond .ne 6, 3) := by decide +kernel
theorem dX11_meant_25 : decode cX11_meant 25 = .ok (.ldc 90, 2) := by decide +kernel
theorem dX11_meant_27 : decode cX11_meant 27 = .ok (.ireturn, 1) := by decide +kernel
theorem dX11_meant_28 : decode cX11_meant 28 = .ok (.aload_n 0, 1) := by decide +kernel
theorem dX11_meant_29 : decode cX11_meant 29 = .ok (.getfield 71, 3) := by decide +kernel
theorem dX11_meant_32 : decode cX11_meant 32 = .ok (.iload_n 1, 1) := by decide +kernel
theorem dX11_meant_33 : decode cX11_meant 33 = .ok (.iload_n 2, 1) := by decide +kernel
theorem dX11_meant_34 : decode cX11_meant 34 = .ok (.invokevirtual 298, 3) := by decide +kernel
theorem dX11_meant_37 : decode cX11_meant 37 = .ok (.ifCond .eq 13, 3) := by decide +kernel
theorem dX11_meant_40 : decode cX11_meant 40 = .ok (.aload_n 0, 1) := by decide +kernel
theorem dX11_meant_41 : decode cX11_meant 41 = .ok (.getfield 71, 3) := by decide +kernel
theorem dX11_meant_44 : decode cX11_meant 44 = .ok (.getfield 163, 3) := by decide +kernel
theorem dX11_meant_47 : decode cX11_meant 47 = .ok (.goto 5, 3) := by decide +kernel
theorem dX11_meant_50 : decode cX11_meant 50 = .ok (.ldc 98, 2) := by decide +kernel
theorem dX11_meant_52 : decode cX11_meant 52 = .ok (.ireturn, 1) := by decide +kernel
set_option maxRecDepth 4000 in
set_option maxHeartbeats 4000000 in
theorem m_X11_meant (l : Launch) (g : qGm) (M : qMem) (hL : 0 ≤ M 29 0 2 ∧ M 29 0 2 ≤ 6) {p : Int} (hpq : qIn p) {x : Int} (hxq : qIn x) : qOk l g 2 yX11_meant cX11_meant 3 (some .int) [qR g 0 0, qI p, qI x] M (qEv (some (dMeant (M 29 0 2) p x)) (xMeant M p x)) := by
  refine q_ok (by decide +kernel) (Nat.le_of_ble_eq_true rfl) (fun X C' hn => ?_)
  have C := C'.1
  have hpq4 : (if p = 4 then (2 : Int) else 1) = 2 ∧ p = 4 ∨ (if p = 4 then (2 : Int) else 1) = 1 ∧ p ≠ 4 := by by_cases e : p = 4 <;> simp [e]
  refine q_iloadn C dX11_meant_0 rfl ?_
  refine q_iconst C dX11_meant_1 ?_
  refine cv_RX11_86 C (by decide) (m_X11_isWithin l g _ (by assumption) (by omega)) dX11_meant_2 (Nat.le_of_ble_eq_true rfl) (fun r2 => ?_)
  refine q_ifeqB C 25 dX11_meant_5 (by decide) (fun h5 => ?_) (fun h5 => ?_)
  · refine q_ldc C (z := -1000000002) q_ci_RX11_90 (by decide) dX11_meant_25 ?_
    refine q_iret C' dX11_meant_27 (by first | assumption | omega | exact q_tin _ | exact q_bIn _) ?_
    refine ⟨congrArg some ?_, ?_⟩
    · unfold dMeant
      first | (rw [if_neg (by omega)]; done) | (rw [if_pos (by omega), if_neg (by omega)]; done) | (rw [if_pos (by omega), if_pos (by omega)]; done) | (rw [if_pos (by omega), if_pos (by omega), if_pos (by omega)]; done) | (rw [if_pos (by omega), if_pos (by omega), if_neg (by omega)]; done)
    · unfold xMeant
      first | (rw [if_pos (by omega)]; done) | (rw [if_neg (by omega)]; done)
  · refine q_iloadn C dX11_meant_8 rfl ?_
    refine q_iloadn C dX11_meant_9 rfl ?_
    refine q_iconst C dX11_meant_10 ?_
    refine q_icmp_ne C 18 dX11_meant_11 (by decide) (by first | assumption | omega | exact q_tin _ | exact q_bIn _) (by first | assumption | omega | exact q_tin _ | exact q_bIn _) (fun h11 => ?_) (fun h11 => ?_)
    · refine q_iconst C dX11_meant_18 ?_
      refine cv_RX11_86 C (by decide) (m_X11_isWithin l g _ (by assumption) (by omega)) dX11_meant_19 (Nat.le_of_ble_eq_true rfl) (fun r19 => ?_)
      refine q_ifneB C 28 dX11_meant_22 (by decide) (fun h22 => ?_) (fun h22 => ?_)
      · refine q_aloadn C dX11_meant_28 rfl ?_
        refine gf_RX11_71 C dX11_meant_29 ?_
        refine q_iloadn C dX11_meant_32 rfl ?_
        refine q_iloadn C dX11_meant_33 rfl ?_
        refine cv_RX11_298 C (by decide) (m_X8_append l g _ hpq hxq hL) dX11_meant_34 (Nat.le_of_ble_eq_true rfl) (fun r34 => ?_)
        refine q_ifeqB C 50 dX11_meant_37 (by decide) (fun h37 => ?_) (fun h37 => ?_)
        · rw [if_neg (show ¬ M 29 0 2 < 6 by omega)]
          refine q_ldc C (z := -1000000004) q_ci_RX11_98 (by decide) dX11_meant_50 ?_
          refine q_iret C' dX11_meant_52 (by first | assumption | omega | exact q_tin _ | exact q_bIn _) ?_
          refine ⟨congrArg some ?_, ?_⟩
          · unfold dMeant
            first | (rw [if_neg (by omega)]; done) | (rw [if_pos (by omega), if_neg (by omega)]; done) | (rw [if_pos (by omega), if_pos (by omega)]; done) | (rw [if_pos (by omega), if_pos (by omega), if_pos (by omega)]; done) | (rw [if_pos (by omega), if_pos (by omega), if_neg (by omega)]; done)
          · unfold xMeant
            first | (rw [if_pos (by omega)]; done) | (rw [if_neg (by omega)]; done)
        · rw [if_pos (show M 29 0 2 < 6 by omega)]
          refine q_aloadn C dX11_meant_40 rfl ?_
          refine gf_RX11_71 C dX11_meant_41 ?_
          refine gf_RX11_163 C dX11_meant_44 (fun r44 => ?_)
          try simp only [q_rd, q_rdS, ↓reduceIte, if_true, if_false, eq_self, Nat.reduceEqDiff, Int.reduceEq, Int.reduceNeg, reduceCtorEq] at r44 ⊢
          refine q_goto C (tgt := 52) dX11_meant_47 (by decide) ?_
          refine q_iret C' dX11_meant_52 (by first | assumption | omega | exact q_tin _ | exact q_bIn _) ?_
          refine ⟨congrArg some ?_, ?_⟩
          · unfold dMeant
            first | (rw [if_neg (by omega)]; done) | (rw [if_pos (by omega), if_neg (by omega)]; done) | (rw [if_pos (by omega), if_pos (by omega)]; done) | (rw [if_pos (by omega), if_pos (by omega), if_pos (by omega)]; done) | (rw [if_pos (by omega), if_pos (by omega), if_neg (by omega)]; done)
          · unfold xMeant
            first | (rw [if_pos (by omega)]; done) | (rw [if_neg (by omega)]; done)
      · refine q_ldc C (z := -1000000002) q_ci_RX11_90 (by decide) dX11_meant_25 ?_
        refine q_iret C' dX11_meant_27 (by first | assumption | omega | exact q_tin _ | exact q_bIn _) ?_
        refine ⟨congrArg some ?_, ?_⟩
        · unfold dMeant
          first | (rw [if_neg (by omega)]; done) | (rw [if_pos (by omega), if_neg (by omega)]; done) | (rw [if_pos (by omega), if_pos (by omega)]; done) | (rw [if_pos (by omega), if_pos (by omega), if_pos (by omega)]; done) | (rw [if_pos (by omega), if_pos (by omega), if_neg (by omega)]; done)
        · unfold xMeant
          first | (rw [if_pos (by omega)]; done) | (rw [if_neg (by omega)]; done)
    · refine q_iconst C dX11_meant_14 ?_
      refine q_goto C (tgt := 19) dX11_meant_15 (by decide) ?_
      refine cv_RX11_86 C (by decide) (m_X11_isWithin l g _ (by assumption) (by omega)) dX11_meant_19 (Nat.le_of_ble_eq_true rfl) (fun r19 => ?_)
      refine q_ifneB C 28 dX11_meant_22 (by decide) (fun h22 => ?_) (fun h22 => ?_)
      · refine q_aloadn C dX11_meant_28 rfl ?_
        refine gf_RX11_71 C dX11_meant_29 ?_
        refine q_iloadn C dX11_meant_32 rfl ?_
        refine q_iloadn C dX11_meant_33 rfl ?_
        refine cv_RX11_298 C (by decide) (m_X8_append l g _ hpq hxq hL) dX11_meant_34 (Nat.le_of_ble_eq_true rfl) (fun r34 => ?_)
        refine q_ifeqB C 50 dX11_meant_37 (by decide) (fun h37 => ?_) (fun h37 => ?_)
        · rw [if_neg (show ¬ M 29 0 2 < 6 by omega)]
          refine q_ldc C (z := -1000000004) q_ci_RX11_98 (by decide) dX11_meant_50 ?_
          refine q_iret C' dX11_meant_52 (by first | assumption | omega | exact q_tin _ | exact q_bIn _) ?_
          refine ⟨congrArg some ?_, ?_⟩
          · unfold dMeant
            first | (rw [if_neg (by omega)]; done) | (rw [if_pos (by omega), if_neg (by omega)]; done) | (rw [if_pos (by omega), if_pos (by omega)]; done) | (rw [if_pos (by omega), if_pos (by omega), if_pos (by omega)]; done) | (rw [if_pos (by omega), if_pos (by omega), if_neg (by omega)]; done)
          · unfold xMeant
            first | (rw [if_pos (by omega)]; done) | (rw [if_neg (by omega)]; done)
        · rw [if_pos (show M 29 0 2 < 6 by omega)]
          refine q_aloadn C dX11_meant_40 rfl ?_
          refine gf_RX11_71 C dX11_meant_41 ?_
          refine gf_RX11_163 C dX11_meant_44 (fun r44 => ?_)
          try simp only [q_rd, q_rdS, ↓reduceIte, if_true, if_false, eq_self, Nat.reduceEqDiff, Int.reduceEq, Int.reduceNeg, reduceCtorEq] at r44 ⊢
          refine q_goto C (tgt := 52) dX11_meant_47 (by decide) ?_
          refine q_iret C' dX11_meant_52 (by first | assumption | omega | exact q_tin _ | exact q_bIn _) ?_
          refine ⟨congrArg some ?_, ?_⟩
          · unfold dMeant
            first | (rw [if_neg (by omega)]; done) | (rw [if_pos (by omega), if_neg (by omega)]; done) | (rw [if_pos (by omega), if_pos (by omega)]; done) | (rw [if_pos (by omega), if_pos (by omega), if_pos (by omega)]; done) | (rw [if_pos (by omega), if_pos (by omega), if_neg (by omega)]; done)
          · unfold xMeant
            first | (rw [if_pos (by omega)]; done) | (rw [if_neg (by omega)]; done)
      · refine q_ldc C (z := -1000000002) q_ci_RX11_90 (by decide) dX11_meant_25 ?_
        refine q_iret C' dX11_meant_27 (by first | assumption | omega | exact q_tin _ | exact q_bIn _) ?_
        refine ⟨congrArg some ?_, ?_⟩
        · unfold dMeant
          first | (rw [if_neg (by omega)]; done) | (rw [if_pos (by omega), if_neg (by omega)]; done) | (rw [if_pos (by omega), if_pos (by omega)]; done) | (rw [if_pos (by omega), if_pos (by omega), if_pos (by omega)]; done) | (rw [if_pos (by omega), if_pos (by omega), if_neg (by omega)]; done)
        · unfold xMeant
          first | (rw [if_pos (by omega)]; done) | (rw [if_neg (by omega)]; done)
theorem dX11_write_0 : decode cX11_write 0 = .ok (.aload_n 0, 1) := by decide +kernel
theorem dX11_write_1 : decode cX11_write 1 = .ok (.getfield 31, 3) := by decide +kernel
theorem dX11_write_4 : decode cX11_write 4 = .ok (.iload_n 1, 1) := by decide +kernel
theorem dX11_write_5 : decode cX11_write 5 = .ok (.invokevirtual 186, 3) := by decide +kernel
theorem dX11_write_8 : decode cX11_write 8 = .ok (.ifCond .ne 6, 3) := by decide +kernel
theorem dX11_write_11 : decode cX11_write 11 = .ok (.ldc 169, 2) := by decide +kernel
theorem dX11_write_13 : decode cX11_write 13 = .ok (.ireturn, 1) := by decide +kernel
theorem dX11_write_14 : decode cX11_write 14 = .ok (.iload_n 2, 1) := by decide +kernel
theorem dX11_write_15 : decode cX11_write 15 = .ok (.bipush 40, 2) := by decide +kernel
theorem dX11_write_17 : decode cX11_write 17 = .ok (.invokestatic 86, 3) := by decide +kernel
theorem dX11_write_20 : decode cX11_write 20 = .ok (.ifCond .ne 6, 3) := by decide +kernel
theorem dX11_write_23 : decode cX11_write 23 = .ok (.ldc 90, 2) := by decide +kernel
theorem dX11_write_25 : decode cX11_write 25 = .ok (.ireturn, 1) := by decide +kernel
theorem dX11_write_26 : decode cX11_write 26 = .ok (.aload_n 0, 1) := by decide +kernel
theorem dX11_write_27 : decode cX11_write 27 = .ok (.getfield 78, 3) := by decide +kernel
theorem dX11_write_30 : decode cX11_write 30 = .ok (.iload_n 1, 1) := by decide +kernel
theorem dX11_write_31 : decode cX11_write 31 = .ok (.iload_n 2, 1) := by decide +kernel
theorem dX11_write_32 : decode cX11_write 32 = .ok (.invokevirtual 312, 3) := by decide +kernel
theorem dX11_write_35 : decode cX11_write 35 = .ok (.ifCond .eq 13, 3) := by decide +kernel
theorem dX11_write_38 : decode cX11_write 38 = .ok (.aload_n 0, 1) := by decide +kernel
theorem dX11_write_39 : decode cX11_write 39 = .ok (.getfield 78, 3) := by decide +kernel
theorem dX11_write_42 : decode cX11_write 42 = .ok (.getfield 164, 3) := by decide +kernel
theorem dX11_write_45 : decode cX11_write 45 = .ok (.goto 5, 3) := by decide +kernel
theorem dX11_write_48 : decode cX11_write 48 = .ok (.ldc 98, 2) := by decide +kernel
theorem dX11_write_50 : decode cX11_write 50 = .ok (.ireturn, 1) := by decide +kernel
set_option maxRecDepth 4000 in
set_option maxHeartbeats 4000000 in
theorem m_X11_write (l : Launch) (g : qGm) (M : qMem) {sd : sSD} (hs : sRS sd) (hS : xS M sd) (hL : 0 ≤ M 32 0 2 ∧ M 32 0 2 ≤ 20) {h : Int} (hhq : qIn h) {x : Int} (hxq : qIn x) : qOk l g 2 yX11_write cX11_write 3 (some .int) [qR g 0 0, qI h, qI x] M (qEv (some (dWrite (sd 5 0) (M 32 0 2) h x)) (xWrite (sd 5 0) M h x)) := by
  refine q_ok (by decide +kernel) (Nat.le_of_ble_eq_true rfl) (fun X C' hn => ?_)
  have C := C'.1
  have hn6 := hs.2.2.1
  have w2 := hS.2.2.1
  refine q_aloadn C dX11_write_0 rfl ?_
  refine gf_RX11_31 C dX11_write_1 ?_
  refine q_iloadn C dX11_write_4 rfl ?_
  refine cv_RX11_186 C (by decide) (by decide) (m_X7_hasHouse l g _ (by decide) hhq) dX11_write_5 (Nat.le_of_ble_eq_true rfl) (fun r5 => ?_)
  refine q_ifneB C 14 dX11_write_8 (by decide) (fun h8 => ?_) (fun h8 => ?_)
  · refine q_iloadn C dX11_write_14 rfl ?_
    refine q_bipush C dX11_write_15 (by decide) ?_
    refine cv_RX11_86 C (by decide) (m_X11_isWithin l g _ (by assumption) (by omega)) dX11_write_17 (Nat.le_of_ble_eq_true rfl) (fun r17 => ?_)
    refine q_ifneB C 26 dX11_write_20 (by decide) (fun h20 => ?_) (fun h20 => ?_)
    · refine q_aloadn C dX11_write_26 rfl ?_
      refine gf_RX11_78 C dX11_write_27 ?_
      refine q_iloadn C dX11_write_30 rfl ?_
      refine q_iloadn C dX11_write_31 rfl ?_
      refine cv_RX11_312 C (by decide) (m_X0_append l g _ hhq hxq hL) dX11_write_32 (Nat.le_of_ble_eq_true rfl) (fun r32 => ?_)
      refine q_ifeqB C 48 dX11_write_35 (by decide) (fun h35 => ?_) (fun h35 => ?_)
      · rw [if_neg (show ¬ M 32 0 2 < 20 by omega)]
        refine q_ldc C (z := -1000000004) q_ci_RX11_98 (by decide) dX11_write_48 ?_
        refine q_iret C' dX11_write_50 (by first | assumption | omega | exact q_tin _ | exact q_bIn _) ?_
        refine ⟨congrArg some ?_, ?_⟩
        · unfold dWrite
          first | (rw [if_neg (by omega)]; done) | (rw [if_pos (by omega), if_neg (by omega)]; done) | (rw [if_pos (by omega), if_pos (by omega)]; done) | (rw [if_pos (by omega), if_pos (by omega), if_pos (by omega)]; done) | (rw [if_pos (by omega), if_pos (by omega), if_neg (by omega)]; done)
        · unfold xWrite
          first | (rw [if_pos (by omega)]; done) | (rw [if_neg (by omega)]; done)
      · rw [if_pos (show M 32 0 2 < 20 by omega)]
        refine q_aloadn C dX11_write_38 rfl ?_
        refine gf_RX11_78 C dX11_write_39 ?_
        refine gf_RX11_164 C dX11_write_42 (fun r42 => ?_)
        try simp only [q_rd, q_rdS, ↓reduceIte, if_true, if_false, eq_self, Nat.reduceEqDiff, Int.reduceEq, Int.reduceNeg, reduceCtorEq] at r42 ⊢
        refine q_goto C (tgt := 50) dX11_write_45 (by decide) ?_
        refine q_iret C' dX11_write_50 (by first | assumption | omega | exact q_tin _ | exact q_bIn _) ?_
        refine ⟨congrArg some ?_, ?_⟩
        · unfold dWrite
          first | (rw [if_neg (by omega)]; done) | (rw [if_pos (by omega), if_neg (by omega)]; done) | (rw [if_pos (by omega), if_pos (by omega)]; done) | (rw [if_pos (by omega), if_pos (by omega), if_pos (by omega)]; done) | (rw [if_pos (by omega), if_pos (by omega), if_neg (by omega)]; done)
        · unfold xWrite
          first | (rw [if_pos (by omega)]; done) | (rw [if_neg (by omega)]; done)
    · refine q_ldc C (z := -1000000002) q_ci_RX11_90 (by decide) dX11_write_23 ?_
      refine q_iret C' dX11_write_25 (by first | assumption | omega | exact q_tin _ | exact q_bIn _) ?_
      refine ⟨congrArg some ?_, ?_⟩
      · unfold dWrite
        first | (rw [if_neg (by omega)]; done) | (rw [if_pos (by omega), if_neg (by omega)]; done) | (rw [if_pos (by omega), if_pos (by omega)]; done) | (rw [if_pos (by omega), if_pos (by omega), if_pos (by omega)]; done) | (rw [if_pos (by omega), if_pos (by omega), if_neg (by omega)]; done)
      · unfold xWrite
        first | (rw [if_pos (by omega)]; done) | (rw [if_neg (by omega)]; done)
  · refine q_ldc C (z := -1000000001) q_ci_RX11_169 (by decide) dX11_write_11 ?_
    refine q_iret C' dX11_write_13 (by first | assumption | omega | exact q_tin _ | exact q_bIn _) ?_
    refine ⟨congrArg some ?_, ?_⟩
    · unfold dWrite
      first | (rw [if_neg (by omega)]; done) | (rw [if_pos (by omega), if_neg (by omega)]; done) | (rw [if_pos (by omega), if_pos (by omega)]; done) | (rw [if_pos (by omega), if_pos (by omega), if_pos (by omega)]; done) | (rw [if_pos (by omega), if_pos (by omega), if_neg (by omega)]; done)
    · unfold xWrite
      first | (rw [if_pos (by omega)]; done) | (rw [if_neg (by omega)]; done)
theorem dX11_tear_0 : decode cX11_tear 0 = .ok (.aload_n 0, 1) := by decide +kernel
theorem dX11_tear_1 : decode cX11_tear 1 = .ok (.getfield 71, 3) := by decide +kernel
theorem dX11_tear_4 : decode cX11_tear 4 = .ok (.getfield 163, 3) := by decide +kernel
theorem dX11_tear_7 : decode cX11_tear 7 = .ok (.aload_n 0, 1) := by decide +kernel
theorem dX11_tear_8 : decode cX11_tear 8 = .ok (.getfield 78, 3) := by decide +kernel
theorem dX11_tear_11 : decode cX11_tear 11 = .ok (.getfield 164, 3) := by decide +kernel
theorem dX11_tear_14 : decode cX11_tear 14 = .ok (.iadd, 1) := by decide +kernel
theorem dX11_tear_15 : decode cX11_tear 15 = .ok (.istore_n 1, 1) := by decide +kernel
theorem dX11_tear_16 : decode cX11_tear 16 = .ok (.aload_n 0, 1) := by decide +kernel
theorem dX11_tear_17 : decode cX11_tear 17 = .ok (.getfield 71, 3) := by decide +kernel
theorem dX11_tear_20 : decode cX11_tear 20 = .ok (.invokevirtual 120, 3) := by decide +kernel
theorem dX11_tear_23 : decode cX11_tear 23 = .ok (.aload_n 0, 1) := by decide +kernel
theorem dX11_tear_24 : decode cX11_tear 24 = .ok (.getfield 78, 3) := by decide +kernel
theorem dX11_tear_27 : decode cX11_tear 27 = .ok (.invokevirtual 121, 3) := by decide +kernel
theorem dX11_tear_30 : decode cX11_tear 30 = .ok (.iload_n 1, 1) := by decide +kernel
theorem dX11_tear_31 : decode cX11_tear 31 = .ok (.ireturn, 1) := by decide +kernel
set_option maxRecDepth 4000 in
set_option maxHeartbeats 4000000 in
theorem m_X11_tear (l : Launch) (g : qGm) (M : qMem) (hL : 0 ≤ M 29 0 2 ∧ M 29 0 2 ≤ 6) (hK : 0 ≤ M 32 0 2 ∧ M 32 0 2 ≤ 20) : qOk l g 2 yX11_tear cX11_tear 2 (some .int) [qR g 0 0] M (qEv (some (M 29 0 2 + M 32 0 2)) (qUp (qUp M 29 0 2 0) 32 0 2 0)) := by
  refine q_ok (by decide +kernel) (Nat.le_of_ble_eq_true rfl) (fun X C' hn => ?_)
  have C := C'.1
  refine q_aloadn C dX11_tear_0 rfl ?_
  refine gf_RX11_71 C dX11_tear_1 ?_
  refine gf_RX11_163 C dX11_tear_4 (fun r4 => ?_)
  refine q_aloadn C dX11_tear_7 rfl ?_
  refine gf_RX11_78 C dX11_tear_8 ?_
  refine gf_RX11_164 C dX11_tear_11 (fun r11 => ?_)
  refine q_iadd C dX11_tear_14 ?_
  refine q_istoren C dX11_tear_15 hn (by decide) rfl ?_
  refine q_aloadn C dX11_tear_16 rfl ?_
  refine gf_RX11_71 C dX11_tear_17 ?_
  refine cv_RX11_120 C (by decide) (m_X8_forget l g _ ) dX11_tear_20 (Nat.le_of_ble_eq_true rfl) ?_
  refine q_aloadn C dX11_tear_23 rfl ?_
  refine gf_RX11_78 C dX11_tear_24 ?_
  refine cv_RX11_121 C (by decide) (m_X0_forget l g _ ) dX11_tear_27 (Nat.le_of_ble_eq_true rfl) ?_
  refine q_iloadn C dX11_tear_30 rfl ?_
  refine q_iret C' dX11_tear_31 (by first | assumption | omega | exact q_tin _ | exact q_bIn _) ?_
  exact ⟨rfl, rfl⟩
theorem xZ_off {M N : qMem} {m n : Int} {Z : sZ} (h : ∀ j u, j = 0 ∨ j = 26 ∨ (10 ≤ j ∧ j ≤ 18) → N j u = M j u) (hZ : xZ M m n Z) : xZ N m n Z := by
  obtain ⟨⟨z1, z1'⟩, z2, z3, z4, z5⟩ := hZ
  exact ⟨⟨xH_fr (fun j a b => h j _ (by omega)) z1, z1'⟩, by rw [h 26 0 (by omega)]; exact z2, by rw [h 26 0 (by omega)]; exact z3, fun k a b => ⟨xH_fr (fun j a b => h j _ (by omega)) (z4 k a b).1, (z4 k a b).2⟩, by rw [h 0 0 (by omega)]; exact z5⟩
theorem pNf_b (t : Int → Int) (L most a : Int) : 0 ≤ pNf t L most a ∧ pNf t L most a ≤ 3 := by
  unfold pNf; repeat' split
  all_goals omega
theorem pPrz_b (t : Int → Int) (L h : Int) (k : Nat) : ∀ (n a : Int) (r : Int → Int), 0 ≤ (pPrz t L h k n a r).1 ∧ (pPrz t L h k n a r).1 ≤ 3 := by
  induction k with
  | zero => intro n a r; simp [pPrz]
  | succ k ih =>
    intro n a r
    rw [pPrz]
    split
    · split
      · exact ih _ _ _
      · simp
    · exact pNf_b _ _ _ _
theorem pCl_b (t : Int → Int) (L a : Int) (R : sRd) : 0 ≤ (pCl t L a R).1 ∧ (pCl t L a R).1 ≤ 3 := by
  have hb : 0 ≤ (pBody t L (t a) (a + 1) R).1 ∧ (pBody t L (t a) (a + 1) R).1 ≤ 3 := by
    unfold pBody
    split
    · unfold pHeadB; split
      · simp
      · exact pNf_b _ _ _ _
    · split
      · unfold pComerB; repeat' split
        all_goals first | exact pNf_b _ _ _ _ | simp
      · unfold pHouseB; repeat' split
        all_goals first | exact pNf_b _ _ _ _ | exact pPrz_b _ _ _ _ _ _ _ | simp
  unfold pCl
  split
  · simp
  · split
    · simp
    · unfold pFin
      repeat' split
      all_goals first | exact hb | simp
theorem pAll_b (t : Int → Int) (L : Int) (k : Nat) : ∀ (a : Int) (R : sRd), 0 ≤ (pAll t L k a R).1 ∧ (pAll t L k a R).1 ≤ 3 := by
  induction k with
  | zero => intro a R; simp [pAll]
  | succ k ih =>
    intro a R
    rw [pAll]
    repeat' split
    · exact ih _ _
    · exact pCl_b _ _ _ _
    · simp
theorem pRes_in (t : Int → Int) (L : Int) : 0 ≤ (pRes t L).1 ∧ (pRes t L).1 ≤ 3 := pAll_b t L 241 0 rInit
theorem dX11_season_0 : decode cX11_season 0 = .ok (.aload_n 0, 1) := by decide +kernel
theorem dX11_season_1 : decode cX11_season 1 = .ok (.getfield 21, 3) := by decide +kernel
theorem dX11_season_4 : decode cX11_season 4 = .ok (.aload_n 0, 1) := by decide +kernel
theorem dX11_season_5 : decode cX11_season 5 = .ok (.getfield 27, 3) := by decide +kernel
theorem dX11_season_8 : decode cX11_season 8 = .ok (.invokevirtual 99, 3) := by decide +kernel
theorem dX11_season_11 : decode cX11_season 11 = .ok (.ifCond .ne 14, 3) := by decide +kernel
theorem dX11_season_14 : decode cX11_season 14 = .ok (.bipush (-10), 2) := by decide +kernel
theorem dX11_season_16 : decode cX11_season 16 = .ok (.aload_n 0, 1) := by decide +kernel
theorem dX11_season_17 : decode cX11_season 17 = .ok (.getfield 21, 3) := by decide +kernel
theorem dX11_season_20 : decode cX11_season 20 = .ok (.getfield 103, 3) := by decide +kernel
theorem dX11_season_23 : decode cX11_season 23 = .ok (.isub, 1) := by decide +kernel
theorem dX11_season_24 : decode cX11_season 24 = .ok (.ireturn, 1) := by decide +kernel
theorem dX11_season_25 : decode cX11_season 25 = .ok (.aload_n 0, 1) := by decide +kernel
theorem dX11_season_26 : decode cX11_season 26 = .ok (.getfield 31, 3) := by decide +kernel
theorem dX11_season_29 : decode cX11_season 29 = .ok (.aload_n 0, 1) := by decide +kernel
theorem dX11_season_30 : decode cX11_season 30 = .ok (.getfield 27, 3) := by decide +kernel
theorem dX11_season_33 : decode cX11_season 33 = .ok (.invokevirtual 106, 3) := by decide +kernel
theorem dX11_season_36 : decode cX11_season 36 = .ok (.aload_n 0, 1) := by decide +kernel
theorem dX11_season_37 : decode cX11_season 37 = .ok (.getfield 34, 3) := by decide +kernel
theorem dX11_season_40 : decode cX11_season 40 = .ok (.aload_n 0, 1) := by decide +kernel
theorem dX11_season_41 : decode cX11_season 41 = .ok (.getfield 31, 3) := by decide +kernel
theorem dX11_season_44 : decode cX11_season 44 = .ok (.invokevirtual 110, 3) := by decide +kernel
theorem dX11_season_47 : decode cX11_season 47 = .ok (.aload_n 0, 1) := by decide +kernel
theorem dX11_season_48 : decode cX11_season 48 = .ok (.getfield 54, 3) := by decide +kernel
theorem dX11_season_51 : decode cX11_season 51 = .ok (.invokevirtual 113, 3) := by decide +kernel
theorem dX11_season_54 : decode cX11_season 54 = .ok (.aload_n 0, 1) := by decide +kernel
theorem dX11_season_55 : decode cX11_season 55 = .ok (.getfield 61, 3) := by decide +kernel
theorem dX11_season_58 : decode cX11_season 58 = .ok (.iconst 0, 1) := by decide +kernel
theorem dX11_season_59 : decode cX11_season 59 = .ok (.putfield 116, 3) := by decide +kernel
theorem dX11_season_62 : decode cX11_season 62 = .ok (.aload_n 0, 1) := by decide +kernel
theorem dX11_season_63 : decode cX11_season 63 = .ok (.getfield 65, 3) := by decide +kernel
theorem dX11_season_66 : decode cX11_season 66 = .ok (.iconst 0, 1) := by decide +kernel
theorem dX11_season_67 : decode cX11_season 67 = .ok (.putfield 116, 3) := by decide +kernel
theorem dX11_season_70 : decode cX11_season 70 = .ok (.aload_n 0, 1) := by decide +kernel
theorem dX11_season_71 : decode cX11_season 71 = .ok (.getfield 71, 3) := by decide +kernel
theorem dX11_season_74 : decode cX11_season 74 = .ok (.invokevirtual 120, 3) := by decide +kernel
theorem dX11_season_77 : decode cX11_season 77 = .ok (.aload_n 0, 1) := by decide +kernel
theorem dX11_season_78 : decode cX11_season 78 = .ok (.getfield 78, 3) := by decide +kernel
theorem dX11_season_81 : decode cX11_season 81 = .ok (.invokevirtual 121, 3) := by decide +kernel
theorem dX11_season_84 : decode cX11_season 84 = .ok (.aload_n 0, 1) := by decide +kernel
theorem dX11_season_85 : decode cX11_season 85 = .ok (.getfield 31, 3) := by decide +kernel
theorem dX11_season_88 : decode cX11_season 88 = .ok (.getfield 122, 3) := by decide +kernel
theorem dX11_season_91 : decode cX11_season 91 = .ok (.ireturn, 1) := by decide +kernel
set_option maxRecDepth 4000 in
set_option maxHeartbeats 4000000 in
theorem m_X11_season (l : Launch) (g : qGm) (M : qMem) {m n : Int} {Z : sZ} (hZ : xZ M m n Z) (hL : 0 ≤ M 1 0 2 ∧ M 1 0 2 ≤ 240) (ht : ∀ k, 0 ≤ k → k < M 1 0 2 → 0 ≤ M 2 0 k) : qOk l g 7 yX11_season cX11_season 1 (some .int) [qR g 0 0] M (fun r N => (¬ (pRes (M 2 0) (M 1 0 2)).1 = 0 → r = some (-10 - (pRes (M 2 0) (M 1 0 2)).1) ∧ (∀ j u, ¬ (j = 1 ∧ u = 0) → ¬ (3 ≤ j ∧ j ≤ 9 ∧ u = 0) → N j u = M j u)) ∧ ((pRes (M 2 0) (M 1 0 2)).1 = 0 → r = some ((pRes (M 2 0) (M 1 0 2)).2.2 1 0) ∧ rB (pRes (M 2 0) (M 1 0 2)).2.2 ∧ xS N (rSd (pRes (M 2 0) (M 1 0 2)).2.2) ∧ (xZ N ((pRes (M 2 0) (M 1 0 2)).2.2 1 0) ((pRes (M 2 0) (M 1 0 2)).2.2 2 0) (zNew Z (pRes (M 2 0) (M 1 0 2)).2.2) ∧ xIm N ((pRes (M 2 0) (M 1 0 2)).2.2 1 0) ((pRes (M 2 0) (M 1 0 2)).2.2 2 0) (zNew Z (pRes (M 2 0) (M 1 0 2)).2.2) 0 ∧ xIm N ((pRes (M 2 0) (M 1 0 2)).2.2 1 0) ((pRes (M 2 0) (M 1 0 2)).2.2 2 0) (zNew Z (pRes (M 2 0) (M 1 0 2)).2.2) 1) ∧ N 29 0 2 = 0 ∧ N 32 0 2 = 0 ∧ (∀ j u, (j = 2 ∨ 32 < j) → N j u = M j u)) ∧ N 1 0 2 = 0 ∧ N 1 0 4 = (if (pRes (M 2 0) (M 1 0 2)).1 = 0 then -1 else (pRes (M 2 0) (M 1 0 2)).2.1)) := by
  refine q_ok (by decide +kernel) (Nat.le_of_ble_eq_true rfl) (fun X C' hn => ?_)
  have C := C'.1
  refine q_aloadn C dX11_season_0 rfl ?_
  refine gf_RX11_21 C dX11_season_1 ?_
  refine q_aloadn C dX11_season_4 rfl ?_
  refine gf_RX11_27 C dX11_season_5 ?_
  refine cw_RX11_99 C (by decide) (m_X9_read l g _ hL ht) dX11_season_8 (Nat.le_of_ble_eq_true rfl) (fun r N hz hp => ?_)
  obtain ⟨rfl, f1, f2, f3, f4, f5⟩ := hp
  have fb := pRes_in (M 2 0) (M 1 0 2)
  show qV l g X _ _ _ (qI _ :: [])
  refine q_ifneB C 25 dX11_season_11 (by decide) (fun h11 => ?_) (fun h11 => ?_)
  · refine q_aloadn C dX11_season_25 rfl ?_
    refine gf_RX11_31 C dX11_season_26 ?_
    refine q_aloadn C dX11_season_29 rfl ?_
    refine gf_RX11_27 C dX11_season_30 ?_
    refine cv_RX11_106 C (by decide) (by decide) (m_X7_become l g _ (by decide) (by decide) (by decide)) dX11_season_33 (Nat.le_of_ble_eq_true rfl) ?_
    refine q_aloadn C dX11_season_36 rfl ?_
    refine gf_RX11_34 C dX11_season_37 ?_
    refine q_aloadn C dX11_season_40 rfl ?_
    refine gf_RX11_31 C dX11_season_41 ?_
    refine cv_RX11_110 C (by decide) (by decide) (m_X2_open l g _ (by decide) (by decide)) dX11_season_44 (Nat.le_of_ble_eq_true rfl) ?_
    refine q_aloadn C dX11_season_47 rfl ?_
    refine gf_RX11_54 C dX11_season_48 ?_
    refine cv_RX11_113 C (by decide) (m_X6_forget l g _ ) dX11_season_51 (Nat.le_of_ble_eq_true rfl) ?_
    refine q_aloadn C dX11_season_54 rfl ?_
    refine gf_RX11_61 C dX11_season_55 ?_
    refine q_iconst C dX11_season_58 ?_
    refine pf_RX11_116 C (by decide) (by first | assumption | omega | exact q_tin _ | exact q_bIn _) dX11_season_59 ?_
    refine q_aloadn C dX11_season_62 rfl ?_
    refine gf_RX11_65 C dX11_season_63 ?_
    refine q_iconst C dX11_season_66 ?_
    refine pf_RX11_116 C (by decide) (by first | assumption | omega | exact q_tin _ | exact q_bIn _) dX11_season_67 ?_
    refine q_aloadn C dX11_season_70 rfl ?_
    refine gf_RX11_71 C dX11_season_71 ?_
    refine cv_RX11_120 C (by decide) (m_X8_forget l g _ ) dX11_season_74 (Nat.le_of_ble_eq_true rfl) ?_
    refine q_aloadn C dX11_season_77 rfl ?_
    refine gf_RX11_78 C dX11_season_78 ?_
    refine cv_RX11_121 C (by decide) (m_X0_forget l g _ ) dX11_season_81 (Nat.le_of_ble_eq_true rfl) ?_
    refine q_aloadn C dX11_season_84 rfl ?_
    refine gf_RX11_31 C dX11_season_85 ?_
    refine gf_RX11_122 C (by decide) dX11_season_88 (fun r88 => ?_)
    try simp only [q_rd, q_rdS, ↓reduceIte, if_true, if_false, eq_self, Nat.reduceEqDiff, Int.reduceEq, Int.reduceNeg, reduceCtorEq] at r88 ⊢
    refine q_iret C' dX11_season_91 (by first | assumption | omega | exact q_tin _ | exact q_bIn _) ?_
    have fz := xZ_off (N := N) (fun j u q => f1 j u (by omega) (by omega)) hZ
    obtain ⟨g1, g2⟩ := f5 (by omega)
    have fk := xSea_ok g1 g2 fz
    have fo := xSea_o N
    have fs := xSea_s N
    have ff := fun j u => @xSea_fr N j u
    change (_ ∧ _ ∧ xSea N 1 0 2 = 0 ∧ xSea N 1 0 4 = _)
    refine ⟨fun q => absurd q (by omega), fun _ => ⟨?_, g2, fk.1, fk.2, fo.2.2.2.2.1, fo.2.2.2.2.2, fun j u q => ?_⟩, ?_, ?_⟩
    · show some (xSea N 3 1 1) = _
      rw [fs.2.1, g1.2.1]
    · refine Eq.trans (ff j u (by omega) (by omega) (by omega) (by omega) (by omega) (by omega)) (f1 j u (by omega) (by omega))
    · rw [ff 1 0 (by omega) (by omega) (by omega) (by omega) (by omega) (by omega)]; exact f2
    · rw [ff 1 0 (by omega) (by omega) (by omega) (by omega) (by omega) (by omega)]; exact f4
  · refine q_bipush C dX11_season_14 (by decide) ?_
    refine q_aloadn C dX11_season_16 rfl ?_
    refine gf_RX11_21 C dX11_season_17 ?_
    refine gf_RX11_103 C dX11_season_20 (fun r20 => ?_)
    refine q_isub C dX11_season_23 ?_
    refine q_iret C' dX11_season_24 (by first | assumption | omega | exact q_tin _ | exact q_bIn _) ?_
    refine ⟨fun _ => ⟨by rw [f3], f1⟩, fun q => absurd q (by omega), f2, f4⟩
