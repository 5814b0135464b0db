theorem xS_cong {M N : qMem} {sd : sSD} (h : ∀ j, j < 20 → N j = M j) (hx : xS M sd) : xS N sd := by
  unfold xS at *
  rw [h 3 (by decide), h 4 (by decide), h 8 (by decide), h 9 (by decide)]
  exact hx
theorem xH_cong {M N : qMem} {u : Nat} {m n : Int} {v : Int → Int} (h : ∀ j, j < 20 → N j = M j) (hx : xH M u m n v) : xH N u m n v := by
  unfold xH at *
  rw [h 10 (by decide), h 11 (by decide), h 12 (by decide), h 13 (by decide), h 14 (by decide), h 15 (by decide), h 16 (by decide), h 17 (by decide), h 18 (by decide)]
  exact hx
def xSW (sd : sSD) (v : Int → Int) (i j : Int) (old : Int → Int) : Int → Int := fun k => if 0 ≤ k ∧ k % 6 < sd 5 0 ∧ (k / 6 < i ∨ (k / 6 = i ∧ k % 6 < j)) then sSuit sd v (k / 6) (k % 6) else old k
def xN0 (M : qMem) : qMem := qUp (qSet (qSet (qSet M 22 0 (fun _ => 0)) 23 0 (fun _ => -1)) 24 0 (fun _ => -1)) 20 0 5 0
theorem xN0_off (M : qMem) (W : Int → Int) : ∀ j, j < 20 → qSet (xN0 M) 21 0 W j = M j := by
  intro j hj
  funext u
  unfold xN0
  simp only [q_rdSR, q_rdR]
  rw [if_neg (by omega), if_neg (by omega), if_neg (by omega), if_neg (by omega), if_neg (by omega)]
theorem xSW_s {sd : sSD} {v : Int → Int} {N : qMem} {i j z : Int} {old : Int → Int} (hi : 0 ≤ i) (hj : 0 ≤ j ∧ j < 6) (hn : j < sd 5 0) (hz : z = sSuit sd v i j) : qUp (qSet N 21 0 (xSW sd v i j old)) 21 0 (i * 6 + j) z = qSet N 21 0 (xSW sd v i (j + 1) old) := by
  subst hz
  rw [q_upSet]
  refine q_setC (fun k => ?_)
  unfold xSW
  by_cases e : k = i * 6 + j
  · subst e
    rw [if_pos rfl, if_pos (by omega), show (i * 6 + j) / 6 = i by omega, show (i * 6 + j) % 6 = j by omega]
  · rw [if_neg e]
    by_cases q : 0 ≤ k ∧ k % 6 < sd 5 0 ∧ (k / 6 < i ∨ (k / 6 = i ∧ k % 6 < j))
    · rw [if_pos q, if_pos (by omega)]
    · rw [if_neg q, if_neg (by omega)]
theorem xSW_n {sd : sSD} {v : Int → Int} {i : Int} {old : Int → Int} : xSW sd v i (sd 5 0) old = xSW sd v (i + 1) 0 old := by
  funext k
  unfold xSW
  by_cases q : 0 ≤ k ∧ k % 6 < sd 5 0 ∧ (k / 6 < i ∨ (k / 6 = i ∧ k % 6 < sd 5 0))
  · rw [if_pos q, if_pos (by omega)]
  · rw [if_neg q, if_neg (by omega)]
theorem xSW_0 {sd : sSD} {v : Int → Int} {old : Int → Int} : xSW sd v 0 0 old = old := by
  funext k
  unfold xSW
  rw [if_neg (by omega)]
theorem xSW_at {sd : sSD} {v : Int → Int} {old : Int → Int} {c h m : Int} (hc : 0 ≤ c ∧ c < m) (hh : 0 ≤ h ∧ h < sd 5 0) (h6 : sd 5 0 ≤ 6) : xSW sd v m 0 old (c * 6 + h) = sSuit sd v c h := by
  unfold xSW
  rw [if_pos (by omega), show (c * 6 + h) / 6 = c by omega, show (c * 6 + h) % 6 = h by omega]
/-- the matching with its suits; gv who gave up -/
def xBg (M : qMem) (sd : sSD) (v : Int → Int) (gv : Int) : qMem := qUp (qSet M 21 0 (xSW sd v (sd 4 0) 0 (M 21 0))) 20 0 5 gv
theorem xBg_init (M : qMem) (sd : sSD) (v : Int → Int) : qSet (xN0 M) 21 0 (xSW sd v (sd 4 0) 0 (M 21 0)) = xMt (xBg M sd v 0) tInit := by
  funext j u i
  unfold xN0 xMt xBg
  simp only [q_rd, q_rdS, tInit]
  by_cases hu : u = 0
  · subst hu
    by_cases h0 : j = 20
    · subst h0; simp
    · by_cases h1 : j = 21
      · subst h1; simp
      · by_cases h2 : j = 22
        · subst h2; simp
        · by_cases h3 : j = 23
          · subst h3; simp
          · by_cases h4 : j = 24
            · subst h4; simp
            · simp [h0, h1, h2, h3, h4]
  · simp [hu]
theorem xBg_gv (M : qMem) (sd : sSD) (v : Int → Int) (T : sMT) (a b : Int) : qUp (xMt (xBg M sd v a) T) 20 0 5 b = xMt (xBg M sd v b) T := by
  funext j u i
  unfold xMt xBg
  simp only [q_rd, q_rdS]
  by_cases h0 : j = 20
  · subst h0; by_cases hu : u = 0 <;> by_cases hi : i = 5 <;> simp [hi, hu]
  · simp [h0]
theorem xBg_off (M : qMem) (sd : sSD) (v : Int → Int) (T : sMT) (a : Int) : ∀ j, j < 20 → xMt (xBg M sd v a) T j = M j := by
  intro j hj
  rw [xMt_off _ _ (by omega)]
  funext u
  unfold xBg
  simp only [q_rdSR, q_rdR]
  rw [if_neg (by omega), if_neg (by omega)]
theorem xBg_5 (M : qMem) (sd : sSD) (v : Int → Int) (T : sMT) (a : Int) : xMt (xBg M sd v a) T 20 0 5 = a := by
  rw [xMt_off _ _ (by omega)]
  rfl
theorem xBg_21 (M : qMem) (sd : sSD) (v : Int → Int) (a : Int) : xBg M sd v a 21 0 = xSW sd v (sd 4 0) 0 (M 21 0) := by
  unfold xBg
  simp only [q_rdSR, q_rdR]
  rfl
theorem dX5_begin_0 : decode cX5_begin 0 = .ok (.aload_n 0, 1) := by decide +kernel
theorem dX5_begin_1 : decode cX5_begin 1 = .ok (.getfield 15, 3) := by decide +kernel
theorem dX5_begin_4 : decode cX5_begin 4 = .ok (.iconst 0, 1) := by decide +kernel
theorem dX5_begin_5 : decode cX5_begin 5 = .ok (.invokestatic 50, 3) := by decide +kernel
theorem dX5_begin_8 : decode cX5_begin 8 = .ok (.aload_n 0, 1) := by decide +kernel
theorem dX5_begin_9 : decode cX5_begin 9 = .ok (.getfield 18, 3) := by decide +kernel
theorem dX5_begin_12 : decode cX5_begin 12 = .ok (.iconst (-1), 1) := by decide +kernel
theorem dX5_begin_13 : decode cX5_begin 13 = .ok (.invokestatic 50, 3) := by decide +kernel
theorem dX5_begin_16 : decode cX5_begin 16 = .ok (.aload_n 0, 1) := by decide +kernel
theorem dX5_begin_17 : decode cX5_begin 17 = .ok (.getfield 21, 3) := by decide +kernel
theorem dX5_begin_20 : decode cX5_begin 20 = .ok (.iconst (-1), 1) := by decide +kernel
theorem dX5_begin_21 : decode cX5_begin 21 = .ok (.invokestatic 50, 3) := by decide +kernel
theorem dX5_begin_24 : decode cX5_begin 24 = .ok (.aload_n 0, 1) := by decide +kernel
theorem dX5_begin_25 : decode cX5_begin 25 = .ok (.iconst 0, 1) := by decide +kernel
theorem dX5_begin_26 : decode cX5_begin 26 = .ok (.putfield 24, 3) := by decide +kernel
theorem dX5_begin_29 : decode cX5_begin 29 = .ok (.iconst 0, 1) := by decide +kernel
theorem dX5_begin_30 : decode cX5_begin 30 = .ok (.istore_n 1, 1) := by decide +kernel
theorem dX5_begin_31 : decode cX5_begin 31 = .ok (.iload_n 1, 1) := by decide +kernel
theorem dX5_begin_32 : decode cX5_begin 32 = .ok (.aload_n 0, 1) := by decide +kernel
theorem dX5_begin_33 : decode cX5_begin 33 = .ok (.getfield 28, 3) := by decide +kernel
theorem dX5_begin_36 : decode cX5_begin 36 = .ok (.invokevirtual 56, 3) := by decide +kernel
theorem dX5_begin_39 : decode cX5_begin 39 = .ok (.if_icmp .ge 48, 3) := by decide +kernel
theorem dX5_begin_42 : decode cX5_begin 42 = .ok (.iconst 0, 1) := by decide +kernel
theorem dX5_begin_43 : decode cX5_begin 43 = .ok (.istore_n 2, 1) := by decide +kernel
theorem dX5_begin_44 : decode cX5_begin 44 = .ok (.iload_n 2, 1) := by decide +kernel
theorem dX5_begin_45 : decode cX5_begin 45 = .ok (.aload_n 0, 1) := by decide +kernel
theorem dX5_begin_46 : decode cX5_begin 46 = .ok (.getfield 28, 3) := by decide +kernel
theorem dX5_begin_49 : decode cX5_begin 49 = .ok (.invokevirtual 61, 3) := by decide +kernel
theorem dX5_begin_52 : decode cX5_begin 52 = .ok (.if_icmp .ge 29, 3) := by decide +kernel
theorem dX5_begin_55 : decode cX5_begin 55 = .ok (.aload_n 0, 1) := by decide +kernel
theorem dX5_begin_56 : decode cX5_begin 56 = .ok (.getfield 9, 3) := by decide +kernel
theorem dX5_begin_59 : decode cX5_begin 59 = .ok (.iload_n 1, 1) := by decide +kernel
theorem dX5_begin_60 : decode cX5_begin 60 = .ok (.bipush 6, 2) := by decide +kernel
theorem dX5_begin_62 : decode cX5_begin 62 = .ok (.imul, 1) := by decide +kernel
theorem dX5_begin_63 : decode cX5_begin 63 = .ok (.iload_n 2, 1) := by decide +kernel
theorem dX5_begin_64 : decode cX5_begin 64 = .ok (.iadd, 1) := by decide +kernel
theorem dX5_begin_65 : decode cX5_begin 65 = .ok (.aload_n 0, 1) := by decide +kernel
theorem dX5_begin_66 : decode cX5_begin 66 = .ok (.getfield 28, 3) := by decide +kernel
theorem dX5_begin_69 : decode cX5_begin 69 = .ok (.iload_n 1, 1) := by decide +kernel
theorem dX5_begin_70 : decode cX5_begin 70 = .ok (.iload_n 2, 1) := by decide +kernel
theorem dX5_begin_71 : decode cX5_begin 71 = .ok (.invokevirtual 64, 3) := by decide +kernel
theorem dX5_begin_74 : decode cX5_begin 74 = .ok (.iastore, 1) := by decide +kernel
theorem dX5_begin_75 : decode cX5_begin 75 = .ok (.iinc 2 1, 3) := by decide +kernel
theorem dX5_begin_78 : decode cX5_begin 78 = .ok (.goto (-34), 3) := by decide +kernel
theorem dX5_begin_81 : decode cX5_begin 81 = .ok (.iinc 1 1, 3) := by decide +kernel
theorem dX5_begin_84 : decode cX5_begin 84 = .ok (.goto (-53), 3) := by decide +kernel
theorem dX5_begin_87 : decode cX5_begin 87 = .ok (.return_, 1) := by decide +kernel
set_option maxRecDepth 4000 in
set_option maxHeartbeats 4000000 in
theorem m_X5_begin (l : Launch) (g : qGm) (M : qMem) {sd : sSD} (hs : sRS sd) (hS : xS M sd) {v : Int → Int} (hv : sRR (sd 4 0) (sd 5 0) v) (hH : xH M 0 (sd 4 0) (sd 5 0) v) : qOk l g 4 yX5_begin cX5_begin 3 none [qR g 20 0] M (qEv none (xMt (xBg M sd v 0) tInit)) := by
  refine q_ok (by decide +kernel) (Nat.le_of_ble_eq_true rfl) (fun X C' hn => ?_)
  have C := C'.1
  have hm6 := hs.2.1
  have hn6 := hs.2.2.1
  refine q_aloadn C dX5_begin_0 rfl ?_
  refine gf_RX5_15 C dX5_begin_1 ?_
  refine q_iconst C dX5_begin_4 ?_
  refine cv_RX5_50 C (by decide) (m_J7_fill l g _ (by decide) (fun _ => rfl) (by decide) (by omega)) dX5_begin_5 (Nat.le_of_ble_eq_true rfl) ?_
  refine q_aloadn C dX5_begin_8 rfl ?_
  refine gf_RX5_18 C dX5_begin_9 ?_
  refine q_iconst C dX5_begin_12 ?_
  refine cv_RX5_50 C (by decide) (m_J7_fill l g _ (by decide) (fun _ => rfl) (by decide) (by omega)) dX5_begin_13 (Nat.le_of_ble_eq_true rfl) ?_
  refine q_aloadn C dX5_begin_16 rfl ?_
  refine gf_RX5_21 C dX5_begin_17 ?_
  refine q_iconst C dX5_begin_20 ?_
  refine cv_RX5_50 C (by decide) (m_J7_fill l g _ (by decide) (fun _ => rfl) (by decide) (by omega)) dX5_begin_21 (Nat.le_of_ble_eq_true rfl) ?_
  refine q_aloadn C dX5_begin_24 rfl ?_
  refine q_iconst C dX5_begin_25 ?_
  refine pf_RX5_24 C (by first | assumption | omega | exact q_tin _ | exact q_bIn _) dX5_begin_26 ?_
  refine q_iconst C dX5_begin_29 ?_
  refine q_istoren C dX5_begin_30 hn (by decide) rfl ?_
  have L31 : ∀ (n31 : Nat) (i : Int) (N : qMem), sd 4 0 - i < (n31 : Int) → (0 ≤ i) → (i ≤ sd 4 0) → (N = qSet (xN0 M) 21 0 (xSW sd v i 0 (M 21 0))) → qV l g X N 31 [(0, qR g 20 0), (1, qI i)] [] := by
    intro n31
    induction n31 with
    | zero => intro i N hm31 h0 h1 hN; exfalso; first | omega | (simp at *; omega)
    | succ n31 ih31 =>
      intro i N hm31 h0 h1 hN
      subst hN
      refine q_iloadn C dX5_begin_31 rfl ?_
      refine q_aloadn C dX5_begin_32 rfl ?_
      refine gf_RX5_28 C dX5_begin_33 ?_
      refine cv_RX5_56 C (by decide) (m_X10_comers l g _ hs (xS_cong (xN0_off M _) hS)) dX5_begin_36 (Nat.le_of_ble_eq_true rfl) (fun r36 => ?_)
      refine q_icmp_ge C 87 dX5_begin_39 (by decide) (by first | assumption | omega | exact q_tin _ | exact q_bIn _) (by first | assumption | omega | exact q_tin _ | exact q_bIn _) (fun h39 => ?_) (fun h39 => ?_)
      · refine q_vret C' dX5_begin_87 ?_
        have e9 : i = sd 4 0 := by omega
        subst e9
        exact ⟨rfl, xBg_init M sd v⟩
      · refine q_iconst C dX5_begin_42 ?_
        refine q_istoren C dX5_begin_43 hn (by decide) rfl ?_
        have L44 : ∀ (n44 : Nat) (j : Int) (N : qMem), sd 5 0 - j < (n44 : Int) → (0 ≤ j) → (j ≤ sd 5 0) → (N = qSet (xN0 M) 21 0 (xSW sd v i j (M 21 0))) → qV l g X N 44 [(0, qR g 20 0), (1, qI i), (2, qI j)] [] := by
          intro n44
          induction n44 with
          | zero => intro j N hm44 h2 h3 hN; exfalso; first | omega | (simp at *; omega)
          | succ n44 ih44 =>
            intro j N hm44 h2 h3 hN
            subst hN
            refine q_iloadn C dX5_begin_44 rfl ?_
            refine q_aloadn C dX5_begin_45 rfl ?_
            refine gf_RX5_28 C dX5_begin_46 ?_
            refine cv_RX5_61 C (by decide) (m_X10_houses l g _ hs (xS_cong (xN0_off M _) hS)) dX5_begin_49 (Nat.le_of_ble_eq_true rfl) (fun r49 => ?_)
            refine q_icmp_ge C 81 dX5_begin_52 (by decide) (by first | assumption | omega | exact q_tin _ | exact q_bIn _) (by first | assumption | omega | exact q_tin _ | exact q_bIn _) (fun h52 => ?_) (fun h52 => ?_)
            · refine q_iinc C dX5_begin_81 rfl hn (by decide) rfl ?_
              refine q_goto C (tgt := 31) dX5_begin_84 (by decide) ?_
              exact q_ls (by exact ⟨rfl, rfl, trivial⟩) (ih31 _ _ (by omega) (by omega) (by omega) (by have e9 : j = sd 5 0 := (by omega); subst e9; rw [xSW_n]))
            · refine q_aloadn C dX5_begin_55 rfl ?_
              refine gf_RX5_9 C dX5_begin_56 ?_
              refine q_iloadn C dX5_begin_59 rfl ?_
              refine q_bipush C dX5_begin_60 (by decide) ?_
              refine q_imul C dX5_begin_62 ?_
              refine q_iloadn C dX5_begin_63 rfl ?_
              refine q_iadd C dX5_begin_64 ?_
              refine q_aloadn C dX5_begin_65 rfl ?_
              refine gf_RX5_28 C dX5_begin_66 ?_
              refine q_iloadn C dX5_begin_69 rfl ?_
              refine q_iloadn C dX5_begin_70 rfl ?_
              refine cv_RX5_64 C (by decide) (m_X10_suit l g _ hs (xS_cong (xN0_off M _) hS) hv (xH_cong (xN0_off M _) hH) (by omega) (by omega)) dX5_begin_71 (Nat.le_of_ble_eq_true rfl) (fun r71 => ?_)
              refine q_iast C (by first | assumption | decide | omega) (fun _ => rfl) dX5_begin_74 (by omega) (by omega) (by decide) (by first | assumption | omega | exact q_tin _ | exact q_bIn _) ?_
              refine q_iinc C dX5_begin_75 rfl hn (by decide) rfl ?_
              refine q_goto C (tgt := 44) dX5_begin_78 (by decide) ?_
              exact q_ls (by exact ⟨rfl, rfl, rfl, trivial⟩) (ih44 _ _ (by omega) (by omega) (by omega) (by exact xSW_s h0 (by omega) (by omega) rfl))
        exact q_ls (by exact ⟨rfl, rfl, rfl, trivial⟩) (L44 1000 0 _ (by omega) (by omega) (by omega) (by rfl))
  exact q_ls (by exact ⟨rfl, rfl, trivial⟩) (L31 1000 0 _ (by omega) (by omega) (by omega) (by rw [xSW_0]; exact (q_setC0 (fun _ => rfl)).symm))
theorem tRun_S {sd : sSD} (hs : sRS sd) (v : Int → Int) (k : Nat) : tInv (sd 4 0) (sd 5 0) (tRun (fun c h => sSuit sd v c h) (sd 4 0) (sd 5 0) k) := tRun_inv hs.2.1.2 hs.2.2.1 k
/-- the class's words for who asks next, and whom -/
theorem xBest {sd : sSD} {v : Int → Int} (hs : sRS sd) {M : qMem} {T : sMT} {gv c : Int} (hc : 0 ≤ c ∧ c < sd 4 0) : (sAm (fun h => if sHas (xMt (xBg M sd v gv) T 22 0 c) h then -1 else xMt (xBg M sd v gv) T 21 0 (c * 6 + h)) (-1) (-1) (sd 5 0)).1 = tBest (fun c h => sSuit sd v c h) (sd 5 0) (T 0 c) c := by
  unfold tBest
  refine congrArg Prod.fst (sAm_c (fun k h0 h1 => ?_))
  rw [xMt_22, xMt_21, xBg_21, xSW_at hc ⟨h0, h1⟩ hs.2.2.1.2]
theorem xFirst {sd : sSD} {v : Int → Int} (hs : sRS sd) {M : qMem} {T : sMT} {gv : Int} : (sFr (fun c => decide (xMt (xBg M sd v gv) T 23 0 c = -1 ∧ ¬ sHas (xMt (xBg M sd v gv) T 20 0 5) c)) (sd 4 0) 0 = -1 ∧ ∀ k, 0 ≤ k → k < sd 4 0 → T 1 k = -1 → sHas gv k) ∨ (0 ≤ sFr (fun c => decide (xMt (xBg M sd v gv) T 23 0 c = -1 ∧ ¬ sHas (xMt (xBg M sd v gv) T 20 0 5) c)) (sd 4 0) 0 ∧ sFr (fun c => decide (xMt (xBg M sd v gv) T 23 0 c = -1 ∧ ¬ sHas (xMt (xBg M sd v gv) T 20 0 5) c)) (sd 4 0) 0 < sd 4 0 ∧ T 1 (sFr (fun c => decide (xMt (xBg M sd v gv) T 23 0 c = -1 ∧ ¬ sHas (xMt (xBg M sd v gv) T 20 0 5) c)) (sd 4 0) 0) = -1 ∧ ¬ sHas gv (sFr (fun c => decide (xMt (xBg M sd v gv) T 23 0 c = -1 ∧ ¬ sHas (xMt (xBg M sd v gv) T 20 0 5) c)) (sd 4 0) 0) ∧ ∀ k, 0 ≤ k → k < sFr (fun c => decide (xMt (xBg M sd v gv) T 23 0 c = -1 ∧ ¬ sHas (xMt (xBg M sd v gv) T 20 0 5) c)) (sd 4 0) 0 → T 1 k = -1 → sHas gv k) := by
  have e : (fun c => decide (xMt (xBg M sd v gv) T 23 0 c = -1 ∧ ¬ sHas (xMt (xBg M sd v gv) T 20 0 5) c)) = (fun c => decide (T 1 c = -1 ∧ ¬ sHas gv c)) := by
    funext c
    rw [xMt_23, xBg_5]
  rw [e]
  have hl : ∀ k, decide (T 1 k = -1 ∧ ¬ sHas gv k) = false → T 1 k = -1 → sHas gv k := by
    intro k h1 h2
    rw [decide_eq_false_iff_not] at h1
    exact Classical.byContradiction (fun h3 => h1 ⟨h2, h3⟩)
  rcases sFr_in (fun c => decide (T 1 c = -1 ∧ ¬ sHas gv c)) (n := sd 4 0) (i := 0) (by omega) with h | ⟨h1, h2, h3⟩
  · exact Or.inl ⟨h, fun k a b c => hl k (sFr_none hs.2.1.1 h k a b) c⟩
  · rw [decide_eq_true_iff] at h3
    exact Or.inr ⟨h1, h2, h3.1, h3.2, fun k a b c => hl k (sFr_first hs.2.1.1 h1 k a b) c⟩
theorem dX5_settle_0 : decode cX5_settle 0 = .ok (.aload_n 0, 1) := by decide +kernel
theorem dX5_settle_1 : decode cX5_settle 1 = .ok (.invokevirtual 35, 3) := by decide +kernel
theorem dX5_settle_4 : decode cX5_settle 4 = .ok (.iconst 0, 1) := by decide +kernel
theorem dX5_settle_5 : decode cX5_settle 5 = .ok (.istore_n 1, 1) := by decide +kernel
theorem dX5_settle_6 : decode cX5_settle 6 = .ok (.iload_n 1, 1) := by decide +kernel
theorem dX5_settle_7 : decode cX5_settle 7 = .ok (.bipush 42, 2) := by decide +kernel
theorem dX5_settle_9 : decode cX5_settle 9 = .ok (.if_icmp .ge 52, 3) := by decide +kernel
theorem dX5_settle_12 : decode cX5_settle 12 = .ok (.aload_n 0, 1) := by decide +kernel
theorem dX5_settle_13 : decode cX5_settle 13 = .ok (.invokevirtual 38, 3) := by decide +kernel
theorem dX5_settle_16 : decode cX5_settle 16 = .ok (.istore_n 2, 1) := by decide +kernel
theorem dX5_settle_17 : decode cX5_settle 17 = .ok (.iload_n 2, 1) := by decide +kernel
theorem dX5_settle_18 : decode cX5_settle 18 = .ok (.iconst (-1), 1) := by decide +kernel
theorem dX5_settle_19 : decode cX5_settle 19 = .ok (.if_icmp .ne 4, 3) := by decide +kernel
theorem dX5_settle_22 : decode cX5_settle 22 = .ok (.return_, 1) := by decide +kernel
theorem dX5_settle_23 : decode cX5_settle 23 = .ok (.aload_n 0, 1) := by decide +kernel
theorem dX5_settle_24 : decode cX5_settle 24 = .ok (.iload_n 2, 1) := by decide +kernel
theorem dX5_settle_25 : decode cX5_settle 25 = .ok (.invokevirtual 42, 3) := by decide +kernel
theorem dX5_settle_28 : decode cX5_settle 28 = .ok (.istore_n 3, 1) := by decide +kernel
theorem dX5_settle_29 : decode cX5_settle 29 = .ok (.iload_n 3, 1) := by decide +kernel
theorem dX5_settle_30 : decode cX5_settle 30 = .ok (.iconst (-1), 1) := by decide +kernel
theorem dX5_settle_31 : decode cX5_settle 31 = .ok (.if_icmp .ne 18, 3) := by decide +kernel
theorem dX5_settle_34 : decode cX5_settle 34 = .ok (.aload_n 0, 1) := by decide +kernel
theorem dX5_settle_35 : decode cX5_settle 35 = .ok (.dup, 1) := by decide +kernel
theorem dX5_settle_36 : decode cX5_settle 36 = .ok (.getfield 24, 3) := by decide +kernel
theorem dX5_settle_39 : decode cX5_settle 39 = .ok (.iconst 1, 1) := by decide +kernel
theorem dX5_settle_40 : decode cX5_settle 40 = .ok (.iload_n 2, 1) := by decide +kernel
theorem dX5_settle_41 : decode cX5_settle 41 = .ok (.ishl, 1) := by decide +kernel
theorem dX5_settle_42 : decode cX5_settle 42 = .ok (.ior, 1) := by decide +kernel
theorem dX5_settle_43 : decode cX5_settle 43 = .ok (.putfield 24, 3) := by decide +kernel
theorem dX5_settle_46 : decode cX5_settle 46 = .ok (.goto 9, 3) := by decide +kernel
theorem dX5_settle_49 : decode cX5_settle 49 = .ok (.aload_n 0, 1) := by decide +kernel
theorem dX5_settle_50 : decode cX5_settle 50 = .ok (.iload_n 2, 1) := by decide +kernel
theorem dX5_settle_51 : decode cX5_settle 51 = .ok (.iload_n 3, 1) := by decide +kernel
theorem dX5_settle_52 : decode cX5_settle 52 = .ok (.invokevirtual 46, 3) := by decide +kernel
theorem dX5_settle_55 : decode cX5_settle 55 = .ok (.iinc 1 1, 3) := by decide +kernel
theorem dX5_settle_58 : decode cX5_settle 58 = .ok (.goto (-52), 3) := by decide +kernel
theorem dX5_settle_61 : decode cX5_settle 61 = .ok (.return_, 1) := by decide +kernel
set_option maxRecDepth 4000 in
set_option maxHeartbeats 4000000 in
theorem m_X5_settle (l : Launch) (g : qGm) (M : qMem) {sd : sSD} (hs : sRS sd) (hS : xS M sd) {v : Int → Int} (hv : sRR (sd 4 0) (sd 5 0) v) (hH : xH M 0 (sd 4 0) (sd 5 0) v) : qOk l g 5 yX5_settle cX5_settle 4 none [qR g 20 0] M (fun r N => r = none ∧ ∃ gv, N = xMt (xBg M sd v gv) (tEnd (fun c h => sSuit sd v c h) (sd 4 0) (sd 5 0))) := by
  refine q_ok (by decide +kernel) (Nat.le_of_ble_eq_true rfl) (fun X C' hn => ?_)
  have C := C'.1
  have hm6 := hs.2.1
  have hn6 := hs.2.2.1
  refine q_aloadn C dX5_settle_0 rfl ?_
  refine cv_RX5_35 C (by decide) (m_X5_begin l g _ hs hS hv hH) dX5_settle_1 (Nat.le_of_ble_eq_true rfl) ?_
  refine q_iconst C dX5_settle_4 ?_
  refine q_istoren C dX5_settle_5 hn (by decide) rfl ?_
  have L6 : ∀ (n6 : Nat) (i : Int) (k : Nat) (gv : Int) (N : qMem), 42 - i < (n6 : Int) → (0 ≤ i ∧ i ≤ 42) → (i = k + sPop gv) → (0 ≤ gv ∧ gv < 64) → (∀ c, 0 ≤ c → c < sd 4 0 → sHas gv c → tBest (fun c h => sSuit sd v c h) (sd 5 0) ((tRun (fun c h => sSuit sd v c h) (sd 4 0) (sd 5 0) k) 0 c) c = -1) → (k ≤ 36) → (N = xMt (xBg M sd v gv) (tRun (fun c h => sSuit sd v c h) (sd 4 0) (sd 5 0) k)) → qV l g X N 6 [(0, qR g 20 0), (1, qI i)] [] := by
    intro n6
    induction n6 with
    | zero => intro i k gv N hm6 h0 hk hg hgb hk6 hN; exfalso; first | omega | (simp at *; omega)
    | succ n6 ih6 =>
      intro i k gv N hm6 h0 hk hg hgb hk6 hN
      subst hN
      have hpg := q_popIn hg.1 hg.2
      refine q_iloadn C dX5_settle_6 rfl ?_
      refine q_bipush C dX5_settle_7 (by decide) ?_
      refine q_icmp_ge C 61 dX5_settle_9 (by decide) (by first | assumption | omega | exact q_tin _ | exact q_bIn _) (by first | assumption | omega | exact q_tin _ | exact q_bIn _) (fun h9 => ?_) (fun h9 => ?_)
      · refine q_vret C' dX5_settle_61 ?_
        have e9 : k = 36 := by omega
        subst e9
        exact ⟨rfl, gv, rfl⟩
      · refine q_aloadn C dX5_settle_12 rfl ?_
        refine cv_RX5_38 C (by decide) (m_X5_firstWaiting l g _ hs (xS_cong (xBg_off M sd v _ _) hS) (by rw [xBg_5]; exact hg)) dX5_settle_13 (Nat.le_of_ble_eq_true rfl) (fun r13 => ?_)
        have hf := xFirst hs (M := M) (v := v) (gv := gv) (T := (tRun (fun c h => sSuit sd v c h) (sd 4 0) (sd 5 0) k))
        generalize (sFr (fun c => decide (xMt (xBg M sd v gv) (tRun (fun c h => sSuit sd v c h) (sd 4 0) (sd 5 0) k) 23 0 c = -1 ∧ ¬ sHas (xMt (xBg M sd v gv) (tRun (fun c h => sSuit sd v c h) (sd 4 0) (sd 5 0) k) 20 0 5) c)) (sd 4 0) 0) = c at hf r13 ⊢
        refine q_istoren C dX5_settle_16 hn (by decide) rfl ?_
        refine q_iloadn C dX5_settle_17 rfl ?_
        refine q_iconst C dX5_settle_18 ?_
        refine q_icmp_ne C 23 dX5_settle_19 (by decide) (by first | assumption | omega | exact q_tin _ | exact q_bIn _) (by first | assumption | omega | exact q_tin _ | exact q_bIn _) (fun h19 => ?_) (fun h19 => ?_)
        · obtain ⟨hx, -⟩ | hfc := hf
          · exact absurd hx h19
          refine q_aloadn C dX5_settle_23 rfl ?_
          refine q_iloadn C dX5_settle_24 rfl ?_
          refine cv_RX5_42 C (by decide) (m_X5_bestLeft l g _ hs (xS_cong (xBg_off M sd v _ _) hS) (by omega) (by rw [xMt_22]; exact ((tRun_S hs v k).1 _ (by omega) (by omega)).1)) dX5_settle_25 (Nat.le_of_ble_eq_true rfl) (fun r25 => ?_)
          rw [xBest hs ⟨hfc.1, hfc.2.1⟩] at r25 ⊢
          refine q_istoren C dX5_settle_28 hn (by decide) rfl ?_
          refine q_iloadn C dX5_settle_29 rfl ?_
          refine q_iconst C dX5_settle_30 ?_
          refine q_icmp_ne C 49 dX5_settle_31 (by decide) (by first | assumption | omega | exact q_tin _ | exact q_bIn _) (by first | assumption | omega | exact q_tin _ | exact q_bIn _) (fun h31 => ?_) (fun h31 => ?_)
          · have hbb := (tBest_in (S := fun c h => sSuit sd v c h) (r := (tRun (fun c h => sSuit sd v c h) (sd 4 0) (sd 5 0) k) 0 c) (c := c) hs.2.2.1.1).resolve_left h31
            have hnx : tNext (fun c h => sSuit sd v c h) (sd 4 0) (sd 5 0) (tRun (fun c h => sSuit sd v c h) (sd 4 0) (sd 5 0) k) = c := tNext_of ⟨hfc.1, hfc.2.1⟩ hfc.2.2.1 h31 (fun q a b c1 => hgb q a (by omega) (hfc.2.2.2.2 q a b c1))
            have hk36 : k < 36 := tRun_lt hs.2.1 hs.2.2.1 (by rw [hnx]; omega)
            refine q_aloadn C dX5_settle_49 rfl ?_
            refine q_iloadn C dX5_settle_50 rfl ?_
            refine q_iloadn C dX5_settle_51 rfl ?_
            refine cv_RX5_46 C (by decide) (m_X5_ask l g _ hs.2.1.2 hs.2.2.1.2 (tRun_S hs v k) (S := fun c h => sSuit sd v c h) (fun c h a1 a2 a3 a4 => by rw [xBg_21]; exact xSW_at ⟨a1, a2⟩ ⟨a3, a4⟩ hs.2.2.1.2) ⟨hfc.1, hfc.2.1⟩ ⟨hbb.1, hbb.2.1⟩) dX5_settle_52 (Nat.le_of_ble_eq_true rfl) ?_
            refine q_iinc C dX5_settle_55 rfl hn (by decide) rfl ?_
            refine q_goto C (tgt := 6) dX5_settle_58 (by decide) ?_
            have hst : tRun (fun c h => sSuit sd v c h) (sd 4 0) (sd 5 0) (k + 1) = tAsk (fun c h => sSuit sd v c h) (tRun (fun c h => sSuit sd v c h) (sd 4 0) (sd 5 0) k) c (tBest (fun c h => sSuit sd v c h) (sd 5 0) ((tRun (fun c h => sSuit sd v c h) (sd 4 0) (sd 5 0) k) 0 c) c) := by rw [tRun, tStep, hnx, if_neg (by omega)]
            exact q_ls (by exact ⟨rfl, rfl, trivial⟩) (ih6 _ (k + 1) gv _ (by omega) (by omega) (by omega) hg (fun q a b e => by rw [hst]; exact tBest_mono hs.2.2.1.1 (fun h' a1 a2 a3 => tAsk_mono hs.2.1.2 hs.2.2.1.2 (tRun_S hs v k) ⟨hfc.1, hfc.2.1⟩ ⟨hbb.1, hbb.2.1⟩ ⟨a, b⟩ ⟨a1, a2⟩ a3) (hgb q a b e)) (by omega) (by rw [hst]))
          · refine q_aloadn C dX5_settle_34 rfl ?_
            refine q_dup C dX5_settle_35 rfl ?_
            refine gf_RX5_24 C dX5_settle_36 (fun r36 => ?_)
            rw [xBg_5] at r36 ⊢
            refine q_iconst C dX5_settle_39 ?_
            refine q_iloadn C dX5_settle_40 rfl ?_
            refine q_ishl C dX5_settle_41 ?_
            refine q_ior C dX5_settle_42 ?_
            refine pf_RX5_24 C (by first | assumption | omega | exact q_tin _ | exact q_bIn _) dX5_settle_43 ?_
            refine q_goto C (tgt := 55) dX5_settle_46 (by decide) ?_
            refine q_iinc C dX5_settle_55 rfl hn (by decide) rfl ?_
            refine q_goto C (tgt := 6) dX5_settle_58 (by decide) ?_
            have had := q_addIn hg.1 hg.2 hfc.1 (show c < 6 by omega)
            have hpa := q_popAdd hg.1 hg.2 hfc.1 (show c < 6 by omega) hfc.2.2.2.1
            exact q_ls (by exact ⟨rfl, rfl, trivial⟩) (ih6 _ k (sAdd gv c) _ (by omega) (by have := q_popIn had.1 had.2; omega) (by omega) had (fun q a b e => by
              rcases (q_addHas hg.1 hg.2 hfc.1 (show c < 6 by omega) a (show q < 6 by omega)).mp e with e1 | e1
              · rw [e1]; exact Classical.byContradiction h31
              · exact hgb q a b e1) hk6 (by rw [xBg_gv]; rfl))
        · refine q_vret C' dX5_settle_22 ?_
          obtain ⟨-, hall⟩ | hfc := hf
          · exact ⟨rfl, gv, by rw [tEnd_of hs.2.1 hs.2.2.1 (tNext_none hs.2.1.1 (fun q a b e => hgb q a b (hall q a b e))) hk6]⟩
          · exfalso; omega
  exact q_ls (by exact ⟨rfl, rfl, trivial⟩) (L6 1000 0 0 0 _ (by omega) (by omega) (by rfl) (by omega) (by intro c a1 a2 a3; exfalso; revert a3; exact (by show ¬ (0 : Int) / 2 ^ c.toNat % 2 = 1; simp)) (by omega) (by rfl))
theorem dX5_houseOf_0 : decode cX5_houseOf 0 = .ok (.aload_n 0, 1) := by decide +kernel
theorem dX5_houseOf_1 : decode cX5_houseOf 1 = .ok (.invokevirtual 32, 3) := by decide +kernel
theorem dX5_houseOf_4 : decode cX5_houseOf 4 = .ok (.aload_n 0, 1) := by decide +kernel
theorem dX5_houseOf_5 : decode cX5_houseOf 5 = .ok (.getfield 18, 3) := by decide +kernel
theorem dX5_houseOf_8 : decode cX5_houseOf 8 = .ok (.iload_n 1, 1) := by decide +kernel
theorem dX5_houseOf_9 : decode cX5_houseOf 9 = .ok (.iaload, 1) := by decide +kernel
theorem dX5_houseOf_10 : decode cX5_houseOf 10 = .ok (.ireturn, 1) := by decide +kernel
set_option maxRecDepth 4000 in
set_option maxHeartbeats 4000000 in
theorem m_X5_houseOf (l : Launch) (g : qGm) (M : qMem) {sd : sSD} (hs : sRS sd) (hS : xS M sd) {v : Int → Int} (hv : sRR (sd 4 0) (sd 5 0) v) (hH : xH M 0 (sd 4 0) (sd 5 0) v) {c : Int} (hx : 0 ≤ c ∧ c < 6) : qOk l g 6 yX5_houseOf cX5_houseOf 2 (some .int) [qR g 20 0, qI c] M (fun r N => r = some ((tEnd (fun c h => sSuit sd v c h) (sd 4 0) (sd 5 0)) 1 c) ∧ ∃ gv, N = xMt (xBg M sd v gv) (tEnd (fun c h => sSuit sd v c h) (sd 4 0) (sd 5 0))) := by
  refine q_ok (by decide +kernel) (Nat.le_of_ble_eq_true rfl) (fun X C' hn => ?_)
  have C := C'.1
  refine q_aloadn C dX5_houseOf_0 rfl ?_
  refine cw_RX5_32 C (by decide) (m_X5_settle l g _ hs hS hv hH) dX5_houseOf_1 (Nat.le_of_ble_eq_true rfl) (fun r N hz hp => ?_)
  obtain ⟨rfl, gv, rfl⟩ := hp
  show qV l g X _ _ _ []
  refine q_aloadn C dX5_houseOf_4 rfl ?_
  refine gf_RX5_18 C dX5_houseOf_5 ?_
  refine q_iloadn C dX5_houseOf_8 rfl ?_
  refine q_iald C (by first | assumption | decide | omega) rfl dX5_houseOf_9 (by omega) (by omega) (by decide) (fun r9 => ?_)
  refine q_iret C' dX5_houseOf_10 (by first | assumption | omega | exact q_tin _ | exact q_bIn _) ?_
  refine ⟨?_, gv, rfl⟩
  rw [xMt_23]
theorem dX5_comerOf_0 : decode cX5_comerOf 0 = .ok (.aload_n 0, 1) := by decide +kernel
theorem dX5_comerOf_1 : decode cX5_comerOf 1 = .ok (.invokevirtual 32, 3) := by decide +kernel
theorem dX5_comerOf_4 : decode cX5_comerOf 4 = .ok (.aload_n 0, 1) := by decide +kernel
theorem dX5_comerOf_5 : decode cX5_comerOf 5 = .ok (.getfield 21, 3) := by decide +kernel
theorem dX5_comerOf_8 : decode cX5_comerOf 8 = .ok (.iload_n 1, 1) := by decide +kernel
theorem dX5_comerOf_9 : decode cX5_comerOf 9 = .ok (.iaload, 1) := by decide +kernel
theorem dX5_comerOf_10 : decode cX5_comerOf 10 = .ok (.ireturn, 1) := by decide +kernel
set_option maxRecDepth 4000 in
set_option maxHeartbeats 4000000 in
theorem m_X5_comerOf (l : Launch) (g : qGm) (M : qMem) {sd : sSD} (hs : sRS sd) (hS : xS M sd) {v : Int → Int} (hv : sRR (sd 4 0) (sd 5 0) v) (hH : xH M 0 (sd 4 0) (sd 5 0) v) {h : Int} (hx : 0 ≤ h ∧ h < 6) : qOk l g 6 yX5_comerOf cX5_comerOf 2 (some .int) [qR g 20 0, qI h] M (fun r N => r = some ((tEnd (fun c h => sSuit sd v c h) (sd 4 0) (sd 5 0)) 2 h) ∧ ∃ gv, N = xMt (xBg M sd v gv) (tEnd (fun c h => sSuit sd v c h) (sd 4 0) (sd 5 0))) := by
  refine q_ok (by decide +kernel) (Nat.le_of_ble_eq_true rfl) (fun X C' hn => ?_)
  have C := C'.1
  refine q_aloadn C dX5_comerOf_0 rfl ?_
  refine cw_RX5_32 C (by decide) (m_X5_settle l g _ hs hS hv hH) dX5_comerOf_1 (Nat.le_of_ble_eq_true rfl) (fun r N hz hp => ?_)
  obtain ⟨rfl, gv, rfl⟩ := hp
  show qV l g X _ _ _ []
  refine q_aloadn C dX5_comerOf_4 rfl ?_
  refine gf_RX5_21 C dX5_comerOf_5 ?_
  refine q_iloadn C dX5_comerOf_8 rfl ?_
  refine q_iald C (by first | assumption | decide | omega) rfl dX5_comerOf_9 (by omega) (by omega) (by decide) (fun r9 => ?_)
  refine q_iret C' dX5_comerOf_10 (by first | assumption | omega | exact q_tin _ | exact q_bIn _) ?_
  refine ⟨?_, gv, rfl⟩
  rw [xMt_24]
