/-! the state of section 2 as the reference keeps it -/
def zM (M : qMem) : sZ := fun a b c => if a = 0 then M 61 0 c else if a = 1 then M 67 0 (199 * b + c) else if a = 2 then (if c = 0 then M 35 0 26 else if c = 1 then M 35 0 25 else if c = 2 then M 35 0 28 else 0) else if a = 3 then M 76 0 (199 * b + c) else if a = 4 then (if c = 0 then M 75 0 b else if c = 1 then M 77 0 b else 0) else 0
/-- alike but for what lies between undo rows -/
def zF (W Z : sZ) : Prop := W 0 = Z 0 ∧ W 2 = Z 2 ∧ (∀ a, 3 ≤ a → W a = Z a) ∧ (∀ b c, 0 ≤ b → b < 30 → 0 ≤ c → c < 199 → W 1 b c = Z 1 b c)
theorem zF.rf {Z : sZ} : zF Z Z := ⟨rfl, rfl, fun _ _ => rfl, fun _ _ _ _ _ _ => rfl⟩
theorem zF.tr {Z W V : sZ} (h : zF Z W) (k : zF W V) : zF Z V := ⟨h.1.trans k.1, h.2.1.trans k.2.1, fun a q => (h.2.2.1 a q).trans (k.2.2.1 a q), fun b c q1 q2 q3 q4 => (h.2.2.2 b c q1 q2 q3 q4).trans (k.2.2.2 b c q1 q2 q3 q4)⟩
theorem zF.row {W Z : sZ} (h : zF W Z) (v : Int → Int) : zF (zRow W v) (zRow Z v) := by
  refine ⟨by funext b c; simp [zRow], ?_, fun a q => ?_, fun b c q1 q2 q3 q4 => ?_⟩
  · have := h.2.1; funext b c; simp [zRow]; rw [this]
  · have := h.2.2.1 a q; funext b c; unfold zRow; rw [if_neg (by omega), if_neg (by omega), this]
  · have := h.2.2.2 b c q1 q2 q3 q4; simp [zRow]; exact this
theorem zF.rem {W Z : sZ} (h : zF W Z) : zF (zRem W) (zRem Z) := by
  obtain ⟨h0, h2, h3, h1⟩ := h
  refine ⟨?_, ?_, fun a q => ?_, fun b c q1 q2 q3 q4 => ?_⟩
  · funext b c; simp [zRem]; rw [h0]
  · funext b c; simp [zRem]; rw [h2]
  · have := h3 a q; funext b c; unfold zRem; rw [if_neg (by omega), if_neg (by omega), if_neg (by omega), if_neg (by omega), this]
  · simp [zRem]; rw [h2, h0, h1 b c q1 q2 q3 q4]
theorem zF.seed {W Z : sZ} (h : zF W Z) (s : Int) : zF (zSeed W s) (zSeed Z s) := by
  obtain ⟨h0, h2, h3, h1⟩ := h
  refine ⟨?_, ?_, fun a q => ?_, fun b c q1 q2 q3 q4 => ?_⟩
  · funext b c; simp [zSeed]; rw [h0]
  · funext b c; simp [zSeed]; rw [h2]
  · have := h3 a q; funext b c; unfold zSeed; rw [if_neg (by omega), if_neg (by omega), this]
  · simp [zSeed]; exact h1 b c q1 q2 q3 q4
theorem zF.day {W Z : sZ} (h : zF W Z) (n : Int) : zF (zDay1 n W) (zDay1 n Z) := by
  have := h.1
  unfold zDay1
  rw [this]
  exact h.row _
theorem zF.draw {W Z : sZ} (h : zF W Z) : zF (zDraw W) (zDraw Z) := by
  have := h.2.1
  unfold zDraw
  rw [this]
  exact h.seed _
theorem zF.val {W Z : sZ} (h : zF W Z) (n : Int) : zVal W n = zVal Z n := by unfold zVal; rw [h.2.1]
theorem zF.lbd {W Z : sZ} (h : zF W Z) (sd : sSD) : zF (zLbd sd W) (zLbd sd Z) := by
  unfold zLbd
  split
  · rw [h.draw.val, h.draw.draw.val, h.draw.draw.draw.val, h.1]
    exact h.draw.draw.draw.row _
  · exact h
/-- what the reference's deeds leave -/
def mDP (M N : qMem) : Prop := (∀ j u, ¬ (u = 0 ∧ (j = 35 ∨ j = 61 ∨ j = 67)) → N j u = M j u) ∧ (∀ i, i ≠ 25 → i ≠ 26 → i ≠ 28 → N 35 0 i = M 35 0 i)
theorem mDP.rf {M : qMem} : mDP M M := ⟨fun _ _ _ => rfl, fun _ _ _ _ => rfl⟩
theorem mDP.tr {M N K : qMem} (h : mDP M N) (k : mDP N K) : mDP M K := ⟨fun j u q => (k.1 j u q).trans (h.1 j u q), fun i a b c => (k.2 i a b c).trans (h.2 i a b c)⟩
theorem mDP.mS {M N : qMem} {sd : sSD} (h : mDP M N) (hx : mS M sd) : mS N sd := by
  unfold Jvm.Pilot.CGloveSignsLaw_law_r8063_146d04.mS at *
  rw [h.2 15 (by decide) (by decide) (by decide), h.2 16 (by decide) (by decide) (by decide), h.2 17 (by decide) (by decide) (by decide), h.1 58 0 (by omega), h.1 59 0 (by omega), h.1 60 0 (by omega)]
  exact hx
def mUn (M : qMem) (i : Int) : qMem := qSet M 67 0 (fun j => if 199 * M 35 0 26 ≤ j ∧ j < 199 * M 35 0 26 + i then M 61 0 (j - 199 * M 35 0 26) else M 67 0 j)
def mRem (M : qMem) : qMem := qUp (qUp (mUn M 199) 35 0 26 ((M 35 0 26 + 1) % 30)) 35 0 25 (M 35 0 25 + (if M 35 0 25 < 30 then 1 else 0))
theorem mUn_s {M : qMem} {i : Int} (h : 0 ≤ i) : qUp (mUn M i) 67 0 (199 * M 35 0 26 + i) (M 61 0 i) = mUn M (i + 1) := by
  unfold mUn
  rw [q_upSet]
  refine q_setC (fun k => ?_)
  by_cases e : k = 199 * M 35 0 26 + i
  · rw [if_pos e, if_pos (by omega), e, show 199 * M 35 0 26 + i - 199 * M 35 0 26 = i by omega]
  · rw [if_neg e]
    by_cases q : 199 * M 35 0 26 ≤ k ∧ k < 199 * M 35 0 26 + i
    · rw [if_pos q, if_pos (by omega)]
    · rw [if_neg q, if_neg (by omega)]
theorem mRem_z {M : qMem} (h26 : 0 ≤ M 35 0 26 ∧ M 35 0 26 < 30) (h25 : 0 ≤ M 35 0 25 ∧ M 35 0 25 ≤ 30) : zF (zM (mRem M)) (zRem (zM M)) ∧ mDP M (mRem M) := by
  have f61 : mRem M 61 0 = M 61 0 := by unfold mRem mUn; rw [q_upF (by omega), q_upF (by omega), q_setF (by omega)]
  have f76 : mRem M 76 0 = M 76 0 := by unfold mRem mUn; rw [q_upF (by omega), q_upF (by omega), q_setF (by omega)]
  have f75 : mRem M 75 0 = M 75 0 := by unfold mRem mUn; rw [q_upF (by omega), q_upF (by omega), q_setF (by omega)]
  have f77 : mRem M 77 0 = M 77 0 := by unfold mRem mUn; rw [q_upF (by omega), q_upF (by omega), q_setF (by omega)]
  have f67 : mRem M 67 0 = fun j => if 199 * M 35 0 26 ≤ j ∧ j < 199 * M 35 0 26 + 199 then M 61 0 (j - 199 * M 35 0 26) else M 67 0 j := by unfold mRem mUn; rw [q_upF (by omega), q_upF (by omega), q_setOn]
  have a1 : mRem M 35 0 26 = (M 35 0 26 + 1) % 30 := by unfold mRem; simp [q_rd]
  have a2 : mRem M 35 0 25 = M 35 0 25 + (if M 35 0 25 < 30 then 1 else 0) := by unfold mRem; simp [q_rd]
  have a3 : mRem M 35 0 28 = M 35 0 28 := by unfold mRem mUn; simp [q_rd, q_rdS]
  refine ⟨⟨?_, ?_, fun a q => ?_, fun b c q1 q2 q3 q4 => ?_⟩, fun j u q => ?_, fun i q1 q2 q3 => ?_⟩
  · funext b c; simp [zM, zRem, f61]
  · funext b c
    simp only [zM, zRem]
    simp
    rw [a1, a2, a3]
    by_cases e0 : c = 0
    · simp [e0]; split <;> omega
    · by_cases e1 : c = 1
      · simp [e1]; unfold sMin; split <;> split <;> omega
      · simp [e0, e1]
  · funext b c
    simp only [zM, zRem]
    simp only [f76, f75, f77]
    simp [show a ≠ 0 by omega, show a ≠ 1 by omega, show a ≠ 2 by omega]
  · simp only [zM, zRem]
    simp
    rw [f67]
    dsimp only
    by_cases e : b = M 35 0 26
    · rw [if_pos e, if_pos (by omega)]; exact congrArg (M 61 0) (by omega)
    · rw [if_neg e, if_neg (by omega)]
  · unfold mRem mUn; rw [q_upF (by omega), q_upF (by omega), q_setF (by omega)]
  · unfold mRem mUn; simp [q_rd, q_rdS, q1, q2]
theorem dX12_remember_0 : decode cX12_remember 0 = .ok (.iconst 0, 1) := by decide +kernel
theorem dX12_remember_1 : decode cX12_remember 1 = .ok (.istore_n 1, 1) := by decide +kernel
theorem dX12_remember_2 : decode cX12_remember 2 = .ok (.iload_n 1, 1) := by decide +kernel
theorem dX12_remember_3 : decode cX12_remember 3 = .ok (.sipush 199, 3) := by decide +kernel
theorem dX12_remember_6 : decode cX12_remember 6 = .ok (.if_icmp .ge 30, 3) := by decide +kernel
theorem dX12_remember_9 : decode cX12_remember 9 = .ok (.aload_n 0, 1) := by decide +kernel
theorem dX12_remember_10 : decode cX12_remember 10 = .ok (.getfield 59, 3) := by decide +kernel
theorem dX12_remember_13 : decode cX12_remember 13 = .ok (.sipush 199, 3) := by decide +kernel
theorem dX12_remember_16 : decode cX12_remember 16 = .ok (.aload_n 0, 1) := by decide +kernel
theorem dX12_remember_17 : decode cX12_remember 17 = .ok (.getfield 225, 3) := by decide +kernel
theorem dX12_remember_20 : decode cX12_remember 20 = .ok (.imul, 1) := by decide +kernel
theorem dX12_remember_21 : decode cX12_remember 21 = .ok (.iload_n 1, 1) := by decide +kernel
theorem dX12_remember_22 : decode cX12_remember 22 = .ok (.iadd, 1) := by decide +kernel
theorem dX12_remember_23 : decode cX12_remember 23 = .ok (.aload_n 0, 1) := by decide +kernel
theorem dX12_remember_24 : decode cX12_remember 24 = .ok (.getfield 47, 3) := by decide +kernel
theorem dX12_remember_27 : decode cX12_remember 27 = .ok (.iload_n 1, 1) := by decide +kernel
theorem dX12_remember_28 : decode cX12_remember 28 = .ok (.iaload, 1) := by decide +kernel
theorem dX12_remember_29 : decode cX12_remember 29 = .ok (.iastore, 1) := by decide +kernel
theorem dX12_remember_30 : decode cX12_remember 30 = .ok (.iinc 1 1, 3) := by decide +kernel
theorem dX12_remember_33 : decode cX12_remember 33 = .ok (.goto (-31), 3) := by decide +kernel
theorem dX12_remember_36 : decode cX12_remember 36 = .ok (.aload_n 0, 1) := by decide +kernel
theorem dX12_remember_37 : decode cX12_remember 37 = .ok (.aload_n 0, 1) := by decide +kernel
theorem dX12_remember_38 : decode cX12_remember 38 = .ok (.getfield 225, 3) := by decide +kernel
theorem dX12_remember_41 : decode cX12_remember 41 = .ok (.iconst 1, 1) := by decide +kernel
theorem dX12_remember_42 : decode cX12_remember 42 = .ok (.iadd, 1) := by decide +kernel
theorem dX12_remember_43 : decode cX12_remember 43 = .ok (.bipush 30, 2) := by decide +kernel
theorem dX12_remember_45 : decode cX12_remember 45 = .ok (.irem, 1) := by decide +kernel
theorem dX12_remember_46 : decode cX12_remember 46 = .ok (.putfield 225, 3) := by decide +kernel
theorem dX12_remember_49 : decode cX12_remember 49 = .ok (.aload_n 0, 1) := by decide +kernel
theorem dX12_remember_50 : decode cX12_remember 50 = .ok (.dup, 1) := by decide +kernel
theorem dX12_remember_51 : decode cX12_remember 51 = .ok (.getfield 153, 3) := by decide +kernel
theorem dX12_remember_54 : decode cX12_remember 54 = .ok (.aload_n 0, 1) := by decide +kernel
theorem dX12_remember_55 : decode cX12_remember 55 = .ok (.getfield 153, 3) := by decide +kernel
theorem dX12_remember_58 : decode cX12_remember 58 = .ok (.bipush 30, 2) := by decide +kernel
theorem dX12_remember_60 : decode cX12_remember 60 = .ok (.if_icmp .ge 7, 3) := by decide +kernel
theorem dX12_remember_63 : decode cX12_remember 63 = .ok (.iconst 1, 1) := by decide +kernel
theorem dX12_remember_64 : decode cX12_remember 64 = .ok (.goto 4, 3) := by decide +kernel
theorem dX12_remember_67 : decode cX12_remember 67 = .ok (.iconst 0, 1) := by decide +kernel
theorem dX12_remember_68 : decode cX12_remember 68 = .ok (.iadd, 1) := by decide +kernel
theorem dX12_remember_69 : decode cX12_remember 69 = .ok (.putfield 153, 3) := by decide +kernel
theorem dX12_remember_72 : decode cX12_remember 72 = .ok (.return_, 1) := by decide +kernel
set_option maxRecDepth 4000 in
set_option maxHeartbeats 4000000 in
theorem m_X12_remember (l : Launch) (g : qGm) (M : qMem) (h26 : 0 ≤ M 35 0 26 ∧ M 35 0 26 < 30) (h25 : 0 ≤ M 35 0 25 ∧ M 35 0 25 ≤ 30) : qOk l g 1 yX12_remember cX12_remember 2 none [qR g 35 0] M (qEv none (mRem M)) := by
  refine q_ok (by decide +kernel) (Nat.le_of_ble_eq_true rfl) (fun X C' hn => ?_)
  have C := C'.1
  refine q_iconst C dX12_remember_0 ?_
  refine q_istoren C dX12_remember_1 hn (by decide) rfl ?_
  have L2 : ∀ (n2 : Nat) (i : Int) (N : qMem), 199 - i < (n2 : Int) → (0 ≤ i) → (i ≤ 199) → (N = mUn M i) → qV l g X N 2 [(0, qR g 35 0), (1, qI i)] [] := by
    intro n2
    induction n2 with
    | zero => intro i N hm2 i0 i1 hN; exfalso; first | omega | (simp at *; omega)
    | succ n2 ih2 =>
      intro i N hm2 i0 i1 hN
      subst hN
      have n1 : mUn M i 35 0 26 = M 35 0 26 := by unfold mUn; rw [q_setF (by omega)]
      have n2 : mUn M i 35 0 25 = M 35 0 25 := by unfold mUn; rw [q_setF (by omega)]
      have n3 : mUn M i 61 0 i = M 61 0 i := by unfold mUn; rw [q_setF (by omega)]
      refine q_iloadn C dX12_remember_2 rfl ?_
      refine q_sipush C dX12_remember_3 (by decide) ?_
      refine q_icmp_ge C 36 dX12_remember_6 (by decide) (by first | assumption | omega | exact q_tin _ | exact q_bIn _) (by first | assumption | omega | exact q_tin _ | exact q_bIn _) (fun h6 => ?_) (fun h6 => ?_)
      · refine q_aloadn C dX12_remember_36 rfl ?_
        refine q_aloadn C dX12_remember_37 rfl ?_
        refine gf_RX12_225 C dX12_remember_38 (fun r38 => ?_)
        try simp only [q_rd, q_rdS, ↓reduceIte, if_true, if_false, eq_self, Nat.reduceEqDiff, Int.reduceEq, Int.reduceNeg, reduceCtorEq, n1, n2, n3] at r38 ⊢
        refine q_iconst C dX12_remember_41 ?_
        refine q_iadd C dX12_remember_42 ?_
        refine q_bipush C dX12_remember_43 (by decide) ?_
        refine q_irem C dX12_remember_45 (by omega) (by omega) (by omega) (by omega) ?_
        refine pf_RX12_225 C (by first | assumption | omega | exact q_tin _ | exact q_bIn _) dX12_remember_46 ?_
        refine q_aloadn C dX12_remember_49 rfl ?_
        refine q_dup C dX12_remember_50 rfl ?_
        refine gf_RX12_153 C dX12_remember_51 (fun r51 => ?_)
        try simp only [q_rd, q_rdS, ↓reduceIte, if_true, if_false, eq_self, Nat.reduceEqDiff, Int.reduceEq, Int.reduceNeg, reduceCtorEq, n1, n2, n3] at r51 ⊢
        refine q_aloadn C dX12_remember_54 rfl ?_
        refine gf_RX12_153 C dX12_remember_55 (fun r55 => ?_)
        try simp only [q_rd, q_rdS, ↓reduceIte, if_true, if_false, eq_self, Nat.reduceEqDiff, Int.reduceEq, Int.reduceNeg, reduceCtorEq, n1, n2, n3] at r55 ⊢
        refine q_bipush C dX12_remember_58 (by decide) ?_
        refine q_icmp_ge C 67 dX12_remember_60 (by decide) (by first | assumption | omega | exact q_tin _ | exact q_bIn _) (by first | assumption | omega | exact q_tin _ | exact q_bIn _) (fun h60 => ?_) (fun h60 => ?_)
        · refine q_iconst C dX12_remember_67 ?_
          refine q_iadd C dX12_remember_68 ?_
          refine pf_RX12_153 C (by first | assumption | omega | exact q_tin _ | exact q_bIn _) dX12_remember_69 ?_
          refine q_vret C' dX12_remember_72 ?_
          have e9 : i = 199 := (by omega)
          refine ⟨rfl, ?_⟩
          rw [e9]
          unfold mRem
          first | (rw [if_pos (show M 35 0 25 < 30 by omega)]; done) | (rw [if_neg (show ¬ M 35 0 25 < 30 by omega)]; done)
        · refine q_iconst C dX12_remember_63 ?_
          refine q_goto C (tgt := 68) dX12_remember_64 (by decide) ?_
          refine q_iadd C dX12_remember_68 ?_
          refine pf_RX12_153 C (by first | assumption | omega | exact q_tin _ | exact q_bIn _) dX12_remember_69 ?_
          refine q_vret C' dX12_remember_72 ?_
          have e9 : i = 199 := (by omega)
          refine ⟨rfl, ?_⟩
          rw [e9]
          unfold mRem
          first | (rw [if_pos (show M 35 0 25 < 30 by omega)]; done) | (rw [if_neg (show ¬ M 35 0 25 < 30 by omega)]; done)
      · refine q_aloadn C dX12_remember_9 rfl ?_
        refine gf_RX12_59 C dX12_remember_10 ?_
        refine q_sipush C dX12_remember_13 (by decide) ?_
        refine q_aloadn C dX12_remember_16 rfl ?_
        refine gf_RX12_225 C dX12_remember_17 (fun r17 => ?_)
        try simp only [q_rd, q_rdS, ↓reduceIte, if_true, if_false, eq_self, Nat.reduceEqDiff, Int.reduceEq, Int.reduceNeg, reduceCtorEq, n1, n2, n3] at r17 ⊢
        refine q_imul C dX12_remember_20 ?_
        refine q_iloadn C dX12_remember_21 rfl ?_
        refine q_iadd C dX12_remember_22 ?_
        refine q_aloadn C dX12_remember_23 rfl ?_
        refine gf_RX12_47 C dX12_remember_24 ?_
        refine q_iloadn C dX12_remember_27 rfl ?_
        refine q_iald C (by first | assumption | decide | omega) rfl dX12_remember_28 (by omega) (by omega) (by decide) (fun r28 => ?_)
        try simp only [q_rd, q_rdS, ↓reduceIte, if_true, if_false, eq_self, Nat.reduceEqDiff, Int.reduceEq, Int.reduceNeg, reduceCtorEq, n1, n2, n3] at r28 ⊢
        refine q_iast C (by first | assumption | decide | omega) (fun _ => rfl) dX12_remember_29 (by omega) (by omega) (by decide) (by first | assumption | omega | exact q_tin _ | exact q_bIn _) ?_
        refine q_iinc C dX12_remember_30 rfl hn (by decide) rfl ?_
        refine q_goto C (tgt := 2) dX12_remember_33 (by decide) ?_
        exact q_ls (by exact ⟨rfl, rfl, trivial⟩) (ih2 (i + 1) _ (by omega) (by omega) (by omega) (by exact mUn_s i0))
  exact q_ls (by exact ⟨rfl, rfl, trivial⟩) (L2 1000 0 M (by omega) (by omega) (by omega) (by unfold mUn; exact (q_setC0 (fun k => if_neg (by omega))).symm))
