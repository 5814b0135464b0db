/-- what the reference's deeds leave -/
def mDE (M N : qMem) : Prop := (∀ j u, ¬ (u = 0 ∧ (j = 35 ∨ j = 61 ∨ j = 67 ∨ 75 ≤ j)) → N j u = M j u) ∧ (∀ i, i ≠ 25 → i ≠ 26 → i ≠ 28 → N 35 0 i = M 35 0 i)
theorem mDP.e {M N : qMem} (h : mDP M N) : mDE M N := ⟨fun j u q => h.1 j u (by omega), h.2⟩
def mE (M : qMem) (d : Int × sZ) (r : Option Int) (N : qMem) : Prop := r = some d.1 ∧ zG (zM N) d.2 ∧ mDE M N
theorem mD.e {M N : qMem} {d : Int × sZ} {r : Option Int} (h : mD M d r N) : mE M d r N := ⟨h.1, h.2.1.g, h.2.2.e⟩
theorem zG.rf {Z : sZ} : zG Z Z := ⟨fun _ _ _ => rfl, ⟨rfl, rfl, rfl⟩, fun _ _ _ _ _ _ => rfl, fun _ _ => ⟨fun _ _ _ => rfl, rfl, rfl⟩⟩
theorem mDE.rf {M : qMem} : mDE M M := ⟨fun _ _ _ => rfl, fun _ _ _ _ => rfl⟩
/-- all but one row -/
def mOf (j0 : Nat) (K N : qMem) : Prop := ∀ j u, ¬ (j = j0 ∧ u = 0) → N j u = K j u
theorem mOf.w {j0 : Nat} {K N : qMem} {i z : Int} (h : mOf j0 K N) : mOf j0 K (qUp N j0 0 i z) := fun j' u q => (q_upF q).trans (h j' u q)
theorem mUndo_end {M N : qMem} {k p : Int} (hp : p = xPos (M 35 0 26) k) (sf : mOf 61 (qUp (qUp M 35 0 26 p) 35 0 25 (M 35 0 25 - k)) N) (s1 : ∀ i, 0 ≤ i → i < 199 → N 61 0 i = M 67 0 (199 * p + i)) : zG (zM N) (zBack (zM M) k) ∧ mDE M N := by
  have k35 : ∀ i, N 35 0 i = qUp (qUp M 35 0 26 p) 35 0 25 (M 35 0 25 - k) 35 0 i := fun i => congrFun (sf 35 0 (by omega)) i
  have kj : ∀ j u, ¬ (j = 61 ∧ u = 0) → ¬ (j = 35 ∧ u = 0) → N j u = M j u := fun j u a b => by rw [sf j u a, q_upF b, q_upF b]
  refine ⟨⟨fun c a b => ?_, ⟨?_, ?_, ?_⟩, fun b c a1 a2 a3 a4 => ?_, fun i hi => ⟨fun c a b => ?_, ?_, ?_⟩⟩, fun j u q => kj j u (by omega) (by omega), fun i a b c => ?_⟩
  · show N 61 0 c = M 67 0 (199 * xPos (M 35 0 26) k + c)
    rw [← hp]; exact s1 c a b
  · show N 35 0 26 = xPos (M 35 0 26) k
    rw [k35, q_upK (by decide), q_upO, hp]
  · show N 35 0 25 = M 35 0 25 - k
    rw [k35, q_upO]
  · show N 35 0 28 = M 35 0 28
    rw [k35, q_upK (by decide), q_upK (by decide)]
  · show N 67 0 (199 * b + c) = M 67 0 (199 * b + c)
    rw [kj 67 0 (by decide) (by decide)]
  · show N 76 0 (199 * (i : Int) + c) = M 76 0 (199 * (i : Int) + c)
    rw [kj 76 0 (by decide) (by decide)]
  · show N 75 0 (i : Int) = M 75 0 (i : Int)
    rw [kj 75 0 (by decide) (by decide)]
  · show N 77 0 (i : Int) = M 77 0 (i : Int)
    rw [kj 77 0 (by decide) (by decide)]
  · rw [k35, q_upK a, q_upK b]
theorem mRow2 {N : qMem} {j : Nat} {i z k : Int} : qUp N j 0 i z j 0 k = if k = i then z else N j 0 k := by rw [q_rd, if_pos rfl, if_pos rfl]
def mKp (M : qMem) (i : Int) : qMem := qUp (qUp (qUp M 75 0 i 1) 77 0 i (M 35 0 28)) 35 0 25 0
theorem mKeep_end {M N : qMem} {i : Int} (hi : 0 ≤ i ∧ i ≤ 1) (sf : mOf 76 (mKp M i) N) (s1 : ∀ x, N 76 0 x = if 199 * i ≤ x ∧ x < 199 * i + 199 then M 61 0 (x - 199 * i) else M 76 0 x) : zG (zM N) (zKeep (zM M) i) ∧ mDE M N := by
  have k35 : ∀ c, N 35 0 c = if c = 25 then 0 else M 35 0 c := fun c => by
    rw [sf 35 0 (by omega)]; unfold mKp; rw [mRow2, q_upF (by decide), q_upF (by decide)]
  have kj : ∀ j u, ¬ (j = 76 ∧ u = 0) → ¬ (j = 35 ∧ u = 0) → ¬ (j = 75 ∧ u = 0) → ¬ (j = 77 ∧ u = 0) → N j u = M j u := fun j u a b c d => by rw [sf j u a]; unfold mKp; rw [q_upF b, q_upF d, q_upF c]
  have k75 : ∀ c, N 75 0 c = if c = i then 1 else M 75 0 c := fun c => by
    rw [sf 75 0 (by omega)]; unfold mKp; rw [q_upF (by decide), q_upF (by decide), mRow2]
  have k77 : ∀ c, N 77 0 c = if c = i then M 35 0 28 else M 77 0 c := fun c => by
    rw [sf 77 0 (by omega)]; unfold mKp; rw [q_upF (by decide), mRow2, q_upF (by decide)]
  refine ⟨⟨fun c a b => ?_, ⟨?_, ?_, ?_⟩, fun b c a1 a2 a3 a4 => ?_, fun b hb => ⟨fun c a1 a2 => ?_, ?_, ?_⟩⟩, fun j u q => kj j u (by omega) (by omega) (by omega) (by omega), fun c a b d => ?_⟩
  · show N 61 0 c = M 61 0 c
    rw [kj 61 0 (by decide) (by decide) (by decide) (by decide)]
  · show N 35 0 26 = M 35 0 26
    rw [k35, if_neg (by decide)]
  · show N 35 0 25 = 0
    rw [k35, if_pos rfl]
  · show N 35 0 28 = M 35 0 28
    rw [k35, if_neg (by decide)]
  · show N 67 0 (199 * b + c) = M 67 0 (199 * b + c)
    rw [kj 67 0 (by decide) (by decide) (by decide) (by decide)]
  · show N 76 0 (199 * (b : Int) + c) = zKeep (zM M) i 3 b c
    rw [s1]
    unfold zKeep
    by_cases e : (b : Int) = i
    · rw [if_pos (by omega), if_pos ⟨rfl, e⟩]
      show M 61 0 _ = M 61 0 c
      congr 1
      omega
    · rw [if_neg (by omega), if_neg (fun q => e q.2), if_neg (by omega), if_neg (by decide)]
      rfl
  · show N 75 0 (b : Int) = zKeep (zM M) i 4 b 0
    rw [k75]
    unfold zKeep
    by_cases e : (b : Int) = i
    · rw [if_pos e, if_neg (by omega), if_pos ⟨rfl, e⟩, if_pos rfl]
    · rw [if_neg e, if_neg (by omega), if_neg (fun q => e q.2), if_neg (by decide)]
      rfl
  · show N 77 0 (b : Int) = zKeep (zM M) i 4 b 1
    rw [k77]
    unfold zKeep
    by_cases e : (b : Int) = i
    · rw [if_pos e, if_neg (by omega), if_pos ⟨rfl, e⟩, if_neg (by decide), if_pos rfl]
      rfl
    · rw [if_neg e, if_neg (by omega), if_neg (fun q => e q.2), if_neg (by decide)]
      rfl
  · rw [k35, if_neg a]
theorem mKp_s {f h : Int → Int} (x c i : Int) (hc : 0 ≤ c) : (if x = 199 * i + c then f c else if 199 * i ≤ x ∧ x < 199 * i + c then f (x - 199 * i) else h x) = (if 199 * i ≤ x ∧ x < 199 * i + (c + 1) then f (x - 199 * i) else h x) := by
  by_cases e : x = 199 * i + c
  · rw [if_pos e, if_pos (by omega)]
    congr 1
    omega
  · rw [if_neg e]
    by_cases e2 : 199 * i ≤ x ∧ x < 199 * i + c
    · rw [if_pos e2, if_pos (by omega)]
    · rw [if_neg e2, if_neg (by omega)]
def mGo (M : qMem) (i : Int) : qMem := qUp (qUp M 35 0 28 (M 77 0 i)) 35 0 25 0
theorem mGo_end {M N : qMem} {i : Int} (hi : 0 ≤ i ∧ i ≤ 1) (sf : mOf 61 (mGo M i) N) (s1 : ∀ c, 0 ≤ c → c < 199 → N 61 0 c = M 76 0 (199 * i + c)) : zG (zM N) (zGo (zM M) i) ∧ mDE M N := by
  have k35 : ∀ c, N 35 0 c = if c = 25 then 0 else if c = 28 then M 77 0 i else M 35 0 c := fun c => by
    rw [sf 35 0 (by omega)]; unfold mGo; rw [mRow2, mRow2]
  have kj : ∀ j u, ¬ (j = 61 ∧ u = 0) → ¬ (j = 35 ∧ u = 0) → N j u = M j u := fun j u a b => by rw [sf j u a]; unfold mGo; rw [q_upF b, q_upF b]
  refine ⟨⟨fun c a b => ?_, ⟨?_, ?_, ?_⟩, fun b c a1 a2 a3 a4 => ?_, fun b hb => ⟨fun c a1 a2 => ?_, ?_, ?_⟩⟩, fun j u q => kj j u (by omega) (by omega), fun c a b d => ?_⟩
  · show N 61 0 c = M 76 0 (199 * i + c)
    exact s1 c a b
  · show N 35 0 26 = M 35 0 26
    rw [k35, if_neg (by decide), if_neg (by decide)]
  · show N 35 0 25 = 0
    rw [k35, if_pos rfl]
  · show N 35 0 28 = M 77 0 i
    rw [k35, if_neg (by decide), if_pos rfl]
  · show N 67 0 (199 * b + c) = M 67 0 (199 * b + c)
    rw [kj 67 0 (by decide) (by decide)]
  · show N 76 0 (199 * (b : Int) + c) = M 76 0 (199 * (b : Int) + c)
    rw [kj 76 0 (by decide) (by decide)]
  · show N 75 0 (b : Int) = M 75 0 (b : Int)
    rw [kj 75 0 (by decide) (by decide)]
  · show N 77 0 (b : Int) = M 77 0 (b : Int)
    rw [kj 77 0 (by decide) (by decide)]
  · rw [k35, if_neg a, if_neg d]
theorem dX12_undo_0 : decode cX12_undo 0 = .ok (.iload_n 1, 1) := by decide +kernel
theorem dX12_undo_1 : decode cX12_undo 1 = .ok (.iconst 1, 1) := by decide +kernel
theorem dX12_undo_2 : decode cX12_undo 2 = .ok (.bipush 30, 2) := by decide +kernel
theorem dX12_undo_4 : decode cX12_undo 4 = .ok (.invokestatic 85, 3) := by decide +kernel
theorem dX12_undo_7 : decode cX12_undo 7 = .ok (.ifCond .ne 6, 3) := by decide +kernel
theorem dX12_undo_10 : decode cX12_undo 10 = .ok (.ldc 89, 2) := by decide +kernel
theorem dX12_undo_12 : decode cX12_undo 12 = .ok (.ireturn, 1) := by decide +kernel
theorem dX12_undo_13 : decode cX12_undo 13 = .ok (.iload_n 1, 1) := by decide +kernel
theorem dX12_undo_14 : decode cX12_undo 14 = .ok (.aload_n 0, 1) := by decide +kernel
theorem dX12_undo_15 : decode cX12_undo 15 = .ok (.getfield 153, 3) := by decide +kernel
theorem dX12_undo_18 : decode cX12_undo 18 = .ok (.if_icmp .le 6, 3) := by decide +kernel
theorem dX12_undo_21 : decode cX12_undo 21 = .ok (.ldc 224, 2) := by decide +kernel
theorem dX12_undo_23 : decode cX12_undo 23 = .ok (.ireturn, 1) := by decide +kernel
theorem dX12_undo_24 : decode cX12_undo 24 = .ok (.aload_n 0, 1) := by decide +kernel
theorem dX12_undo_25 : decode cX12_undo 25 = .ok (.aload_n 0, 1) := by decide +kernel
theorem dX12_undo_26 : decode cX12_undo 26 = .ok (.getfield 225, 3) := by decide +kernel
theorem dX12_undo_29 : decode cX12_undo 29 = .ok (.bipush 30, 2) := by decide +kernel
theorem dX12_undo_31 : decode cX12_undo 31 = .ok (.iadd, 1) := by decide +kernel
theorem dX12_undo_32 : decode cX12_undo 32 = .ok (.iload_n 1, 1) := by decide +kernel
theorem dX12_undo_33 : decode cX12_undo 33 = .ok (.isub, 1) := by decide +kernel
theorem dX12_undo_34 : decode cX12_undo 34 = .ok (.bipush 30, 2) := by decide +kernel
theorem dX12_undo_36 : decode cX12_undo 36 = .ok (.irem, 1) := by decide +kernel
theorem dX12_undo_37 : decode cX12_undo 37 = .ok (.putfield 225, 3) := by decide +kernel
theorem dX12_undo_40 : decode cX12_undo 40 = .ok (.aload_n 0, 1) := by decide +kernel
theorem dX12_undo_41 : decode cX12_undo 41 = .ok (.dup, 1) := by decide +kernel
theorem dX12_undo_42 : decode cX12_undo 42 = .ok (.getfield 153, 3) := by decide +kernel
theorem dX12_undo_45 : decode cX12_undo 45 = .ok (.iload_n 1, 1) := by decide +kernel
theorem dX12_undo_46 : decode cX12_undo 46 = .ok (.isub, 1) := by decide +kernel
theorem dX12_undo_47 : decode cX12_undo 47 = .ok (.putfield 153, 3) := by decide +kernel
theorem dX12_undo_50 : decode cX12_undo 50 = .ok (.iconst 0, 1) := by decide +kernel
theorem dX12_undo_51 : decode cX12_undo 51 = .ok (.istore_n 2, 1) := by decide +kernel
theorem dX12_undo_52 : decode cX12_undo 52 = .ok (.iload_n 2, 1) := by decide +kernel
theorem dX12_undo_53 : decode cX12_undo 53 = .ok (.sipush 199, 3) := by decide +kernel
theorem dX12_undo_56 : decode cX12_undo 56 = .ok (.if_icmp .ge 30, 3) := by decide +kernel
theorem dX12_undo_59 : decode cX12_undo 59 = .ok (.aload_n 0, 1) := by decide +kernel
theorem dX12_undo_60 : decode cX12_undo 60 = .ok (.getfield 47, 3) := by decide +kernel
theorem dX12_undo_63 : decode cX12_undo 63 = .ok (.iload_n 2, 1) := by decide +kernel
theorem dX12_undo_64 : decode cX12_undo 64 = .ok (.aload_n 0, 1) := by decide +kernel
theorem dX12_undo_65 : decode cX12_undo 65 = .ok (.getfield 59, 3) := by decide +kernel
theorem dX12_undo_68 : decode cX12_undo 68 = .ok (.sipush 199, 3) := by decide +kernel
theorem dX12_undo_71 : decode cX12_undo 71 = .ok (.aload_n 0, 1) := by decide +kernel
theorem dX12_undo_72 : decode cX12_undo 72 = .ok (.getfield 225, 3) := by decide +kernel
theorem dX12_undo_75 : decode cX12_undo 75 = .ok (.imul, 1) := by decide +kernel
theorem dX12_undo_76 : decode cX12_undo 76 = .ok (.iload_n 2, 1) := by decide +kernel
theorem dX12_undo_77 : decode cX12_undo 77 = .ok (.iadd, 1) := by decide +kernel
theorem dX12_undo_78 : decode cX12_undo 78 = .ok (.iaload, 1) := by decide +kernel
theorem dX12_undo_79 : decode cX12_undo 79 = .ok (.iastore, 1) := by decide +kernel
theorem dX12_undo_80 : decode cX12_undo 80 = .ok (.iinc 2 1, 3) := by decide +kernel
theorem dX12_undo_83 : decode cX12_undo 83 = .ok (.goto (-31), 3) := by decide +kernel
theorem dX12_undo_86 : decode cX12_undo 86 = .ok (.aload_n 0, 1) := by decide +kernel
theorem dX12_undo_87 : decode cX12_undo 87 = .ok (.getfield 47, 3) := by decide +kernel
theorem dX12_undo_90 : decode cX12_undo 90 = .ok (.iconst 0, 1) := by decide +kernel
theorem dX12_undo_91 : decode cX12_undo 91 = .ok (.iaload, 1) := by decide +kernel
theorem dX12_undo_92 : decode cX12_undo 92 = .ok (.ireturn, 1) := by decide +kernel
set_option maxRecDepth 4000 in
set_option maxHeartbeats 4000000 in
theorem m_X12_undo (l : Launch) (g : qGm) (M : qMem) (hk : mK M) {k : Int} (hkq : qIn k) : qOk l g 2 yX12_undo cX12_undo 3 (some .int) [qR g 35 0, qI k] M (fun r N => mE M (dUndo (zM M) k) r N) := by
  refine q_ok (by decide +kernel) (Nat.le_of_ble_eq_true rfl) (fun X C' hn => ?_)
  have C := C'.1
  have b26 := hk.1
  have b25 := hk.2.1
  have z1 : zM M 2 0 1 = M 35 0 25 := rfl
  have z0 : zM M 2 0 0 = M 35 0 26 := rfl
  refine q_iloadn C dX12_undo_0 rfl ?_
  refine q_iconst C dX12_undo_1 ?_
  refine q_bipush C dX12_undo_2 (by decide) ?_
  refine cv_RX12_85 C (by decide) (m_X12_in l g _ (by omega) (by omega) (by omega)) dX12_undo_4 (Nat.le_of_ble_eq_true rfl) (fun r4 => ?_)
  refine q_ifneB C 13 dX12_undo_7 (by decide) (fun h7 => ?_) (fun h7 => ?_)
  · refine q_iloadn C dX12_undo_13 rfl ?_
    refine q_aloadn C dX12_undo_14 rfl ?_
    refine gf_RX12_153 C dX12_undo_15 (fun r15 => ?_)
    refine q_icmp_le C 24 dX12_undo_18 (by decide) (by first | assumption | omega | exact q_tin _ | exact q_bIn _) (by first | assumption | omega | exact q_tin _ | exact q_bIn _) (fun h18 => ?_) (fun h18 => ?_)
    · refine q_aloadn C dX12_undo_24 rfl ?_
      refine q_aloadn C dX12_undo_25 rfl ?_
      refine gf_RX12_225 C dX12_undo_26 (fun r26 => ?_)
      refine q_bipush C dX12_undo_29 (by decide) ?_
      refine q_iadd C dX12_undo_31 ?_
      refine q_iloadn C dX12_undo_32 rfl ?_
      refine q_isub C dX12_undo_33 ?_
      refine q_bipush C dX12_undo_34 (by decide) ?_
      refine q_irem C dX12_undo_36 (by omega) (by omega) (by omega) (by omega) ?_
      refine pf_RX12_225 C (by first | assumption | omega | exact q_tin _ | exact q_bIn _) dX12_undo_37 ?_
      refine q_aloadn C dX12_undo_40 rfl ?_
      refine q_dup C dX12_undo_41 rfl ?_
      refine gf_RX12_153 C dX12_undo_42 (fun r42 => ?_)
      try simp only [q_rd, q_rdS, ↓reduceIte, if_true, if_false, eq_self, Nat.reduceEqDiff, Int.reduceEq, Int.reduceNeg, reduceCtorEq] at r42 ⊢
      refine q_iloadn C dX12_undo_45 rfl ?_
      refine q_isub C dX12_undo_46 ?_
      refine pf_RX12_153 C (by first | assumption | omega | exact q_tin _ | exact q_bIn _) dX12_undo_47 ?_
      obtain ⟨p, hp⟩ : ∃ p, p = ((M 35 0 26 + 30 - k) % 30) := ⟨_, rfl⟩
      have hp2 : p = xPos (M 35 0 26) k := by unfold xPos; split <;> omega
      have bp : 0 ≤ p ∧ p < 30 := by omega
      obtain ⟨K, hK⟩ : ∃ K, K = qUp (qUp M 35 0 26 p) 35 0 25 (M 35 0 25 - k) := ⟨_, rfl⟩
      refine q_memEq (N := K) (by rw [hK, hp]) ?_
      have k26 : K 35 0 26 = p := by rw [hK, q_upK (by decide), q_upO]
      have k67 : K 67 0 = M 67 0 := by rw [hK, q_upF (by decide), q_upF (by decide)]
      refine q_iconst C dX12_undo_50 ?_
      refine q_istoren C dX12_undo_51 hn (by decide) rfl ?_
      have L52 : ∀ (n52 : Nat) (c : Int) (N : qMem), 199 - c < (n52 : Int) → (0 ≤ c ∧ c ≤ 199) → (mOf 61 K N) → (∀ i, 0 ≤ i → i < c → N 61 0 i = M 67 0 (199 * p + i)) → qV l g X N 52 [(0, qR g 35 0), (1, qI k), (2, qI c)] [] := by
        intro n52
        induction n52 with
        | zero => intro c N hm52 c0 sf s1; exfalso; first | omega | (simp at *; omega)
        | succ n52 ih52 =>
          intro c N hm52 c0 sf s1
          have e26 : N 35 0 26 = p := (congrFun (sf 35 0 (by omega)) 26).trans k26
          have e67 : N 67 0 = M 67 0 := (sf 67 0 (by omega)).trans k67
          refine q_iloadn C dX12_undo_52 rfl ?_
          refine q_sipush C dX12_undo_53 (by decide) ?_
          refine q_icmp_ge C 86 dX12_undo_56 (by decide) (by first | assumption | omega | exact q_tin _ | exact q_bIn _) (by first | assumption | omega | exact q_tin _ | exact q_bIn _) (fun h56 => ?_) (fun h56 => ?_)
          · refine q_aloadn C dX12_undo_86 rfl ?_
            refine gf_RX12_47 C dX12_undo_87 ?_
            refine q_iconst C dX12_undo_90 ?_
            refine q_iald C (by first | assumption | decide | omega) rfl dX12_undo_91 (by omega) (by omega) (by decide) (fun r91 => ?_)
            try simp only [q_rd, q_rdS, ↓reduceIte, if_true, if_false, eq_self, Nat.reduceEqDiff, Int.reduceEq, Int.reduceNeg, reduceCtorEq] at r91 ⊢
            refine q_iret C' dX12_undo_92 (by first | assumption | omega | exact q_tin _ | exact q_bIn _) ?_
            obtain ⟨y1, y2⟩ := mUndo_end hp2 (by rw [← hK]; exact sf) (fun i e1 e2 => s1 i e1 (by omega))
            have y0 : N 61 0 0 = zM M 1 (xPos (zM M 2 0 0) k) 0 := by rw [s1 0 (by omega) (by omega), hp2]; rfl
            unfold dUndo
            rw [if_pos (by omega), if_pos (by omega)]
            exact ⟨congrArg some y0, y1, y2⟩
          · refine q_aloadn C dX12_undo_59 rfl ?_
            refine gf_RX12_47 C dX12_undo_60 ?_
            refine q_iloadn C dX12_undo_63 rfl ?_
            refine q_aloadn C dX12_undo_64 rfl ?_
            refine gf_RX12_59 C dX12_undo_65 ?_
            refine q_sipush C dX12_undo_68 (by decide) ?_
            refine q_aloadn C dX12_undo_71 rfl ?_
            refine gf_RX12_225 C dX12_undo_72 (fun r72 => ?_)
            try simp only [q_rd, q_rdS, ↓reduceIte, if_true, if_false, eq_self, Nat.reduceEqDiff, Int.reduceEq, Int.reduceNeg, reduceCtorEq] at r72 ⊢
            rw [e26] at r72 ⊢
            refine q_imul C dX12_undo_75 ?_
            refine q_iloadn C dX12_undo_76 rfl ?_
            refine q_iadd C dX12_undo_77 ?_
            refine q_iald C (by first | assumption | decide | omega) rfl dX12_undo_78 (by omega) (by omega) (by decide) (fun r78 => ?_)
            try simp only [q_rd, q_rdS, ↓reduceIte, if_true, if_false, eq_self, Nat.reduceEqDiff, Int.reduceEq, Int.reduceNeg, reduceCtorEq] at r78 ⊢
            rw [e67] at r78 ⊢
            refine q_iast C (by first | assumption | decide | omega) (fun _ => rfl) dX12_undo_79 (by omega) (by omega) (by decide) (by first | assumption | omega | exact q_tin _ | exact q_bIn _) ?_
            refine q_iinc C dX12_undo_80 rfl hn (by decide) rfl ?_
            refine q_goto C (tgt := 52) dX12_undo_83 (by decide) ?_
            exact q_ls (by exact ⟨rfl, rfl, rfl, trivial⟩) (ih52 _ _ (by omega) (by omega) (by exact sf.w) (by intro i e1 e2; rw [mRow2]; by_cases e : i = c <;> first | (rw [if_pos e, e]; done) | (rw [if_neg e]; exact s1 i e1 (by omega))))
      exact q_ls (by exact ⟨rfl, rfl, rfl, trivial⟩) (L52 1000 _ _ (by omega) (by omega) (by exact fun _ _ _ => rfl) (by intro i e1 e2; omega))
    · refine q_ldc C (z := -1000000003) q_ci_RX12_224 (by decide) dX12_undo_21 ?_
      refine q_iret C' dX12_undo_23 (by first | assumption | omega | exact q_tin _ | exact q_bIn _) ?_
      refine ⟨congrArg some ?_, ?_, mDE.rf⟩ <;> unfold dUndo <;> first | (rw [if_neg (by omega)]; done) | (rw [if_pos (by omega), if_neg (by omega)]; done) | (rw [if_pos (by omega), if_pos (by omega)]; done) | (rw [if_neg (by omega)]; exact zG.rf) | (rw [if_pos (by omega), if_neg (by omega)]; exact zG.rf) | (rw [if_pos (by omega), if_pos (by omega)]; exact zG.rf)
  · refine q_ldc C (z := -1000000002) q_ci_RX12_89 (by decide) dX12_undo_10 ?_
    refine q_iret C' dX12_undo_12 (by first | assumption | omega | exact q_tin _ | exact q_bIn _) ?_
    refine ⟨congrArg some ?_, ?_, mDE.rf⟩ <;> unfold dUndo <;> first | (rw [if_neg (by omega)]; done) | (rw [if_pos (by omega), if_neg (by omega)]; done) | (rw [if_pos (by omega), if_pos (by omega)]; done) | (rw [if_neg (by omega)]; exact zG.rf) | (rw [if_pos (by omega), if_neg (by omega)]; exact zG.rf) | (rw [if_pos (by omega), if_pos (by omega)]; exact zG.rf)
theorem dX12_keep_0 : decode cX12_keep 0 = .ok (.iload_n 1, 1) := by decide +kernel
theorem dX12_keep_1 : decode cX12_keep 1 = .ok (.iconst 0, 1) := by decide +kernel
theorem dX12_keep_2 : decode cX12_keep 2 = .ok (.iconst 1, 1) := by decide +kernel
theorem dX12_keep_3 : decode cX12_keep 3 = .ok (.invokestatic 85, 3) := by decide +kernel
theorem dX12_keep_6 : decode cX12_keep 6 = .ok (.ifCond .ne 6, 3) := by decide +kernel
theorem dX12_keep_9 : decode cX12_keep 9 = .ok (.ldc 214, 2) := by decide +kernel
theorem dX12_keep_11 : decode cX12_keep 11 = .ok (.ireturn, 1) := by decide +kernel
theorem dX12_keep_12 : decode cX12_keep 12 = .ok (.aload_n 0, 1) := by decide +kernel
theorem dX12_keep_13 : decode cX12_keep 13 = .ok (.getfield 74, 3) := by decide +kernel
theorem dX12_keep_16 : decode cX12_keep 16 = .ok (.iload_n 1, 1) := by decide +kernel
theorem dX12_keep_17 : decode cX12_keep 17 = .ok (.iconst 1, 1) := by decide +kernel
theorem dX12_keep_18 : decode cX12_keep 18 = .ok (.bastore, 1) := by decide +kernel
theorem dX12_keep_19 : decode cX12_keep 19 = .ok (.aload_n 0, 1) := by decide +kernel
theorem dX12_keep_20 : decode cX12_keep 20 = .ok (.getfield 81, 3) := by decide +kernel
theorem dX12_keep_23 : decode cX12_keep 23 = .ok (.iload_n 1, 1) := by decide +kernel
theorem dX12_keep_24 : decode cX12_keep 24 = .ok (.aload_n 0, 1) := by decide +kernel
theorem dX12_keep_25 : decode cX12_keep 25 = .ok (.getfield 251, 3) := by decide +kernel
theorem dX12_keep_28 : decode cX12_keep 28 = .ok (.lastore, 1) := by decide +kernel
theorem dX12_keep_29 : decode cX12_keep 29 = .ok (.aload_n 0, 1) := by decide +kernel
theorem dX12_keep_30 : decode cX12_keep 30 = .ok (.iconst 0, 1) := by decide +kernel
theorem dX12_keep_31 : decode cX12_keep 31 = .ok (.putfield 153, 3) := by decide +kernel
theorem dX12_keep_34 : decode cX12_keep 34 = .ok (.iconst 0, 1) := by decide +kernel
theorem dX12_keep_35 : decode cX12_keep 35 = .ok (.istore_n 2, 1) := by decide +kernel
theorem dX12_keep_36 : decode cX12_keep 36 = .ok (.iload_n 2, 1) := by decide +kernel
theorem dX12_keep_37 : decode cX12_keep 37 = .ok (.sipush 199, 3) := by decide +kernel
theorem dX12_keep_40 : decode cX12_keep 40 = .ok (.if_icmp .ge 27, 3) := by decide +kernel
theorem dX12_keep_43 : decode cX12_keep 43 = .ok (.aload_n 0, 1) := by decide +kernel
theorem dX12_keep_44 : decode cX12_keep 44 = .ok (.getfield 78, 3) := by decide +kernel
theorem dX12_keep_47 : decode cX12_keep 47 = .ok (.sipush 199, 3) := by decide +kernel
theorem dX12_keep_50 : decode cX12_keep 50 = .ok (.iload_n 1, 1) := by decide +kernel
theorem dX12_keep_51 : decode cX12_keep 51 = .ok (.imul, 1) := by decide +kernel
theorem dX12_keep_52 : decode cX12_keep 52 = .ok (.iload_n 2, 1) := by decide +kernel
theorem dX12_keep_53 : decode cX12_keep 53 = .ok (.iadd, 1) := by decide +kernel
theorem dX12_keep_54 : decode cX12_keep 54 = .ok (.aload_n 0, 1) := by decide +kernel
theorem dX12_keep_55 : decode cX12_keep 55 = .ok (.getfield 47, 3) := by decide +kernel
theorem dX12_keep_58 : decode cX12_keep 58 = .ok (.iload_n 2, 1) := by decide +kernel
theorem dX12_keep_59 : decode cX12_keep 59 = .ok (.iaload, 1) := by decide +kernel
theorem dX12_keep_60 : decode cX12_keep 60 = .ok (.iastore, 1) := by decide +kernel
theorem dX12_keep_61 : decode cX12_keep 61 = .ok (.iinc 2 1, 3) := by decide +kernel
theorem dX12_keep_64 : decode cX12_keep 64 = .ok (.goto (-28), 3) := by decide +kernel
theorem dX12_keep_67 : decode cX12_keep 67 = .ok (.iconst 1, 1) := by decide +kernel
theorem dX12_keep_68 : decode cX12_keep 68 = .ok (.ireturn, 1) := by decide +kernel
set_option maxRecDepth 4000 in
set_option maxHeartbeats 4000000 in
theorem m_X12_keep (l : Launch) (g : qGm) (M : qMem) (hk : mK M) {i : Int} (hiq : qIn i) : qOk l g 2 yX12_keep cX12_keep 3 (some .int) [qR g 35 0, qI i] M (fun r N => mE M (dKeep (zM M) i) r N) := by
  refine q_ok (by decide +kernel) (Nat.le_of_ble_eq_true rfl) (fun X C' hn => ?_)
  have C := C'.1
  have b28 := hk.2.2
  refine q_iloadn C dX12_keep_0 rfl ?_
  refine q_iconst C dX12_keep_1 ?_
  refine q_iconst C dX12_keep_2 ?_
  refine cv_RX12_85 C (by decide) (m_X12_in l g _ (by omega) (by omega) (by omega)) dX12_keep_3 (Nat.le_of_ble_eq_true rfl) (fun r3 => ?_)
  refine q_ifneB C 12 dX12_keep_6 (by decide) (fun h6 => ?_) (fun h6 => ?_)
  · refine q_aloadn C dX12_keep_12 rfl ?_
    refine gf_RX12_74 C dX12_keep_13 ?_
    refine q_iloadn C dX12_keep_16 rfl ?_
    have hi : 0 ≤ i ∧ i ≤ 1 := by omega
    refine q_iconst C dX12_keep_17 ?_
    refine q_zast C dX12_keep_18 (by omega) (by omega) (by omega) ?_
    refine q_aloadn C dX12_keep_19 rfl ?_
    refine gf_RX12_81 C dX12_keep_20 ?_
    refine q_iloadn C dX12_keep_23 rfl ?_
    refine q_aloadn C dX12_keep_24 rfl ?_
    refine gf_RX12_251 C dX12_keep_25 (fun r25 => ?_)
    try simp only [q_rd, q_rdS, ↓reduceIte, if_true, if_false, eq_self, Nat.reduceEqDiff, Int.reduceEq, Int.reduceNeg, reduceCtorEq] at r25 ⊢
    refine q_last C dX12_keep_28 (by omega) (by omega) (by first | assumption | omega | exact q_tin _ | exact q_bIn _) ?_
    refine q_aloadn C dX12_keep_29 rfl ?_
    refine q_iconst C dX12_keep_30 ?_
    refine pf_RX12_153 C (by first | assumption | omega | exact q_tin _ | exact q_bIn _) dX12_keep_31 ?_
    obtain ⟨K, hK⟩ : ∃ K, K = mKp M i := ⟨_, rfl⟩
    refine q_memEq (N := K) hK.symm ?_
    have k61 : K 61 0 = M 61 0 := by rw [hK]; unfold mKp; rw [q_upF (by decide), q_upF (by decide), q_upF (by decide)]
    have k76 : K 76 0 = M 76 0 := by rw [hK]; unfold mKp; rw [q_upF (by decide), q_upF (by decide), q_upF (by decide)]
    refine q_iconst C dX12_keep_34 ?_
    refine q_istoren C dX12_keep_35 hn (by decide) rfl ?_
    have L36 : ∀ (n36 : Nat) (c : Int) (N : qMem), 199 - c < (n36 : Int) → (0 ≤ c ∧ c ≤ 199) → (mOf 76 K N) → (∀ x, N 76 0 x = if 199 * i ≤ x ∧ x < 199 * i + c then M 61 0 (x - 199 * i) else M 76 0 x) → qV l g X N 36 [(0, qR g 35 0), (1, qI i), (2, qI c)] [] := by
      intro n36
      induction n36 with
      | zero => intro c N hm36 c0 sf s1; exfalso; first | omega | (simp at *; omega)
      | succ n36 ih36 =>
        intro c N hm36 c0 sf s1
        have e61 : N 61 0 = M 61 0 := (sf 61 0 (by omega)).trans k61
        refine q_iloadn C dX12_keep_36 rfl ?_
        refine q_sipush C dX12_keep_37 (by decide) ?_
        refine q_icmp_ge C 67 dX12_keep_40 (by decide) (by first | assumption | omega | exact q_tin _ | exact q_bIn _) (by first | assumption | omega | exact q_tin _ | exact q_bIn _) (fun h40 => ?_) (fun h40 => ?_)
        · refine q_iconst C dX12_keep_67 ?_
          refine q_iret C' dX12_keep_68 (by first | assumption | omega | exact q_tin _ | exact q_bIn _) ?_
          have ec : c = 199 := by omega
          subst ec
          obtain ⟨y1, y2⟩ := mKeep_end hi (by rw [← hK]; exact sf) s1
          unfold dKeep
          rw [if_pos hi]
          exact ⟨rfl, y1, y2⟩
        · refine q_aloadn C dX12_keep_43 rfl ?_
          refine gf_RX12_78 C dX12_keep_44 ?_
          refine q_sipush C dX12_keep_47 (by decide) ?_
          refine q_iloadn C dX12_keep_50 rfl ?_
          refine q_imul C dX12_keep_51 ?_
          refine q_iloadn C dX12_keep_52 rfl ?_
          refine q_iadd C dX12_keep_53 ?_
          refine q_aloadn C dX12_keep_54 rfl ?_
          refine gf_RX12_47 C dX12_keep_55 ?_
          refine q_iloadn C dX12_keep_58 rfl ?_
          refine q_iald C (by first | assumption | decide | omega) rfl dX12_keep_59 (by omega) (by omega) (by decide) (fun r59 => ?_)
          try simp only [q_rd, q_rdS, ↓reduceIte, if_true, if_false, eq_self, Nat.reduceEqDiff, Int.reduceEq, Int.reduceNeg, reduceCtorEq] at r59 ⊢
          rw [e61] at r59 ⊢
          refine q_iast C (by first | assumption | decide | omega) (fun _ => rfl) dX12_keep_60 (by omega) (by omega) (by decide) (by first | assumption | omega | exact q_tin _ | exact q_bIn _) ?_
          refine q_iinc C dX12_keep_61 rfl hn (by decide) rfl ?_
          refine q_goto C (tgt := 36) dX12_keep_64 (by decide) ?_
          exact q_ls (by exact ⟨rfl, rfl, rfl, trivial⟩) (ih36 _ _ (by omega) (by omega) (by exact sf.w) (by intro x; rw [mRow2, s1]; exact mKp_s x c i (by omega)))
    exact q_ls (by exact ⟨rfl, rfl, rfl, trivial⟩) (L36 1000 _ _ (by omega) (by omega) (by exact fun _ _ _ => rfl) (by intro x; rw [if_neg (by omega), k76]))
  · refine q_ldc C (z := -1000000001) q_ci_RX12_214 (by decide) dX12_keep_9 ?_
    refine q_iret C' dX12_keep_11 (by first | assumption | omega | exact q_tin _ | exact q_bIn _) ?_
    refine ⟨congrArg some ?_, ?_, mDE.rf⟩ <;> unfold dKeep <;> first | (rw [if_neg (by omega)]; done) | (rw [if_pos (by omega), if_neg (by omega)]; done) | (rw [if_pos (by omega), if_pos (by omega)]; done) | (rw [if_neg (by omega)]; exact zG.rf) | (rw [if_pos (by omega), if_neg (by omega)]; exact zG.rf) | (rw [if_pos (by omega), if_pos (by omega)]; exact zG.rf)
theorem dX12_goBack_0 : decode cX12_goBack 0 = .ok (.iload_n 1, 1) := by decide +kernel
theorem dX12_goBack_1 : decode cX12_goBack 1 = .ok (.iconst 0, 1) := by decide +kernel
theorem dX12_goBack_2 : decode cX12_goBack 2 = .ok (.iconst 1, 1) := by decide +kernel
theorem dX12_goBack_3 : decode cX12_goBack 3 = .ok (.invokestatic 85, 3) := by decide +kernel
theorem dX12_goBack_6 : decode cX12_goBack 6 = .ok (.ifCond .ne 6, 3) := by decide +kernel
theorem dX12_goBack_9 : decode cX12_goBack 9 = .ok (.ldc 214, 2) := by decide +kernel
theorem dX12_goBack_11 : decode cX12_goBack 11 = .ok (.ireturn, 1) := by decide +kernel
theorem dX12_goBack_12 : decode cX12_goBack 12 = .ok (.aload_n 0, 1) := by decide +kernel
theorem dX12_goBack_13 : decode cX12_goBack 13 = .ok (.getfield 74, 3) := by decide +kernel
theorem dX12_goBack_16 : decode cX12_goBack 16 = .ok (.iload_n 1, 1) := by decide +kernel
theorem dX12_goBack_17 : decode cX12_goBack 17 = .ok (.baload, 1) := by decide +kernel
theorem dX12_goBack_18 : decode cX12_goBack 18 = .ok (.ifCond .ne 6, 3) := by decide +kernel
theorem dX12_goBack_21 : decode cX12_goBack 21 = .ok (.ldc 224, 2) := by decide +kernel
theorem dX12_goBack_23 : decode cX12_goBack 23 = .ok (.ireturn, 1) := by decide +kernel
theorem dX12_goBack_24 : decode cX12_goBack 24 = .ok (.aload_n 0, 1) := by decide +kernel
theorem dX12_goBack_25 : decode cX12_goBack 25 = .ok (.aload_n 0, 1) := by decide +kernel
theorem dX12_goBack_26 : decode cX12_goBack 26 = .ok (.getfield 81, 3) := by decide +kernel
theorem dX12_goBack_29 : decode cX12_goBack 29 = .ok (.iload_n 1, 1) := by decide +kernel
theorem dX12_goBack_30 : decode cX12_goBack 30 = .ok (.laload, 1) := by decide +kernel
theorem dX12_goBack_31 : decode cX12_goBack 31 = .ok (.putfield 251, 3) := by decide +kernel
theorem dX12_goBack_34 : decode cX12_goBack 34 = .ok (.aload_n 0, 1) := by decide +kernel
theorem dX12_goBack_35 : decode cX12_goBack 35 = .ok (.iconst 0, 1) := by decide +kernel
theorem dX12_goBack_36 : decode cX12_goBack 36 = .ok (.putfield 153, 3) := by decide +kernel
theorem dX12_goBack_39 : decode cX12_goBack 39 = .ok (.iconst 0, 1) := by decide +kernel
theorem dX12_goBack_40 : decode cX12_goBack 40 = .ok (.istore_n 2, 1) := by decide +kernel
theorem dX12_goBack_41 : decode cX12_goBack 41 = .ok (.iload_n 2, 1) := by decide +kernel
theorem dX12_goBack_42 : decode cX12_goBack 42 = .ok (.sipush 199, 3) := by decide +kernel
theorem dX12_goBack_45 : decode cX12_goBack 45 = .ok (.if_icmp .ge 27, 3) := by decide +kernel
theorem dX12_goBack_48 : decode cX12_goBack 48 = .ok (.aload_n 0, 1) := by decide +kernel
theorem dX12_goBack_49 : decode cX12_goBack 49 = .ok (.getfield 47, 3) := by decide +kernel
theorem dX12_goBack_52 : decode cX12_goBack 52 = .ok (.iload_n 2, 1) := by decide +kernel
theorem dX12_goBack_53 : decode cX12_goBack 53 = .ok (.aload_n 0, 1) := by decide +kernel
theorem dX12_goBack_54 : decode cX12_goBack 54 = .ok (.getfield 78, 3) := by decide +kernel
theorem dX12_goBack_57 : decode cX12_goBack 57 = .ok (.sipush 199, 3) := by decide +kernel
theorem dX12_goBack_60 : decode cX12_goBack 60 = .ok (.iload_n 1, 1) := by decide +kernel
theorem dX12_goBack_61 : decode cX12_goBack 61 = .ok (.imul, 1) := by decide +kernel
theorem dX12_goBack_62 : decode cX12_goBack 62 = .ok (.iload_n 2, 1) := by decide +kernel
theorem dX12_goBack_63 : decode cX12_goBack 63 = .ok (.iadd, 1) := by decide +kernel
theorem dX12_goBack_64 : decode cX12_goBack 64 = .ok (.iaload, 1) := by decide +kernel
theorem dX12_goBack_65 : decode cX12_goBack 65 = .ok (.iastore, 1) := by decide +kernel
theorem dX12_goBack_66 : decode cX12_goBack 66 = .ok (.iinc 2 1, 3) := by decide +kernel
theorem dX12_goBack_69 : decode cX12_goBack 69 = .ok (.goto (-28), 3) := by decide +kernel
theorem dX12_goBack_72 : decode cX12_goBack 72 = .ok (.iconst 1, 1) := by decide +kernel
theorem dX12_goBack_73 : decode cX12_goBack 73 = .ok (.ireturn, 1) := by decide +kernel
set_option maxRecDepth 4000 in
set_option maxHeartbeats 4000000 in
theorem m_X12_goBack (l : Launch) (g : qGm) (M : qMem) (hk : mK M) {i : Int} (hiq : qIn i) : qOk l g 2 yX12_goBack cX12_goBack 3 (some .int) [qR g 35 0, qI i] M (fun r N => mE M (dGo (zM M) i) r N) := by
  refine q_ok (by decide +kernel) (Nat.le_of_ble_eq_true rfl) (fun X C' hn => ?_)
  have C := C'.1
  have z4 : zM M 4 i 0 = M 75 0 i := rfl
  refine q_iloadn C dX12_goBack_0 rfl ?_
  refine q_iconst C dX12_goBack_1 ?_
  refine q_iconst C dX12_goBack_2 ?_
  refine cv_RX12_85 C (by decide) (m_X12_in l g _ (by omega) (by omega) (by omega)) dX12_goBack_3 (Nat.le_of_ble_eq_true rfl) (fun r3 => ?_)
  refine q_ifneB C 12 dX12_goBack_6 (by decide) (fun h6 => ?_) (fun h6 => ?_)
  · refine q_aloadn C dX12_goBack_12 rfl ?_
    refine gf_RX12_74 C dX12_goBack_13 ?_
    refine q_iloadn C dX12_goBack_16 rfl ?_
    refine q_zald C dX12_goBack_17 (by omega) (by omega) (fun r17 => ?_)
    refine q_if_ne C 24 dX12_goBack_18 (by decide) (by first | assumption | omega | exact q_tin _ | exact q_bIn _) (fun h18 => ?_) (fun h18 => ?_)
    · refine q_aloadn C dX12_goBack_24 rfl ?_
      refine q_aloadn C dX12_goBack_25 rfl ?_
      refine gf_RX12_81 C dX12_goBack_26 ?_
      refine q_iloadn C dX12_goBack_29 rfl ?_
      refine q_lald C dX12_goBack_30 (by omega) (by omega) (fun r30 => ?_)
      refine pf_RX12_251 C (by first | assumption | omega | exact q_tin _ | exact q_bIn _) dX12_goBack_31 ?_
      skip
      refine q_aloadn C dX12_goBack_34 rfl ?_
      refine q_iconst C dX12_goBack_35 ?_
      refine pf_RX12_153 C (by first | assumption | omega | exact q_tin _ | exact q_bIn _) dX12_goBack_36 ?_
      obtain ⟨K, hK⟩ : ∃ K, K = mGo M i := ⟨_, rfl⟩
      refine q_memEq (N := K) hK.symm ?_
      have hi : 0 ≤ i ∧ i ≤ 1 := by omega
      have k76 : K 76 0 = M 76 0 := by rw [hK]; unfold mGo; rw [q_upF (by decide), q_upF (by decide)]
      refine q_iconst C dX12_goBack_39 ?_
      refine q_istoren C dX12_goBack_40 hn (by decide) rfl ?_
      have L41 : ∀ (n41 : Nat) (c : Int) (N : qMem), 199 - c < (n41 : Int) → (0 ≤ c ∧ c ≤ 199) → (mOf 61 K N) → (∀ x, 0 ≤ x → x < c → N 61 0 x = M 76 0 (199 * i + x)) → qV l g X N 41 [(0, qR g 35 0), (1, qI i), (2, qI c)] [] := by
        intro n41
        induction n41 with
        | zero => intro c N hm41 c0 sf s1; exfalso; first | omega | (simp at *; omega)
        | succ n41 ih41 =>
          intro c N hm41 c0 sf s1
          have e76 : N 76 0 = M 76 0 := (sf 76 0 (by omega)).trans k76
          refine q_iloadn C dX12_goBack_41 rfl ?_
          refine q_sipush C dX12_goBack_42 (by decide) ?_
          refine q_icmp_ge C 72 dX12_goBack_45 (by decide) (by first | assumption | omega | exact q_tin _ | exact q_bIn _) (by first | assumption | omega | exact q_tin _ | exact q_bIn _) (fun h45 => ?_) (fun h45 => ?_)
          · refine q_iconst C dX12_goBack_72 ?_
            refine q_iret C' dX12_goBack_73 (by first | assumption | omega | exact q_tin _ | exact q_bIn _) ?_
            obtain ⟨y1, y2⟩ := mGo_end hi (by rw [← hK]; exact sf) (fun x e1 e2 => s1 x e1 (by omega))
            unfold dGo
            rw [if_pos hi, if_neg (by omega)]
            exact ⟨rfl, y1, y2⟩
          · refine q_aloadn C dX12_goBack_48 rfl ?_
            refine gf_RX12_47 C dX12_goBack_49 ?_
            refine q_iloadn C dX12_goBack_52 rfl ?_
            refine q_aloadn C dX12_goBack_53 rfl ?_
            refine gf_RX12_78 C dX12_goBack_54 ?_
            refine q_sipush C dX12_goBack_57 (by decide) ?_
            refine q_iloadn C dX12_goBack_60 rfl ?_
            refine q_imul C dX12_goBack_61 ?_
            refine q_iloadn C dX12_goBack_62 rfl ?_
            refine q_iadd C dX12_goBack_63 ?_
            refine q_iald C (by first | assumption | decide | omega) rfl dX12_goBack_64 (by omega) (by omega) (by decide) (fun r64 => ?_)
            try simp only [q_rd, q_rdS, ↓reduceIte, if_true, if_false, eq_self, Nat.reduceEqDiff, Int.reduceEq, Int.reduceNeg, reduceCtorEq] at r64 ⊢
            rw [e76] at r64 ⊢
            refine q_iast C (by first | assumption | decide | omega) (fun _ => rfl) dX12_goBack_65 (by omega) (by omega) (by decide) (by first | assumption | omega | exact q_tin _ | exact q_bIn _) ?_
            refine q_iinc C dX12_goBack_66 rfl hn (by decide) rfl ?_
            refine q_goto C (tgt := 41) dX12_goBack_69 (by decide) ?_
            exact q_ls (by exact ⟨rfl, rfl, rfl, trivial⟩) (ih41 _ _ (by omega) (by omega) (by exact sf.w) (by intro x e1 e2; rw [mRow2]; by_cases e : x = c <;> first | (rw [if_pos e, e]; done) | (rw [if_neg e]; exact s1 x e1 (by omega))))
      exact q_ls (by exact ⟨rfl, rfl, rfl, trivial⟩) (L41 1000 _ _ (by omega) (by omega) (by exact fun _ _ _ => rfl) (by intro x e1 e2; omega))
    · refine q_ldc C (z := -1000000003) q_ci_RX12_224 (by decide) dX12_goBack_21 ?_
      refine q_iret C' dX12_goBack_23 (by first | assumption | omega | exact q_tin _ | exact q_bIn _) ?_
      refine ⟨congrArg some ?_, ?_, mDE.rf⟩ <;> unfold dGo <;> first | (rw [if_neg (by omega)]; done) | (rw [if_pos (by omega), if_neg (by omega)]; done) | (rw [if_pos (by omega), if_pos (by omega)]; done) | (rw [if_neg (by omega)]; exact zG.rf) | (rw [if_pos (by omega), if_neg (by omega)]; exact zG.rf) | (rw [if_pos (by omega), if_pos (by omega)]; exact zG.rf)
  · refine q_ldc C (z := -1000000001) q_ci_RX12_214 (by decide) dX12_goBack_9 ?_
    refine q_iret C' dX12_goBack_11 (by first | assumption | omega | exact q_tin _ | exact q_bIn _) ?_
    refine ⟨congrArg some ?_, ?_, mDE.rf⟩ <;> unfold dGo <;> first | (rw [if_neg (by omega)]; done) | (rw [if_pos (by omega), if_neg (by omega)]; done) | (rw [if_pos (by omega), if_pos (by omega)]; done) | (rw [if_neg (by omega)]; exact zG.rf) | (rw [if_pos (by omega), if_neg (by omega)]; exact zG.rf) | (rw [if_pos (by omega), if_pos (by omega)]; exact zG.rf)
