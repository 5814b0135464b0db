/-! the reference's rows -/
def mS (M : qMem) (sd : sSD) : Prop := M 35 0 15 = sd 0 0 ∧ M 35 0 16 = sd 4 0 ∧ M 35 0 17 = sd 5 0 ∧ (∀ c, 0 ≤ c → c < sd 4 0 → M 58 0 c = sd 1 c) ∧ (∀ h, 0 ≤ h → h < sd 5 0 → M 59 0 h = sd 2 h) ∧ (∀ k, 0 ≤ k → k < 8 * sd 5 0 → M 60 0 k = sd 3 k)
theorem mS_on {sd : sSD} (hs : sRS sd) (h : 0 < sd 4 0 ∨ 0 < sd 5 0) : 0 ≤ sd 0 0 := by
  have := hs.1
  have := hs.2.2.2.2.2.2
  by_cases e : sd 0 0 = -1
  · have := this e; omega
  · omega
theorem q_has {s k : Int} (h0 : 0 ≤ s) (h1 : s < 64) (h2 : 0 ≤ k) (h3 : k < 8) : qAnd (qShr s k) 1 = s / 2 ^ k.toNat % 2 := q_shr1 h0 h1 h2 h3
theorem q_popS {s : Int} (h0 : 0 ≤ s) (h1 : s < 64) : ¬ s = 0 → 0 ≤ qAnd s (s - 1) ∧ qAnd s (s - 1) < s ∧ sPop (qAnd s (s - 1)) + 1 = sPop s := q_fin (p := fun s => ¬ s = 0 → 0 ≤ qAnd s (s - 1) ∧ qAnd s (s - 1) < s ∧ sPop (qAnd s (s - 1)) + 1 = sPop s) (N := 64) (by decide +kernel) h0 h1
theorem sAm_st {f : Int → Int} {b0 m0 i b w : Int} (hi : 0 ≤ i) (e : sAm f b0 m0 i = (b, w)) : (w < f i → sAm f b0 m0 (i + 1) = (i, f i)) ∧ (¬ w < f i → sAm f b0 m0 (i + 1) = (b, w)) := by
  rw [sAm_s _ _ _ hi, e]
  exact ⟨fun h => if_pos h, fun h => if_neg h⟩
theorem sAm_cold {F : Int → Int} {i b : Int} (hi : 0 ≤ i) (hF : ∀ k, 0 ≤ k → k ≤ i → 0 ≤ F k) (hb : b = (sAm F (-1) (-1) i).1) : (b = -1 ∨ F b < F i → (sAm F (-1) (-1) (i + 1)).1 = i) ∧ (¬ (b = -1 ∨ F b < F i) → (sAm F (-1) (-1) (i + 1)).1 = b) ∧ (b = -1 ∨ (0 ≤ b ∧ b < i)) := by
  have h0 := hF i hi (by omega)
  rw [sAm_s _ _ _ hi]
  rcases sAm_cases F (-1) hi with ⟨e, -⟩ | ⟨e1, e2, e3, e4⟩
  · rw [e] at hb ⊢
    refine ⟨fun _ => ?_, fun q => absurd (Or.inl hb) q, Or.inl hb⟩
    rw [if_pos (show (-1 : Int) < F i by omega)]
  · rw [e4, ← hb]
    rw [← hb] at e1 e2
    refine ⟨fun q => ?_, fun q => ?_, Or.inr ⟨e1, e2⟩⟩
    · rw [if_pos (q.resolve_left (by omega))]
    · rw [if_neg (fun r => q (Or.inr r))]; exact hb.symm
theorem sAm_lo {f : Int → Int} {m z : Int} (hm : m < z) : ∀ n : Nat, (∀ k : Int, 0 ≤ k → k < n → f k < z) → (sAmN f (-1) m n).2 < z := by
  intro n
  induction n with
  | zero => intro _; exact hm
  | succ n ih =>
    intro h
    rw [sAmN]
    split
    · exact h n (by omega) (by omega)
    · exact ih (fun k a b => h k a (by omega))
theorem sAm_first {f : Int → Int} {m n p : Int} (h0 : 0 ≤ p) (h1 : p < n) (hm : m < f p) (h2 : ∀ k, 0 ≤ k → k < p → f k < f p) (h3 : ∀ k, p < k → k < n → f k ≤ f p) : (sAm f (-1) m n).1 = p := by
  have key : ∀ j : Nat, p + 1 + j ≤ n → sAm f (-1) m (p + 1 + j) = (p, f p) := by
    intro j
    induction j with
    | zero =>
      intro _
      rw [show p + 1 + ((0 : Nat) : Int) = p + 1 by omega, sAm_s _ _ _ h0, if_pos]
      exact sAm_lo hm p.toNat (fun k a b => h2 k a (by omega))
    | succ j ih =>
      intro hj
      rw [show p + 1 + ((j + 1 : Nat) : Int) = (p + 1 + j) + 1 by omega, sAm_s _ _ _ (by omega), ih (by omega), if_neg]
      have := h3 (p + 1 + j) (by omega) (by omega)
      show ¬ f p < _
      omega
  have := key (n - p - 1).toNat (by omega)
  rw [show p + 1 + ((n - p - 1).toNat : Int) = n by omega] at this
  rw [this]
theorem sAm_non {f : Int → Int} {m n : Int} (h0 : 0 ≤ n) (h : ∀ k, 0 ≤ k → k < n → f k ≤ m) : (sAm f (-1) m n).1 = -1 := by
  rw [sAm_z (n := 0) (by omega) h0 h]
  rfl
theorem dX12_in_0 : decode cX12_in 0 = .ok (.iload_n 0, 1) := by decide +kernel
theorem dX12_in_1 : decode cX12_in 1 = .ok (.iload_n 1, 1) := by decide +kernel
theorem dX12_in_2 : decode cX12_in 2 = .ok (.if_icmp .lt 12, 3) := by decide +kernel
theorem dX12_in_5 : decode cX12_in 5 = .ok (.iload_n 0, 1) := by decide +kernel
theorem dX12_in_6 : decode cX12_in 6 = .ok (.iload_n 2, 1) := by decide +kernel
theorem dX12_in_7 : decode cX12_in 7 = .ok (.if_icmp .gt 7, 3) := by decide +kernel
theorem dX12_in_10 : decode cX12_in 10 = .ok (.iconst 1, 1) := by decide +kernel
theorem dX12_in_11 : decode cX12_in 11 = .ok (.goto 4, 3) := by decide +kernel
theorem dX12_in_14 : decode cX12_in 14 = .ok (.iconst 0, 1) := by decide +kernel
theorem dX12_in_15 : decode cX12_in 15 = .ok (.ireturn, 1) := by decide +kernel
set_option maxRecDepth 4000 in
set_option maxHeartbeats 4000000 in
theorem m_X12_in (l : Launch) (g : qGm) (M : qMem) {x : Int} (hx : qIn x) {y : Int} (hy : qIn y) {z : Int} (hz : qIn z) : qOk l g 1 yX12_in cX12_in 3 (some .boolean) [qI x, qI y, qI z] M (qEv (some (qB (y ≤ x ∧ x ≤ z))) M) := by
  refine q_ok (by decide +kernel) (Nat.le_of_ble_eq_true rfl) (fun X C' hn => ?_)
  have C := C'.1
  refine q_iloadn C dX12_in_0 rfl ?_
  refine q_iloadn C dX12_in_1 rfl ?_
  refine q_icmp_lt C 14 dX12_in_2 (by decide) (by first | assumption | omega | exact q_tin _ | exact q_bIn _) (by first | assumption | omega | exact q_tin _ | exact q_bIn _) (fun h2 => ?_) (fun h2 => ?_)
  · refine q_iconst C dX12_in_14 ?_
    refine q_zret C' dX12_in_15 (by first | omega | exact q_b01 _ | simp) ?_
    refine ⟨congrArg some ?_, rfl⟩
    first | (rw [q_bT (by omega)]; done) | (rw [q_bF (by omega)]; done) | exact q_bIff (by omega)
  · refine q_iloadn C dX12_in_5 rfl ?_
    refine q_iloadn C dX12_in_6 rfl ?_
    refine q_tI_gt C 14 15 dX12_in_7 dX12_in_10 dX12_in_11 dX12_in_14 (by decide) (by decide) rfl (by first | assumption | omega | exact q_tin _ | exact q_bIn _) (by first | assumption | omega | exact q_tin _ | exact q_bIn _) ?_
    refine q_zret C' dX12_in_15 (by first | omega | exact q_b01 _ | simp) ?_
    refine ⟨congrArg some ?_, rfl⟩
    first | (rw [q_bT (by omega)]; done) | (rw [q_bF (by omega)]; done) | exact q_bIff (by omega)
theorem dX12_has_0 : decode cX12_has 0 = .ok (.iload_n 0, 1) := by decide +kernel
theorem dX12_has_1 : decode cX12_has 1 = .ok (.iload_n 1, 1) := by decide +kernel
theorem dX12_has_2 : decode cX12_has 2 = .ok (.ishr, 1) := by decide +kernel
theorem dX12_has_3 : decode cX12_has 3 = .ok (.iconst 1, 1) := by decide +kernel
theorem dX12_has_4 : decode cX12_has 4 = .ok (.iand, 1) := by decide +kernel
theorem dX12_has_5 : decode cX12_has 5 = .ok (.iconst 1, 1) := by decide +kernel
theorem dX12_has_6 : decode cX12_has 6 = .ok (.if_icmp .ne 7, 3) := by decide +kernel
theorem dX12_has_9 : decode cX12_has 9 = .ok (.iconst 1, 1) := by decide +kernel
theorem dX12_has_10 : decode cX12_has 10 = .ok (.goto 4, 3) := by decide +kernel
theorem dX12_has_13 : decode cX12_has 13 = .ok (.iconst 0, 1) := by decide +kernel
theorem dX12_has_14 : decode cX12_has 14 = .ok (.ireturn, 1) := by decide +kernel
set_option maxRecDepth 4000 in
set_option maxHeartbeats 4000000 in
theorem m_X12_has (l : Launch) (g : qGm) (M : qMem) {x : Int} (hx : 0 ≤ x ∧ x < 64) {y : Int} (hy : 0 ≤ y ∧ y < 8) : qOk l g 1 yX12_has cX12_has 2 (some .boolean) [qI x, qI y] M (qEv (some (qB (sHas x y))) M) := by
  refine q_ok (by decide +kernel) (Nat.le_of_ble_eq_true rfl) (fun X C' hn => ?_)
  have C := C'.1
  have e := q_has hx.1 hx.2 hy.1 hy.2
  refine q_iloadn C dX12_has_0 rfl ?_
  refine q_iloadn C dX12_has_1 rfl ?_
  refine q_ishr C dX12_has_2 ?_
  refine q_iconst C dX12_has_3 ?_
  refine q_iand C dX12_has_4 ?_
  rw [e]
  have e1 : 0 ≤ x / 2 ^ y.toNat % 2 ∧ x / 2 ^ y.toNat % 2 < 2 := by omega
  refine q_iconst C dX12_has_5 ?_
  refine q_tI_ne C 13 14 dX12_has_6 dX12_has_9 dX12_has_10 dX12_has_13 (by decide) (by decide) rfl (by first | assumption | omega | exact q_tin _ | exact q_bIn _) (by first | assumption | omega | exact q_tin _ | exact q_bIn _) ?_
  refine q_zret C' dX12_has_14 (by first | omega | exact q_b01 _ | simp) ?_
  refine ⟨congrArg some ?_, rfl⟩
  first | rfl | (rw [q_bT (by omega)]; done) | (rw [q_bF (by omega)]; done) | exact q_bIff (by omega)
theorem dX12_bits_0 : decode cX12_bits 0 = .ok (.iconst 0, 1) := by decide +kernel
theorem dX12_bits_1 : decode cX12_bits 1 = .ok (.istore_n 1, 1) := by decide +kernel
theorem dX12_bits_2 : decode cX12_bits 2 = .ok (.iload_n 0, 1) := by decide +kernel
theorem dX12_bits_3 : decode cX12_bits 3 = .ok (.istore_n 2, 1) := by decide +kernel
theorem dX12_bits_4 : decode cX12_bits 4 = .ok (.iload_n 2, 1) := by decide +kernel
theorem dX12_bits_5 : decode cX12_bits 5 = .ok (.ifCond .eq 15, 3) := by decide +kernel
theorem dX12_bits_8 : decode cX12_bits 8 = .ok (.iinc 1 1, 3) := by decide +kernel
theorem dX12_bits_11 : decode cX12_bits 11 = .ok (.iload_n 2, 1) := by decide +kernel
theorem dX12_bits_12 : decode cX12_bits 12 = .ok (.iload_n 2, 1) := by decide +kernel
theorem dX12_bits_13 : decode cX12_bits 13 = .ok (.iconst 1, 1) := by decide +kernel
theorem dX12_bits_14 : decode cX12_bits 14 = .ok (.isub, 1) := by decide +kernel
theorem dX12_bits_15 : decode cX12_bits 15 = .ok (.iand, 1) := by decide +kernel
theorem dX12_bits_16 : decode cX12_bits 16 = .ok (.istore_n 2, 1) := by decide +kernel
theorem dX12_bits_17 : decode cX12_bits 17 = .ok (.goto (-13), 3) := by decide +kernel
theorem dX12_bits_20 : decode cX12_bits 20 = .ok (.iload_n 1, 1) := by decide +kernel
theorem dX12_bits_21 : decode cX12_bits 21 = .ok (.ireturn, 1) := by decide +kernel
set_option maxRecDepth 4000 in
set_option maxHeartbeats 4000000 in
theorem m_X12_bits (l : Launch) (g : qGm) (M : qMem) {x : Int} (hx : 0 ≤ x ∧ x < 64) : qOk l g 1 yX12_bits cX12_bits 3 (some .int) [qI x] M (qEv (some (sPop x)) M) := by
  refine q_ok (by decide +kernel) (Nat.le_of_ble_eq_true rfl) (fun X C' hn => ?_)
  have C := C'.1
  refine q_iconst C dX12_bits_0 ?_
  refine q_istoren C dX12_bits_1 hn (by decide) rfl ?_
  refine q_iloadn C dX12_bits_2 rfl ?_
  refine q_istoren C dX12_bits_3 hn (by decide) rfl ?_
  have L4 : ∀ (n4 : Nat) (k : Int) (s : Int), s < (n4 : Int) → (0 ≤ s ∧ s < 64) → (0 ≤ k ∧ k ≤ 6) → (k + sPop s = sPop x) → qV l g X M 4 [(0, qI x), (1, qI k), (2, qI s)] [] := by
    intro n4
    induction n4 with
    | zero => intro k s hm4 i0 i1 ie; exfalso; first | omega | (simp at *; omega)
    | succ n4 ih4 =>
      intro k s hm4 i0 i1 ie
      have pb := q_popS i0.1 i0.2
      have pi := q_popIn i0.1 i0.2
      have px := q_popIn hx.1 hx.2
      refine q_iloadn C dX12_bits_4 rfl ?_
      refine q_if_eq C 20 dX12_bits_5 (by decide) (by first | assumption | omega | exact q_tin _ | exact q_bIn _) (fun h5 => ?_) (fun h5 => ?_)
      · refine q_iloadn C dX12_bits_20 rfl ?_
        refine q_iret C' dX12_bits_21 (by first | assumption | omega | exact q_tin _ | exact q_bIn _) ?_
        refine ⟨congrArg some ?_, rfl⟩
        have e9 : s = 0 := (by omega)
        rw [e9] at ie
        rw [← ie]
        have e8 : sPop 0 = 0 := (by decide)
        omega
      · refine q_iinc C dX12_bits_8 rfl hn (by decide) rfl ?_
        refine q_iloadn C dX12_bits_11 rfl ?_
        refine q_iloadn C dX12_bits_12 rfl ?_
        refine q_iconst C dX12_bits_13 ?_
        refine q_isub C dX12_bits_14 ?_
        refine q_iand C dX12_bits_15 ?_
        refine q_istoren C dX12_bits_16 hn (by decide) rfl ?_
        refine q_goto C (tgt := 4) dX12_bits_17 (by decide) ?_
        exact q_ls (by exact ⟨rfl, rfl, rfl, trivial⟩) (ih4 _ _ (by have := pb (by omega); omega) (by have := pb (by omega); omega) (by have := pb (by omega); have := q_popIn this.1 (by omega); omega) (by have := pb (by omega); omega))
  exact q_ls (by exact ⟨rfl, rfl, rfl, trivial⟩) (L4 1000 _ _ (by omega) (by omega) (by omega) (by omega))
theorem dX12_isSeason_0 : decode cX12_isSeason 0 = .ok (.aload_n 0, 1) := by decide +kernel
theorem dX12_isSeason_1 : decode cX12_isSeason 1 = .ok (.getfield 35, 3) := by decide +kernel
theorem dX12_isSeason_4 : decode cX12_isSeason 4 = .ok (.iconst (-1), 1) := by decide +kernel
theorem dX12_isSeason_5 : decode cX12_isSeason 5 = .ok (.if_icmp .eq 7, 3) := by decide +kernel
theorem dX12_isSeason_8 : decode cX12_isSeason 8 = .ok (.iconst 1, 1) := by decide +kernel
theorem dX12_isSeason_9 : decode cX12_isSeason 9 = .ok (.goto 4, 3) := by decide +kernel
theorem dX12_isSeason_12 : decode cX12_isSeason 12 = .ok (.iconst 0, 1) := by decide +kernel
theorem dX12_isSeason_13 : decode cX12_isSeason 13 = .ok (.ireturn, 1) := by decide +kernel
set_option maxRecDepth 4000 in
set_option maxHeartbeats 4000000 in
theorem m_X12_isSeason (l : Launch) (g : qGm) (M : qMem) {sd : sSD} (hs : sRS sd) (hS : mS M sd) : qOk l g 1 yX12_isSeason cX12_isSeason 1 (some .boolean) [qR g 35 0] M (qEv (some (qB (sd 0 0 ≠ -1))) M) := by
  refine q_ok (by decide +kernel) (Nat.le_of_ble_eq_true rfl) (fun X C' hn => ?_)
  have C := C'.1
  have km := hs.2.1
  have kn := hs.2.2.1
  have hmn := hs.1
  have w0 := hS.1
  have w1 := hS.2.1
  have w2 := hS.2.2.1
  refine q_aloadn C dX12_isSeason_0 rfl ?_
  refine gf_RX12_35 C dX12_isSeason_1 (fun r1 => ?_)
  refine q_iconst C dX12_isSeason_4 ?_
  refine q_tI_eq C 12 13 dX12_isSeason_5 dX12_isSeason_8 dX12_isSeason_9 dX12_isSeason_12 (by decide) (by decide) rfl (by first | assumption | omega | exact q_tin _ | exact q_bIn _) (by first | assumption | omega | exact q_tin _ | exact q_bIn _) ?_
  refine q_zret C' dX12_isSeason_13 (by first | omega | exact q_b01 _ | simp) ?_
  refine ⟨congrArg some ?_, rfl⟩
  first | (rw [q_bT (by omega)]; done) | (rw [q_bF (by omega)]; done) | exact q_bIff (by omega)
theorem dX12_isComer_0 : decode cX12_isComer 0 = .ok (.iload_n 1, 1) := by decide +kernel
theorem dX12_isComer_1 : decode cX12_isComer 1 = .ok (.iconst 0, 1) := by decide +kernel
theorem dX12_isComer_2 : decode cX12_isComer 2 = .ok (.aload_n 0, 1) := by decide +kernel
theorem dX12_isComer_3 : decode cX12_isComer 3 = .ok (.getfield 147, 3) := by decide +kernel
theorem dX12_isComer_6 : decode cX12_isComer 6 = .ok (.iconst 1, 1) := by decide +kernel
theorem dX12_isComer_7 : decode cX12_isComer 7 = .ok (.isub, 1) := by decide +kernel
theorem dX12_isComer_8 : decode cX12_isComer 8 = .ok (.invokestatic 85, 3) := by decide +kernel
theorem dX12_isComer_11 : decode cX12_isComer 11 = .ok (.ireturn, 1) := by decide +kernel
set_option maxRecDepth 4000 in
set_option maxHeartbeats 4000000 in
theorem m_X12_isComer (l : Launch) (g : qGm) (M : qMem) {sd : sSD} (hs : sRS sd) (hS : mS M sd) {c : Int} (hcq : qIn c) : qOk l g 2 yX12_isComer cX12_isComer 2 (some .boolean) [qR g 35 0, qI c] M (qEv (some (qB (0 ≤ c ∧ c < sd 4 0))) M) := by
  refine q_ok (by decide +kernel) (Nat.le_of_ble_eq_true rfl) (fun X C' hn => ?_)
  have C := C'.1
  have km := hs.2.1
  have kn := hs.2.2.1
  have hmn := hs.1
  have w0 := hS.1
  have w1 := hS.2.1
  have w2 := hS.2.2.1
  refine q_iloadn C dX12_isComer_0 rfl ?_
  refine q_iconst C dX12_isComer_1 ?_
  refine q_aloadn C dX12_isComer_2 rfl ?_
  refine gf_RX12_147 C dX12_isComer_3 (fun r3 => ?_)
  refine q_iconst C dX12_isComer_6 ?_
  refine q_isub C dX12_isComer_7 ?_
  refine cv_RX12_85 C (by decide) (m_X12_in l g _ (by omega) (by omega) (by omega)) dX12_isComer_8 (Nat.le_of_ble_eq_true rfl) (fun r8 => ?_)
  refine q_zret C' dX12_isComer_11 (by first | omega | exact q_b01 _ | simp) ?_
  refine ⟨congrArg some ?_, rfl⟩
  first | (rw [q_bT (by omega)]; done) | (rw [q_bF (by omega)]; done) | exact q_bIff (by omega)
theorem dX12_isHouse_0 : decode cX12_isHouse 0 = .ok (.iload_n 1, 1) := by decide +kernel
theorem dX12_isHouse_1 : decode cX12_isHouse 1 = .ok (.iconst 0, 1) := by decide +kernel
theorem dX12_isHouse_2 : decode cX12_isHouse 2 = .ok (.aload_n 0, 1) := by decide +kernel
theorem dX12_isHouse_3 : decode cX12_isHouse 3 = .ok (.getfield 150, 3) := by decide +kernel
theorem dX12_isHouse_6 : decode cX12_isHouse 6 = .ok (.iconst 1, 1) := by decide +kernel
theorem dX12_isHouse_7 : decode cX12_isHouse 7 = .ok (.isub, 1) := by decide +kernel
theorem dX12_isHouse_8 : decode cX12_isHouse 8 = .ok (.invokestatic 85, 3) := by decide +kernel
theorem dX12_isHouse_11 : decode cX12_isHouse 11 = .ok (.ireturn, 1) := by decide +kernel
set_option maxRecDepth 4000 in
set_option maxHeartbeats 4000000 in
theorem m_X12_isHouse (l : Launch) (g : qGm) (M : qMem) {sd : sSD} (hs : sRS sd) (hS : mS M sd) {h : Int} (hhq : qIn h) : qOk l g 2 yX12_isHouse cX12_isHouse 2 (some .boolean) [qR g 35 0, qI h] M (qEv (some (qB (0 ≤ h ∧ h < sd 5 0))) M) := by
  refine q_ok (by decide +kernel) (Nat.le_of_ble_eq_true rfl) (fun X C' hn => ?_)
  have C := C'.1
  have km := hs.2.1
  have kn := hs.2.2.1
  have hmn := hs.1
  have w0 := hS.1
  have w1 := hS.2.1
  have w2 := hS.2.2.1
  refine q_iloadn C dX12_isHouse_0 rfl ?_
  refine q_iconst C dX12_isHouse_1 ?_
  refine q_aloadn C dX12_isHouse_2 rfl ?_
  refine gf_RX12_150 C dX12_isHouse_3 (fun r3 => ?_)
  refine q_iconst C dX12_isHouse_6 ?_
  refine q_isub C dX12_isHouse_7 ?_
  refine cv_RX12_85 C (by decide) (m_X12_in l g _ (by omega) (by omega) (by omega)) dX12_isHouse_8 (Nat.le_of_ble_eq_true rfl) (fun r8 => ?_)
  refine q_zret C' dX12_isHouse_11 (by first | omega | exact q_b01 _ | simp) ?_
  refine ⟨congrArg some ?_, rfl⟩
  first | (rw [q_bT (by omega)]; done) | (rw [q_bF (by omega)]; done) | exact q_bIff (by omega)
theorem dX12_areBoth_0 : decode cX12_areBoth 0 = .ok (.aload_n 0, 1) := by decide +kernel
theorem dX12_areBoth_1 : decode cX12_areBoth 1 = .ok (.iload_n 1, 1) := by decide +kernel
theorem dX12_areBoth_2 : decode cX12_areBoth 2 = .ok (.invokevirtual 162, 3) := by decide +kernel
theorem dX12_areBoth_5 : decode cX12_areBoth 5 = .ok (.ifCond .eq 15, 3) := by decide +kernel
theorem dX12_areBoth_8 : decode cX12_areBoth 8 = .ok (.aload_n 0, 1) := by decide +kernel
theorem dX12_areBoth_9 : decode cX12_areBoth 9 = .ok (.iload_n 2, 1) := by decide +kernel
theorem dX12_areBoth_10 : decode cX12_areBoth 10 = .ok (.invokevirtual 165, 3) := by decide +kernel
theorem dX12_areBoth_13 : decode cX12_areBoth 13 = .ok (.ifCond .eq 7, 3) := by decide +kernel
theorem dX12_areBoth_16 : decode cX12_areBoth 16 = .ok (.iconst 1, 1) := by decide +kernel
theorem dX12_areBoth_17 : decode cX12_areBoth 17 = .ok (.goto 4, 3) := by decide +kernel
theorem dX12_areBoth_20 : decode cX12_areBoth 20 = .ok (.iconst 0, 1) := by decide +kernel
theorem dX12_areBoth_21 : decode cX12_areBoth 21 = .ok (.ireturn, 1) := by decide +kernel
set_option maxRecDepth 4000 in
set_option maxHeartbeats 4000000 in
theorem m_X12_areBoth (l : Launch) (g : qGm) (M : qMem) {sd : sSD} (hs : sRS sd) (hS : mS M sd) {c : Int} (hcq : qIn c) {h : Int} (hhq : qIn h) : qOk l g 3 yX12_areBoth cX12_areBoth 3 (some .boolean) [qR g 35 0, qI c, qI h] M (qEv (some (qB ((0 ≤ c ∧ c < sd 4 0) ∧ (0 ≤ h ∧ h < sd 5 0)))) M) := by
  refine q_ok (by decide +kernel) (Nat.le_of_ble_eq_true rfl) (fun X C' hn => ?_)
  have C := C'.1
  have km := hs.2.1
  have kn := hs.2.2.1
  have hmn := hs.1
  have w0 := hS.1
  have w1 := hS.2.1
  have w2 := hS.2.2.1
  refine q_aloadn C dX12_areBoth_0 rfl ?_
  refine q_iloadn C dX12_areBoth_1 rfl ?_
  refine cv_RX12_162 C (by decide) (m_X12_isComer l g _ hs hS hcq) dX12_areBoth_2 (Nat.le_of_ble_eq_true rfl) (fun r2 => ?_)
  refine q_ifeqB C 20 dX12_areBoth_5 (by decide) (fun h5 => ?_) (fun h5 => ?_)
  · refine q_iconst C dX12_areBoth_20 ?_
    refine q_zret C' dX12_areBoth_21 (by first | omega | exact q_b01 _ | simp) ?_
    refine ⟨congrArg some ?_, rfl⟩
    first | (rw [q_bT (by omega)]; done) | (rw [q_bF (by omega)]; done) | exact q_bIff (by omega)
  · refine q_aloadn C dX12_areBoth_8 rfl ?_
    refine q_iloadn C dX12_areBoth_9 rfl ?_
    refine cv_RX12_165 C (by decide) (m_X12_isHouse l g _ hs hS hhq) dX12_areBoth_10 (Nat.le_of_ble_eq_true rfl) (fun r10 => ?_)
    refine q_tB_eq C 20 21 dX12_areBoth_13 dX12_areBoth_16 dX12_areBoth_17 dX12_areBoth_20 (by decide) (by decide) rfl ?_
    refine q_zret C' dX12_areBoth_21 (by first | omega | exact q_b01 _ | simp) ?_
    refine ⟨congrArg some ?_, rfl⟩
    first | (rw [q_bT (by omega)]; done) | (rw [q_bF (by omega)]; done) | exact q_bIff (by omega)
theorem dX12_isSign_0 : decode cX12_isSign 0 = .ok (.iload_n 0, 1) := by decide +kernel
theorem dX12_isSign_1 : decode cX12_isSign 1 = .ok (.iconst 0, 1) := by decide +kernel
theorem dX12_isSign_2 : decode cX12_isSign 2 = .ok (.bipush 47, 2) := by decide +kernel
theorem dX12_isSign_4 : decode cX12_isSign 4 = .ok (.invokestatic 85, 3) := by decide +kernel
theorem dX12_isSign_7 : decode cX12_isSign 7 = .ok (.ireturn, 1) := by decide +kernel
set_option maxRecDepth 4000 in
set_option maxHeartbeats 4000000 in
theorem m_X12_isSign (l : Launch) (g : qGm) (M : qMem) {a : Int} (haq : qIn a) : qOk l g 2 yX12_isSign cX12_isSign 1 (some .boolean) [qI a] M (qEv (some (qB (0 ≤ a ∧ a < 48))) M) := by
  refine q_ok (by decide +kernel) (Nat.le_of_ble_eq_true rfl) (fun X C' hn => ?_)
  have C := C'.1
  refine q_iloadn C dX12_isSign_0 rfl ?_
  refine q_iconst C dX12_isSign_1 ?_
  refine q_bipush C dX12_isSign_2 (by decide) ?_
  refine cv_RX12_85 C (by decide) (m_X12_in l g _ (by omega) (by omega) (by omega)) dX12_isSign_4 (Nat.le_of_ble_eq_true rfl) (fun r4 => ?_)
  refine q_zret C' dX12_isSign_7 (by first | omega | exact q_b01 _ | simp) ?_
  refine ⟨congrArg some ?_, rfl⟩
  first | (rw [q_bT (by omega)]; done) | (rw [q_bF (by omega)]; done) | exact q_bIff (by omega)
theorem dX12_isSaid_0 : decode cX12_isSaid 0 = .ok (.iload_n 1, 1) := by decide +kernel
theorem dX12_isSaid_1 : decode cX12_isSaid 1 = .ok (.bipush 16, 2) := by decide +kernel
theorem dX12_isSaid_3 : decode cX12_isSaid 3 = .ok (.idiv, 1) := by decide +kernel
theorem dX12_isSaid_4 : decode cX12_isSaid 4 = .ok (.istore_n 2, 1) := by decide +kernel
theorem dX12_isSaid_5 : decode cX12_isSaid 5 = .ok (.aload_n 0, 1) := by decide +kernel
theorem dX12_isSaid_6 : decode cX12_isSaid 6 = .ok (.getfield 35, 3) := by decide +kernel
theorem dX12_isSaid_9 : decode cX12_isSaid 9 = .ok (.lookupswitch 81 #[(1, 27), (2, 46)], 27) := by decide +kernel
theorem dX12_isSaid_36 : decode cX12_isSaid 36 = .ok (.iload_n 1, 1) := by decide +kernel
theorem dX12_isSaid_37 : decode cX12_isSaid 37 = .ok (.iconst 2, 1) := by decide +kernel
theorem dX12_isSaid_38 : decode cX12_isSaid 38 = .ok (.invokestatic 168, 3) := by decide +kernel
theorem dX12_isSaid_41 : decode cX12_isSaid 41 = .ok (.ifCond .eq 8, 3) := by decide +kernel
theorem dX12_isSaid_44 : decode cX12_isSaid 44 = .ok (.iload_n 2, 1) := by decide +kernel
theorem dX12_isSaid_45 : decode cX12_isSaid 45 = .ok (.iconst 1, 1) := by decide +kernel
theorem dX12_isSaid_46 : decode cX12_isSaid 46 = .ok (.if_icmp .ne 7, 3) := by decide +kernel
theorem dX12_isSaid_49 : decode cX12_isSaid 49 = .ok (.iconst 1, 1) := by decide +kernel
theorem dX12_isSaid_50 : decode cX12_isSaid 50 = .ok (.goto 4, 3) := by decide +kernel
theorem dX12_isSaid_53 : decode cX12_isSaid 53 = .ok (.iconst 0, 1) := by decide +kernel
theorem dX12_isSaid_54 : decode cX12_isSaid 54 = .ok (.ireturn, 1) := by decide +kernel
theorem dX12_isSaid_55 : decode cX12_isSaid 55 = .ok (.iload_n 1, 1) := by decide +kernel
theorem dX12_isSaid_56 : decode cX12_isSaid 56 = .ok (.iconst 0, 1) := by decide +kernel
theorem dX12_isSaid_57 : decode cX12_isSaid 57 = .ok (.invokestatic 168, 3) := by decide +kernel
theorem dX12_isSaid_60 : decode cX12_isSaid 60 = .ok (.ifCond .eq 11, 3) := by decide +kernel
theorem dX12_isSaid_63 : decode cX12_isSaid 63 = .ok (.iload_n 1, 1) := by decide +kernel
theorem dX12_isSaid_64 : decode cX12_isSaid 64 = .ok (.iconst 1, 1) := by decide +kernel
theorem dX12_isSaid_65 : decode cX12_isSaid 65 = .ok (.invokestatic 168, 3) := by decide +kernel
theorem dX12_isSaid_68 : decode cX12_isSaid 68 = .ok (.ifCond .ne 20, 3) := by decide +kernel
theorem dX12_isSaid_71 : decode cX12_isSaid 71 = .ok (.iload_n 1, 1) := by decide +kernel
theorem dX12_isSaid_72 : decode cX12_isSaid 72 = .ok (.iconst 3, 1) := by decide +kernel
theorem dX12_isSaid_73 : decode cX12_isSaid 73 = .ok (.invokestatic 168, 3) := by decide +kernel
theorem dX12_isSaid_76 : decode cX12_isSaid 76 = .ok (.ifCond .eq 8, 3) := by decide +kernel
theorem dX12_isSaid_79 : decode cX12_isSaid 79 = .ok (.iload_n 2, 1) := by decide +kernel
theorem dX12_isSaid_80 : decode cX12_isSaid 80 = .ok (.iconst 2, 1) := by decide +kernel
theorem dX12_isSaid_81 : decode cX12_isSaid 81 = .ok (.if_icmp .eq 7, 3) := by decide +kernel
theorem dX12_isSaid_84 : decode cX12_isSaid 84 = .ok (.iconst 1, 1) := by decide +kernel
theorem dX12_isSaid_85 : decode cX12_isSaid 85 = .ok (.goto 4, 3) := by decide +kernel
theorem dX12_isSaid_88 : decode cX12_isSaid 88 = .ok (.iconst 0, 1) := by decide +kernel
theorem dX12_isSaid_89 : decode cX12_isSaid 89 = .ok (.ireturn, 1) := by decide +kernel
theorem dX12_isSaid_90 : decode cX12_isSaid 90 = .ok (.iconst 1, 1) := by decide +kernel
theorem dX12_isSaid_91 : decode cX12_isSaid 91 = .ok (.ireturn, 1) := by decide +kernel
set_option maxRecDepth 4000 in
set_option maxHeartbeats 4000000 in
theorem m_X12_isSaid (l : Launch) (g : qGm) (M : qMem) {sd : sSD} (hs : sRS sd) (hS : mS M sd) (hon : 0 ≤ sd 0 0) {a : Int} (ha : 0 ≤ a ∧ a < 48) : qOk l g 2 yX12_isSaid cX12_isSaid 3 (some .boolean) [qR g 35 0, qI a] M (qEv (some (qB (sSaid (sd 0 0) a))) M) := by
  refine q_ok (by decide +kernel) (Nat.le_of_ble_eq_true rfl) (fun X C' hn => ?_)
  have C := C'.1
  have km := hs.2.1
  have kn := hs.2.2.1
  have hmn := hs.1
  have w0 := hS.1
  have w1 := hS.2.1
  have w2 := hS.2.2.1
  have q0 : sHas a 0 ↔ a / 1 % 2 = 1 := by show a / 2 ^ (0 : Int).toNat % 2 = 1 ↔ _; rw [show (2 : Int) ^ (0 : Int).toNat = 1 by decide]
  have q1 : sHas a 1 ↔ a / 2 % 2 = 1 := by show a / 2 ^ (1 : Int).toNat % 2 = 1 ↔ _; rw [show (2 : Int) ^ (1 : Int).toNat = 2 by decide]
  have q2 : sHas a 2 ↔ a / 4 % 2 = 1 := by show a / 2 ^ (2 : Int).toNat % 2 = 1 ↔ _; rw [show (2 : Int) ^ (2 : Int).toNat = 4 by decide]
  have q3 : sHas a 3 ↔ a / 8 % 2 = 1 := by show a / 2 ^ (3 : Int).toNat % 2 = 1 ↔ _; rw [show (2 : Int) ^ (3 : Int).toNat = 8 by decide]
  refine q_iloadn C dX12_isSaid_0 rfl ?_
  refine q_bipush C dX12_isSaid_1 (by decide) ?_
  refine q_idiv C dX12_isSaid_3 (by omega) (by omega) (by omega) (by omega) ?_
  refine q_istoren C dX12_isSaid_4 hn (by decide) rfl ?_
  refine q_aloadn C dX12_isSaid_5 rfl ?_
  refine gf_RX12_35 C dX12_isSaid_6 (fun r6 => ?_)
  by_cases hk9_0 : (M 35 0 15) = 1
  · refine q_lsw C (off := 27) 36 dX12_isSaid_9 (by decide) (by first | assumption | omega | exact q_tin _ | exact q_bIn _) (by show (if (1 : Int) = (M 35 0 15) then (27 : Int) else if (2 : Int) = (M 35 0 15) then (46 : Int) else (81 : Int)) = 27; rw [if_pos (by omega)]) (by decide) ?_
    refine q_iloadn C dX12_isSaid_36 rfl ?_
    refine q_iconst C dX12_isSaid_37 ?_
    refine cv_RX12_168 C (by decide) (m_X12_has l g _ (by omega) (by omega)) dX12_isSaid_38 (Nat.le_of_ble_eq_true rfl) (fun r38 => ?_)
    refine q_ifeqB C 49 dX12_isSaid_41 (by decide) (fun h41 => ?_) (fun h41 => ?_)
    · refine q_iconst C dX12_isSaid_49 ?_
      refine q_goto C (tgt := 54) dX12_isSaid_50 (by decide) ?_
      refine q_zret C' dX12_isSaid_54 (by first | omega | exact q_b01 _ | simp) ?_
      refine ⟨congrArg some ?_, rfl⟩
      try simp only [q0, q1, q2, q3] at *
      first | (rw [q_bT (by unfold sSaid; omega)]; done) | (rw [q_bF (by unfold sSaid; omega)]; done) | exact q_bIff (by simp only [sSaid]; omega)
    · refine q_iloadn C dX12_isSaid_44 rfl ?_
      refine q_iconst C dX12_isSaid_45 ?_
      refine q_tI_ne C 53 54 dX12_isSaid_46 dX12_isSaid_49 dX12_isSaid_50 dX12_isSaid_53 (by decide) (by decide) rfl (by first | assumption | omega | exact q_tin _ | exact q_bIn _) (by first | assumption | omega | exact q_tin _ | exact q_bIn _) ?_
      refine q_zret C' dX12_isSaid_54 (by first | omega | exact q_b01 _ | simp) ?_
      refine ⟨congrArg some ?_, rfl⟩
      try simp only [q0, q1, q2, q3] at *
      first | (rw [q_bT (by unfold sSaid; omega)]; done) | (rw [q_bF (by unfold sSaid; omega)]; done) | exact q_bIff (by simp only [sSaid]; omega)
  by_cases hk9_1 : (M 35 0 15) = 2
  · refine q_lsw C (off := 46) 55 dX12_isSaid_9 (by decide) (by first | assumption | omega | exact q_tin _ | exact q_bIn _) (by show (if (1 : Int) = (M 35 0 15) then (27 : Int) else if (2 : Int) = (M 35 0 15) then (46 : Int) else (81 : Int)) = 46; rw [if_neg (by omega), if_pos (by omega)]) (by decide) ?_
    refine q_iloadn C dX12_isSaid_55 rfl ?_
    refine q_iconst C dX12_isSaid_56 ?_
    refine cv_RX12_168 C (by decide) (m_X12_has l g _ (by omega) (by omega)) dX12_isSaid_57 (Nat.le_of_ble_eq_true rfl) (fun r57 => ?_)
    refine q_ifeqB C 71 dX12_isSaid_60 (by decide) (fun h60 => ?_) (fun h60 => ?_)
    · refine q_iloadn C dX12_isSaid_71 rfl ?_
      refine q_iconst C dX12_isSaid_72 ?_
      refine cv_RX12_168 C (by decide) (m_X12_has l g _ (by omega) (by omega)) dX12_isSaid_73 (Nat.le_of_ble_eq_true rfl) (fun r73 => ?_)
      refine q_ifeqB C 84 dX12_isSaid_76 (by decide) (fun h76 => ?_) (fun h76 => ?_)
      · refine q_iconst C dX12_isSaid_84 ?_
        refine q_goto C (tgt := 89) dX12_isSaid_85 (by decide) ?_
        refine q_zret C' dX12_isSaid_89 (by first | omega | exact q_b01 _ | simp) ?_
        refine ⟨congrArg some ?_, rfl⟩
        try simp only [q0, q1, q2, q3] at *
        first | (rw [q_bT (by unfold sSaid; omega)]; done) | (rw [q_bF (by unfold sSaid; omega)]; done) | exact q_bIff (by simp only [sSaid]; omega)
      · refine q_iloadn C dX12_isSaid_79 rfl ?_
        refine q_iconst C dX12_isSaid_80 ?_
        refine q_tI_eq C 88 89 dX12_isSaid_81 dX12_isSaid_84 dX12_isSaid_85 dX12_isSaid_88 (by decide) (by decide) rfl (by first | assumption | omega | exact q_tin _ | exact q_bIn _) (by first | assumption | omega | exact q_tin _ | exact q_bIn _) ?_
        refine q_zret C' dX12_isSaid_89 (by first | omega | exact q_b01 _ | simp) ?_
        refine ⟨congrArg some ?_, rfl⟩
        try simp only [q0, q1, q2, q3] at *
        first | (rw [q_bT (by unfold sSaid; omega)]; done) | (rw [q_bF (by unfold sSaid; omega)]; done) | exact q_bIff (by simp only [sSaid]; omega)
    · refine q_iloadn C dX12_isSaid_63 rfl ?_
      refine q_iconst C dX12_isSaid_64 ?_
      refine cv_RX12_168 C (by decide) (m_X12_has l g _ (by omega) (by omega)) dX12_isSaid_65 (Nat.le_of_ble_eq_true rfl) (fun r65 => ?_)
      refine q_ifneB C 88 dX12_isSaid_68 (by decide) (fun h68 => ?_) (fun h68 => ?_)
      · refine q_iconst C dX12_isSaid_88 ?_
        refine q_zret C' dX12_isSaid_89 (by first | omega | exact q_b01 _ | simp) ?_
        refine ⟨congrArg some ?_, rfl⟩
        try simp only [q0, q1, q2, q3] at *
        first | (rw [q_bT (by unfold sSaid; omega)]; done) | (rw [q_bF (by unfold sSaid; omega)]; done) | exact q_bIff (by simp only [sSaid]; omega)
      · refine q_iloadn C dX12_isSaid_71 rfl ?_
        refine q_iconst C dX12_isSaid_72 ?_
        refine cv_RX12_168 C (by decide) (m_X12_has l g _ (by omega) (by omega)) dX12_isSaid_73 (Nat.le_of_ble_eq_true rfl) (fun r73 => ?_)
        refine q_ifeqB C 84 dX12_isSaid_76 (by decide) (fun h76 => ?_) (fun h76 => ?_)
        · refine q_iconst C dX12_isSaid_84 ?_
          refine q_goto C (tgt := 89) dX12_isSaid_85 (by decide) ?_
          refine q_zret C' dX12_isSaid_89 (by first | omega | exact q_b01 _ | simp) ?_
          refine ⟨congrArg some ?_, rfl⟩
          try simp only [q0, q1, q2, q3] at *
          first | (rw [q_bT (by unfold sSaid; omega)]; done) | (rw [q_bF (by unfold sSaid; omega)]; done) | exact q_bIff (by simp only [sSaid]; omega)
        · refine q_iloadn C dX12_isSaid_79 rfl ?_
          refine q_iconst C dX12_isSaid_80 ?_
          refine q_tI_eq C 88 89 dX12_isSaid_81 dX12_isSaid_84 dX12_isSaid_85 dX12_isSaid_88 (by decide) (by decide) rfl (by first | assumption | omega | exact q_tin _ | exact q_bIn _) (by first | assumption | omega | exact q_tin _ | exact q_bIn _) ?_
          refine q_zret C' dX12_isSaid_89 (by first | omega | exact q_b01 _ | simp) ?_
          refine ⟨congrArg some ?_, rfl⟩
          try simp only [q0, q1, q2, q3] at *
          first | (rw [q_bT (by unfold sSaid; omega)]; done) | (rw [q_bF (by unfold sSaid; omega)]; done) | exact q_bIff (by simp only [sSaid]; omega)
  refine q_lsw C (off := 81) 90 dX12_isSaid_9 (by decide) (by first | assumption | omega | exact q_tin _ | exact q_bIn _) (by show (if (1 : Int) = (M 35 0 15) then (27 : Int) else if (2 : Int) = (M 35 0 15) then (46 : Int) else (81 : Int)) = 81; rw [if_neg (by omega), if_neg (by omega)]) (by decide) ?_
  refine q_iconst C dX12_isSaid_90 ?_
  refine q_zret C' dX12_isSaid_91 (by first | omega | exact q_b01 _ | simp) ?_
  refine ⟨congrArg some ?_, rfl⟩
  try simp only [q0, q1, q2, q3] at *
  first | (rw [q_bT (by unfold sSaid; omega)]; done) | (rw [q_bF (by unfold sSaid; omega)]; done) | exact q_bIff (by simp only [sSaid]; omega)
theorem dX12_meaning_0 : decode cX12_meaning 0 = .ok (.iload_n 0, 1) := by decide +kernel
theorem dX12_meaning_1 : decode cX12_meaning 1 = .ok (.bipush 16, 2) := by decide +kernel
theorem dX12_meaning_3 : decode cX12_meaning 3 = .ok (.idiv, 1) := by decide +kernel
theorem dX12_meaning_4 : decode cX12_meaning 4 = .ok (.iconst 2, 1) := by decide +kernel
theorem dX12_meaning_5 : decode cX12_meaning 5 = .ok (.if_icmp .ne 8, 3) := by decide +kernel
theorem dX12_meaning_8 : decode cX12_meaning 8 = .ok (.bipush 7, 2) := by decide +kernel
theorem dX12_meaning_10 : decode cX12_meaning 10 = .ok (.goto 26, 3) := by decide +kernel
theorem dX12_meaning_13 : decode cX12_meaning 13 = .ok (.iload_n 0, 1) := by decide +kernel
theorem dX12_meaning_14 : decode cX12_meaning 14 = .ok (.iconst 1, 1) := by decide +kernel
theorem dX12_meaning_15 : decode cX12_meaning 15 = .ok (.iand, 1) := by decide +kernel
theorem dX12_meaning_16 : decode cX12_meaning 16 = .ok (.iload_n 0, 1) := by decide +kernel
theorem dX12_meaning_17 : decode cX12_meaning 17 = .ok (.iconst 1, 1) := by decide +kernel
theorem dX12_meaning_18 : decode cX12_meaning 18 = .ok (.ishr, 1) := by decide +kernel
theorem dX12_meaning_19 : decode cX12_meaning 19 = .ok (.iconst 1, 1) := by decide +kernel
theorem dX12_meaning_20 : decode cX12_meaning 20 = .ok (.iand, 1) := by decide +kernel
theorem dX12_meaning_21 : decode cX12_meaning 21 = .ok (.iadd, 1) := by decide +kernel
theorem dX12_meaning_22 : decode cX12_meaning 22 = .ok (.iconst 3, 1) := by decide +kernel
theorem dX12_meaning_23 : decode cX12_meaning 23 = .ok (.iload_n 0, 1) := by decide +kernel
theorem dX12_meaning_24 : decode cX12_meaning 24 = .ok (.iconst 2, 1) := by decide +kernel
theorem dX12_meaning_25 : decode cX12_meaning 25 = .ok (.ishr, 1) := by decide +kernel
theorem dX12_meaning_26 : decode cX12_meaning 26 = .ok (.iconst 1, 1) := by decide +kernel
theorem dX12_meaning_27 : decode cX12_meaning 27 = .ok (.iand, 1) := by decide +kernel
theorem dX12_meaning_28 : decode cX12_meaning 28 = .ok (.imul, 1) := by decide +kernel
theorem dX12_meaning_29 : decode cX12_meaning 29 = .ok (.iadd, 1) := by decide +kernel
theorem dX12_meaning_30 : decode cX12_meaning 30 = .ok (.iload_n 0, 1) := by decide +kernel
theorem dX12_meaning_31 : decode cX12_meaning 31 = .ok (.iconst 3, 1) := by decide +kernel
theorem dX12_meaning_32 : decode cX12_meaning 32 = .ok (.ishr, 1) := by decide +kernel
theorem dX12_meaning_33 : decode cX12_meaning 33 = .ok (.iconst 1, 1) := by decide +kernel
theorem dX12_meaning_34 : decode cX12_meaning 34 = .ok (.iand, 1) := by decide +kernel
theorem dX12_meaning_35 : decode cX12_meaning 35 = .ok (.iadd, 1) := by decide +kernel
theorem dX12_meaning_36 : decode cX12_meaning 36 = .ok (.ireturn, 1) := by decide +kernel
set_option maxRecDepth 4000 in
set_option maxHeartbeats 4000000 in
theorem m_X12_meaning (l : Launch) (g : qGm) (M : qMem) {a : Int} (ha : 0 ≤ a ∧ a < 48) : qOk l g 1 yX12_meaning cX12_meaning 1 (some .int) [qI a] M (qEv (some (sMean a)) M) := by
  refine q_ok (by decide +kernel) (Nat.le_of_ble_eq_true rfl) (fun X C' hn => ?_)
  have C := C'.1
  have e0 := q_and1 ha.1 ha.2
  have e1 := q_has (s := a) (k := 1) ha.1 (by omega) (by decide) (by decide)
  have e2 := q_has (s := a) (k := 2) ha.1 (by omega) (by decide) (by decide)
  have e3 := q_has (s := a) (k := 3) ha.1 (by omega) (by decide) (by decide)
  have p1 : (2 : Int) ^ (1 : Int).toNat = 2 := by decide
  have p2 : (2 : Int) ^ (2 : Int).toNat = 4 := by decide
  have p3 : (2 : Int) ^ (3 : Int).toNat = 8 := by decide
  rw [p1] at e1
  rw [p2] at e2
  rw [p3] at e3
  refine q_iloadn C dX12_meaning_0 rfl ?_
  refine q_bipush C dX12_meaning_1 (by decide) ?_
  refine q_idiv C dX12_meaning_3 (by omega) (by omega) (by omega) (by omega) ?_
  refine q_iconst C dX12_meaning_4 ?_
  refine q_icmp_ne C 13 dX12_meaning_5 (by decide) (by first | assumption | omega | exact q_tin _ | exact q_bIn _) (by first | assumption | omega | exact q_tin _ | exact q_bIn _) (fun h5 => ?_) (fun h5 => ?_)
  · refine q_iloadn C dX12_meaning_13 rfl ?_
    refine q_iconst C dX12_meaning_14 ?_
    refine q_iand C dX12_meaning_15 ?_
    refine q_iloadn C dX12_meaning_16 rfl ?_
    refine q_iconst C dX12_meaning_17 ?_
    refine q_ishr C dX12_meaning_18 ?_
    refine q_iconst C dX12_meaning_19 ?_
    refine q_iand C dX12_meaning_20 ?_
    refine q_iadd C dX12_meaning_21 ?_
    refine q_iconst C dX12_meaning_22 ?_
    refine q_iloadn C dX12_meaning_23 rfl ?_
    refine q_iconst C dX12_meaning_24 ?_
    refine q_ishr C dX12_meaning_25 ?_
    refine q_iconst C dX12_meaning_26 ?_
    refine q_iand C dX12_meaning_27 ?_
    refine q_imul C dX12_meaning_28 ?_
    refine q_iadd C dX12_meaning_29 ?_
    refine q_iloadn C dX12_meaning_30 rfl ?_
    refine q_iconst C dX12_meaning_31 ?_
    refine q_ishr C dX12_meaning_32 ?_
    refine q_iconst C dX12_meaning_33 ?_
    refine q_iand C dX12_meaning_34 ?_
    refine q_iadd C dX12_meaning_35 ?_
    refine q_iret C' dX12_meaning_36 (by first | assumption | omega | exact q_tin _ | exact q_bIn _) ?_
    refine ⟨congrArg some ?_, rfl⟩
    unfold sMean
    first | (rw [if_pos (by omega)]; done) | (rw [if_neg (by omega), e0, e1, e2, e3]; done)
  · refine q_bipush C dX12_meaning_8 (by decide) ?_
    refine q_goto C (tgt := 36) dX12_meaning_10 (by decide) ?_
    refine q_iret C' dX12_meaning_36 (by first | assumption | omega | exact q_tin _ | exact q_bIn _) ?_
    refine ⟨congrArg some ?_, rfl⟩
    unfold sMean
    first | (rw [if_pos (by omega)]; done) | (rw [if_neg (by omega), e0, e1, e2, e3]; done)
theorem dX12_hears_0 : decode cX12_hears 0 = .ok (.aload_n 0, 1) := by decide +kernel
theorem dX12_hears_1 : decode cX12_hears 1 = .ok (.getfield 38, 3) := by decide +kernel
theorem dX12_hears_4 : decode cX12_hears 4 = .ok (.iload_n 1, 1) := by decide +kernel
theorem dX12_hears_5 : decode cX12_hears 5 = .ok (.iaload, 1) := by decide +kernel
theorem dX12_hears_6 : decode cX12_hears 6 = .ok (.aload_n 0, 1) := by decide +kernel
theorem dX12_hears_7 : decode cX12_hears 7 = .ok (.getfield 47, 3) := by decide +kernel
theorem dX12_hears_10 : decode cX12_hears 10 = .ok (.bipush 92, 2) := by decide +kernel
theorem dX12_hears_12 : decode cX12_hears 12 = .ok (.iload_n 1, 1) := by decide +kernel
theorem dX12_hears_13 : decode cX12_hears 13 = .ok (.iadd, 1) := by decide +kernel
theorem dX12_hears_14 : decode cX12_hears 14 = .ok (.iaload, 1) := by decide +kernel
theorem dX12_hears_15 : decode cX12_hears 15 = .ok (.iload_n 2, 1) := by decide +kernel
theorem dX12_hears_16 : decode cX12_hears 16 = .ok (.invokestatic 168, 3) := by decide +kernel
theorem dX12_hears_19 : decode cX12_hears 19 = .ok (.ifCond .eq 7, 3) := by decide +kernel
theorem dX12_hears_22 : decode cX12_hears 22 = .ok (.iconst 0, 1) := by decide +kernel
theorem dX12_hears_23 : decode cX12_hears 23 = .ok (.goto 5, 3) := by decide +kernel
theorem dX12_hears_26 : decode cX12_hears 26 = .ok (.iload 4, 2) := by decide +kernel
theorem dX12_hears_28 : decode cX12_hears 28 = .ok (.iadd, 1) := by decide +kernel
theorem dX12_hears_29 : decode cX12_hears 29 = .ok (.istore 5, 2) := by decide +kernel
theorem dX12_hears_31 : decode cX12_hears 31 = .ok (.iload 5, 2) := by decide +kernel
theorem dX12_hears_33 : decode cX12_hears 33 = .ok (.iconst 3, 1) := by decide +kernel
theorem dX12_hears_34 : decode cX12_hears 34 = .ok (.aload_n 0, 1) := by decide +kernel
theorem dX12_hears_35 : decode cX12_hears 35 = .ok (.getfield 44, 3) := by decide +kernel
theorem dX12_hears_38 : decode cX12_hears 38 = .ok (.bipush 8, 2) := by decide +kernel
theorem dX12_hears_40 : decode cX12_hears 40 = .ok (.iload_n 2, 1) := by decide +kernel
theorem dX12_hears_41 : decode cX12_hears 41 = .ok (.imul, 1) := by decide +kernel
theorem dX12_hears_42 : decode cX12_hears 42 = .ok (.iload_n 3, 1) := by decide +kernel
theorem dX12_hears_43 : decode cX12_hears 43 = .ok (.invokestatic 172, 3) := by decide +kernel
theorem dX12_hears_46 : decode cX12_hears 46 = .ok (.iadd, 1) := by decide +kernel
theorem dX12_hears_47 : decode cX12_hears 47 = .ok (.iaload, 1) := by decide +kernel
theorem dX12_hears_48 : decode cX12_hears 48 = .ok (.imul, 1) := by decide +kernel
theorem dX12_hears_49 : decode cX12_hears 49 = .ok (.iadd, 1) := by decide +kernel
theorem dX12_hears_50 : decode cX12_hears 50 = .ok (.aload_n 0, 1) := by decide +kernel
theorem dX12_hears_51 : decode cX12_hears 51 = .ok (.iload_n 3, 1) := by decide +kernel
theorem dX12_hears_52 : decode cX12_hears 52 = .ok (.invokevirtual 175, 3) := by decide +kernel
theorem dX12_hears_55 : decode cX12_hears 55 = .ok (.ifCond .eq 7, 3) := by decide +kernel
theorem dX12_hears_58 : decode cX12_hears 58 = .ok (.iconst 0, 1) := by decide +kernel
theorem dX12_hears_59 : decode cX12_hears 59 = .ok (.goto 5, 3) := by decide +kernel
theorem dX12_hears_62 : decode cX12_hears 62 = .ok (.bipush 10, 2) := by decide +kernel
theorem dX12_hears_64 : decode cX12_hears 64 = .ok (.isub, 1) := by decide +kernel
theorem dX12_hears_65 : decode cX12_hears 65 = .ok (.istore 6, 2) := by decide +kernel
theorem dX12_hears_67 : decode cX12_hears 67 = .ok (.iload 6, 2) := by decide +kernel
theorem dX12_hears_69 : decode cX12_hears 69 = .ok (.ifCond .le 8, 3) := by decide +kernel
theorem dX12_hears_72 : decode cX12_hears 72 = .ok (.iload 6, 2) := by decide +kernel
theorem dX12_hears_74 : decode cX12_hears 74 = .ok (.goto 4, 3) := by decide +kernel
theorem dX12_hears_77 : decode cX12_hears 77 = .ok (.iconst 0, 1) := by decide +kernel
theorem dX12_hears_78 : decode cX12_hears 78 = .ok (.ireturn, 1) := by decide +kernel
set_option maxRecDepth 4000 in
set_option maxHeartbeats 4000000 in
theorem m_X12_hears (l : Launch) (g : qGm) (M : qMem) {sd : sSD} (hs : sRS sd) (hS : mS M sd) (hv : sRR (sd 4 0) (sd 5 0) (M 61 0)) {c : Int} (hc : 0 ≤ c ∧ c < sd 4 0) {h : Int} (hh : 0 ≤ h ∧ h < sd 5 0) {a : Int} (ha : 0 ≤ a ∧ a < 48) {s : Int} (hst : 0 ≤ s ∧ s ≤ 9) : qOk l g 3 yX12_hears cX12_hears 7 (some .int) [qR g 35 0, qI c, qI h, qI a, qI s] M (qEv (some (sHr (sd 0 0) (sd 1 c) (if sHas (M 61 0 (92 + c)) h then 0 else s) (fun k => sd 3 (8 * h + k)) a)) M) := by
  refine q_ok (by decide +kernel) (Nat.le_of_ble_eq_true rfl) (fun X C' hn => ?_)
  have C := C'.1
  have km := hs.2.1
  have kn := hs.2.2.1
  have hmn := hs.1
  have w0 := hS.1
  have w1 := hS.2.1
  have w2 := hS.2.2.1
  have pm := sMean_in ha.1 ha.2
  have pk := hS.2.2.2.2.2 (8 * h + sMean a) (by omega) (by omega)
  have pb := hs.2.2.2.2.2.1 (8 * h + sMean a) (by omega) (by omega)
  have wk := hS.2.2.2.1 c hc.1 hc.2
  have wb := hs.2.2.2.1 c hc.1 hc.2
  have vb := hv.2.2.2.1 c hc.1 hc.2
  have hon := mS_on hs (Or.inl (show 0 < sd 4 0 by omega))
  refine q_aloadn C dX12_hears_0 rfl ?_
  refine gf_RX12_38 C dX12_hears_1 ?_
  refine q_iloadn C dX12_hears_4 rfl ?_
  refine q_iald C (by first | assumption | decide | omega) rfl dX12_hears_5 (by omega) (by omega) (by decide) (fun r5 => ?_)
  refine q_aloadn C dX12_hears_6 rfl ?_
  refine gf_RX12_47 C dX12_hears_7 ?_
  refine q_bipush C dX12_hears_10 (by decide) ?_
  refine q_iloadn C dX12_hears_12 rfl ?_
  refine q_iadd C dX12_hears_13 ?_
  refine q_iald C (by first | assumption | decide | omega) rfl dX12_hears_14 (by omega) (by omega) (by decide) (fun r14 => ?_)
  refine q_iloadn C dX12_hears_15 rfl ?_
  refine cv_RX12_168 C (by decide) (m_X12_has l g _ (by omega) (by omega)) dX12_hears_16 (Nat.le_of_ble_eq_true rfl) (fun r16 => ?_)
  refine q_ifeqB C 26 dX12_hears_19 (by decide) (fun h19 => ?_) (fun h19 => ?_)
  · refine q_iload C dX12_hears_26 rfl ?_
    refine q_iadd C dX12_hears_28 ?_
    refine q_istore C dX12_hears_29 hn (by decide) rfl ?_
    refine q_iload C dX12_hears_31 rfl ?_
    refine q_iconst C dX12_hears_33 ?_
    refine q_aloadn C dX12_hears_34 rfl ?_
    refine gf_RX12_44 C dX12_hears_35 ?_
    refine q_bipush C dX12_hears_38 (by decide) ?_
    refine q_iloadn C dX12_hears_40 rfl ?_
    refine q_imul C dX12_hears_41 ?_
    refine q_iloadn C dX12_hears_42 rfl ?_
    refine cv_RX12_172 C (by decide) (m_X12_meaning l g _ (by omega)) dX12_hears_43 (Nat.le_of_ble_eq_true rfl) (fun r43 => ?_)
    refine q_iadd C dX12_hears_46 ?_
    refine q_iald C (by first | assumption | decide | omega) rfl dX12_hears_47 (by omega) (by omega) (by decide) (fun r47 => ?_)
    refine q_imul C dX12_hears_48 ?_
    refine q_iadd C dX12_hears_49 ?_
    refine q_aloadn C dX12_hears_50 rfl ?_
    refine q_iloadn C dX12_hears_51 rfl ?_
    refine cv_RX12_175 C (by decide) (m_X12_isSaid l g _ hs hS hon (by omega)) dX12_hears_52 (Nat.le_of_ble_eq_true rfl) (fun r52 => ?_)
    refine q_ifeqB C 62 dX12_hears_55 (by decide) (fun h55 => ?_) (fun h55 => ?_)
    · refine q_bipush C dX12_hears_62 (by decide) ?_
      refine q_isub C dX12_hears_64 ?_
      refine q_istore C dX12_hears_65 hn (by decide) rfl ?_
      refine q_iload C dX12_hears_67 rfl ?_
      refine q_if_le C 77 dX12_hears_69 (by decide) (by first | assumption | omega | exact q_tin _ | exact q_bIn _) (fun h69 => ?_) (fun h69 => ?_)
      · refine q_iconst C dX12_hears_77 ?_
        refine q_iret C' dX12_hears_78 (by first | assumption | omega | exact q_tin _ | exact q_bIn _) ?_
        refine ⟨congrArg some ?_, rfl⟩
        unfold sHr
        dsimp only
        first | rw [if_pos h19] | rw [if_neg h19]
        first | rw [if_pos h55] | rw [if_neg h55]
        unfold sMax
        split <;> omega
      · refine q_iload C dX12_hears_72 rfl ?_
        refine q_goto C (tgt := 78) dX12_hears_74 (by decide) ?_
        refine q_iret C' dX12_hears_78 (by first | assumption | omega | exact q_tin _ | exact q_bIn _) ?_
        refine ⟨congrArg some ?_, rfl⟩
        unfold sHr
        dsimp only
        first | rw [if_pos h19] | rw [if_neg h19]
        first | rw [if_pos h55] | rw [if_neg h55]
        unfold sMax
        split <;> omega
    · refine q_iconst C dX12_hears_58 ?_
      refine q_goto C (tgt := 64) dX12_hears_59 (by decide) ?_
      refine q_isub C dX12_hears_64 ?_
      refine q_istore C dX12_hears_65 hn (by decide) rfl ?_
      refine q_iload C dX12_hears_67 rfl ?_
      refine q_if_le C 77 dX12_hears_69 (by decide) (by first | assumption | omega | exact q_tin _ | exact q_bIn _) (fun h69 => ?_) (fun h69 => ?_)
      · refine q_iconst C dX12_hears_77 ?_
        refine q_iret C' dX12_hears_78 (by first | assumption | omega | exact q_tin _ | exact q_bIn _) ?_
        refine ⟨congrArg some ?_, rfl⟩
        unfold sHr
        dsimp only
        first | rw [if_pos h19] | rw [if_neg h19]
        first | rw [if_pos h55] | rw [if_neg h55]
        unfold sMax
        split <;> omega
      · refine q_iload C dX12_hears_72 rfl ?_
        refine q_goto C (tgt := 78) dX12_hears_74 (by decide) ?_
        refine q_iret C' dX12_hears_78 (by first | assumption | omega | exact q_tin _ | exact q_bIn _) ?_
        refine ⟨congrArg some ?_, rfl⟩
        unfold sHr
        dsimp only
        first | rw [if_pos h19] | rw [if_neg h19]
        first | rw [if_pos h55] | rw [if_neg h55]
        unfold sMax
        split <;> omega
  · refine q_iconst C dX12_hears_22 ?_
    refine q_goto C (tgt := 28) dX12_hears_23 (by decide) ?_
    refine q_iadd C dX12_hears_28 ?_
    refine q_istore C dX12_hears_29 hn (by decide) rfl ?_
    refine q_iload C dX12_hears_31 rfl ?_
    refine q_iconst C dX12_hears_33 ?_
    refine q_aloadn C dX12_hears_34 rfl ?_
    refine gf_RX12_44 C dX12_hears_35 ?_
    refine q_bipush C dX12_hears_38 (by decide) ?_
    refine q_iloadn C dX12_hears_40 rfl ?_
    refine q_imul C dX12_hears_41 ?_
    refine q_iloadn C dX12_hears_42 rfl ?_
    refine cv_RX12_172 C (by decide) (m_X12_meaning l g _ (by omega)) dX12_hears_43 (Nat.le_of_ble_eq_true rfl) (fun r43 => ?_)
    refine q_iadd C dX12_hears_46 ?_
    refine q_iald C (by first | assumption | decide | omega) rfl dX12_hears_47 (by omega) (by omega) (by decide) (fun r47 => ?_)
    refine q_imul C dX12_hears_48 ?_
    refine q_iadd C dX12_hears_49 ?_
    refine q_aloadn C dX12_hears_50 rfl ?_
    refine q_iloadn C dX12_hears_51 rfl ?_
    refine cv_RX12_175 C (by decide) (m_X12_isSaid l g _ hs hS hon (by omega)) dX12_hears_52 (Nat.le_of_ble_eq_true rfl) (fun r52 => ?_)
    refine q_ifeqB C 62 dX12_hears_55 (by decide) (fun h55 => ?_) (fun h55 => ?_)
    · refine q_bipush C dX12_hears_62 (by decide) ?_
      refine q_isub C dX12_hears_64 ?_
      refine q_istore C dX12_hears_65 hn (by decide) rfl ?_
      refine q_iload C dX12_hears_67 rfl ?_
      refine q_if_le C 77 dX12_hears_69 (by decide) (by first | assumption | omega | exact q_tin _ | exact q_bIn _) (fun h69 => ?_) (fun h69 => ?_)
      · refine q_iconst C dX12_hears_77 ?_
        refine q_iret C' dX12_hears_78 (by first | assumption | omega | exact q_tin _ | exact q_bIn _) ?_
        refine ⟨congrArg some ?_, rfl⟩
        unfold sHr
        dsimp only
        first | rw [if_pos h19] | rw [if_neg h19]
        first | rw [if_pos h55] | rw [if_neg h55]
        unfold sMax
        split <;> omega
      · refine q_iload C dX12_hears_72 rfl ?_
        refine q_goto C (tgt := 78) dX12_hears_74 (by decide) ?_
        refine q_iret C' dX12_hears_78 (by first | assumption | omega | exact q_tin _ | exact q_bIn _) ?_
        refine ⟨congrArg some ?_, rfl⟩
        unfold sHr
        dsimp only
        first | rw [if_pos h19] | rw [if_neg h19]
        first | rw [if_pos h55] | rw [if_neg h55]
        unfold sMax
        split <;> omega
    · refine q_iconst C dX12_hears_58 ?_
      refine q_goto C (tgt := 64) dX12_hears_59 (by decide) ?_
      refine q_isub C dX12_hears_64 ?_
      refine q_istore C dX12_hears_65 hn (by decide) rfl ?_
      refine q_iload C dX12_hears_67 rfl ?_
      refine q_if_le C 77 dX12_hears_69 (by decide) (by first | assumption | omega | exact q_tin _ | exact q_bIn _) (fun h69 => ?_) (fun h69 => ?_)
      · refine q_iconst C dX12_hears_77 ?_
        refine q_iret C' dX12_hears_78 (by first | assumption | omega | exact q_tin _ | exact q_bIn _) ?_
        refine ⟨congrArg some ?_, rfl⟩
        unfold sHr
        dsimp only
        first | rw [if_pos h19] | rw [if_neg h19]
        first | rw [if_pos h55] | rw [if_neg h55]
        unfold sMax
        split <;> omega
      · refine q_iload C dX12_hears_72 rfl ?_
        refine q_goto C (tgt := 78) dX12_hears_74 (by decide) ?_
        refine q_iret C' dX12_hears_78 (by first | assumption | omega | exact q_tin _ | exact q_bIn _) ?_
        refine ⟨congrArg some ?_, rfl⟩
        unfold sHr
        dsimp only
        first | rw [if_pos h19] | rw [if_neg h19]
        first | rw [if_pos h55] | rw [if_neg h55]
        unfold sMax
        split <;> omega
theorem dX12_heard_0 : decode cX12_heard 0 = .ok (.aload_n 0, 1) := by decide +kernel
theorem dX12_heard_1 : decode cX12_heard 1 = .ok (.iload_n 1, 1) := by decide +kernel
theorem dX12_heard_2 : decode cX12_heard 2 = .ok (.iload_n 2, 1) := by decide +kernel
theorem dX12_heard_3 : decode cX12_heard 3 = .ok (.iload_n 3, 1) := by decide +kernel
theorem dX12_heard_4 : decode cX12_heard 4 = .ok (.aload_n 0, 1) := by decide +kernel
theorem dX12_heard_5 : decode cX12_heard 5 = .ok (.getfield 47, 3) := by decide +kernel
theorem dX12_heard_8 : decode cX12_heard 8 = .ok (.bipush 14, 2) := by decide +kernel
theorem dX12_heard_10 : decode cX12_heard 10 = .ok (.iload_n 1, 1) := by decide +kernel
theorem dX12_heard_11 : decode cX12_heard 11 = .ok (.iadd, 1) := by decide +kernel
theorem dX12_heard_12 : decode cX12_heard 12 = .ok (.iaload, 1) := by decide +kernel
theorem dX12_heard_13 : decode cX12_heard 13 = .ok (.invokevirtual 178, 3) := by decide +kernel
theorem dX12_heard_16 : decode cX12_heard 16 = .ok (.ireturn, 1) := by decide +kernel
set_option maxRecDepth 4000 in
set_option maxHeartbeats 4000000 in
theorem m_X12_heard (l : Launch) (g : qGm) (M : qMem) {sd : sSD} (hs : sRS sd) (hS : mS M sd) (hv : sRR (sd 4 0) (sd 5 0) (M 61 0)) {c : Int} (hc : 0 ≤ c ∧ c < sd 4 0) {h : Int} (hh : 0 ≤ h ∧ h < sd 5 0) {a : Int} (ha : 0 ≤ a ∧ a < 48) : qOk l g 4 yX12_heard cX12_heard 4 (some .int) [qR g 35 0, qI c, qI h, qI a] M (qEv (some (sHeard sd (M 61 0) c h a)) M) := by
  refine q_ok (by decide +kernel) (Nat.le_of_ble_eq_true rfl) (fun X C' hn => ?_)
  have C := C'.1
  have km := hs.2.1
  have kn := hs.2.2.1
  have hmn := hs.1
  have w0 := hS.1
  have w1 := hS.2.1
  have w2 := hS.2.2.1
  have wk := hS.2.2.2.1 c hc.1 hc.2
  have wb := hs.2.2.2.1 c hc.1 hc.2
  have vb := hv.2.2.2.1 c hc.1 hc.2
  have hon := mS_on hs (Or.inl (show 0 < sd 4 0 by omega))
  refine q_aloadn C dX12_heard_0 rfl ?_
  refine q_iloadn C dX12_heard_1 rfl ?_
  refine q_iloadn C dX12_heard_2 rfl ?_
  refine q_iloadn C dX12_heard_3 rfl ?_
  refine q_aloadn C dX12_heard_4 rfl ?_
  refine gf_RX12_47 C dX12_heard_5 ?_
  refine q_bipush C dX12_heard_8 (by decide) ?_
  refine q_iloadn C dX12_heard_10 rfl ?_
  refine q_iadd C dX12_heard_11 ?_
  refine q_iald C (by first | assumption | decide | omega) rfl dX12_heard_12 (by omega) (by omega) (by decide) (fun r12 => ?_)
  refine cv_RX12_178 C (by decide) (m_X12_hears l g _ hs hS hv (by omega) (by omega) (by omega) (by omega)) dX12_heard_13 (Nat.le_of_ble_eq_true rfl) (fun r13 => ?_)
  refine q_iret C' dX12_heard_16 (by first | assumption | omega | exact q_tin _ | exact q_bIn _) ?_
  exact ⟨rfl, rfl⟩
theorem dX12_answer_0 : decode cX12_answer 0 = .ok (.aload_n 0, 1) := by decide +kernel
theorem dX12_answer_1 : decode cX12_answer 1 = .ok (.iload_n 1, 1) := by decide +kernel
theorem dX12_answer_2 : decode cX12_answer 2 = .ok (.iload_n 2, 1) := by decide +kernel
theorem dX12_answer_3 : decode cX12_answer 3 = .ok (.iload_n 3, 1) := by decide +kernel
theorem dX12_answer_4 : decode cX12_answer 4 = .ok (.invokevirtual 182, 3) := by decide +kernel
theorem dX12_answer_7 : decode cX12_answer 7 = .ok (.istore 4, 2) := by decide +kernel
theorem dX12_answer_9 : decode cX12_answer 9 = .ok (.iload 4, 2) := by decide +kernel
theorem dX12_answer_11 : decode cX12_answer 11 = .ok (.aload_n 0, 1) := by decide +kernel
theorem dX12_answer_12 : decode cX12_answer 12 = .ok (.getfield 41, 3) := by decide +kernel
theorem dX12_answer_15 : decode cX12_answer 15 = .ok (.iload_n 2, 1) := by decide +kernel
theorem dX12_answer_16 : decode cX12_answer 16 = .ok (.iaload, 1) := by decide +kernel
theorem dX12_answer_17 : decode cX12_answer 17 = .ok (.if_icmp .lt 7, 3) := by decide +kernel
theorem dX12_answer_20 : decode cX12_answer 20 = .ok (.iconst 2, 1) := by decide +kernel
theorem dX12_answer_21 : decode cX12_answer 21 = .ok (.goto 21, 3) := by decide +kernel
theorem dX12_answer_24 : decode cX12_answer 24 = .ok (.iload 4, 2) := by decide +kernel
theorem dX12_answer_26 : decode cX12_answer 26 = .ok (.aload_n 0, 1) := by decide +kernel
theorem dX12_answer_27 : decode cX12_answer 27 = .ok (.getfield 47, 3) := by decide +kernel
theorem dX12_answer_30 : decode cX12_answer 30 = .ok (.iconst 2, 1) := by decide +kernel
theorem dX12_answer_31 : decode cX12_answer 31 = .ok (.iload_n 2, 1) := by decide +kernel
theorem dX12_answer_32 : decode cX12_answer 32 = .ok (.iadd, 1) := by decide +kernel
theorem dX12_answer_33 : decode cX12_answer 33 = .ok (.iaload, 1) := by decide +kernel
theorem dX12_answer_34 : decode cX12_answer 34 = .ok (.if_icmp .lt 7, 3) := by decide +kernel
theorem dX12_answer_37 : decode cX12_answer 37 = .ok (.iconst 1, 1) := by decide +kernel
theorem dX12_answer_38 : decode cX12_answer 38 = .ok (.goto 4, 3) := by decide +kernel
theorem dX12_answer_41 : decode cX12_answer 41 = .ok (.iconst 0, 1) := by decide +kernel
theorem dX12_answer_42 : decode cX12_answer 42 = .ok (.ireturn, 1) := by decide +kernel
set_option maxRecDepth 4000 in
set_option maxHeartbeats 4000000 in
theorem m_X12_answer (l : Launch) (g : qGm) (M : qMem) {sd : sSD} (hs : sRS sd) (hS : mS M sd) (hv : sRR (sd 4 0) (sd 5 0) (M 61 0)) {c : Int} (hc : 0 ≤ c ∧ c < sd 4 0) {h : Int} (hh : 0 ≤ h ∧ h < sd 5 0) {a : Int} (ha : 0 ≤ a ∧ a < 48) : qOk l g 5 yX12_answer cX12_answer 5 (some .int) [qR g 35 0, qI c, qI h, qI a] M (qEv (some (sAns sd (M 61 0) c h a)) M) := by
  refine q_ok (by decide +kernel) (Nat.le_of_ble_eq_true rfl) (fun X C' hn => ?_)
  have C := C'.1
  have km := hs.2.1
  have kn := hs.2.2.1
  have hmn := hs.1
  have w0 := hS.1
  have w1 := hS.2.1
  have w2 := hS.2.2.1
  have fk := hS.2.2.2.2.1 h hh.1 hh.2
  have fb := hs.2.2.2.2.1 h hh.1 hh.2
  have hb := sHeard_in hs hv hc hh ha
  refine q_aloadn C dX12_answer_0 rfl ?_
  refine q_iloadn C dX12_answer_1 rfl ?_
  refine q_iloadn C dX12_answer_2 rfl ?_
  refine q_iloadn C dX12_answer_3 rfl ?_
  refine cv_RX12_182 C (by decide) (m_X12_heard l g _ hs hS hv (by omega) (by omega) (by omega)) dX12_answer_4 (Nat.le_of_ble_eq_true rfl) (fun r4 => ?_)
  refine q_istore C dX12_answer_7 hn (by decide) rfl ?_
  refine q_iload C dX12_answer_9 rfl ?_
  refine q_aloadn C dX12_answer_11 rfl ?_
  refine gf_RX12_41 C dX12_answer_12 ?_
  refine q_iloadn C dX12_answer_15 rfl ?_
  refine q_iald C (by first | assumption | decide | omega) rfl dX12_answer_16 (by omega) (by omega) (by decide) (fun r16 => ?_)
  refine q_icmp_lt C 24 dX12_answer_17 (by decide) (by first | assumption | omega | exact q_tin _ | exact q_bIn _) (by first | assumption | omega | exact q_tin _ | exact q_bIn _) (fun h17 => ?_) (fun h17 => ?_)
  · refine q_iload C dX12_answer_24 rfl ?_
    refine q_aloadn C dX12_answer_26 rfl ?_
    refine gf_RX12_47 C dX12_answer_27 ?_
    refine q_iconst C dX12_answer_30 ?_
    refine q_iloadn C dX12_answer_31 rfl ?_
    refine q_iadd C dX12_answer_32 ?_
    refine q_iald C (by first | assumption | decide | omega) rfl dX12_answer_33 (by omega) (by omega) (by decide) (fun r33 => ?_)
    refine q_icmp_lt C 41 dX12_answer_34 (by decide) (by first | assumption | omega | exact q_tin _ | exact q_bIn _) (by first | assumption | omega | exact q_tin _ | exact q_bIn _) (fun h34 => ?_) (fun h34 => ?_)
    · refine q_iconst C dX12_answer_41 ?_
      refine q_iret C' dX12_answer_42 (by first | assumption | omega | exact q_tin _ | exact q_bIn _) ?_
      refine ⟨congrArg some ?_, rfl⟩
      unfold sAns
      first | (rw [if_pos (by omega)]; done) | (rw [if_neg (by omega), if_pos (by omega)]; done) | (rw [if_neg (by omega), if_neg (by omega)]; done)
    · refine q_iconst C dX12_answer_37 ?_
      refine q_goto C (tgt := 42) dX12_answer_38 (by decide) ?_
      refine q_iret C' dX12_answer_42 (by first | assumption | omega | exact q_tin _ | exact q_bIn _) ?_
      refine ⟨congrArg some ?_, rfl⟩
      unfold sAns
      first | (rw [if_pos (by omega)]; done) | (rw [if_neg (by omega), if_pos (by omega)]; done) | (rw [if_neg (by omega), if_neg (by omega)]; done)
  · refine q_iconst C dX12_answer_20 ?_
    refine q_goto C (tgt := 42) dX12_answer_21 (by decide) ?_
    refine q_iret C' dX12_answer_42 (by first | assumption | omega | exact q_tin _ | exact q_bIn _) ?_
    refine ⟨congrArg some ?_, rfl⟩
    unfold sAns
    first | (rw [if_pos (by omega)]; done) | (rw [if_neg (by omega), if_pos (by omega)]; done) | (rw [if_neg (by omega), if_neg (by omega)]; done)
theorem dX12_callsAt_0 : decode cX12_callsAt 0 = .ok (.iconst 0, 1) := by decide +kernel
theorem dX12_callsAt_1 : decode cX12_callsAt 1 = .ok (.istore_n 2, 1) := by decide +kernel
theorem dX12_callsAt_2 : decode cX12_callsAt 2 = .ok (.iconst 0, 1) := by decide +kernel
theorem dX12_callsAt_3 : decode cX12_callsAt 3 = .ok (.istore_n 3, 1) := by decide +kernel
theorem dX12_callsAt_4 : decode cX12_callsAt 4 = .ok (.iload_n 3, 1) := by decide +kernel
theorem dX12_callsAt_5 : decode cX12_callsAt 5 = .ok (.aload_n 0, 1) := by decide +kernel
theorem dX12_callsAt_6 : decode cX12_callsAt 6 = .ok (.getfield 147, 3) := by decide +kernel
theorem dX12_callsAt_9 : decode cX12_callsAt 9 = .ok (.if_icmp .ge 26, 3) := by decide +kernel
theorem dX12_callsAt_12 : decode cX12_callsAt 12 = .ok (.iload_n 2, 1) := by decide +kernel
theorem dX12_callsAt_13 : decode cX12_callsAt 13 = .ok (.aload_n 0, 1) := by decide +kernel
theorem dX12_callsAt_14 : decode cX12_callsAt 14 = .ok (.getfield 47, 3) := by decide +kernel
theorem dX12_callsAt_17 : decode cX12_callsAt 17 = .ok (.bipush 20, 2) := by decide +kernel
theorem dX12_callsAt_19 : decode cX12_callsAt 19 = .ok (.bipush 6, 2) := by decide +kernel
theorem dX12_callsAt_21 : decode cX12_callsAt 21 = .ok (.iload_n 3, 1) := by decide +kernel
theorem dX12_callsAt_22 : decode cX12_callsAt 22 = .ok (.imul, 1) := by decide +kernel
theorem dX12_callsAt_23 : decode cX12_callsAt 23 = .ok (.iadd, 1) := by decide +kernel
theorem dX12_callsAt_24 : decode cX12_callsAt 24 = .ok (.iload_n 1, 1) := by decide +kernel
theorem dX12_callsAt_25 : decode cX12_callsAt 25 = .ok (.iadd, 1) := by decide +kernel
theorem dX12_callsAt_26 : decode cX12_callsAt 26 = .ok (.iaload, 1) := by decide +kernel
theorem dX12_callsAt_27 : decode cX12_callsAt 27 = .ok (.iadd, 1) := by decide +kernel
theorem dX12_callsAt_28 : decode cX12_callsAt 28 = .ok (.istore_n 2, 1) := by decide +kernel
theorem dX12_callsAt_29 : decode cX12_callsAt 29 = .ok (.iinc 3 1, 3) := by decide +kernel
theorem dX12_callsAt_32 : decode cX12_callsAt 32 = .ok (.goto (-28), 3) := by decide +kernel
theorem dX12_callsAt_35 : decode cX12_callsAt 35 = .ok (.iload_n 2, 1) := by decide +kernel
theorem dX12_callsAt_36 : decode cX12_callsAt 36 = .ok (.ireturn, 1) := by decide +kernel
set_option maxRecDepth 4000 in
set_option maxHeartbeats 4000000 in
theorem m_X12_callsAt (l : Launch) (g : qGm) (M : qMem) {sd : sSD} (hs : sRS sd) (hS : mS M sd) (hv : sRR (sd 4 0) (sd 5 0) (M 61 0)) {h : Int} (hh : 0 ≤ h ∧ h < sd 5 0) : qOk l g 1 yX12_callsAt cX12_callsAt 4 (some .int) [qR g 35 0, qI h] M (qEv (some (sCallsAt (sd 4 0) (M 61 0) h)) M) := by
  refine q_ok (by decide +kernel) (Nat.le_of_ble_eq_true rfl) (fun X C' hn => ?_)
  have C := C'.1
  have km := hs.2.1
  have kn := hs.2.2.1
  have hmn := hs.1
  have w0 := hS.1
  have w1 := hS.2.1
  have w2 := hS.2.2.1
  refine q_iconst C dX12_callsAt_0 ?_
  refine q_istoren C dX12_callsAt_1 hn (by decide) rfl ?_
  refine q_iconst C dX12_callsAt_2 ?_
  refine q_istoren C dX12_callsAt_3 hn (by decide) rfl ?_
  have L4 : ∀ (n4 : Nat) (s : Int) (i : Int), sd 4 0 - i < (n4 : Int) → (0 ≤ i) → (i ≤ sd 4 0) → (s = sSum (fun c => M 61 0 (20 + (6 * c + h))) i) → (0 ≤ s ∧ s ≤ 999 * i) → qV l g X M 4 [(0, qR g 35 0), (1, qI h), (2, qI s), (3, qI i)] [] := by
    intro n4
    induction n4 with
    | zero => intro s i hm4 i0 i1 ie ib; exfalso; first | omega | (simp at *; omega)
    | succ n4 ih4 =>
      intro s i hm4 i0 i1 ie ib
      have vb := fun q : i < sd 4 0 => (hv.2.2.2.2.1 i h i0 q hh.1 hh.2).1
      have ei : 20 + 6 * i + h = 20 + (6 * i + h) := by omega
      refine q_iloadn C dX12_callsAt_4 rfl ?_
      refine q_aloadn C dX12_callsAt_5 rfl ?_
      refine gf_RX12_147 C dX12_callsAt_6 (fun r6 => ?_)
      refine q_icmp_ge C 35 dX12_callsAt_9 (by decide) (by first | assumption | omega | exact q_tin _ | exact q_bIn _) (by first | assumption | omega | exact q_tin _ | exact q_bIn _) (fun h9 => ?_) (fun h9 => ?_)
      · refine q_iloadn C dX12_callsAt_35 rfl ?_
        refine q_iret C' dX12_callsAt_36 (by first | assumption | omega | exact q_tin _ | exact q_bIn _) ?_
        refine ⟨congrArg some ?_, rfl⟩
        unfold sCallsAt
        rw [ie, show i = sd 4 0 by omega]
      · refine q_iloadn C dX12_callsAt_12 rfl ?_
        refine q_aloadn C dX12_callsAt_13 rfl ?_
        refine gf_RX12_47 C dX12_callsAt_14 ?_
        refine q_bipush C dX12_callsAt_17 (by decide) ?_
        refine q_bipush C dX12_callsAt_19 (by decide) ?_
        refine q_iloadn C dX12_callsAt_21 rfl ?_
        refine q_imul C dX12_callsAt_22 ?_
        refine q_iadd C dX12_callsAt_23 ?_
        refine q_iloadn C dX12_callsAt_24 rfl ?_
        refine q_iadd C dX12_callsAt_25 ?_
        refine q_iald C (by first | assumption | decide | omega) rfl dX12_callsAt_26 (by omega) (by omega) (by decide) (fun r26 => ?_)
        rw [ei] at *
        refine q_iadd C dX12_callsAt_27 ?_
        refine q_istoren C dX12_callsAt_28 hn (by decide) rfl ?_
        refine q_iinc C dX12_callsAt_29 rfl hn (by decide) rfl ?_
        refine q_goto C (tgt := 4) dX12_callsAt_32 (by decide) ?_
        exact q_ls (by exact ⟨rfl, rfl, rfl, rfl, trivial⟩) (ih4 _ _ (by omega) (by omega) (by omega) (by rw [sSum_s _ i0, ← ie]) (by have := vb (by omega); omega))
  exact q_ls (by exact ⟨rfl, rfl, rfl, rfl, trivial⟩) (L4 1000 _ _ (by omega) (by omega) (by omega) (by rfl) (by omega))
theorem dX12_callsOfAll_0 : decode cX12_callsOfAll 0 = .ok (.iconst 0, 1) := by decide +kernel
theorem dX12_callsOfAll_1 : decode cX12_callsOfAll 1 = .ok (.istore_n 1, 1) := by decide +kernel
theorem dX12_callsOfAll_2 : decode cX12_callsOfAll 2 = .ok (.iconst 0, 1) := by decide +kernel
theorem dX12_callsOfAll_3 : decode cX12_callsOfAll 3 = .ok (.istore_n 2, 1) := by decide +kernel
theorem dX12_callsOfAll_4 : decode cX12_callsOfAll 4 = .ok (.iload_n 2, 1) := by decide +kernel
theorem dX12_callsOfAll_5 : decode cX12_callsOfAll 5 = .ok (.aload_n 0, 1) := by decide +kernel
theorem dX12_callsOfAll_6 : decode cX12_callsOfAll 6 = .ok (.getfield 150, 3) := by decide +kernel
theorem dX12_callsOfAll_9 : decode cX12_callsOfAll 9 = .ok (.if_icmp .ge 17, 3) := by decide +kernel
theorem dX12_callsOfAll_12 : decode cX12_callsOfAll 12 = .ok (.iload_n 1, 1) := by decide +kernel
theorem dX12_callsOfAll_13 : decode cX12_callsOfAll 13 = .ok (.aload_n 0, 1) := by decide +kernel
theorem dX12_callsOfAll_14 : decode cX12_callsOfAll 14 = .ok (.iload_n 2, 1) := by decide +kernel
theorem dX12_callsOfAll_15 : decode cX12_callsOfAll 15 = .ok (.invokevirtual 186, 3) := by decide +kernel
theorem dX12_callsOfAll_18 : decode cX12_callsOfAll 18 = .ok (.iadd, 1) := by decide +kernel
theorem dX12_callsOfAll_19 : decode cX12_callsOfAll 19 = .ok (.istore_n 1, 1) := by decide +kernel
theorem dX12_callsOfAll_20 : decode cX12_callsOfAll 20 = .ok (.iinc 2 1, 3) := by decide +kernel
theorem dX12_callsOfAll_23 : decode cX12_callsOfAll 23 = .ok (.goto (-19), 3) := by decide +kernel
theorem dX12_callsOfAll_26 : decode cX12_callsOfAll 26 = .ok (.iload_n 1, 1) := by decide +kernel
theorem dX12_callsOfAll_27 : decode cX12_callsOfAll 27 = .ok (.ireturn, 1) := by decide +kernel
set_option maxRecDepth 4000 in
set_option maxHeartbeats 4000000 in
theorem m_X12_callsOfAll (l : Launch) (g : qGm) (M : qMem) {sd : sSD} (hs : sRS sd) (hS : mS M sd) (hv : sRR (sd 4 0) (sd 5 0) (M 61 0)) : qOk l g 2 yX12_callsOfAll cX12_callsOfAll 3 (some .int) [qR g 35 0] M (qEv (some (sSum (fun h => sCallsAt (sd 4 0) (M 61 0) h) (sd 5 0))) M) := by
  refine q_ok (by decide +kernel) (Nat.le_of_ble_eq_true rfl) (fun X C' hn => ?_)
  have C := C'.1
  have km := hs.2.1
  have kn := hs.2.2.1
  have hmn := hs.1
  have w0 := hS.1
  have w1 := hS.2.1
  have w2 := hS.2.2.1
  refine q_iconst C dX12_callsOfAll_0 ?_
  refine q_istoren C dX12_callsOfAll_1 hn (by decide) rfl ?_
  refine q_iconst C dX12_callsOfAll_2 ?_
  refine q_istoren C dX12_callsOfAll_3 hn (by decide) rfl ?_
  have L4 : ∀ (n4 : Nat) (s : Int) (i : Int), sd 5 0 - i < (n4 : Int) → (0 ≤ i) → (i ≤ sd 5 0) → (s = sSum (fun h => sCallsAt (sd 4 0) (M 61 0) h) i) → (0 ≤ s ∧ s ≤ 5994 * i) → qV l g X M 4 [(0, qR g 35 0), (1, qI s), (2, qI i)] [] := by
    intro n4
    induction n4 with
    | zero => intro s i hm4 i0 i1 ie ib; exfalso; first | omega | (simp at *; omega)
    | succ n4 ih4 =>
      intro s i hm4 i0 i1 ie ib
      have cb := fun q : i < sd 5 0 => sCallsAt_in km hv (h := i) ⟨i0, q⟩
      refine q_iloadn C dX12_callsOfAll_4 rfl ?_
      refine q_aloadn C dX12_callsOfAll_5 rfl ?_
      refine gf_RX12_150 C dX12_callsOfAll_6 (fun r6 => ?_)
      refine q_icmp_ge C 26 dX12_callsOfAll_9 (by decide) (by first | assumption | omega | exact q_tin _ | exact q_bIn _) (by first | assumption | omega | exact q_tin _ | exact q_bIn _) (fun h9 => ?_) (fun h9 => ?_)
      · refine q_iloadn C dX12_callsOfAll_26 rfl ?_
        refine q_iret C' dX12_callsOfAll_27 (by first | assumption | omega | exact q_tin _ | exact q_bIn _) ?_
        refine ⟨congrArg some ?_, rfl⟩
        rw [ie, show i = sd 5 0 by omega]
      · refine q_iloadn C dX12_callsOfAll_12 rfl ?_
        refine q_aloadn C dX12_callsOfAll_13 rfl ?_
        refine q_iloadn C dX12_callsOfAll_14 rfl ?_
        refine cv_RX12_186 C (by decide) (m_X12_callsAt l g _ hs hS hv (by omega)) dX12_callsOfAll_15 (Nat.le_of_ble_eq_true rfl) (fun r15 => ?_)
        refine q_iadd C dX12_callsOfAll_18 ?_
        refine q_istoren C dX12_callsOfAll_19 hn (by decide) rfl ?_
        refine q_iinc C dX12_callsOfAll_20 rfl hn (by decide) rfl ?_
        refine q_goto C (tgt := 4) dX12_callsOfAll_23 (by decide) ?_
        exact q_ls (by exact ⟨rfl, rfl, rfl, trivial⟩) (ih4 _ _ (by omega) (by omega) (by omega) (by rw [sSum_s _ i0, ← ie]) (by have := cb (by omega); omega))
  exact q_ls (by exact ⟨rfl, rfl, rfl, trivial⟩) (L4 1000 _ _ (by omega) (by omega) (by omega) (by rfl) (by omega))
theorem dX12_welcome_0 : decode cX12_welcome 0 = .ok (.iconst (-1), 1) := by decide +kernel
theorem dX12_welcome_1 : decode cX12_welcome 1 = .ok (.istore_n 1, 1) := by decide +kernel
theorem dX12_welcome_2 : decode cX12_welcome 2 = .ok (.iconst 0, 1) := by decide +kernel
theorem dX12_welcome_3 : decode cX12_welcome 3 = .ok (.istore_n 2, 1) := by decide +kernel
theorem dX12_welcome_4 : decode cX12_welcome 4 = .ok (.iconst 0, 1) := by decide +kernel
theorem dX12_welcome_5 : decode cX12_welcome 5 = .ok (.istore_n 3, 1) := by decide +kernel
theorem dX12_welcome_6 : decode cX12_welcome 6 = .ok (.iload_n 3, 1) := by decide +kernel
theorem dX12_welcome_7 : decode cX12_welcome 7 = .ok (.aload_n 0, 1) := by decide +kernel
theorem dX12_welcome_8 : decode cX12_welcome 8 = .ok (.getfield 150, 3) := by decide +kernel
theorem dX12_welcome_11 : decode cX12_welcome 11 = .ok (.if_icmp .ge 43, 3) := by decide +kernel
theorem dX12_welcome_14 : decode cX12_welcome 14 = .ok (.aload_n 0, 1) := by decide +kernel
theorem dX12_welcome_15 : decode cX12_welcome 15 = .ok (.iload_n 3, 1) := by decide +kernel
theorem dX12_welcome_16 : decode cX12_welcome 16 = .ok (.invokevirtual 186, 3) := by decide +kernel
theorem dX12_welcome_19 : decode cX12_welcome 19 = .ok (.iload_n 2, 1) := by decide +kernel
theorem dX12_welcome_20 : decode cX12_welcome 20 = .ok (.if_icmp .le 7, 3) := by decide +kernel
theorem dX12_welcome_23 : decode cX12_welcome 23 = .ok (.iload_n 3, 1) := by decide +kernel
theorem dX12_welcome_24 : decode cX12_welcome 24 = .ok (.goto 4, 3) := by decide +kernel
theorem dX12_welcome_27 : decode cX12_welcome 27 = .ok (.iload_n 1, 1) := by decide +kernel
theorem dX12_welcome_28 : decode cX12_welcome 28 = .ok (.istore_n 1, 1) := by decide +kernel
theorem dX12_welcome_29 : decode cX12_welcome 29 = .ok (.aload_n 0, 1) := by decide +kernel
theorem dX12_welcome_30 : decode cX12_welcome 30 = .ok (.iload_n 3, 1) := by decide +kernel
theorem dX12_welcome_31 : decode cX12_welcome 31 = .ok (.invokevirtual 186, 3) := by decide +kernel
theorem dX12_welcome_34 : decode cX12_welcome 34 = .ok (.iload_n 2, 1) := by decide +kernel
theorem dX12_welcome_35 : decode cX12_welcome 35 = .ok (.if_icmp .le 11, 3) := by decide +kernel
theorem dX12_welcome_38 : decode cX12_welcome 38 = .ok (.aload_n 0, 1) := by decide +kernel
theorem dX12_welcome_39 : decode cX12_welcome 39 = .ok (.iload_n 3, 1) := by decide +kernel
theorem dX12_welcome_40 : decode cX12_welcome 40 = .ok (.invokevirtual 186, 3) := by decide +kernel
theorem dX12_welcome_43 : decode cX12_welcome 43 = .ok (.goto 4, 3) := by decide +kernel
theorem dX12_welcome_46 : decode cX12_welcome 46 = .ok (.iload_n 2, 1) := by decide +kernel
theorem dX12_welcome_47 : decode cX12_welcome 47 = .ok (.istore_n 2, 1) := by decide +kernel
theorem dX12_welcome_48 : decode cX12_welcome 48 = .ok (.iinc 3 1, 3) := by decide +kernel
theorem dX12_welcome_51 : decode cX12_welcome 51 = .ok (.goto (-45), 3) := by decide +kernel
theorem dX12_welcome_54 : decode cX12_welcome 54 = .ok (.iload_n 1, 1) := by decide +kernel
theorem dX12_welcome_55 : decode cX12_welcome 55 = .ok (.ireturn, 1) := by decide +kernel
set_option maxRecDepth 4000 in
set_option maxHeartbeats 4000000 in
theorem m_X12_welcome (l : Launch) (g : qGm) (M : qMem) {sd : sSD} (hs : sRS sd) (hS : mS M sd) (hv : sRR (sd 4 0) (sd 5 0) (M 61 0)) : qOk l g 2 yX12_welcome cX12_welcome 4 (some .int) [qR g 35 0] M (qEv (some (sAm (fun h => sCallsAt (sd 4 0) (M 61 0) h) (-1) 0 (sd 5 0)).1) M) := by
  refine q_ok (by decide +kernel) (Nat.le_of_ble_eq_true rfl) (fun X C' hn => ?_)
  have C := C'.1
  have km := hs.2.1
  have kn := hs.2.2.1
  have hmn := hs.1
  have w0 := hS.1
  have w1 := hS.2.1
  have w2 := hS.2.2.1
  refine q_iconst C dX12_welcome_0 ?_
  refine q_istoren C dX12_welcome_1 hn (by decide) rfl ?_
  refine q_iconst C dX12_welcome_2 ?_
  refine q_istoren C dX12_welcome_3 hn (by decide) rfl ?_
  refine q_iconst C dX12_welcome_4 ?_
  refine q_istoren C dX12_welcome_5 hn (by decide) rfl ?_
  have L6 : ∀ (n6 : Nat) (b : Int) (w : Int) (i : Int), sd 5 0 - i < (n6 : Int) → (0 ≤ i) → (i ≤ sd 5 0) → (sAm (fun h => sCallsAt (sd 4 0) (M 61 0) h) (-1) 0 i = (b, w)) → (-1 ≤ b ∧ b ≤ 6 ∧ 0 ≤ w ∧ w ≤ 5994) → qV l g X M 6 [(0, qR g 35 0), (1, qI b), (2, qI w), (3, qI i)] [] := by
    intro n6
    induction n6 with
    | zero => intro b w i hm6 i0 i1 ie ib; exfalso; first | omega | (simp at *; omega)
    | succ n6 ih6 =>
      intro b w i hm6 i0 i1 ie ib
      have cb := fun q : i < sd 5 0 => sCallsAt_in km hv (h := i) ⟨i0, q⟩
      refine q_iloadn C dX12_welcome_6 rfl ?_
      refine q_aloadn C dX12_welcome_7 rfl ?_
      refine gf_RX12_150 C dX12_welcome_8 (fun r8 => ?_)
      refine q_icmp_ge C 54 dX12_welcome_11 (by decide) (by first | assumption | omega | exact q_tin _ | exact q_bIn _) (by first | assumption | omega | exact q_tin _ | exact q_bIn _) (fun h11 => ?_) (fun h11 => ?_)
      · refine q_iloadn C dX12_welcome_54 rfl ?_
        refine q_iret C' dX12_welcome_55 (by first | assumption | omega | exact q_tin _ | exact q_bIn _) ?_
        refine ⟨congrArg some ?_, rfl⟩
        rw [← show i = sd 5 0 by omega, ie]
      · refine q_aloadn C dX12_welcome_14 rfl ?_
        refine q_iloadn C dX12_welcome_15 rfl ?_
        refine cv_RX12_186 C (by decide) (m_X12_callsAt l g _ hs hS hv (by omega)) dX12_welcome_16 (Nat.le_of_ble_eq_true rfl) (fun r16 => ?_)
        refine q_iloadn C dX12_welcome_19 rfl ?_
        refine q_icmp_le C 27 dX12_welcome_20 (by decide) (by first | assumption | omega | exact q_tin _ | exact q_bIn _) (by first | assumption | omega | exact q_tin _ | exact q_bIn _) (fun h20 => ?_) (fun h20 => ?_)
        · refine q_iloadn C dX12_welcome_27 rfl ?_
          refine q_istoren C dX12_welcome_28 hn (by decide) rfl ?_
          refine q_aloadn C dX12_welcome_29 rfl ?_
          refine q_iloadn C dX12_welcome_30 rfl ?_
          refine cv_RX12_186 C (by decide) (m_X12_callsAt l g _ hs hS hv (by omega)) dX12_welcome_31 (Nat.le_of_ble_eq_true rfl) (fun r31 => ?_)
          refine q_iloadn C dX12_welcome_34 rfl ?_
          refine q_icmp_le C 46 dX12_welcome_35 (by decide) (by first | assumption | omega | exact q_tin _ | exact q_bIn _) (by first | assumption | omega | exact q_tin _ | exact q_bIn _) (fun h35 => ?_) (fun h35 => ?_)
          · refine q_iloadn C dX12_welcome_46 rfl ?_
            refine q_istoren C dX12_welcome_47 hn (by decide) rfl ?_
            refine q_iinc C dX12_welcome_48 rfl hn (by decide) rfl ?_
            refine q_goto C (tgt := 6) dX12_welcome_51 (by decide) ?_
            exact q_ls (by exact ⟨rfl, rfl, rfl, rfl, trivial⟩) (ih6 _ _ _ (by omega) (by omega) (by omega) (by first | exact (sAm_st i0 ie).1 (by omega) | exact (sAm_st i0 ie).2 (by omega) | (exfalso; omega)) (by have := cb (by omega); omega))
          · refine q_aloadn C dX12_welcome_38 rfl ?_
            refine q_iloadn C dX12_welcome_39 rfl ?_
            refine cv_RX12_186 C (by decide) (m_X12_callsAt l g _ hs hS hv (by omega)) dX12_welcome_40 (Nat.le_of_ble_eq_true rfl) (fun r40 => ?_)
            refine q_goto C (tgt := 47) dX12_welcome_43 (by decide) ?_
            refine q_istoren C dX12_welcome_47 hn (by decide) rfl ?_
            refine q_iinc C dX12_welcome_48 rfl hn (by decide) rfl ?_
            refine q_goto C (tgt := 6) dX12_welcome_51 (by decide) ?_
            exact q_ls (by exact ⟨rfl, rfl, rfl, rfl, trivial⟩) (ih6 _ _ _ (by omega) (by omega) (by omega) (by first | exact (sAm_st i0 ie).1 (by omega) | exact (sAm_st i0 ie).2 (by omega) | (exfalso; omega)) (by have := cb (by omega); omega))
        · refine q_iloadn C dX12_welcome_23 rfl ?_
          refine q_goto C (tgt := 28) dX12_welcome_24 (by decide) ?_
          refine q_istoren C dX12_welcome_28 hn (by decide) rfl ?_
          refine q_aloadn C dX12_welcome_29 rfl ?_
          refine q_iloadn C dX12_welcome_30 rfl ?_
          refine cv_RX12_186 C (by decide) (m_X12_callsAt l g _ hs hS hv (by omega)) dX12_welcome_31 (Nat.le_of_ble_eq_true rfl) (fun r31 => ?_)
          refine q_iloadn C dX12_welcome_34 rfl ?_
          refine q_icmp_le C 46 dX12_welcome_35 (by decide) (by first | assumption | omega | exact q_tin _ | exact q_bIn _) (by first | assumption | omega | exact q_tin _ | exact q_bIn _) (fun h35 => ?_) (fun h35 => ?_)
          · refine q_iloadn C dX12_welcome_46 rfl ?_
            refine q_istoren C dX12_welcome_47 hn (by decide) rfl ?_
            refine q_iinc C dX12_welcome_48 rfl hn (by decide) rfl ?_
            refine q_goto C (tgt := 6) dX12_welcome_51 (by decide) ?_
            exact q_ls (by exact ⟨rfl, rfl, rfl, rfl, trivial⟩) (ih6 _ _ _ (by omega) (by omega) (by omega) (by first | exact (sAm_st i0 ie).1 (by omega) | exact (sAm_st i0 ie).2 (by omega) | (exfalso; omega)) (by have := cb (by omega); omega))
          · refine q_aloadn C dX12_welcome_38 rfl ?_
            refine q_iloadn C dX12_welcome_39 rfl ?_
            refine cv_RX12_186 C (by decide) (m_X12_callsAt l g _ hs hS hv (by omega)) dX12_welcome_40 (Nat.le_of_ble_eq_true rfl) (fun r40 => ?_)
            refine q_goto C (tgt := 47) dX12_welcome_43 (by decide) ?_
            refine q_istoren C dX12_welcome_47 hn (by decide) rfl ?_
            refine q_iinc C dX12_welcome_48 rfl hn (by decide) rfl ?_
            refine q_goto C (tgt := 6) dX12_welcome_51 (by decide) ?_
            exact q_ls (by exact ⟨rfl, rfl, rfl, rfl, trivial⟩) (ih6 _ _ _ (by omega) (by omega) (by omega) (by first | exact (sAm_st i0 ie).1 (by omega) | exact (sAm_st i0 ie).2 (by omega) | (exfalso; omega)) (by have := cb (by omega); omega))
  exact q_ls (by exact ⟨rfl, rfl, rfl, rfl, trivial⟩) (L6 1000 _ _ _ (by omega) (by omega) (by omega) (by rfl) (by omega))
theorem dX12_coldest_0 : decode cX12_coldest 0 = .ok (.iconst (-1), 1) := by decide +kernel
theorem dX12_coldest_1 : decode cX12_coldest 1 = .ok (.istore_n 1, 1) := by decide +kernel
theorem dX12_coldest_2 : decode cX12_coldest 2 = .ok (.iconst 0, 1) := by decide +kernel
theorem dX12_coldest_3 : decode cX12_coldest 3 = .ok (.istore_n 2, 1) := by decide +kernel
theorem dX12_coldest_4 : decode cX12_coldest 4 = .ok (.iload_n 2, 1) := by decide +kernel
theorem dX12_coldest_5 : decode cX12_coldest 5 = .ok (.aload_n 0, 1) := by decide +kernel
theorem dX12_coldest_6 : decode cX12_coldest 6 = .ok (.getfield 150, 3) := by decide +kernel
theorem dX12_coldest_9 : decode cX12_coldest 9 = .ok (.if_icmp .ge 39, 3) := by decide +kernel
theorem dX12_coldest_12 : decode cX12_coldest 12 = .ok (.iload_n 1, 1) := by decide +kernel
theorem dX12_coldest_13 : decode cX12_coldest 13 = .ok (.iconst (-1), 1) := by decide +kernel
theorem dX12_coldest_14 : decode cX12_coldest 14 = .ok (.if_icmp .eq 22, 3) := by decide +kernel
theorem dX12_coldest_17 : decode cX12_coldest 17 = .ok (.aload_n 0, 1) := by decide +kernel
theorem dX12_coldest_18 : decode cX12_coldest 18 = .ok (.getfield 47, 3) := by decide +kernel
theorem dX12_coldest_21 : decode cX12_coldest 21 = .ok (.iconst 2, 1) := by decide +kernel
theorem dX12_coldest_22 : decode cX12_coldest 22 = .ok (.iload_n 2, 1) := by decide +kernel
theorem dX12_coldest_23 : decode cX12_coldest 23 = .ok (.iadd, 1) := by decide +kernel
theorem dX12_coldest_24 : decode cX12_coldest 24 = .ok (.iaload, 1) := by decide +kernel
theorem dX12_coldest_25 : decode cX12_coldest 25 = .ok (.aload_n 0, 1) := by decide +kernel
theorem dX12_coldest_26 : decode cX12_coldest 26 = .ok (.getfield 47, 3) := by decide +kernel
theorem dX12_coldest_29 : decode cX12_coldest 29 = .ok (.iconst 2, 1) := by decide +kernel
theorem dX12_coldest_30 : decode cX12_coldest 30 = .ok (.iload_n 1, 1) := by decide +kernel
theorem dX12_coldest_31 : decode cX12_coldest 31 = .ok (.iadd, 1) := by decide +kernel
theorem dX12_coldest_32 : decode cX12_coldest 32 = .ok (.iaload, 1) := by decide +kernel
theorem dX12_coldest_33 : decode cX12_coldest 33 = .ok (.if_icmp .le 7, 3) := by decide +kernel
theorem dX12_coldest_36 : decode cX12_coldest 36 = .ok (.iload_n 2, 1) := by decide +kernel
theorem dX12_coldest_37 : decode cX12_coldest 37 = .ok (.goto 4, 3) := by decide +kernel
theorem dX12_coldest_40 : decode cX12_coldest 40 = .ok (.iload_n 1, 1) := by decide +kernel
theorem dX12_coldest_41 : decode cX12_coldest 41 = .ok (.istore_n 1, 1) := by decide +kernel
theorem dX12_coldest_42 : decode cX12_coldest 42 = .ok (.iinc 2 1, 3) := by decide +kernel
theorem dX12_coldest_45 : decode cX12_coldest 45 = .ok (.goto (-41), 3) := by decide +kernel
theorem dX12_coldest_48 : decode cX12_coldest 48 = .ok (.iload_n 1, 1) := by decide +kernel
theorem dX12_coldest_49 : decode cX12_coldest 49 = .ok (.ireturn, 1) := by decide +kernel
set_option maxRecDepth 4000 in
set_option maxHeartbeats 4000000 in
theorem m_X12_coldest (l : Launch) (g : qGm) (M : qMem) {sd : sSD} (hs : sRS sd) (hS : mS M sd) (hv : sRR (sd 4 0) (sd 5 0) (M 61 0)) : qOk l g 1 yX12_coldest cX12_coldest 3 (some .int) [qR g 35 0] M (qEv (some (sAm (fun h => M 61 0 (2 + h)) (-1) (-1) (sd 5 0)).1) M) := by
  refine q_ok (by decide +kernel) (Nat.le_of_ble_eq_true rfl) (fun X C' hn => ?_)
  have C := C'.1
  have km := hs.2.1
  have kn := hs.2.2.1
  have hmn := hs.1
  have w0 := hS.1
  have w1 := hS.2.1
  have w2 := hS.2.2.1
  refine q_iconst C dX12_coldest_0 ?_
  refine q_istoren C dX12_coldest_1 hn (by decide) rfl ?_
  refine q_iconst C dX12_coldest_2 ?_
  refine q_istoren C dX12_coldest_3 hn (by decide) rfl ?_
  have L4 : ∀ (n4 : Nat) (b : Int) (i : Int), sd 5 0 - i < (n4 : Int) → (0 ≤ i) → (i ≤ sd 5 0) → (b = (sAm (fun h => M 61 0 (2 + h)) (-1) (-1) i).1) → (-1 ≤ b ∧ b < i ∨ b = -1) → qV l g X M 4 [(0, qR g 35 0), (1, qI b), (2, qI i)] [] := by
    intro n4
    induction n4 with
    | zero => intro b i hm4 i0 i1 ie ib; exfalso; first | omega | (simp at *; omega)
    | succ n4 ih4 =>
      intro b i hm4 i0 i1 ie ib
      have cl := fun q : i < sd 5 0 => sAm_cold i0 (fun k a b => (hv.2.2.1 k a (by omega)).1) ie
      have cc := fun q : i < sd 5 0 => (cl q).2.2
      have cb := ib
      refine q_iloadn C dX12_coldest_4 rfl ?_
      refine q_aloadn C dX12_coldest_5 rfl ?_
      refine gf_RX12_150 C dX12_coldest_6 (fun r6 => ?_)
      refine q_icmp_ge C 48 dX12_coldest_9 (by decide) (by first | assumption | omega | exact q_tin _ | exact q_bIn _) (by first | assumption | omega | exact q_tin _ | exact q_bIn _) (fun h9 => ?_) (fun h9 => ?_)
      · refine q_iloadn C dX12_coldest_48 rfl ?_
        refine q_iret C' dX12_coldest_49 (by first | assumption | omega | exact q_tin _ | exact q_bIn _) ?_
        refine ⟨congrArg some ?_, rfl⟩
        rw [ie, show i = sd 5 0 by omega]
      · refine q_iloadn C dX12_coldest_12 rfl ?_
        refine q_iconst C dX12_coldest_13 ?_
        refine q_icmp_eq C 36 dX12_coldest_14 (by decide) (by first | assumption | omega | exact q_tin _ | exact q_bIn _) (by first | assumption | omega | exact q_tin _ | exact q_bIn _) (fun h14 => ?_) (fun h14 => ?_)
        · refine q_iloadn C dX12_coldest_36 rfl ?_
          refine q_goto C (tgt := 41) dX12_coldest_37 (by decide) ?_
          refine q_istoren C dX12_coldest_41 hn (by decide) rfl ?_
          refine q_iinc C dX12_coldest_42 rfl hn (by decide) rfl ?_
          refine q_goto C (tgt := 4) dX12_coldest_45 (by decide) ?_
          exact q_ls (by exact ⟨rfl, rfl, rfl, trivial⟩) (ih4 _ _ (by omega) (by omega) (by omega) (by first | exact ((cl (by omega)).1 (by omega)).symm | exact ((cl (by omega)).2.1 (by omega)).symm | (exfalso; omega)) (by omega))
        · refine q_aloadn C dX12_coldest_17 rfl ?_
          refine gf_RX12_47 C dX12_coldest_18 ?_
          refine q_iconst C dX12_coldest_21 ?_
          refine q_iloadn C dX12_coldest_22 rfl ?_
          refine q_iadd C dX12_coldest_23 ?_
          refine q_iald C (by first | assumption | decide | omega) rfl dX12_coldest_24 (by omega) (by omega) (by decide) (fun r24 => ?_)
          refine q_aloadn C dX12_coldest_25 rfl ?_
          refine gf_RX12_47 C dX12_coldest_26 ?_
          refine q_iconst C dX12_coldest_29 ?_
          refine q_iloadn C dX12_coldest_30 rfl ?_
          refine q_iadd C dX12_coldest_31 ?_
          refine q_iald C (by first | assumption | decide | omega) rfl dX12_coldest_32 (by omega) (by omega) (by decide) (fun r32 => ?_)
          refine q_icmp_le C 40 dX12_coldest_33 (by decide) (by first | assumption | omega | exact q_tin _ | exact q_bIn _) (by first | assumption | omega | exact q_tin _ | exact q_bIn _) (fun h33 => ?_) (fun h33 => ?_)
          · refine q_iloadn C dX12_coldest_40 rfl ?_
            refine q_istoren C dX12_coldest_41 hn (by decide) rfl ?_
            refine q_iinc C dX12_coldest_42 rfl hn (by decide) rfl ?_
            refine q_goto C (tgt := 4) dX12_coldest_45 (by decide) ?_
            exact q_ls (by exact ⟨rfl, rfl, rfl, trivial⟩) (ih4 _ _ (by omega) (by omega) (by omega) (by first | exact ((cl (by omega)).1 (by omega)).symm | exact ((cl (by omega)).2.1 (by omega)).symm | (exfalso; omega)) (by omega))
          · refine q_iloadn C dX12_coldest_36 rfl ?_
            refine q_goto C (tgt := 41) dX12_coldest_37 (by decide) ?_
            refine q_istoren C dX12_coldest_41 hn (by decide) rfl ?_
            refine q_iinc C dX12_coldest_42 rfl hn (by decide) rfl ?_
            refine q_goto C (tgt := 4) dX12_coldest_45 (by decide) ?_
            exact q_ls (by exact ⟨rfl, rfl, rfl, trivial⟩) (ih4 _ _ (by omega) (by omega) (by omega) (by first | exact ((cl (by omega)).1 (by omega)).symm | exact ((cl (by omega)).2.1 (by omega)).symm | (exfalso; omega)) (by omega))
  exact q_ls (by exact ⟨rfl, rfl, rfl, trivial⟩) (L4 1000 _ _ (by omega) (by omega) (by omega) (by rfl) (by omega))
theorem dX12_saidMany_0 : decode cX12_saidMany 0 = .ok (.iconst 0, 1) := by decide +kernel
theorem dX12_saidMany_1 : decode cX12_saidMany 1 = .ok (.istore_n 1, 1) := by decide +kernel
theorem dX12_saidMany_2 : decode cX12_saidMany 2 = .ok (.iconst 0, 1) := by decide +kernel
theorem dX12_saidMany_3 : decode cX12_saidMany 3 = .ok (.istore_n 2, 1) := by decide +kernel
theorem dX12_saidMany_4 : decode cX12_saidMany 4 = .ok (.iload_n 2, 1) := by decide +kernel
theorem dX12_saidMany_5 : decode cX12_saidMany 5 = .ok (.bipush 48, 2) := by decide +kernel
theorem dX12_saidMany_7 : decode cX12_saidMany 7 = .ok (.if_icmp .ge 32, 3) := by decide +kernel
theorem dX12_saidMany_10 : decode cX12_saidMany 10 = .ok (.aload_n 0, 1) := by decide +kernel
theorem dX12_saidMany_11 : decode cX12_saidMany 11 = .ok (.invokevirtual 189, 3) := by decide +kernel
theorem dX12_saidMany_14 : decode cX12_saidMany 14 = .ok (.ifCond .eq 25, 3) := by decide +kernel
theorem dX12_saidMany_17 : decode cX12_saidMany 17 = .ok (.iload_n 1, 1) := by decide +kernel
theorem dX12_saidMany_18 : decode cX12_saidMany 18 = .ok (.aload_n 0, 1) := by decide +kernel
theorem dX12_saidMany_19 : decode cX12_saidMany 19 = .ok (.iload_n 2, 1) := by decide +kernel
theorem dX12_saidMany_20 : decode cX12_saidMany 20 = .ok (.invokevirtual 175, 3) := by decide +kernel
theorem dX12_saidMany_23 : decode cX12_saidMany 23 = .ok (.ifCond .eq 7, 3) := by decide +kernel
theorem dX12_saidMany_26 : decode cX12_saidMany 26 = .ok (.iconst 1, 1) := by decide +kernel
theorem dX12_saidMany_27 : decode cX12_saidMany 27 = .ok (.goto 4, 3) := by decide +kernel
theorem dX12_saidMany_30 : decode cX12_saidMany 30 = .ok (.iconst 0, 1) := by decide +kernel
theorem dX12_saidMany_31 : decode cX12_saidMany 31 = .ok (.iadd, 1) := by decide +kernel
theorem dX12_saidMany_32 : decode cX12_saidMany 32 = .ok (.istore_n 1, 1) := by decide +kernel
theorem dX12_saidMany_33 : decode cX12_saidMany 33 = .ok (.iinc 2 1, 3) := by decide +kernel
theorem dX12_saidMany_36 : decode cX12_saidMany 36 = .ok (.goto (-32), 3) := by decide +kernel
theorem dX12_saidMany_39 : decode cX12_saidMany 39 = .ok (.iload_n 1, 1) := by decide +kernel
theorem dX12_saidMany_40 : decode cX12_saidMany 40 = .ok (.ireturn, 1) := by decide +kernel
set_option maxRecDepth 4000 in
set_option maxHeartbeats 4000000 in
theorem m_X12_saidMany (l : Launch) (g : qGm) (M : qMem) {sd : sSD} (hs : sRS sd) (hS : mS M sd) : qOk l g 3 yX12_saidMany cX12_saidMany 3 (some .int) [qR g 35 0] M (qEv (some (sSaidN (sd 0 0))) M) := by
  refine q_ok (by decide +kernel) (Nat.le_of_ble_eq_true rfl) (fun X C' hn => ?_)
  have C := C'.1
  have km := hs.2.1
  have kn := hs.2.2.1
  have hmn := hs.1
  have w0 := hS.1
  have w1 := hS.2.1
  have w2 := hS.2.2.1
  refine q_iconst C dX12_saidMany_0 ?_
  refine q_istoren C dX12_saidMany_1 hn (by decide) rfl ?_
  refine q_iconst C dX12_saidMany_2 ?_
  refine q_istoren C dX12_saidMany_3 hn (by decide) rfl ?_
  have L4 : ∀ (n4 : Nat) (s : Int) (i : Int), 48 - i < (n4 : Int) → (0 ≤ i) → (i ≤ 48) → (s = sSum (fun k => qB (sSaid (sd 0 0) k)) i) → (0 ≤ s ∧ s ≤ i) → qV l g X M 4 [(0, qR g 35 0), (1, qI s), (2, qI i)] [] := by
    intro n4
    induction n4 with
    | zero => intro s i hm4 i0 i1 ie ib; exfalso; first | omega | (simp at *; omega)
    | succ n4 ih4 =>
      intro s i hm4 i0 i1 ie ib
      refine q_iloadn C dX12_saidMany_4 rfl ?_
      refine q_bipush C dX12_saidMany_5 (by decide) ?_
      refine q_icmp_ge C 39 dX12_saidMany_7 (by decide) (by first | assumption | omega | exact q_tin _ | exact q_bIn _) (by first | assumption | omega | exact q_tin _ | exact q_bIn _) (fun h7 => ?_) (fun h7 => ?_)
      · refine q_iloadn C dX12_saidMany_39 rfl ?_
        refine q_iret C' dX12_saidMany_40 (by first | assumption | omega | exact q_tin _ | exact q_bIn _) ?_
        refine ⟨congrArg some ?_, rfl⟩
        unfold sSaidN
        first | (have e9 : i = 48 := (by omega); rw [ie, e9]; done) | (have e9 : sd 0 0 = -1 := (by omega); have e8 : ∀ n, 0 ≤ n → sSum (fun k => qB (sSaid (sd 0 0) k)) n = 0 := fun n q => (by rw [sSum_z (n := 0) (by omega) q (fun k _ _ => q_bF (by rw [e9]; unfold sSaid; omega))]; exact sSum_0 _); rw [ie, e8 _ i0, e8 _ (by omega)])
      · refine q_aloadn C dX12_saidMany_10 rfl ?_
        refine cv_RX12_189 C (by decide) (m_X12_isSeason l g _ hs hS) dX12_saidMany_11 (Nat.le_of_ble_eq_true rfl) (fun r11 => ?_)
        refine q_ifeqB C 39 dX12_saidMany_14 (by decide) (fun h14 => ?_) (fun h14 => ?_)
        · refine q_iloadn C dX12_saidMany_39 rfl ?_
          refine q_iret C' dX12_saidMany_40 (by first | assumption | omega | exact q_tin _ | exact q_bIn _) ?_
          refine ⟨congrArg some ?_, rfl⟩
          unfold sSaidN
          first | (have e9 : i = 48 := (by omega); rw [ie, e9]; done) | (have e9 : sd 0 0 = -1 := (by omega); have e8 : ∀ n, 0 ≤ n → sSum (fun k => qB (sSaid (sd 0 0) k)) n = 0 := fun n q => (by rw [sSum_z (n := 0) (by omega) q (fun k _ _ => q_bF (by rw [e9]; unfold sSaid; omega))]; exact sSum_0 _); rw [ie, e8 _ i0, e8 _ (by omega)])
        · refine q_iloadn C dX12_saidMany_17 rfl ?_
          refine q_aloadn C dX12_saidMany_18 rfl ?_
          refine q_iloadn C dX12_saidMany_19 rfl ?_
          refine cv_RX12_175 C (by decide) (m_X12_isSaid l g _ hs hS (by omega) (by omega)) dX12_saidMany_20 (Nat.le_of_ble_eq_true rfl) (fun r20 => ?_)
          refine q_tB_eq C 30 31 dX12_saidMany_23 dX12_saidMany_26 dX12_saidMany_27 dX12_saidMany_30 (by decide) (by decide) rfl ?_
          refine q_iadd C dX12_saidMany_31 ?_
          refine q_istoren C dX12_saidMany_32 hn (by decide) rfl ?_
          refine q_iinc C dX12_saidMany_33 rfl hn (by decide) rfl ?_
          refine q_goto C (tgt := 4) dX12_saidMany_36 (by decide) ?_
          exact q_ls (by exact ⟨rfl, rfl, rfl, trivial⟩) (ih4 _ _ (by omega) (by omega) (by omega) (by rw [sSum_s _ i0, ← ie] <;> first | rfl | (rw [q_bT (by assumption)]; done) | (rw [q_bF (by assumption)]; done)) (by have := q_b01 (sSaid (sd 0 0) i); omega))
  exact q_ls (by exact ⟨rfl, rfl, rfl, trivial⟩) (L4 1000 _ _ (by omega) (by omega) (by omega) (by rfl) (by omega))
theorem dX12_told_0 : decode cX12_told 0 = .ok (.iload_n 1, 1) := by decide +kernel
theorem dX12_told_1 : decode cX12_told 1 = .ok (.tableswitch 148 0 13 #[71, 76, 81, 86, 91, 98, 105, 110, 115, 120, 125, 133, 138, 143], 71) := by decide +kernel
theorem dX12_told_72 : decode cX12_told 72 = .ok (.aload_n 0, 1) := by decide +kernel
theorem dX12_told_73 : decode cX12_told 73 = .ok (.getfield 35, 3) := by decide +kernel
theorem dX12_told_76 : decode cX12_told 76 = .ok (.ireturn, 1) := by decide +kernel
theorem dX12_told_77 : decode cX12_told 77 = .ok (.aload_n 0, 1) := by decide +kernel
theorem dX12_told_78 : decode cX12_told 78 = .ok (.getfield 147, 3) := by decide +kernel
theorem dX12_told_81 : decode cX12_told 81 = .ok (.ireturn, 1) := by decide +kernel
theorem dX12_told_82 : decode cX12_told 82 = .ok (.aload_n 0, 1) := by decide +kernel
theorem dX12_told_83 : decode cX12_told 83 = .ok (.getfield 150, 3) := by decide +kernel
theorem dX12_told_86 : decode cX12_told 86 = .ok (.ireturn, 1) := by decide +kernel
theorem dX12_told_87 : decode cX12_told 87 = .ok (.aload_n 0, 1) := by decide +kernel
theorem dX12_told_88 : decode cX12_told 88 = .ok (.getfield 90, 3) := by decide +kernel
theorem dX12_told_91 : decode cX12_told 91 = .ok (.ireturn, 1) := by decide +kernel
theorem dX12_told_92 : decode cX12_told 92 = .ok (.aload_n 0, 1) := by decide +kernel
theorem dX12_told_93 : decode cX12_told 93 = .ok (.getfield 47, 3) := by decide +kernel
theorem dX12_told_96 : decode cX12_told 96 = .ok (.iconst 0, 1) := by decide +kernel
theorem dX12_told_97 : decode cX12_told 97 = .ok (.iaload, 1) := by decide +kernel
theorem dX12_told_98 : decode cX12_told 98 = .ok (.ireturn, 1) := by decide +kernel
theorem dX12_told_99 : decode cX12_told 99 = .ok (.aload_n 0, 1) := by decide +kernel
theorem dX12_told_100 : decode cX12_told 100 = .ok (.getfield 47, 3) := by decide +kernel
theorem dX12_told_103 : decode cX12_told 103 = .ok (.iconst 1, 1) := by decide +kernel
theorem dX12_told_104 : decode cX12_told 104 = .ok (.iaload, 1) := by decide +kernel
theorem dX12_told_105 : decode cX12_told 105 = .ok (.ireturn, 1) := by decide +kernel
theorem dX12_told_106 : decode cX12_told 106 = .ok (.aload_n 0, 1) := by decide +kernel
theorem dX12_told_107 : decode cX12_told 107 = .ok (.invokevirtual 192, 3) := by decide +kernel
theorem dX12_told_110 : decode cX12_told 110 = .ok (.ireturn, 1) := by decide +kernel
theorem dX12_told_111 : decode cX12_told 111 = .ok (.aload_n 0, 1) := by decide +kernel
theorem dX12_told_112 : decode cX12_told 112 = .ok (.invokevirtual 195, 3) := by decide +kernel
theorem dX12_told_115 : decode cX12_told 115 = .ok (.ireturn, 1) := by decide +kernel
theorem dX12_told_116 : decode cX12_told 116 = .ok (.aload_n 0, 1) := by decide +kernel
theorem dX12_told_117 : decode cX12_told 117 = .ok (.invokevirtual 198, 3) := by decide +kernel
theorem dX12_told_120 : decode cX12_told 120 = .ok (.ireturn, 1) := by decide +kernel
theorem dX12_told_121 : decode cX12_told 121 = .ok (.aload_n 0, 1) := by decide +kernel
theorem dX12_told_122 : decode cX12_told 122 = .ok (.invokevirtual 201, 3) := by decide +kernel
theorem dX12_told_125 : decode cX12_told 125 = .ok (.ireturn, 1) := by decide +kernel
theorem dX12_told_126 : decode cX12_told 126 = .ok (.aload_n 0, 1) := by decide +kernel
theorem dX12_told_127 : decode cX12_told 127 = .ok (.getfield 47, 3) := by decide +kernel
theorem dX12_told_130 : decode cX12_told 130 = .ok (.bipush 98, 2) := by decide +kernel
theorem dX12_told_132 : decode cX12_told 132 = .ok (.iaload, 1) := by decide +kernel
theorem dX12_told_133 : decode cX12_told 133 = .ok (.ireturn, 1) := by decide +kernel
theorem dX12_told_134 : decode cX12_told 134 = .ok (.aload_n 0, 1) := by decide +kernel
theorem dX12_told_135 : decode cX12_told 135 = .ok (.getfield 156, 3) := by decide +kernel
theorem dX12_told_138 : decode cX12_told 138 = .ok (.ireturn, 1) := by decide +kernel
theorem dX12_told_139 : decode cX12_told 139 = .ok (.aload_n 0, 1) := by decide +kernel
theorem dX12_told_140 : decode cX12_told 140 = .ok (.getfield 159, 3) := by decide +kernel
theorem dX12_told_143 : decode cX12_told 143 = .ok (.ireturn, 1) := by decide +kernel
theorem dX12_told_144 : decode cX12_told 144 = .ok (.aload_n 0, 1) := by decide +kernel
theorem dX12_told_145 : decode cX12_told 145 = .ok (.getfield 153, 3) := by decide +kernel
theorem dX12_told_148 : decode cX12_told 148 = .ok (.ireturn, 1) := by decide +kernel
theorem dX12_told_149 : decode cX12_told 149 = .ok (.ldc 89, 2) := by decide +kernel
theorem dX12_told_151 : decode cX12_told 151 = .ok (.ireturn, 1) := by decide +kernel
set_option maxRecDepth 4000 in
set_option maxHeartbeats 4000000 in
theorem m_X12_told (l : Launch) (g : qGm) (M : qMem) {sd : sSD} (hs : sRS sd) (hS : mS M sd) (hv : sRR (sd 4 0) (sd 5 0) (M 61 0)) {w : Int} (hwq : qIn w) : qOk l g 4 yX12_told cX12_told 2 (some .int) [qR g 35 0, qI w] M (qEv (some (sTold sd (M 61 0) (M 35 0 0) (M 35 0 29) (M 35 0 32) (M 35 0 25) w)) M) := by
  refine q_ok (by decide +kernel) (Nat.le_of_ble_eq_true rfl) (fun X C' hn => ?_)
  have C := C'.1
  have km := hs.2.1
  have kn := hs.2.2.1
  have hmn := hs.1
  have w0 := hS.1
  have w1 := hS.2.1
  have w2 := hS.2.2.1
  refine q_iloadn C dX12_told_0 rfl ?_
  by_cases ht1 : w < 0 ∨ 13 < w
  · refine q_tsOut C 149 dX12_told_1 (by first | assumption | omega | exact q_tin _ | exact q_bIn _) ht1 (by decide) ?_
    refine q_ldc C (z := -1000000002) q_ci_RX12_89 (by decide) dX12_told_149 ?_
    refine q_iret C' dX12_told_151 (by first | assumption | omega | exact q_tin _ | exact q_bIn _) ?_
    refine ⟨congrArg some ?_, rfl⟩
    unfold sTold
    first | (simp only [Int.reduceEq, ↓reduceIte] <;> first | rfl | assumption | omega) | (repeat (rw [if_neg (by omega)]))
  obtain rfl | rfl | rfl | rfl | rfl | rfl | rfl | rfl | rfl | rfl | rfl | rfl | rfl | rfl : w = 0 ∨ w = 1 ∨ w = 2 ∨ w = 3 ∨ w = 4 ∨ w = 5 ∨ w = 6 ∨ w = 7 ∨ w = 8 ∨ w = 9 ∨ w = 10 ∨ w = 11 ∨ w = 12 ∨ w = 13 := by omega
  · refine q_tsIn C (off := 71) 72 dX12_told_1 (by decide) (by decide) (by decide) (by decide) (by decide) ?_
    refine q_aloadn C dX12_told_72 rfl ?_
    refine gf_RX12_35 C dX12_told_73 (fun r73 => ?_)
    refine q_iret C' dX12_told_76 (by first | assumption | omega | exact q_tin _ | exact q_bIn _) ?_
    refine ⟨congrArg some ?_, rfl⟩
    unfold sTold
    first | (simp only [Int.reduceEq, ↓reduceIte] <;> first | rfl | assumption | omega) | (repeat (rw [if_neg (by omega)]))
  · refine q_tsIn C (off := 76) 77 dX12_told_1 (by decide) (by decide) (by decide) (by decide) (by decide) ?_
    refine q_aloadn C dX12_told_77 rfl ?_
    refine gf_RX12_147 C dX12_told_78 (fun r78 => ?_)
    refine q_iret C' dX12_told_81 (by first | assumption | omega | exact q_tin _ | exact q_bIn _) ?_
    refine ⟨congrArg some ?_, rfl⟩
    unfold sTold
    first | (simp only [Int.reduceEq, ↓reduceIte] <;> first | rfl | assumption | omega) | (repeat (rw [if_neg (by omega)]))
  · refine q_tsIn C (off := 81) 82 dX12_told_1 (by decide) (by decide) (by decide) (by decide) (by decide) ?_
    refine q_aloadn C dX12_told_82 rfl ?_
    refine gf_RX12_150 C dX12_told_83 (fun r83 => ?_)
    refine q_iret C' dX12_told_86 (by first | assumption | omega | exact q_tin _ | exact q_bIn _) ?_
    refine ⟨congrArg some ?_, rfl⟩
    unfold sTold
    first | (simp only [Int.reduceEq, ↓reduceIte] <;> first | rfl | assumption | omega) | (repeat (rw [if_neg (by omega)]))
  · refine q_tsIn C (off := 86) 87 dX12_told_1 (by decide) (by decide) (by decide) (by decide) (by decide) ?_
    refine q_aloadn C dX12_told_87 rfl ?_
    refine gf_RX12_90 C dX12_told_88 (fun r88 => ?_)
    refine q_iret C' dX12_told_91 (by first | assumption | omega | exact q_tin _ | exact q_bIn _) ?_
    refine ⟨congrArg some ?_, rfl⟩
    unfold sTold
    first | (simp only [Int.reduceEq, ↓reduceIte] <;> first | rfl | assumption | omega) | (repeat (rw [if_neg (by omega)]))
  · refine q_tsIn C (off := 91) 92 dX12_told_1 (by decide) (by decide) (by decide) (by decide) (by decide) ?_
    refine q_aloadn C dX12_told_92 rfl ?_
    refine gf_RX12_47 C dX12_told_93 ?_
    refine q_iconst C dX12_told_96 ?_
    refine q_iald C (by first | assumption | decide | omega) rfl dX12_told_97 (by omega) (by omega) (by decide) (fun r97 => ?_)
    refine q_iret C' dX12_told_98 (by first | assumption | omega | exact q_tin _ | exact q_bIn _) ?_
    refine ⟨congrArg some ?_, rfl⟩
    unfold sTold
    first | (simp only [Int.reduceEq, ↓reduceIte] <;> first | rfl | assumption | omega) | (repeat (rw [if_neg (by omega)]))
  · refine q_tsIn C (off := 98) 99 dX12_told_1 (by decide) (by decide) (by decide) (by decide) (by decide) ?_
    refine q_aloadn C dX12_told_99 rfl ?_
    refine gf_RX12_47 C dX12_told_100 ?_
    refine q_iconst C dX12_told_103 ?_
    refine q_iald C (by first | assumption | decide | omega) rfl dX12_told_104 (by omega) (by omega) (by decide) (fun r104 => ?_)
    refine q_iret C' dX12_told_105 (by first | assumption | omega | exact q_tin _ | exact q_bIn _) ?_
    refine ⟨congrArg some ?_, rfl⟩
    unfold sTold
    first | (simp only [Int.reduceEq, ↓reduceIte] <;> first | rfl | assumption | omega) | (repeat (rw [if_neg (by omega)]))
  · refine q_tsIn C (off := 105) 106 dX12_told_1 (by decide) (by decide) (by decide) (by decide) (by decide) ?_
    refine q_aloadn C dX12_told_106 rfl ?_
    refine cv_RX12_192 C (by decide) (m_X12_callsOfAll l g _ hs hS hv) dX12_told_107 (Nat.le_of_ble_eq_true rfl) (fun r107 => ?_)
    refine q_iret C' dX12_told_110 (by first | assumption | omega | exact q_tin _ | exact q_bIn _) ?_
    refine ⟨congrArg some ?_, rfl⟩
    unfold sTold
    first | (simp only [Int.reduceEq, ↓reduceIte] <;> first | rfl | assumption | omega) | (repeat (rw [if_neg (by omega)]))
  · refine q_tsIn C (off := 110) 111 dX12_told_1 (by decide) (by decide) (by decide) (by decide) (by decide) ?_
    refine q_aloadn C dX12_told_111 rfl ?_
    refine cv_RX12_195 C (by decide) (m_X12_welcome l g _ hs hS hv) dX12_told_112 (Nat.le_of_ble_eq_true rfl) (fun r112 => ?_)
    refine q_iret C' dX12_told_115 (by first | assumption | omega | exact q_tin _ | exact q_bIn _) ?_
    refine ⟨congrArg some ?_, rfl⟩
    unfold sTold
    first | (simp only [Int.reduceEq, ↓reduceIte] <;> first | rfl | assumption | omega) | (repeat (rw [if_neg (by omega)]))
  · refine q_tsIn C (off := 115) 116 dX12_told_1 (by decide) (by decide) (by decide) (by decide) (by decide) ?_
    refine q_aloadn C dX12_told_116 rfl ?_
    refine cv_RX12_198 C (by decide) (m_X12_coldest l g _ hs hS hv) dX12_told_117 (Nat.le_of_ble_eq_true rfl) (fun r117 => ?_)
    refine q_iret C' dX12_told_120 (by first | assumption | omega | exact q_tin _ | exact q_bIn _) ?_
    refine ⟨congrArg some ?_, rfl⟩
    unfold sTold
    first | (simp only [Int.reduceEq, ↓reduceIte] <;> first | rfl | assumption | omega) | (repeat (rw [if_neg (by omega)]))
  · refine q_tsIn C (off := 120) 121 dX12_told_1 (by decide) (by decide) (by decide) (by decide) (by decide) ?_
    refine q_aloadn C dX12_told_121 rfl ?_
    refine cv_RX12_201 C (by decide) (m_X12_saidMany l g _ hs hS) dX12_told_122 (Nat.le_of_ble_eq_true rfl) (fun r122 => ?_)
    refine q_iret C' dX12_told_125 (by first | assumption | omega | exact q_tin _ | exact q_bIn _) ?_
    refine ⟨congrArg some ?_, rfl⟩
    unfold sTold
    first | (simp only [Int.reduceEq, ↓reduceIte] <;> first | rfl | assumption | omega) | (repeat (rw [if_neg (by omega)]))
  · refine q_tsIn C (off := 125) 126 dX12_told_1 (by decide) (by decide) (by decide) (by decide) (by decide) ?_
    refine q_aloadn C dX12_told_126 rfl ?_
    refine gf_RX12_47 C dX12_told_127 ?_
    refine q_bipush C dX12_told_130 (by decide) ?_
    refine q_iald C (by first | assumption | decide | omega) rfl dX12_told_132 (by omega) (by omega) (by decide) (fun r132 => ?_)
    refine q_iret C' dX12_told_133 (by first | assumption | omega | exact q_tin _ | exact q_bIn _) ?_
    refine ⟨congrArg some ?_, rfl⟩
    unfold sTold
    first | (simp only [Int.reduceEq, ↓reduceIte] <;> first | rfl | assumption | omega) | (repeat (rw [if_neg (by omega)]))
  · refine q_tsIn C (off := 133) 134 dX12_told_1 (by decide) (by decide) (by decide) (by decide) (by decide) ?_
    refine q_aloadn C dX12_told_134 rfl ?_
    refine gf_RX12_156 C dX12_told_135 (fun r135 => ?_)
    refine q_iret C' dX12_told_138 (by first | assumption | omega | exact q_tin _ | exact q_bIn _) ?_
    refine ⟨congrArg some ?_, rfl⟩
    unfold sTold
    first | (simp only [Int.reduceEq, ↓reduceIte] <;> first | rfl | assumption | omega) | (repeat (rw [if_neg (by omega)]))
  · refine q_tsIn C (off := 138) 139 dX12_told_1 (by decide) (by decide) (by decide) (by decide) (by decide) ?_
    refine q_aloadn C dX12_told_139 rfl ?_
    refine gf_RX12_159 C dX12_told_140 (fun r140 => ?_)
    refine q_iret C' dX12_told_143 (by first | assumption | omega | exact q_tin _ | exact q_bIn _) ?_
    refine ⟨congrArg some ?_, rfl⟩
    unfold sTold
    first | (simp only [Int.reduceEq, ↓reduceIte] <;> first | rfl | assumption | omega) | (repeat (rw [if_neg (by omega)]))
  · refine q_tsIn C (off := 143) 144 dX12_told_1 (by decide) (by decide) (by decide) (by decide) (by decide) ?_
    refine q_aloadn C dX12_told_144 rfl ?_
    refine gf_RX12_153 C dX12_told_145 (fun r145 => ?_)
    refine q_iret C' dX12_told_148 (by first | assumption | omega | exact q_tin _ | exact q_bIn _) ?_
    refine ⟨congrArg some ?_, rfl⟩
    unfold sTold
    first | (simp only [Int.reduceEq, ↓reduceIte] <;> first | rfl | assumption | omega) | (repeat (rw [if_neg (by omega)]))
theorem dX12_fault_0 : decode cX12_fault 0 = .ok (.aload_n 0, 1) := by decide +kernel
theorem dX12_fault_1 : decode cX12_fault 1 = .ok (.getfield 13, 3) := by decide +kernel
theorem dX12_fault_4 : decode cX12_fault 4 = .ok (.ireturn, 1) := by decide +kernel
set_option maxRecDepth 4000 in
set_option maxHeartbeats 4000000 in
theorem m_X12_fault (l : Launch) (g : qGm) (M : qMem) : qOk l g 1 yX12_fault cX12_fault 1 (some .int) [qR g 35 0] M (qEv (some (M 35 0 5)) M) := by
  refine q_ok (by decide +kernel) (Nat.le_of_ble_eq_true rfl) (fun X C' hn => ?_)
  have C := C'.1
  refine q_aloadn C dX12_fault_0 rfl ?_
  refine gf_RX12_13 C dX12_fault_1 (fun r1 => ?_)
  refine q_iret C' dX12_fault_4 (by first | assumption | omega | exact q_tin _ | exact q_bIn _) ?_
  exact ⟨rfl, rfl⟩
