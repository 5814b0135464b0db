/-- the first fault, at its letter; an elder one stays -/
def xFlt (M N : qMem) (f p : Int) : Prop := (M 1 0 3 ≠ 0 → N 1 0 3 = M 1 0 3 ∧ N 1 0 4 = M 1 0 4) ∧ (M 1 0 3 = 0 → N 1 0 3 = f ∧ (f ≠ 0 → N 1 0 4 = p) ∧ (f = 0 → N 1 0 4 = M 1 0 4))
theorem xFail_off (M : qMem) (f p : Int) {j : Nat} (h : j ≠ 1) : xFail M f p j = M j := by
  unfold xFail
  split
  · funext u; simp only [q_rdR, if_neg h]
  · rfl
theorem xFail_at (M : qMem) (f p : Int) {i : Int} (h : i ≠ 3) (h2 : i ≠ 4) (u : Nat) : xFail M f p 1 u i = M 1 u i := by
  unfold xFail
  split
  · simp only [q_rd]; simp [h, h2]
  · rfl
theorem xNum_off (M : qMem) (z : Int) {j : Nat} (h : j ≠ 1) : xNum M z j = M j := by
  unfold xNum
  split
  · funext u; simp only [q_rdR, if_neg h]
  · rw [xFail_off _ _ _ h]; funext u; simp only [q_rdR, if_neg h]
theorem xNum_at (M : qMem) (z : Int) : xNum M z 1 0 1 = pNq (M 2 0) (M 1 0 2) (M 1 0 1) := by
  unfold xNum
  split
  · simp [q_rd]
  · rw [xFail_at _ _ _ (by decide) (by decide)]; simp [q_rd]
theorem xNum_L (M : qMem) (z : Int) : xNum M z 1 0 2 = M 1 0 2 := by
  unfold xNum
  split
  · simp [q_rd]
  · rw [xFail_at _ _ _ (by decide) (by decide)]; simp [q_rd]
theorem xNum_u (M : qMem) (z : Int) {u : Nat} (h : u ≠ 0) : xNum M z 1 u = M 1 u := by
  unfold xNum xFail
  funext i
  split
  · simp [q_rd, h]
  · split <;> simp [q_rd, h]
theorem xNum_flt (M : qMem) (z : Int) : xFlt M (xNum M z) (pNf (M 2 0) (M 1 0 2) z (M 1 0 1)) (pSk (M 2 0) (M 1 0 2) (M 1 0 1)) := by
  unfold xFlt xNum
  refine ⟨fun h => ?_, fun h => ?_⟩
  · split
    · simp [q_rd]
    · unfold xFail; rw [if_neg (by simpa [q_rd] using h)]; simp [q_rd]
  · split
    · rename_i h1; rw [h1]; simp [q_rd, h]
    · rename_i h1
      unfold xFail; rw [if_pos (by simpa [q_rd] using h)]; simp [q_rd, h1]
theorem xNum_2 (M : qMem) (z : Int) : xNum M z 2 = M 2 := xNum_off M z (by decide)
theorem xNum_3 (M : qMem) (z : Int) : xNum M z 3 = M 3 := xNum_off M z (by decide)
theorem xNum_4 (M : qMem) (z : Int) : xNum M z 4 = M 4 := xNum_off M z (by decide)
theorem xNum_5 (M : qMem) (z : Int) : xNum M z 5 = M 5 := xNum_off M z (by decide)
theorem xNum_6 (M : qMem) (z : Int) : xNum M z 6 = M 6 := xNum_off M z (by decide)
theorem xNum_7 (M : qMem) (z : Int) : xNum M z 7 = M 7 := xNum_off M z (by decide)
theorem xNum_8 (M : qMem) (z : Int) : xNum M z 8 = M 8 := xNum_off M z (by decide)
theorem xNum_9 (M : qMem) (z : Int) : xNum M z 9 = M 9 := xNum_off M z (by decide)
theorem xEnd_off (M : qMem) {j : Nat} (h : j ≠ 1) : xEnd M j = M j := by
  unfold xEnd
  split
  · funext u; simp only [q_rdR, if_neg h]
  · rw [xFail_off _ _ _ h]; funext u; simp only [q_rdR, if_neg h]
theorem xEnd_at (M : qMem) : xEnd M 1 0 1 = if pEf (M 2 0) (M 1 0 2) (M 1 0 1) = 0 then pSk (M 2 0) (M 1 0 2) (M 1 0 1) + 1 else pSk (M 2 0) (M 1 0 2) (M 1 0 1) := by
  unfold xEnd
  split
  · simp [q_rd]
  · rw [xFail_at _ _ _ (by decide) (by decide)]; simp [q_rd]
theorem xEnd_L (M : qMem) : xEnd M 1 0 2 = M 1 0 2 := by
  unfold xEnd
  split
  · simp [q_rd]
  · rw [xFail_at _ _ _ (by decide) (by decide)]; simp [q_rd]
theorem xEnd_u (M : qMem) {u : Nat} (h : u ≠ 0) : xEnd M 1 u = M 1 u := by
  unfold xEnd xFail
  funext i
  split
  · simp [q_rd, h]
  · split <;> simp [q_rd, h]
theorem pEf_in (t : Int → Int) (L a : Int) : pEf t L a = 0 ∨ pEf t L a = 1 := by unfold pEf; split <;> omega
theorem xEnd_flt (M : qMem) : xFlt M (xEnd M) (pEf (M 2 0) (M 1 0 2) (M 1 0 1)) (pSk (M 2 0) (M 1 0 2) (M 1 0 1)) := by
  unfold xFlt xEnd
  refine ⟨fun h => ?_, fun h => ?_⟩
  · split
    · simp [q_rd]
    · unfold xFail; rw [if_neg (by simpa [q_rd] using h)]; simp [q_rd]
  · split
    · rename_i h1; rw [h1]; simp [q_rd, h]
    · rename_i h1
      have h2 := (pEf_in (M 2 0) (M 1 0 2) (M 1 0 1)).resolve_left h1
      unfold xFail; rw [if_pos (by simpa [q_rd] using h), h2]; simp [q_rd]
/-- the prizes of house h, as they are read; nothing else changes -/
def xPzO (M N : qMem) : Prop := (∀ j u, ¬ (j = 1 ∧ u = 0) → ¬ (j = 9 ∧ u = 0) → N j u = M j u) ∧ N 1 0 2 = M 1 0 2 ∧ (0 ≤ N 1 0 1 ∧ N 1 0 1 ≤ M 1 0 2)
def xPzR (M : qMem) : Int × Int × (Int → Int) := pPrz (M 2 0) (M 1 0 2) (M 3 0 2 - 1) 8 0 (M 1 0 1) (M 9 0)
def xPzI (M N : qMem) (i : Int) : Prop := xPzO M N ∧ (M 1 0 3 ≠ 0 → N 1 0 3 = M 1 0 3 ∧ N 1 0 4 = M 1 0 4) ∧ (M 1 0 3 = 0 → (N 1 0 3 = 0 ∧ N 1 0 4 = M 1 0 4 ∧ xPzR M = pPrz (M 2 0) (M 1 0 2) (M 3 0 2 - 1) (8 - i).toNat i (N 1 0 1) (N 9 0)) ∨ (N 1 0 3 ≠ 0 ∧ (xPzR M).1 = N 1 0 3 ∧ (xPzR M).2.1 = N 1 0 4))
def xPzP (M N : qMem) : Prop := xPzO M N ∧ xFlt M N (xPzR M).1 (xPzR M).2.1 ∧ (M 1 0 3 = 0 → (xPzR M).1 = 0 → N 1 0 1 = (xPzR M).2.1 ∧ N 9 0 = (xPzR M).2.2)
theorem xPz_0 (M : qMem) (hA : 0 ≤ M 1 0 1 ∧ M 1 0 1 ≤ M 1 0 2) : xPzI M M 0 := by
  refine ⟨⟨fun _ _ _ _ => rfl, rfl, hA⟩, fun _ => ⟨rfl, rfl⟩, fun h => Or.inl ⟨h, rfl, rfl⟩⟩
/-- one more prize -/
theorem xPz_s {M N N2 : qMem} {i z s : Int} (hL : 0 ≤ M 1 0 2 ∧ M 1 0 2 ≤ 240) (hi : 0 ≤ i ∧ i < 8) (hI : xPzI M N i) (hz : z = if pNf (N 2 0) (N 1 0 2) 9 (N 1 0 1) = 0 then pNv (N 2 0) (N 1 0 2) (N 1 0 1) else 0) (hN2 : N2 = qUp (xNum N 9) 9 0 ((M 3 0 2 - 1) * 8 + i) z) (hs : s = pSk (M 2 0) (M 1 0 2) (pNq (M 2 0) (M 1 0 2) (N 1 0 1))) :
    (pLt (M 2 0) (M 1 0 2) s = 44 → i + 1 < 8 → xPzI M (qUp (qUp N2 1 0 1 s) 1 0 1 (s + 1)) (i + 1)) ∧ (¬ (pLt (M 2 0) (M 1 0 2) s = 44 ∧ i + 1 < 8) → xPzP M (qUp N2 1 0 1 s)) := by
  obtain ⟨⟨o1, o2, o3⟩, b, gd⟩ := hI
  have e2 : N 2 0 = M 2 0 := o1 2 0 (by omega) (by omega)
  rw [e2, o2] at hz
  have hq := pNq_in (t := M 2 0) (L := M 1 0 2) (a := N 1 0 1) o3.1 o3.2
  have hsk := pSk_in (t := M 2 0) (L := M 1 0 2) (a := pNq (M 2 0) (M 1 0 2) (N 1 0 1)) (by omega) hq.2.2
  have hfl := xNum_flt N 9
  rw [e2, o2] at hfl
  have f3 : ∀ x, qUp N2 1 0 1 x 1 0 3 = xNum N 9 1 0 3 := by intro x; rw [hN2]; simp [q_rd]
  have f4 : ∀ x, qUp N2 1 0 1 x 1 0 4 = xNum N 9 1 0 4 := by intro x; rw [hN2]; simp [q_rd]
  have f9 : ∀ x, qUp N2 1 0 1 x 9 0 = fun k => if k = 8 * (M 3 0 2 - 1) + i then z else N 9 0 k := by
    intro x
    rw [hN2]
    simp only [q_rdR, xNum_9]
    simp
    rw [show (M 3 0 2 - 1) * 8 + i = 8 * (M 3 0 2 - 1) + i by omega]
  have fo : ∀ x, 0 ≤ x → x ≤ M 1 0 2 → xPzO M (qUp N2 1 0 1 x) := by
    intro x h1 h2
    refine ⟨fun j u h3 h4 => ?_, ?_, ?_⟩
    · rw [hN2]
      simp only [q_rdR]
      by_cases ej : j = 1
      · have eu : u ≠ 0 := fun e => h3 ⟨ej, e⟩
        subst ej
        simp [eu]
        rw [xNum_u _ _ eu]
        exact o1 1 u h3 h4
      · by_cases e9 : j = 9
        · have eu : u ≠ 0 := fun e => h4 ⟨e9, e⟩
          subst e9
          simp [eu, xNum_9]
          exact o1 9 u h3 h4
        · simp [ej, e9]
          rw [xNum_off _ _ ej]
          exact o1 j u h3 h4
    · rw [hN2]; simp [q_rd, xNum_L, o2]
    · rw [q_rd]; simp; omega
  have hstep : M 1 0 3 = 0 → N 1 0 3 = 0 → xPzR M = pPrz (M 2 0) (M 1 0 2) (M 3 0 2 - 1) (8 - i).toNat i (N 1 0 1) (N 9 0) → xPzR M = if pNf (M 2 0) (M 1 0 2) 9 (N 1 0 1) = 0 then (if pLt (M 2 0) (M 1 0 2) s = 44 ∧ i + 1 < 8 then pPrz (M 2 0) (M 1 0 2) (M 3 0 2 - 1) (8 - (i + 1)).toNat (i + 1) (s + 1) (fun k => if k = 8 * (M 3 0 2 - 1) + i then pNv (M 2 0) (M 1 0 2) (N 1 0 1) else N 9 0 k) else (0, s, fun k => if k = 8 * (M 3 0 2 - 1) + i then pNv (M 2 0) (M 1 0 2) (N 1 0 1) else N 9 0 k)) else (pNf (M 2 0) (M 1 0 2) 9 (N 1 0 1), pSk (M 2 0) (M 1 0 2) (N 1 0 1), N 9 0) := by
    intro _ _ h
    rw [h, show (8 - i).toNat = (8 - (i + 1)).toNat + 1 by omega, pPrz, hs]
  constructor
  · intro c1 c2
    rw [q_upUp]
    have hlt : s < M 1 0 2 := by
      unfold pLt at c1
      split at c1
      · assumption
      · omega
    refine ⟨fo _ (by omega) (by omega), fun h => ?_, fun h => ?_⟩
    · rw [f3, f4]
      have h1 := b h
      have h2 := hfl.1 (by rw [h1.1]; exact h)
      exact ⟨h2.1.trans h1.1, h2.2.trans h1.2⟩
    · rw [f3, f4, f9]
      rcases gd h with ⟨g1, g2, g3⟩ | ⟨g1, g2, g3⟩
      · have h2 := hfl.2 g1
        have h3 := hstep h g1 g3
        by_cases n1 : pNf (M 2 0) (M 1 0 2) 9 (N 1 0 1) = 0
        · left
          rw [if_pos n1, if_pos ⟨c1, c2⟩] at h3
          rw [if_pos n1] at hz
          refine ⟨h2.1.trans n1, (h2.2.2 n1).trans g2, ?_⟩
          rw [h3, hz, q_rd]
          simp
        · right
          rw [if_neg n1] at h3
          rw [h3]
          exact ⟨by rw [h2.1]; exact n1, h2.1.symm, (h2.2.1 n1).symm⟩
      · right
        have h2 := hfl.1 g1
        rw [h2.1, h2.2]
        exact ⟨g1, g2, g3⟩
  · intro cn
    refine ⟨fo _ (by omega) (by omega), ⟨fun h => ?_, fun h => ?_⟩, fun h h5 => ?_⟩
    · rw [f3, f4]
      have h1 := b h
      have h2 := hfl.1 (by rw [h1.1]; exact h)
      exact ⟨h2.1.trans h1.1, h2.2.trans h1.2⟩
    · rw [f3, f4]
      rcases gd h with ⟨g1, g2, g3⟩ | ⟨g1, g2, g3⟩
      · have h2 := hfl.2 g1
        have h3 := hstep h g1 g3
        by_cases n1 : pNf (M 2 0) (M 1 0 2) 9 (N 1 0 1) = 0
        · rw [if_pos n1, if_neg cn] at h3
          rw [h3]
          exact ⟨h2.1.trans n1, fun e => absurd rfl e, fun _ => (h2.2.2 n1).trans g2⟩
        · rw [if_neg n1] at h3
          rw [h3]
          exact ⟨h2.1, fun _ => h2.2.1 n1, fun e => absurd e n1⟩
      · have h2 := hfl.1 g1
        rw [h2.1, h2.2, g2, g3]
        exact ⟨rfl, fun _ => rfl, fun e => absurd e g1⟩
    · rw [f9, q_rd]
      rcases gd h with ⟨g1, g2, g3⟩ | ⟨g1, g2, g3⟩
      · have h3 := hstep h g1 g3
        by_cases n1 : pNf (M 2 0) (M 1 0 2) 9 (N 1 0 1) = 0
        · rw [if_pos n1, if_neg cn] at h3
          rw [if_pos n1] at hz
          rw [h3, hz]
          simp
        · rw [if_neg n1] at h3
          rw [h3] at h5
          exact absurd h5 n1
      · exact absurd (g2.symm.trans h5) g1
theorem dX9_readPrizes_0 : decode cX9_readPrizes 0 = .ok (.aload_n 1, 1) := by decide +kernel
theorem dX9_readPrizes_1 : decode cX9_readPrizes 1 = .ok (.getfield 52, 3) := by decide +kernel
theorem dX9_readPrizes_4 : decode cX9_readPrizes 4 = .ok (.iconst 1, 1) := by decide +kernel
theorem dX9_readPrizes_5 : decode cX9_readPrizes 5 = .ok (.isub, 1) := by decide +kernel
theorem dX9_readPrizes_6 : decode cX9_readPrizes 6 = .ok (.istore_n 2, 1) := by decide +kernel
theorem dX9_readPrizes_7 : decode cX9_readPrizes 7 = .ok (.iconst 0, 1) := by decide +kernel
theorem dX9_readPrizes_8 : decode cX9_readPrizes 8 = .ok (.istore_n 3, 1) := by decide +kernel
theorem dX9_readPrizes_9 : decode cX9_readPrizes 9 = .ok (.iload_n 3, 1) := by decide +kernel
theorem dX9_readPrizes_10 : decode cX9_readPrizes 10 = .ok (.bipush 8, 2) := by decide +kernel
theorem dX9_readPrizes_12 : decode cX9_readPrizes 12 = .ok (.if_icmp .ge 47, 3) := by decide +kernel
theorem dX9_readPrizes_15 : decode cX9_readPrizes 15 = .ok (.aload_n 1, 1) := by decide +kernel
theorem dX9_readPrizes_16 : decode cX9_readPrizes 16 = .ok (.iload_n 2, 1) := by decide +kernel
theorem dX9_readPrizes_17 : decode cX9_readPrizes 17 = .ok (.iload_n 3, 1) := by decide +kernel
theorem dX9_readPrizes_18 : decode cX9_readPrizes 18 = .ok (.aload_n 0, 1) := by decide +kernel
theorem dX9_readPrizes_19 : decode cX9_readPrizes 19 = .ok (.bipush 9, 2) := by decide +kernel
theorem dX9_readPrizes_21 : decode cX9_readPrizes 21 = .ok (.invokevirtual 62, 3) := by decide +kernel
theorem dX9_readPrizes_24 : decode cX9_readPrizes 24 = .ok (.invokevirtual 79, 3) := by decide +kernel
theorem dX9_readPrizes_27 : decode cX9_readPrizes 27 = .ok (.aload_n 0, 1) := by decide +kernel
theorem dX9_readPrizes_28 : decode cX9_readPrizes 28 = .ok (.invokevirtual 33, 3) := by decide +kernel
theorem dX9_readPrizes_31 : decode cX9_readPrizes 31 = .ok (.bipush 44, 2) := by decide +kernel
theorem dX9_readPrizes_33 : decode cX9_readPrizes 33 = .ok (.if_icmp .ne 9, 3) := by decide +kernel
theorem dX9_readPrizes_36 : decode cX9_readPrizes 36 = .ok (.iload_n 3, 1) := by decide +kernel
theorem dX9_readPrizes_37 : decode cX9_readPrizes 37 = .ok (.bipush 7, 2) := by decide +kernel
theorem dX9_readPrizes_39 : decode cX9_readPrizes 39 = .ok (.if_icmp .ne 4, 3) := by decide +kernel
theorem dX9_readPrizes_42 : decode cX9_readPrizes 42 = .ok (.return_, 1) := by decide +kernel
theorem dX9_readPrizes_43 : decode cX9_readPrizes 43 = .ok (.aload_n 0, 1) := by decide +kernel
theorem dX9_readPrizes_44 : decode cX9_readPrizes 44 = .ok (.dup, 1) := by decide +kernel
theorem dX9_readPrizes_45 : decode cX9_readPrizes 45 = .ok (.getfield 15, 3) := by decide +kernel
theorem dX9_readPrizes_48 : decode cX9_readPrizes 48 = .ok (.iconst 1, 1) := by decide +kernel
theorem dX9_readPrizes_49 : decode cX9_readPrizes 49 = .ok (.iadd, 1) := by decide +kernel
theorem dX9_readPrizes_50 : decode cX9_readPrizes 50 = .ok (.putfield 15, 3) := by decide +kernel
theorem dX9_readPrizes_53 : decode cX9_readPrizes 53 = .ok (.iinc 3 1, 3) := by decide +kernel
theorem dX9_readPrizes_56 : decode cX9_readPrizes 56 = .ok (.goto (-47), 3) := by decide +kernel
theorem dX9_readPrizes_59 : decode cX9_readPrizes 59 = .ok (.return_, 1) := by decide +kernel
set_option maxRecDepth 4000 in
set_option maxHeartbeats 4000000 in
theorem m_X9_readPrizes (l : Launch) (g : qGm) (M : qMem) (hL : 0 ≤ M 1 0 2 ∧ M 1 0 2 ≤ 240) (hA : 0 ≤ M 1 0 1 ∧ M 1 0 1 ≤ M 1 0 2) (hH : 1 ≤ M 3 0 2 ∧ M 3 0 2 ≤ 6) : qOk l g 3 yX9_readPrizes cX9_readPrizes 4 none [qR g 1 0, qR g 3 0] M (fun r N => r = none ∧ xPzP M N) := by
  refine q_ok (by decide +kernel) (Nat.le_of_ble_eq_true rfl) (fun X C' hn => ?_)
  have C := C'.1
  refine q_aloadn C dX9_readPrizes_0 rfl ?_
  refine gf_RX9_52 C (by first | assumption | decide | omega) dX9_readPrizes_1 (fun r1 => ?_)
  refine q_iconst C dX9_readPrizes_4 ?_
  refine q_isub C dX9_readPrizes_5 ?_
  refine q_istoren C dX9_readPrizes_6 hn (by decide) rfl ?_
  refine q_iconst C dX9_readPrizes_7 ?_
  refine q_istoren C dX9_readPrizes_8 hn (by decide) rfl ?_
  have L9 : ∀ (n9 : Nat) (i : Int) (N : qMem), 8 - i < (n9 : Int) → (0 ≤ i ∧ i ≤ 8) → (i < 8) → (xPzI M N i) → qV l g X N 9 [(0, qR g 1 0), (1, qR g 3 0), (2, qI (M 3 0 2 - 1)), (3, qI i)] [] := by
    intro n9
    induction n9 with
    | zero => intro i N hm9 h0 h8 hI; exfalso; first | omega | (simp at *; omega)
    | succ n9 ih9 =>
      intro i N hm9 h0 h8 hI
      have e2 : N 2 0 = M 2 0 := hI.1.1 2 0 (by omega) (by omega)
      have e3 : N 3 0 = M 3 0 := hI.1.1 3 0 (by omega) (by omega)
      have ho3 := hI.1.2.2
      have hq := pNq_in (t := M 2 0) (L := M 1 0 2) (a := N 1 0 1) hI.1.2.2.1 hI.1.2.2.2
      refine q_iloadn C dX9_readPrizes_9 rfl ?_
      refine q_bipush C dX9_readPrizes_10 (by decide) ?_
      refine q_icmp_ge C 59 dX9_readPrizes_12 (by decide) (by first | assumption | omega | exact q_tin _ | exact q_bIn _) (by first | assumption | omega | exact q_tin _ | exact q_bIn _) (fun h12 => ?_) (fun h12 => ?_)
      · refine q_vret C' dX9_readPrizes_59 ?_
        first | (exfalso; omega) | exact ⟨rfl, hst.2 (by omega)⟩
      · refine q_aloadn C dX9_readPrizes_15 rfl ?_
        refine q_iloadn C dX9_readPrizes_16 rfl ?_
        refine q_iloadn C dX9_readPrizes_17 rfl ?_
        refine q_aloadn C dX9_readPrizes_18 rfl ?_
        refine q_bipush C dX9_readPrizes_19 (by decide) ?_
        refine cv_RX9_62 C (by decide) (m_X9_number l g _ (by rw [hI.1.2.1]; exact hL) (by rw [hI.1.2.1]; exact hI.1.2.2) (by omega)) dX9_readPrizes_21 (Nat.le_of_ble_eq_true rfl) (fun r21 => ?_)
        simp only [e2, hI.1.2.1] at r21 ⊢
        generalize hz : (if pNf (M 2 0) (M 1 0 2) 9 (N 1 0 1) = 0 then pNv (M 2 0) (M 1 0 2) (N 1 0 1) else 0) = z at r21 ⊢
        refine cv_RX9_79 C (by decide) (by first | assumption | decide | omega) (m_X7_setPrize l g _ (by decide) (by rw [xNum_3, e3]; omega) (by omega) (by omega) (by assumption)) dX9_readPrizes_24 (Nat.le_of_ble_eq_true rfl) ?_
        refine q_aloadn C dX9_readPrizes_27 rfl ?_
        refine cv_RX9_33 C (by decide) (m_X9_peek l g _ (by simp only [q_rdR, q_rdSR, xNum_L, xNum_at, xNum_2, xNum_3, hI.1.2.1, e2, q_rd, q_rdS, ↓reduceIte, if_true, if_false, eq_self, Nat.reduceEqDiff, Int.reduceEq, Int.reduceNeg, reduceCtorEq]; exact hL) (by simp only [q_rdR, q_rdSR, xNum_L, xNum_at, xNum_2, xNum_3, hI.1.2.1, e2, q_rd, q_rdS, ↓reduceIte, if_true, if_false, eq_self, Nat.reduceEqDiff, Int.reduceEq, Int.reduceNeg, reduceCtorEq]; omega)) dX9_readPrizes_28 (Nat.le_of_ble_eq_true rfl) (fun r28 => ?_)
        simp only [q_rdR, q_rdSR, xNum_L, xNum_at, xNum_2, xNum_3, hI.1.2.1, e2, q_rd, q_rdS, ↓reduceIte, if_true, if_false, eq_self, Nat.reduceEqDiff, Int.reduceEq, Int.reduceNeg, reduceCtorEq] at r28 ⊢
        have hsk := pSk_in (t := M 2 0) (L := M 1 0 2) (a := pNq (M 2 0) (M 1 0 2) (N 1 0 1)) (by omega) hq.2.2
        generalize hs : pSk (M 2 0) (M 1 0 2) (pNq (M 2 0) (M 1 0 2) (N 1 0 1)) = s at hsk r28 ⊢
        have hst := xPz_s hL (show 0 ≤ i ∧ i < 8 by omega) hI (z := z) (by rw [e2, hI.1.2.1]; exact hz.symm) rfl hs.symm
        refine q_bipush C dX9_readPrizes_31 (by decide) ?_
        refine q_icmp_ne C 42 dX9_readPrizes_33 (by decide) (by first | assumption | omega | exact q_tin _ | exact q_bIn _) (by first | assumption | omega | exact q_tin _ | exact q_bIn _) (fun h33 => ?_) (fun h33 => ?_)
        · refine q_vret C' dX9_readPrizes_42 ?_
          first | (exfalso; omega) | exact ⟨rfl, hst.2 (by omega)⟩
        · refine q_iloadn C dX9_readPrizes_36 rfl ?_
          refine q_bipush C dX9_readPrizes_37 (by decide) ?_
          refine q_icmp_ne C 43 dX9_readPrizes_39 (by decide) (by first | assumption | omega | exact q_tin _ | exact q_bIn _) (by first | assumption | omega | exact q_tin _ | exact q_bIn _) (fun h39 => ?_) (fun h39 => ?_)
          · refine q_aloadn C dX9_readPrizes_43 rfl ?_
            refine q_dup C dX9_readPrizes_44 rfl ?_
            refine gf_RX9_15 C dX9_readPrizes_45 (fun r45 => ?_)
            try simp only [q_rd, q_rdS, ↓reduceIte, if_true, if_false, eq_self, Nat.reduceEqDiff, Int.reduceEq, Int.reduceNeg, reduceCtorEq] at r45 ⊢
            refine q_iconst C dX9_readPrizes_48 ?_
            refine q_iadd C dX9_readPrizes_49 ?_
            refine pf_RX9_15 C (by first | assumption | omega | exact q_tin _ | exact q_bIn _) dX9_readPrizes_50 ?_
            refine q_iinc C dX9_readPrizes_53 rfl hn (by decide) rfl ?_
            refine q_goto C (tgt := 9) dX9_readPrizes_56 (by decide) ?_
            exact q_ls (by exact ⟨rfl, rfl, rfl, rfl, trivial⟩) (ih9 _ _ (by omega) (by omega) (by omega) (by exact hst.1 (by omega) (by omega)))
          · refine q_vret C' dX9_readPrizes_42 ?_
            first | (exfalso; omega) | exact ⟨rfl, hst.2 (by omega)⟩
  exact q_ls (by exact ⟨rfl, rfl, rfl, rfl, trivial⟩) (L9 1000 0 M (by omega) (by omega) (by omega) (by exact xPz_0 M hA))
