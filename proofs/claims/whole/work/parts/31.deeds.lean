/-! the state of section 2: Z 0 0 the row now, Z 1 p the undo row p, Z 2 0: 0 where the next goes, 1 how many, 2 the seed -/
abbrev sZ : Type := Nat → Int → Int → Int
def zRow (Z : sZ) (v : Int → Int) : sZ := fun a b c => if a = 0 then v c else Z a b c
def zRem (Z : sZ) : sZ := fun a b c => if a = 1 then (if b = Z 2 0 0 then Z 0 0 c else Z 1 b c) else if a = 2 then (if c = 0 then (if Z 2 0 0 < 29 then Z 2 0 0 + 1 else 0) else if c = 1 then sMin (Z 2 0 1 + 1) 30 else Z 2 0 c) else Z a b c
def zBack (Z : sZ) (k : Int) : sZ := fun a b c => if a = 0 then Z 1 (xPos (Z 2 0 0) k) c else if a = 2 then (if c = 0 then xPos (Z 2 0 0) k else if c = 1 then Z 2 0 1 - k else Z 2 0 c) else Z a b c
def zFor (Z : sZ) : sZ := fun a b c => if a = 2 then (if c = 1 then 0 else Z 2 0 c) else Z a b c
def zSeed (Z : sZ) (s : Int) : sZ := fun a b c => if a = 2 then (if c = 2 then s else Z 2 0 c) else Z a b c
def xZ (M : qMem) (m n : Int) (Z : sZ) : Prop := (xH M 0 m n (Z 0 0) ∧ sRR m n (Z 0 0)) ∧ (M 26 0 1 = Z 2 0 0 ∧ 0 ≤ Z 2 0 0 ∧ Z 2 0 0 < 30) ∧ (M 26 0 2 = Z 2 0 1 ∧ 0 ≤ Z 2 0 1 ∧ Z 2 0 1 ≤ 30) ∧ (∀ k, 1 ≤ k → k ≤ Z 2 0 1 → xH M ((xPos (Z 2 0 0) k).toNat + 1) m n (Z 1 (xPos (Z 2 0 0) k)) ∧ sRR m n (Z 1 (xPos (Z 2 0 0) k))) ∧ (M 0 0 11 = Z 2 0 2 ∧ 0 ≤ Z 2 0 2 ∧ Z 2 0 2 ≤ 2147483647)
/-- what deeds leave: text, seasons, matching, images, seen, book and the reference -/
def xDP (M N : qMem) : Prop := ∀ j u, j ≠ 0 → j ≠ 26 → ¬ (10 ≤ j ∧ j ≤ 18 ∧ u ≤ 30) → N j u = M j u
theorem xDP.rf {M : qMem} : xDP M M := fun _ _ _ _ _ => rfl
theorem xDP.tr {M N K : qMem} (h1 : xDP M N) (h2 : xDP N K) : xDP M K := fun j u a b c => (h2 j u a b c).trans (h1 j u a b c)
theorem xDP.xS {M N : qMem} {sd : sSD} (h : xDP M N) (hx : xS M sd) : xS N sd := by
  unfold Jvm.Pilot.CGloveSignsLaw_law_r8063_146d04.xS at *
  rw [h 3 1 (by decide) (by decide) (by omega), h 4 1 (by decide) (by decide) (by omega), h 8 1 (by decide) (by decide) (by omega), h 9 1 (by decide) (by decide) (by omega)]
  exact hx
theorem xZ_row {M N : qMem} {m n : Int} {Z : sZ} {v : Int → Int} (hZ : xZ M m n Z) (hx : xH N 0 m n v) (hv : sRR m n v) (hf : ∀ j u, 10 ≤ j → j ≤ 18 → 1 ≤ u → N j u = M j u) (h26 : N 26 0 = M 26 0) (h0 : N 0 0 11 = M 0 0 11) : xZ N m n (zRow Z v) := by
  obtain ⟨-, z2, z3, z4, z5⟩ := hZ
  refine ⟨⟨hx, hv⟩, by rw [h26]; exact z2, by rw [h26]; exact z3, fun k a b => ?_, by rw [h0]; exact z5⟩
  have := z4 k a b
  exact ⟨xH_fr (fun j h1 h2 => hf j _ h1 h2 (by omega)) this.1, this.2⟩
theorem xBec_rows (M : qMem) (u w : Nat) (j : Nat) (hj : j = 11 ∨ j = 12 ∨ j = 13 ∨ j = 14 ∨ j = 15 ∨ j = 16 ∨ j = 18) : xBec M u w j u = M j w := by
  unfold xBec
  simp only [q_rdR, q_rdSR]
  rcases hj with rfl | rfl | rfl | rfl | rfl | rfl | rfl <;> simp
theorem xBec_rest (M : qMem) (u w : Nat) {j v : Nat} (h : v ≠ u) : xBec M u w j v = M j v := by
  unfold xBec
  simp only [q_rdR, q_rdSR]
  simp [h]
theorem xBec_10 (M : qMem) (u w : Nat) : xBec M u w 10 u 0 = M 10 w 0 ∧ xBec M u w 10 u 1 = M 10 w 1 ∧ xBec M u w 17 u 1 = M 17 w 1 ∧ xBec M u w 17 u 2 = M 17 w 2 := by
  unfold xBec
  simp [q_rd, q_rdS]
theorem xH_bec {M : qMem} {u w : Nat} {m n : Int} {v : Int → Int} (hx : xH M w m n v) : xH (xBec M u w) u m n v := by
  obtain ⟨b1, b2, b3, b4⟩ := xBec_10 M u w
  unfold xH at *
  rw [b1, b2, b3, b4, xBec_rows M u w 11 (by simp), xBec_rows M u w 12 (by simp), xBec_rows M u w 13 (by simp), xBec_rows M u w 14 (by simp), xBec_rows M u w 15 (by simp), xBec_rows M u w 16 (by simp), xBec_rows M u w 18 (by simp)]
  exact hx
theorem xRem_fr (M : qMem) {j v : Nat} (hj : j ≠ 26) (hv : v ≠ (M 26 0 1).toNat + 1) : xRem M j v = M j v := by
  unfold xRem
  simp only [q_rdR]
  simp only [if_neg hj]
  exact xBec_rest M _ _ hv
theorem xRem_off (M : qMem) {j : Nat} (hj : j < 10 ∨ 18 < j) (hj2 : j ≠ 26) : xRem M j = M j := by
  funext u
  unfold xRem
  simp only [q_rdR]
  simp only [if_neg hj2]
  rw [xBec_off _ _ _ hj]
theorem xZ_rem {M : qMem} {m n : Int} {Z : sZ} (hZ : xZ M m n Z) : xZ (xRem M) m n (zRem Z) ∧ xDP M (xRem M) := by
  obtain ⟨⟨z1, z1'⟩, z2, z3, z4, z5⟩ := hZ
  have hmn := sMin_l (Z 2 0 1 + 1) 30
  have e20 : zRem Z 2 0 0 = (if Z 2 0 0 < 29 then Z 2 0 0 + 1 else 0) := by simp [zRem]
  have e21 : zRem Z 2 0 1 = sMin (Z 2 0 1 + 1) 30 := by simp [zRem]
  have e22 : zRem Z 2 0 2 = Z 2 0 2 := by simp [zRem]
  have e00 : zRem Z 0 0 = Z 0 0 := by funext c; simp [zRem]
  refine ⟨⟨⟨?_, ?_⟩, ?_, ?_, fun k a b => ?_, ?_⟩, fun j u a b c => ?_⟩
  · rw [e00]; exact xH_fr (M := M) (fun j h1 h2 => xRem_fr M (by omega) (by omega)) z1
  · rw [e00]; exact z1'
  · rw [e20]
    unfold xRem
    simp [q_rd]
    rw [z2.1]
    refine ⟨rfl, ?_⟩
    split <;> omega
  · rw [e21]
    unfold xRem
    simp [q_rd]
    rw [z3.1]
    exact ⟨rfl, by omega, by omega⟩
  · rw [e21] at b
    rw [e20]
    by_cases e : k = 1
    · have ep : xPos (if Z 2 0 0 < 29 then Z 2 0 0 + 1 else 0) k = Z 2 0 0 := by
        subst e
        unfold xPos
        split <;> split <;> omega
      rw [ep]
      have er : zRem Z 1 (Z 2 0 0) = Z 0 0 := by funext c; simp [zRem]
      rw [er]
      refine ⟨?_, z1'⟩
      have := xH_bec (u := (M 26 0 1).toNat + 1) z1
      rw [← z2.1]
      refine xH_fr (M := xBec M ((M 26 0 1).toNat + 1) 0) (fun j h1 h2 => ?_) this
      unfold xRem
      simp only [q_rdR]
      simp only [if_neg (show ¬ j = 26 by omega)]
    · have ep : xPos (if Z 2 0 0 < 29 then Z 2 0 0 + 1 else 0) k = xPos (Z 2 0 0) (k - 1) := by
        unfold xPos
        by_cases q : Z 2 0 0 < 29
        · rw [if_pos q]; by_cases q2 : k ≤ Z 2 0 0 + 1
          · rw [if_pos q2, if_pos (by omega)]; omega
          · rw [if_neg q2, if_neg (by omega)]; omega
        · rw [if_neg q, if_neg (by omega), if_pos (by omega)]; omega
      rw [ep]
      have hk := z4 (k - 1) (by omega) (by omega)
      have hne : xPos (Z 2 0 0) (k - 1) ≠ Z 2 0 0 := by unfold xPos; split <;> omega
      have hp0 : 0 ≤ xPos (Z 2 0 0) (k - 1) := by unfold xPos; split <;> omega
      have er : zRem Z 1 (xPos (Z 2 0 0) (k - 1)) = Z 1 (xPos (Z 2 0 0) (k - 1)) := by funext c; simp [zRem, hne]
      rw [er]
      refine ⟨xH_fr (fun j h1 h2 => xRem_fr M (by omega) ?_) hk.1, hk.2⟩
      rw [z2.1]
      intro e2
      omega
  · rw [e22]
    rw [xRem_off M (by decide) (by decide)]
    exact z5
  · by_cases hj : j < 10 ∨ 18 < j
    · rw [xRem_off M hj b]
    · exact xRem_fr M b (by rw [z2.1]; omega)
theorem xZ_back {M : qMem} {m n : Int} {Z : sZ} (hZ : xZ M m n Z) {k : Int} (hk : 1 ≤ k ∧ k ≤ M 26 0 2) : xZ (xBack M k) m n (zBack Z k) ∧ xDP M (xBack M k) := by
  obtain ⟨⟨z1, z1'⟩, z2, z3, z4, z5⟩ := hZ
  rw [z3.1] at hk
  have e20 : zBack Z k 2 0 0 = xPos (Z 2 0 0) k := by simp [zBack]
  have e21 : zBack Z k 2 0 1 = Z 2 0 1 - k := by simp [zBack]
  have e22 : zBack Z k 2 0 2 = Z 2 0 2 := by simp [zBack]
  have e00 : zBack Z k 0 0 = Z 1 (xPos (Z 2 0 0) k) := by funext c; simp [zBack]
  have e1 : ∀ b, zBack Z k 1 b = Z 1 b := by intro b; funext c; simp [zBack]
  have hp : 0 ≤ xPos (Z 2 0 0) k ∧ xPos (Z 2 0 0) k < 30 := by unfold xPos; split <;> omega
  have fr : ∀ j u, u ≠ 0 → j ≠ 26 → xBack M k j u = M j u := by
    intro j u hu hj
    unfold xBack
    rw [xBec_rest _ _ _ hu]
    simp only [q_rdR]
    simp only [if_neg hj]
  have of : ∀ j, (j < 10 ∨ 18 < j) → j ≠ 26 → xBack M k j = M j := by
    intro j hj hj2
    unfold xBack
    rw [xBec_off _ _ _ hj]
    funext u
    simp only [q_rdR]
    simp only [if_neg hj2]
  have h26 : xBack M k 26 0 1 = xPos (M 26 0 1) k ∧ xBack M k 26 0 2 = M 26 0 2 - k := by
    unfold xBack
    rw [xBec_26]
    simp [q_rd]
  refine ⟨⟨⟨?_, ?_⟩, ?_, ?_, fun i a b => ?_, ?_⟩, fun j u a b c => ?_⟩
  · rw [e00]
    have h4 := (z4 k hk.1 hk.2).1
    unfold xBack
    rw [z2.1]
    refine xH_bec (xH_fr (M := M) (fun j h1 h2 => ?_) h4)
    simp only [q_rdR]
    simp only [if_neg (show ¬ j = 26 by omega)]
  · rw [e00]; exact (z4 k hk.1 hk.2).2
  · rw [e20, h26.1, z2.1]; exact ⟨rfl, hp⟩
  · rw [e21, h26.2, z3.1]; exact ⟨rfl, by omega, by omega⟩
  · rw [e21] at b
    rw [e20, e1]
    have ep : xPos (xPos (Z 2 0 0) k) i = xPos (Z 2 0 0) (k + i) := by
      unfold xPos
      by_cases q : k ≤ Z 2 0 0
      · rw [if_pos q]; by_cases q2 : i ≤ Z 2 0 0 - k
        · rw [if_pos q2, if_pos (by omega)]; omega
        · rw [if_neg q2, if_neg (by omega)]; omega
      · rw [if_neg q, if_pos (by omega), if_neg (by omega)]; omega
    rw [ep]
    have h4 := z4 (k + i) (by omega) (by omega)
    exact ⟨xH_fr (fun j h1 h2 => fr j _ (by omega) (by omega)) h4.1, h4.2⟩
  · rw [e22, of 0 (by decide) (by decide)]; exact z5
  · by_cases hj : j < 10 ∨ 18 < j
    · rw [of j hj b]
    · exact fr j u (by omega) b
/-- a visit laid -/
def xLay (M : qMem) (c h a r : Int) : qMem := if r = 0 then xLog M 0 (M 10 0 0) c h a r else xWel (xLog M 0 (M 10 0 0) c h a r) 0 c h
theorem vWel_enter {v : Int → Int} {c h a r : Int} (hc : 0 ≤ c ∧ c < 6) (hh : 0 ≤ h ∧ h < 6) : vWel (vEnter v c h a r) c h = vEnter (vWel v c h) c h a r := by
  have k1 : vEnter v c h a r (14 + c) = v (14 + c) := by unfold vEnter; repeat rw [if_neg (by omega)]
  have k2 : vEnter v c h a r (56 + (6 * c + h)) = v (56 + (6 * c + h)) := by unfold vEnter; repeat rw [if_neg (by omega)]
  have k3 : vSo (vEnter v c h a r) c h = vSo v c h := by unfold vSo; rw [k1, k2]
  have k4 : vEnter v c h a r 1 = v 1 := by unfold vEnter; repeat rw [if_neg (by omega)]
  have w0 : vWel v c h 0 = v 0 := by unfold vWel; repeat rw [if_neg (by omega)]
  have w98 : vWel v c h 98 = v 98 := by unfold vWel; repeat rw [if_neg (by omega)]
  funext j
  by_cases g1 : j = 20 + (6 * c + h)
  · have e1 : vEnter v c h a r j = v j := by unfold vEnter; repeat rw [if_neg (by omega)]
    have e2 : vEnter (vWel v c h) c h a r j = vWel v c h j := by unfold vEnter; repeat rw [if_neg (by omega)]
    rw [e2]; unfold vWel; rw [if_pos g1, if_pos g1, e1]
  · by_cases g2 : j = 1
    · subst g2
      have e2 : vEnter (vWel v c h) c h a r 1 = vWel v c h 1 := by unfold vEnter; repeat rw [if_neg (by omega)]
      rw [e2]; unfold vWel; rw [if_neg g1, if_neg g1, if_pos rfl, if_pos rfl, k4]
    · by_cases g3 : j = 56 + (6 * c + h)
      · have e2 : vEnter (vWel v c h) c h a r j = vWel v c h j := by unfold vEnter; repeat rw [if_neg (by omega)]
        rw [e2]; unfold vWel; rw [if_neg g1, if_neg g1, if_neg g2, if_neg g2, if_pos g3, if_pos g3, k3]
      · by_cases g4 : j = 92 + c
        · have e1 : vEnter v c h a r j = v j := by unfold vEnter; repeat rw [if_neg (by omega)]
          have e2 : vEnter (vWel v c h) c h a r j = vWel v c h j := by unfold vEnter; repeat rw [if_neg (by omega)]
          rw [e2]; unfold vWel; rw [if_neg g1, if_neg g1, if_neg g2, if_neg g2, if_neg g3, if_neg g3, if_pos g4, if_pos g4, e1, k1, k3]
        · have e1 : vWel (vEnter v c h a r) c h j = vEnter v c h a r j := by unfold vWel; rw [if_neg g1, if_neg g2, if_neg g3, if_neg g4]
          have e3 : ∀ i, i ≠ 20 + (6 * c + h) → i ≠ 1 → i ≠ 56 + (6 * c + h) → i ≠ 92 + c → vWel v c h i = v i := by intro i b1 b2 b3 b4; unfold vWel; rw [if_neg b1, if_neg b2, if_neg b3, if_neg b4]
          rw [e1]
          unfold vEnter
          rw [w0, w98, e3 j g1 g2 g3 g4]
          by_cases g5 : 104 ≤ j ∧ j ≤ 198
          · rw [if_pos g5, if_pos g5, e3 (j - 5) (by omega) (by omega) (by omega) (by omega)]
          · rw [if_neg g5, if_neg g5]
theorem xZ_lay {M : qMem} {sd : sSD} {Z : sZ} (hs : sRS sd) (hZ : xZ M (sd 4 0) (sd 5 0) Z) {c h a : Int} (hc : 0 ≤ c ∧ c < sd 4 0) (hh : 0 ≤ h ∧ h < sd 5 0) : xZ (xLay M c h a (sAns sd (Z 0 0) c h a)) (sd 4 0) (sd 5 0) (zRow Z (vVisit sd (Z 0 0) c h a)) ∧ xDP M (xLay M c h a (sAns sd (Z 0 0) c h a)) := by
  have hm := hs.2.1.2
  have hn := hs.2.2.1.2
  have hr := sAns_in sd (Z 0 0) c h a
  obtain ⟨z1, z1'⟩ := hZ.1
  unfold vVisit
  generalize sAns sd (Z 0 0) c h a = r at hr ⊢
  have key : xH (xLay M c h a r) 0 (sd 4 0) (sd 5 0) (vEnter (if 0 < r then vWel (Z 0 0) c h else Z 0 0) c h a r) ∧ sRR (sd 4 0) (sd 5 0) (vEnter (if 0 < r then vWel (Z 0 0) c h else Z 0 0) c h a r) := by
    unfold xLay
    by_cases e : r = 0
    · rw [if_pos e, if_neg (by omega)]
      exact ⟨xH_log z1 z1' hm hn, sRR_log z1' hm hn⟩
    · rw [if_neg e, if_pos (by omega), ← vWel_enter ⟨hc.1, by omega⟩ ⟨hh.1, by omega⟩]
      exact ⟨xH_wel (xH_log z1 z1' hm hn) (sRR_log z1' hm hn) hm hn hc hh, sRR_wel (sRR_log z1' hm hn) hm hn hc hh⟩
  have fl : ∀ j u, ¬ (10 ≤ j ∧ j ≤ 18 ∧ u = 0) → xLay M c h a r j u = M j u := by
    intro j u hj
    have l1 : xLog M 0 (M 10 0 0) c h a r j u = M j u := by
      unfold xLog
      simp only [q_rdR]
      by_cases hu : u = 0
      · rw [if_neg (by omega), if_neg (by omega), if_neg (by omega), if_neg (by omega), if_neg (by omega), if_neg (by omega), if_neg (by omega)]
      · simp [hu]
    unfold xLay
    split
    · exact l1
    · rw [← l1]
      unfold xWel
      by_cases hu : u = 0
      · split
        · simp only [q_rdR]; rw [if_neg (by omega), if_neg (by omega)]
        · split
          · simp only [q_rdR]; rw [if_neg (by omega), if_neg (by omega), if_neg (by omega)]
          · simp only [q_rdR]; rw [if_neg (by omega), if_neg (by omega), if_neg (by omega), if_neg (by omega)]
      · split
        · simp only [q_rdR]; simp [hu]
        · split <;> simp only [q_rdR] <;> simp [hu]
  refine ⟨xZ_row hZ key.1 key.2 (fun j u a1 a2 a3 => fl j u (by omega)) (fl 26 0 (by omega)) (by rw [fl 0 0 (by omega)]), fun j u a1 a2 a3 => fl j u (by omega)⟩
