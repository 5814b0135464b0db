theorem q_upF {M : qMem} {j u : Nat} {i z : Int} {j' u' : Nat} (h : ¬ (j' = j ∧ u' = u)) : qUp M j u i z j' u' = M j' u' := by
  rw [q_rdR]
  by_cases e : j' = j
  · rw [if_pos e, if_neg (fun q => h ⟨e, q⟩)]
  · rw [if_neg e]
theorem q_setF {M : qMem} {j u : Nat} {f : Int → Int} {j' u' : Nat} (h : ¬ (j' = j ∧ u' = u)) : qSet M j u f j' u' = M j' u' := by
  rw [q_rdSR]
  by_cases e : j' = j
  · rw [if_pos e, if_neg (fun q => h ⟨e, q⟩)]
  · rw [if_neg e]
/-- what all but season leave: text, seasons, matching, seen, book and the reference -/
def xDQ (M N : qMem) : Prop := ∀ j u, j ≠ 0 → j ≠ 26 → j ≠ 28 → ¬ (10 ≤ j ∧ j ≤ 18) → N j u = M j u
theorem xDP.q {M N : qMem} (h : xDP M N) : xDQ M N := fun j u a b _ d => h j u a b (by omega)
def xE (M : qMem) (sd : sSD) (d : Int × sZ) (r : Option Int) (N : qMem) : Prop := r = some d.1 ∧ (xZ N (sd 4 0) (sd 5 0) d.2 ∧ xIm N (sd 4 0) (sd 5 0) d.2 0 ∧ xIm N (sd 4 0) (sd 5 0) d.2 1) ∧ xDQ M N
theorem xD.e {M N : qMem} {sd : sSD} {Z : sZ} {d : Int × sZ} {r : Option Int} (h : xD M sd d r N) (hi : zIm Z d.2) (h0 : xIm M (sd 4 0) (sd 5 0) Z 0) (h1 : xIm M (sd 4 0) (sd 5 0) Z 1) : xE M sd d r N :=
  ⟨h.1, ⟨h.2.1, xIm_dp h.2.2 (by rw [hi 3 (by decide)]) (by rw [hi 4 (by decide)]) h0, xIm_dp h.2.2 (by rw [hi 3 (by decide)]) (by rw [hi 4 (by decide)]) h1⟩, h.2.2.q⟩
theorem zIm_visit (sd : sSD) (Z : sZ) (c h a : Int) : zIm Z (dVisit sd Z c h a).2 := by
  unfold dVisit; repeat' split
  all_goals first | exact zIm.rf | exact (zIm_rem _).tr (zIm_row _ _)
theorem zIm_mean (sd : sSD) (Z : sZ) (c h : Int) : zIm Z (dMean sd Z c h).2 := by
  unfold dMean; repeat' split
  all_goals first | exact zIm.rf | exact (zIm_rem _).tr (zIm_row _ _)
theorem zIm_stuff (sd : sSD) (Z : sZ) (c h : Int) : zIm Z (dStuff sd Z c h).2 := by
  unfold dStuff; repeat' split
  all_goals first | exact zIm.rf | exact (zIm_rem _).tr (zIm_row _ _)
theorem zIm_pard (sd : sSD) (Z : sZ) (c h : Int) : zIm Z (dPard sd Z c h).2 := by
  unfold dPard; repeat' split
  all_goals first | exact zIm.rf | exact (zIm_rem _).tr (zIm_row _ _)
theorem zIm_day (sd : sSD) (Z : sZ) (c : Int) : zIm Z (dDay sd Z c).2 := by
  unfold dDay; split
  · exact zIm_days _ _ _
  · exact zIm.rf
theorem zIm_dr (sd : sSD) (Z : sZ) (c : Int) : zIm Z (dDrift sd Z c).2 := by
  unfold dDrift; split
  · exact zIm_drift _ _ _
  · exact zIm.rf
theorem zIm_undo (Z : sZ) (c : Int) : zIm Z (dUndo Z c).2 := by
  unfold dUndo; repeat' split
  all_goals first | exact zIm.rf | exact zIm_back _ _
theorem zIm_sd (Z : sZ) (c : Int) : zIm Z (dSeed Z c).2 := by
  unfold dSeed; repeat' split
  all_goals first | exact zIm.rf | exact zIm_seed _ _
def dKeep (Z : sZ) (i : Int) : Int × sZ := if 0 ≤ i ∧ i ≤ 1 then (1, zKeep Z i) else (-1000000001, Z)
def dGo (Z : sZ) (i : Int) : Int × sZ := if 0 ≤ i ∧ i ≤ 1 then (if Z 4 i 0 = 0 then (-1000000003, Z) else (1, zGo Z i)) else (-1000000001, Z)
def xKp (M : qMem) (i : Nat) : qMem := qUp (qUp (xBec (qUp M 28 i 0 1) (31 + i) 0) 28 i 1 (M 0 0 11)) 26 0 2 0
def xGo (M : qMem) (i : Nat) : qMem := qUp (qUp (xBec M 0 (31 + i)) 0 0 11 (M 28 i 1)) 26 0 2 0
theorem xKp_fr (M : qMem) (i : Nat) {j u : Nat} (h1 : j ≠ 26) (h2 : ¬ (j = 28 ∧ u = i)) (h3 : ¬ (10 ≤ j ∧ j ≤ 18 ∧ u = 31 + i)) : xKp M i j u = M j u := by
  unfold xKp
  rw [q_upF (by omega), q_upF (by omega)]
  by_cases e : u = 31 + i
  · rw [xBec_off _ _ _ (by omega)]
    rw [q_upF (by omega)]
  · rw [xBec_rest _ _ _ e]
    rw [q_upF (by omega)]
theorem xGo_fr (M : qMem) (i : Nat) {j u : Nat} (h1 : j ≠ 26) (h2 : j ≠ 0) (h3 : ¬ (10 ≤ j ∧ j ≤ 18 ∧ u = 0)) : xGo M i j u = M j u := by
  unfold xGo
  rw [q_upF (by omega), q_upF (by omega)]
  by_cases e : u = 0
  · rw [xBec_off _ _ _ (by omega)]
  · rw [xBec_rest _ _ _ e]
theorem xE_keep {M : qMem} {sd : sSD} {Z : sZ} (hZ : xZ M (sd 4 0) (sd 5 0) Z) {i i' : Nat} (hi : i = 0 ∧ i' = 1 ∨ i = 1 ∧ i' = 0) (h1 : xIm M (sd 4 0) (sd 5 0) Z i') : xZ (xKp M i) (sd 4 0) (sd 5 0) (zKeep Z i) ∧ xIm (xKp M i) (sd 4 0) (sd 5 0) (zKeep Z i) i ∧ xIm (xKp M i) (sd 4 0) (sd 5 0) (zKeep Z i) i' ∧ xDQ M (xKp M i) := by
  obtain ⟨⟨z1, z1'⟩, z2, z3, z4, z5⟩ := hZ
  have e00 : zKeep Z i 0 0 = Z 0 0 := by funext c; simp [zKeep]
  have e20 : zKeep Z i 2 0 0 = Z 2 0 0 := by simp [zKeep]
  have e21 : zKeep Z i 2 0 1 = 0 := by simp [zKeep]
  have e22 : zKeep Z i 2 0 2 = Z 2 0 2 := by simp [zKeep]
  have e3 : zKeep Z i 3 i = Z 0 0 := by funext c; simp [zKeep]
  have e40 : zKeep Z i 4 i 0 = 1 := by simp [zKeep]
  have e41 : zKeep Z i 4 i 1 = Z 2 0 2 := by simp [zKeep]
  have hne : ¬ ((i' : Int) = (i : Int)) := by omega
  have e3' : zKeep Z i 3 i' = Z 3 i' := by funext c; simp [zKeep, hne]
  have e4' : zKeep Z i 4 i' = Z 4 i' := by funext c; simp [zKeep, hne]
  have b26 : xKp M i 26 0 1 = M 26 0 1 ∧ xKp M i 26 0 2 = 0 := by
    unfold xKp; simp [q_rd, xBec_26]
  have b28 : xKp M i 28 i 0 = 1 ∧ xKp M i 28 i 1 = M 0 0 11 := by
    unfold xKp; simp [q_rd, xBec_off _ _ _ (show 28 < 10 ∨ 18 < 28 by decide)]
  refine ⟨⟨⟨?_, ?_⟩, ?_, ?_, fun k a b => ?_, ?_⟩, ⟨?_, Or.inr ⟨e40, ⟨?_, ?_⟩, ?_⟩⟩, ?_, ?_⟩
  · rw [e00]; exact xH_fr (fun j a b => xKp_fr M i (by omega) (by omega) (by omega)) z1
  · rw [e00]; exact z1'
  · rw [e20, b26.1]; exact z2
  · rw [e21, b26.2]; omega
  · rw [e21] at b; omega
  · rw [e22, xKp_fr M i (by decide) (by omega) (by omega)]; exact z5
  · rw [e40, b28.1]
  · rw [e3]
    refine xH_fr (M := xBec (qUp M 28 i 0 1) (31 + i) 0) (fun j a b => ?_) (xH_bec (xH_fr (M := M) (fun j a b => ?_) z1))
    · unfold xKp
      rw [q_upF (by omega), q_upF (by omega)]
    · rw [q_upF (by omega)]
  · rw [e3]; exact z1'
  · rw [e41, b28.2]; exact z5
  · exact xIm_fr (xKp_fr M i (by decide) (by omega) (by omega)) (fun j a b => xKp_fr M i (by omega) (by omega) (by omega)) e3' e4' h1
  · exact fun j u a b c d => xKp_fr M i b (by omega) (by omega)
theorem xE_go {M : qMem} {sd : sSD} {Z : sZ} (hZ : xZ M (sd 4 0) (sd 5 0) Z) {i i' : Nat} (hi : i = 0 ∧ i' = 1 ∨ i = 1 ∧ i' = 0) (h0 : xIm M (sd 4 0) (sd 5 0) Z i) (h1 : xIm M (sd 4 0) (sd 5 0) Z i') (hk : ¬ Z 4 i 0 = 0) : xZ (xGo M i) (sd 4 0) (sd 5 0) (zGo Z i) ∧ xIm (xGo M i) (sd 4 0) (sd 5 0) (zGo Z i) i ∧ xIm (xGo M i) (sd 4 0) (sd 5 0) (zGo Z i) i' ∧ xDQ M (xGo M i) := by
  obtain ⟨-, z2, z3, z4, z5⟩ := hZ
  obtain ⟨-, ⟨u1, u1'⟩, u2⟩ := h0.2.resolve_left hk
  have e00 : zGo Z i 0 0 = Z 3 i := by funext c; simp [zGo]
  have e20 : zGo Z i 2 0 0 = Z 2 0 0 := by simp [zGo]
  have e21 : zGo Z i 2 0 1 = 0 := by simp [zGo]
  have e22 : zGo Z i 2 0 2 = Z 4 i 1 := by simp [zGo]
  have e3 : ∀ k, zGo Z i 3 k = Z 3 k := by intro k; funext c; simp [zGo]
  have e4 : ∀ k, zGo Z i 4 k = Z 4 k := by intro k; funext c; simp [zGo]
  have b26 : xGo M i 26 0 1 = M 26 0 1 ∧ xGo M i 26 0 2 = 0 ∧ xGo M i 0 0 11 = M 28 i 1 := by
    unfold xGo; simp [q_rd, xBec_26]
  refine ⟨⟨⟨?_, ?_⟩, ?_, ?_, fun k a b => ?_, ?_⟩, ?_, ?_, ?_⟩
  · rw [e00]
    refine xH_fr (M := xBec M 0 (31 + i)) (fun j a b => ?_) (xH_bec u1)
    unfold xGo
    rw [q_upF (by omega), q_upF (by omega)]
  · rw [e00]; exact u1'
  · rw [e20, b26.1]; exact z2
  · rw [e21, b26.2.1]; omega
  · rw [e21] at b; omega
  · rw [e22, b26.2.2]; exact u2
  · exact xIm_fr (xGo_fr M i (by decide) (by decide) (by omega)) (fun j a b => xGo_fr M i (by omega) (by omega) (by omega)) (e3 _) (e4 _) h0
  · exact xIm_fr (xGo_fr M i (by decide) (by decide) (by omega)) (fun j a b => xGo_fr M i (by omega) (by omega) (by omega)) (e3 _) (e4 _) h1
  · exact fun j u a b c d => xGo_fr M i b a (by omega)
/-! a season read -/
def rSd (R : sRd) : sSD := fun a b => if a = 0 then R 0 0 else if a = 1 then R 3 b else if a = 2 then R 7 b else if a = 3 then R 8 b else if a = 4 then R 1 0 else R 2 0
def rRw (R : sRd) : Int → Int := fun j => if 2 ≤ j ∧ j < 2 + R 2 0 then R 6 (j - 2) else if 8 ≤ j ∧ j < 8 + R 1 0 then R 5 (j - 8) else if 14 ≤ j ∧ j < 14 + R 1 0 then R 4 (j - 14) else 0
def zNew (Z : sZ) (R : sRd) : sZ := fun a b c => if a = 0 then rRw R c else if a = 2 then (if c = 1 then 0 else Z 2 0 c) else if a = 4 then (if c = 0 then 0 else Z 4 b c) else Z a b c
theorem rSd_rs {R : sRd} (h : rB R) : sRS (rSd R) := by
  unfold sRS rSd
  simp
  obtain ⟨a1, a2, a3, a4, a5, a6, a7⟩ := h
  exact ⟨a1, a2, a3, fun c x y => (a4 c x y).1, fun c x y => (a5 c x y).2, fun c x y => a6 c x y, a7⟩
theorem rRw_rr {R : sRd} (h : rB R) : sRR (R 1 0) (R 2 0) (rRw R) := by
  obtain ⟨a1, a2, a3, a4, a5, a6, a7⟩ := h
  have n0 : ∀ j, j < 2 ∨ 20 ≤ j → rRw R j = 0 := by
    intro j hj
    unfold rRw
    rw [if_neg (by omega), if_neg (by omega), if_neg (by omega)]
  refine ⟨by rw [n0 0 (by omega)]; omega, by rw [n0 1 (by omega)]; omega, fun h x y => ?_, fun c x y => ⟨?_, ?_, ?_⟩, fun c h x y z w => ⟨by rw [n0 _ (by omega)]; omega, by rw [n0 _ (by omega)]; omega⟩, by rw [n0 98 (by omega)]; omega⟩
  · unfold rRw
    rw [if_pos (by omega), show 2 + h - 2 = h by omega]
    exact (a5 h x y).1
  · unfold rRw
    rw [if_neg (by omega), if_pos (by omega), show 8 + c - 8 = c by omega]
    exact (a4 c x y).2.2
  · unfold rRw
    rw [if_neg (by omega), if_neg (by omega), if_pos (by omega), show 14 + c - 14 = c by omega]
    exact (a4 c x y).2.1
  · rw [n0 _ (by omega)]; omega
def xSea (N : qMem) : qMem := qUp (qUp (qUp (qUp (qUp (xOpen (xSBec N 1 0) 0 1) 26 0 2 0) 28 0 0 0) 28 1 0 0) 29 0 2 0) 32 0 2 0
theorem xSea_fr (N : qMem) {j u : Nat} (h : ¬ (3 ≤ j ∧ j ≤ 9 ∧ u = 1)) (h1 : ¬ (10 ≤ j ∧ j ≤ 18 ∧ u = 0)) (h2 : j ≠ 26) (h3 : j ≠ 28) (h4 : j ≠ 29) (h5 : j ≠ 32) : xSea N j u = N j u := by
  unfold xSea xOpen xSBec
  repeat first | rw [q_upF (by omega)] | rw [q_setF (by omega)]
theorem xSea_s (N : qMem) : xSea N 3 1 0 = N 3 0 0 ∧ xSea N 3 1 1 = N 3 0 1 ∧ xSea N 3 1 2 = N 3 0 2 ∧ xSea N 4 1 = N 4 0 ∧ xSea N 8 1 = N 8 0 ∧ xSea N 9 1 = N 9 0 := by
  unfold xSea xOpen xSBec
  refine ⟨?_, ?_, ?_, ?_, ?_, ?_⟩ <;> simp [q_rd, q_rdS, q_rdR, q_rdSR]
theorem xSea_h (N : qMem) : xSea N 10 0 0 = 0 ∧ xSea N 10 0 1 = 0 ∧ xSea N 11 0 = N 5 0 ∧ xSea N 12 0 = N 6 0 ∧ xSea N 14 0 = N 7 0 ∧ xSea N 13 0 = (fun _ => 0) ∧ xSea N 15 0 = (fun _ => 0) ∧ xSea N 16 0 = (fun _ => 0) ∧ xSea N 17 0 1 = 0 ∧ xSea N 17 0 2 = 0 := by
  unfold xSea xOpen xSBec
  refine ⟨?_, ?_, ?_, ?_, ?_, ?_, ?_, ?_, ?_, ?_⟩ <;> simp [q_rd, q_rdS, q_rdR, q_rdSR]
theorem xSea_o (N : qMem) : xSea N 26 0 1 = N 26 0 1 ∧ xSea N 26 0 2 = 0 ∧ xSea N 28 0 0 = 0 ∧ xSea N 28 1 0 = 0 ∧ xSea N 29 0 2 = 0 ∧ xSea N 32 0 2 = 0 := by
  unfold xSea xOpen xSBec
  refine ⟨?_, ?_, ?_, ?_, ?_, ?_⟩ <;> simp [q_rd, q_rdS, q_rdR, q_rdSR]
theorem xSea_ok {N : qMem} {R : sRd} {Z : sZ} {m n : Int} (hX : rX N R) (hB : rB R) (hZ : xZ N m n Z) : xS (xSea N) (rSd R) ∧ xZ (xSea N) (R 1 0) (R 2 0) (zNew Z R) ∧ xIm (xSea N) (R 1 0) (R 2 0) (zNew Z R) 0 ∧ xIm (xSea N) (R 1 0) (R 2 0) (zNew Z R) 1 := by
  obtain ⟨-, z2, z3, z4, z5⟩ := hZ
  have hr := rRw_rr hB
  obtain ⟨a1, a2, a3, a4, a5, a6, a7⟩ := hX
  obtain ⟨-, b2, b3, -⟩ := hB
  obtain ⟨s1, s2, s3, s4, s5, s6⟩ := xSea_s N
  obtain ⟨t1, t2, t3, t4, t5, t6, t7, t8, t9, t10⟩ := xSea_h N
  obtain ⟨o1, o2, o3, o4, o5, o6⟩ := xSea_o N
  have n0 : ∀ j, j < 2 ∨ 20 ≤ j → rRw R j = 0 := by
    intro j hj
    unfold rRw
    rw [if_neg (by omega), if_neg (by omega), if_neg (by omega)]
  have e00 : zNew Z R 0 0 = rRw R := by funext c; simp [zNew]
  have e20 : zNew Z R 2 0 0 = Z 2 0 0 := by simp [zNew]
  have e21 : zNew Z R 2 0 1 = 0 := by simp [zNew]
  have e22 : zNew Z R 2 0 2 = Z 2 0 2 := by simp [zNew]
  refine ⟨?_, ⟨⟨?_, ?_⟩, ?_, ?_, fun k a b => ?_, ?_⟩, ⟨?_, Or.inl ?_⟩, ⟨?_, Or.inl ?_⟩⟩
  · unfold xS rSd
    simp
    rw [s1, s2, s3, s4, s5, s6]
    exact ⟨a1, a2, a3, fun c x y => (a4 c x y).1, fun c x y => (a5 c x y).2, fun c x y => a6 c x y⟩
  · rw [e00]
    unfold xH
    rw [t1, t2, t3, t4, t5, t6, t7, t8, t9, t10, n0 0 (by omega), n0 1 (by omega), n0 98 (by omega)]
    refine ⟨rfl, rfl, fun h x y => ?_, fun c x y => ⟨?_, ?_, ?_⟩, fun c h x y z w => ⟨fun _ => ⟨(n0 _ (by omega)).symm, (n0 _ (by omega)).symm⟩, fun _ => rfl⟩, rfl, by omega, fun i k x y => by omega⟩
    · unfold rRw
      rw [if_pos (by omega), show 2 + h - 2 = h by omega]
      exact (a5 h x y).1
    · unfold rRw
      rw [if_neg (by omega), if_pos (by omega), show 8 + c - 8 = c by omega]
      exact (a4 c x y).2.2
    · unfold rRw
      rw [if_neg (by omega), if_neg (by omega), if_pos (by omega), show 14 + c - 14 = c by omega]
      exact (a4 c x y).2.1
    · exact (n0 _ (by omega)).symm
  · rw [e00]; exact hr
  · rw [e20, o1]; exact z2
  · rw [e21, o2]; omega
  · rw [e21] at b; omega
  · rw [e22, xSea_fr N (by omega) (by omega) (by decide) (by decide) (by decide) (by decide)]; exact z5
  · rw [show ((0 : Nat) : Int) = 0 from rfl, o3]; simp [zNew]
  · simp [zNew]
  · rw [o4]; simp [zNew]
  · simp [zNew]
