def cSb (u : Nat) : Nat := if u = 0 then 20 else 1
def cHb (u : Nat) : Nat := if u = 0 then 8 else if u < 31 then 34 + 9 * (u - 1) else if u = 31 then 305 else 315
def cPos (j u : Nat) : Nat := match j with
  | 0 => 0
  | 1 => 18
  | 2 => 19
  | 3 => cSb u
  | 4 => cSb u + 1
  | 5 => cSb u + 2
  | 6 => cSb u + 3
  | 7 => cSb u + 4
  | 8 => cSb u + 5
  | 9 => cSb u + 6
  | 10 => cHb u
  | 11 => cHb u + 1
  | 12 => cHb u + 2
  | 13 => cHb u + 3
  | 14 => cHb u + 4
  | 15 => cHb u + 5
  | 16 => cHb u + 6
  | 17 => cHb u + 7
  | 18 => cHb u + 8
  | 19 => 17
  | 20 => 27
  | 21 => 28
  | 22 => 29
  | 23 => 30
  | 24 => 31
  | 26 => 32
  | 27 => 33
  | 28 => if u = 0 then 304 else 314
  | 29 => 324
  | 30 => 325
  | 31 => 326
  | 32 => 327
  | 33 => 328
  | 34 => 329
  | 35 => 330
  | 41 => 331
  | 49 => 332
  | 50 => 333
  | 51 => 334
  | 52 => 335
  | 53 => 336
  | 54 => 337
  | 58 => 338
  | 59 => 339
  | 60 => 340
  | 61 => 341
  | 62 => 342
  | 63 => 343
  | 64 => 344
  | 67 => 345
  | 70 => 346
  | 71 => 347
  | 73 => 348
  | 74 => 349
  | 75 => 350
  | 76 => 351
  | 77 => 352
  | _ => 0
def cM0 : qMem := fun j _ i => if j = 3 ∧ i = 0 then -1 else if j = 1 ∧ i = 4 then -1 else if j = 35 ∧ (i = 5 ∨ i = 15) then -1 else 0
def cG (g : qGm) (ad : Nat → Nat) : qGm := (g.1, g.2.1, fun j u => ad (cPos j u))
theorem c_row (g : qGm) (ad : Nat → Nat) {j u : Nat} (n : Nat) (hj : ∀ k : Int, cM0 j u k = 0) : qRow (cG g ad) cM0 j u n = cRw g n := by
  unfold qRow cRw
  have e : (fun k : Nat => Int32.ofInt (cM0 j u (k : Int))) = fun _ => 0 := funext (fun k => by rw [hj]; rfl)
  rw [e]
  rfl
theorem c_hall {g : qGm} {ad : Nat → Nat} {E : Nat → va_E} (h : cAll g ad E 0) (u : Nat) (hu : u < 33) : cHall g ad E (cHb u) := by
  obtain ⟨-, -, hB, -, -, -, -, pa, i0, i1, -, -⟩ := h
  unfold cHb
  by_cases e0 : u = 0
  · rw [if_pos e0]; exact hB
  · rw [if_neg e0]
    by_cases e1 : u < 31
    · rw [if_pos e1]
      have := pa.2.2 (u - 1) (by omega)
      rw [show 34 + 9 * (u - 1) = 0 + 32 + 2 + 9 * (u - 1) by omega]
      exact this
    · rw [if_neg e1]
      by_cases e2 : u = 31
      · rw [if_pos e2]; exact i0.2
      · rw [if_neg e2]; exact i1.2
set_option maxRecDepth 20000 in
set_option maxHeartbeats 4000000 in
theorem c_cell {g : qGm} {ad : Nat → Nat} {E : Nat → va_E} (hA : cAll g ad E 0) (hM : cMod g ad E 330) (j u : Nat) (hu : u < qCnt j) (h27 : j ≠ 27) : E (cPos j u) = qCell (cG g ad) cM0 j u := by
  obtain ⟨o0, s1, hB, tr, tx, s0, mt, pa, i0, i1, sn, bk⟩ := id hA
  have hj := q_cntLt hu
  obtain rfl | rfl | rfl | rfl | rfl | rfl | rfl | rfl | rfl | rfl | rfl | rfl | rfl | rfl | rfl | rfl | rfl | rfl | rfl | rfl | rfl | rfl | rfl | rfl | rfl | rfl | rfl | rfl | rfl | rfl | rfl | rfl | rfl | rfl | rfl | rfl | rfl | rfl | rfl | rfl | rfl | rfl | rfl | rfl | rfl | rfl | rfl | rfl | rfl | rfl | rfl | rfl | rfl | rfl | rfl | rfl | rfl | rfl | rfl | rfl | rfl | rfl | rfl | rfl | rfl | rfl | rfl | rfl | rfl | rfl | rfl | rfl | rfl | rfl | rfl | rfl | rfl | rfl : j = 0 ∨ j = 1 ∨ j = 2 ∨ j = 3 ∨ j = 4 ∨ j = 5 ∨ j = 6 ∨ j = 7 ∨ j = 8 ∨ j = 9 ∨ j = 10 ∨ j = 11 ∨ j = 12 ∨ j = 13 ∨ j = 14 ∨ j = 15 ∨ j = 16 ∨ j = 17 ∨ j = 18 ∨ j = 19 ∨ j = 20 ∨ j = 21 ∨ j = 22 ∨ j = 23 ∨ j = 24 ∨ j = 25 ∨ j = 26 ∨ j = 27 ∨ j = 28 ∨ j = 29 ∨ j = 30 ∨ j = 31 ∨ j = 32 ∨ j = 33 ∨ j = 34 ∨ j = 35 ∨ j = 36 ∨ j = 37 ∨ j = 38 ∨ j = 39 ∨ j = 40 ∨ j = 41 ∨ j = 42 ∨ j = 43 ∨ j = 44 ∨ j = 45 ∨ j = 46 ∨ j = 47 ∨ j = 48 ∨ j = 49 ∨ j = 50 ∨ j = 51 ∨ j = 52 ∨ j = 53 ∨ j = 54 ∨ j = 55 ∨ j = 56 ∨ j = 57 ∨ j = 58 ∨ j = 59 ∨ j = 60 ∨ j = 61 ∨ j = 62 ∨ j = 63 ∨ j = 64 ∨ j = 65 ∨ j = 66 ∨ j = 67 ∨ j = 68 ∨ j = 69 ∨ j = 70 ∨ j = 71 ∨ j = 72 ∨ j = 73 ∨ j = 74 ∨ j = 75 ∨ j = 76 ∨ j = 77 := by omega
  · obtain rfl : u = 0 := Nat.lt_one_iff.mp hu
    exact o0
  · obtain rfl : u = 0 := Nat.lt_one_iff.mp hu
    exact tx.1
  · obtain rfl : u = 0 := Nat.lt_one_iff.mp hu
    exact (tx.2).trans (c_row g ad 240 (fun _ => rfl)).symm
  · obtain rfl | rfl : u = 0 ∨ u = 1 := by have : u < 2 := hu; omega
    · exact s0.1
    · exact s1.1
  · obtain rfl | rfl : u = 0 ∨ u = 1 := by have : u < 2 := hu; omega
    · exact (s0.2.1).trans (c_row g ad 6 (fun _ => rfl)).symm
    · exact (s1.2.1).trans (c_row g ad 6 (fun _ => rfl)).symm
  · obtain rfl | rfl : u = 0 ∨ u = 1 := by have : u < 2 := hu; omega
    · exact (s0.2.2.1).trans (c_row g ad 6 (fun _ => rfl)).symm
    · exact (s1.2.2.1).trans (c_row g ad 6 (fun _ => rfl)).symm
  · obtain rfl | rfl : u = 0 ∨ u = 1 := by have : u < 2 := hu; omega
    · exact (s0.2.2.2.1).trans (c_row g ad 6 (fun _ => rfl)).symm
    · exact (s1.2.2.2.1).trans (c_row g ad 6 (fun _ => rfl)).symm
  · obtain rfl | rfl : u = 0 ∨ u = 1 := by have : u < 2 := hu; omega
    · exact (s0.2.2.2.2.1).trans (c_row g ad 6 (fun _ => rfl)).symm
    · exact (s1.2.2.2.2.1).trans (c_row g ad 6 (fun _ => rfl)).symm
  · obtain rfl | rfl : u = 0 ∨ u = 1 := by have : u < 2 := hu; omega
    · exact (s0.2.2.2.2.2.1).trans (c_row g ad 6 (fun _ => rfl)).symm
    · exact (s1.2.2.2.2.2.1).trans (c_row g ad 6 (fun _ => rfl)).symm
  · obtain rfl | rfl : u = 0 ∨ u = 1 := by have : u < 2 := hu; omega
    · exact (s0.2.2.2.2.2.2).trans (c_row g ad 48 (fun _ => rfl)).symm
    · exact (s1.2.2.2.2.2.2).trans (c_row g ad 48 (fun _ => rfl)).symm
  · have hh := c_hall hA u hu
    exact hh.1
  · have hh := c_hall hA u hu
    exact (hh.2.1).trans (c_row g ad 6 (fun _ => rfl)).symm
  · have hh := c_hall hA u hu
    exact (hh.2.2.1).trans (c_row g ad 6 (fun _ => rfl)).symm
  · have hh := c_hall hA u hu
    exact (hh.2.2.2.1).trans (c_row g ad 6 (fun _ => rfl)).symm
  · have hh := c_hall hA u hu
    exact (hh.2.2.2.2.1).trans (c_row g ad 6 (fun _ => rfl)).symm
  · have hh := c_hall hA u hu
    exact (hh.2.2.2.2.2.1).trans (c_row g ad 36 (fun _ => rfl)).symm
  · have hh := c_hall hA u hu
    exact (hh.2.2.2.2.2.2.1).trans (c_row g ad 36 (fun _ => rfl)).symm
  · have hh := c_hall hA u hu
    exact hh.2.2.2.2.2.2.2.1
  · have hh := c_hall hA u hu
    exact (hh.2.2.2.2.2.2.2.2).trans (c_row g ad 100 (fun _ => rfl)).symm
  · obtain rfl : u = 0 := Nat.lt_one_iff.mp hu
    exact tr
  · obtain rfl : u = 0 := Nat.lt_one_iff.mp hu
    exact mt.1
  · obtain rfl : u = 0 := Nat.lt_one_iff.mp hu
    exact (mt.2.1).trans (c_row g ad 36 (fun _ => rfl)).symm
  · obtain rfl : u = 0 := Nat.lt_one_iff.mp hu
    exact (mt.2.2.1).trans (c_row g ad 6 (fun _ => rfl)).symm
  · obtain rfl : u = 0 := Nat.lt_one_iff.mp hu
    exact (mt.2.2.2.1).trans (c_row g ad 6 (fun _ => rfl)).symm
  · obtain rfl : u = 0 := Nat.lt_one_iff.mp hu
    exact (mt.2.2.2.2).trans (c_row g ad 6 (fun _ => rfl)).symm
  · exact absurd hu (Nat.not_lt_zero _)
  · obtain rfl : u = 0 := Nat.lt_one_iff.mp hu
    exact pa.1
  · exact absurd rfl h27
  · obtain rfl | rfl : u = 0 ∨ u = 1 := by have : u < 2 := hu; omega
    · exact i0.1
    · exact i1.1
  · obtain rfl : u = 0 := Nat.lt_one_iff.mp hu
    exact sn.1
  · obtain rfl : u = 0 := Nat.lt_one_iff.mp hu
    exact (sn.2.1).trans (c_row g ad 6 (fun _ => rfl)).symm
  · obtain rfl : u = 0 := Nat.lt_one_iff.mp hu
    exact (sn.2.2).trans (c_row g ad 6 (fun _ => rfl)).symm
  · obtain rfl : u = 0 := Nat.lt_one_iff.mp hu
    exact bk.1
  · obtain rfl : u = 0 := Nat.lt_one_iff.mp hu
    exact (bk.2.1).trans (c_row g ad 20 (fun _ => rfl)).symm
  · obtain rfl : u = 0 := Nat.lt_one_iff.mp hu
    exact (bk.2.2).trans (c_row g ad 20 (fun _ => rfl)).symm
  · obtain rfl : u = 0 := Nat.lt_one_iff.mp hu
    exact hM.1
  · exact absurd hu (Nat.not_lt_zero _)
  · exact absurd hu (Nat.not_lt_zero _)
  · exact absurd hu (Nat.not_lt_zero _)
  · exact absurd hu (Nat.not_lt_zero _)
  · exact absurd hu (Nat.not_lt_zero _)
  · obtain rfl : u = 0 := Nat.lt_one_iff.mp hu
    exact (hM.2.1).trans (c_row g ad 240 (fun _ => rfl)).symm
  · exact absurd hu (Nat.not_lt_zero _)
  · exact absurd hu (Nat.not_lt_zero _)
  · exact absurd hu (Nat.not_lt_zero _)
  · exact absurd hu (Nat.not_lt_zero _)
  · exact absurd hu (Nat.not_lt_zero _)
  · exact absurd hu (Nat.not_lt_zero _)
  · exact absurd hu (Nat.not_lt_zero _)
  · obtain rfl : u = 0 := Nat.lt_one_iff.mp hu
    exact (hM.2.2.1).trans (c_row g ad 6 (fun _ => rfl)).symm
  · obtain rfl : u = 0 := Nat.lt_one_iff.mp hu
    exact (hM.2.2.2.1).trans (c_row g ad 6 (fun _ => rfl)).symm
  · obtain rfl : u = 0 := Nat.lt_one_iff.mp hu
    exact (hM.2.2.2.2.1).trans (c_row g ad 6 (fun _ => rfl)).symm
  · obtain rfl : u = 0 := Nat.lt_one_iff.mp hu
    exact (hM.2.2.2.2.2.1).trans (c_row g ad 6 (fun _ => rfl)).symm
  · obtain rfl : u = 0 := Nat.lt_one_iff.mp hu
    exact (hM.2.2.2.2.2.2.1).trans (c_row g ad 6 (fun _ => rfl)).symm
  · obtain rfl : u = 0 := Nat.lt_one_iff.mp hu
    exact (hM.2.2.2.2.2.2.2.1).trans (c_row g ad 48 (fun _ => rfl)).symm
  · exact absurd hu (Nat.not_lt_zero _)
  · exact absurd hu (Nat.not_lt_zero _)
  · exact absurd hu (Nat.not_lt_zero _)
  · obtain rfl : u = 0 := Nat.lt_one_iff.mp hu
    exact (hM.2.2.2.2.2.2.2.2.1).trans (c_row g ad 6 (fun _ => rfl)).symm
  · obtain rfl : u = 0 := Nat.lt_one_iff.mp hu
    exact (hM.2.2.2.2.2.2.2.2.2.1).trans (c_row g ad 6 (fun _ => rfl)).symm
  · obtain rfl : u = 0 := Nat.lt_one_iff.mp hu
    exact (hM.2.2.2.2.2.2.2.2.2.2.1).trans (c_row g ad 48 (fun _ => rfl)).symm
  · obtain rfl : u = 0 := Nat.lt_one_iff.mp hu
    exact (hM.2.2.2.2.2.2.2.2.2.2.2.1).trans (c_row g ad 199 (fun _ => rfl)).symm
  · obtain rfl : u = 0 := Nat.lt_one_iff.mp hu
    exact (hM.2.2.2.2.2.2.2.2.2.2.2.2.1).trans (c_row g ad 6 (fun _ => rfl)).symm
  · obtain rfl : u = 0 := Nat.lt_one_iff.mp hu
    exact (hM.2.2.2.2.2.2.2.2.2.2.2.2.2.1).trans (c_row g ad 6 (fun _ => rfl)).symm
  · obtain rfl : u = 0 := Nat.lt_one_iff.mp hu
    exact (hM.2.2.2.2.2.2.2.2.2.2.2.2.2.2.1).trans (c_row g ad 6 (fun _ => rfl)).symm
  · exact absurd hu (Nat.not_lt_zero _)
  · exact absurd hu (Nat.not_lt_zero _)
  · obtain rfl : u = 0 := Nat.lt_one_iff.mp hu
    exact (hM.2.2.2.2.2.2.2.2.2.2.2.2.2.2.2.1).trans (c_row g ad 5970 (fun _ => rfl)).symm
  · exact absurd hu (Nat.not_lt_zero _)
  · exact absurd hu (Nat.not_lt_zero _)
  · obtain rfl : u = 0 := Nat.lt_one_iff.mp hu
    exact (hM.2.2.2.2.2.2.2.2.2.2.2.2.2.2.2.2.1).trans (c_row g ad 6 (fun _ => rfl)).symm
  · obtain rfl : u = 0 := Nat.lt_one_iff.mp hu
    exact (hM.2.2.2.2.2.2.2.2.2.2.2.2.2.2.2.2.2.1).trans (c_row g ad 6 (fun _ => rfl)).symm
  · exact absurd hu (Nat.not_lt_zero _)
  · obtain rfl : u = 0 := Nat.lt_one_iff.mp hu
    exact (hM.2.2.2.2.2.2.2.2.2.2.2.2.2.2.2.2.2.2.1).trans (c_row g ad 20 (fun _ => rfl)).symm
  · obtain rfl : u = 0 := Nat.lt_one_iff.mp hu
    exact (hM.2.2.2.2.2.2.2.2.2.2.2.2.2.2.2.2.2.2.2.1).trans (c_row g ad 20 (fun _ => rfl)).symm
  · obtain rfl : u = 0 := Nat.lt_one_iff.mp hu
    exact hM.2.2.2.2.2.2.2.2.2.2.2.2.2.2.2.2.2.2.2.2.1
  · obtain rfl : u = 0 := Nat.lt_one_iff.mp hu
    exact (hM.2.2.2.2.2.2.2.2.2.2.2.2.2.2.2.2.2.2.2.2.2.1).trans (c_row g ad 398 (fun _ => rfl)).symm
  · obtain rfl : u = 0 := Nat.lt_one_iff.mp hu
    exact hM.2.2.2.2.2.2.2.2.2.2.2.2.2.2.2.2.2.2.2.2.2.2
theorem cAll.mv {g : qGm} {ad ad' : Nat → Nat} {E E' : Nat → va_E} {p : Nat} (h : cAll g ad E p) (ha : ∀ k, p ≤ k → k < p + 330 → ad' k = ad k) (he : ∀ k, p ≤ k → k < p + 330 → E' k = E k) : cAll g ad' E' p := by
  obtain ⟨o0, s1, hB, tr, tx, s0, mt, pa, i0, i1, sn, bk⟩ := h
  refine ⟨?_, s1.mv (fun k a b => ha k (by omega) (by omega)) (fun k a b => he k (by omega) (by omega)), hB.mv (fun k a b => ha k (by omega) (by omega)) (fun k a b => he k (by omega) (by omega)), ?_, tx.mv (fun k a b => ha k (by omega) (by omega)) (fun k a b => he k (by omega) (by omega)), s0.mv (fun k a b => ha k (by omega) (by omega)) (fun k a b => he k (by omega) (by omega)), ?_, pa.mv (fun k a b => ha k (by omega) (by omega)) (fun k a b => he k (by omega) (by omega)), i0.mv (fun k a b => ha k (by omega) (by omega)) (fun k a b => he k (by omega) (by omega)), i1.mv (fun k a b => ha k (by omega) (by omega)) (fun k a b => he k (by omega) (by omega)), sn.mv (fun k a b => ha k (by omega) (by omega)) (fun k a b => he k (by omega) (by omega)), bk.mv (fun k a b => ha k (by omega) (by omega)) (fun k a b => he k (by omega) (by omega))⟩
  · rw [he p (by omega) (by omega), ha (p + 18) (by omega) (by omega), ha (p + 20) (by omega) (by omega), ha (p + 1) (by omega) (by omega), ha (p + 8) (by omega) (by omega), ha (p + 17) (by omega) (by omega), ha (p + 27) (by omega) (by omega), ha (p + 32) (by omega) (by omega), ha (p + 304) (by omega) (by omega), ha (p + 314) (by omega) (by omega), ha (p + 324) (by omega) (by omega), ha (p + 327) (by omega) (by omega)]
    exact o0
  · rw [ha (p + 1) (by omega) (by omega), ha (p + 8) (by omega) (by omega)]
    exact tr.mv (fun k a b => ha k (by omega) (by omega)) (fun k a b => he k (by omega) (by omega))
  · rw [ha (p + 17) (by omega) (by omega)]
    exact mt.mv (fun k a b => ha k (by omega) (by omega)) (fun k a b => he k (by omega) (by omega))
theorem c_lt : ∀ q ∈ qIx, cPos q.1 q.2 < 353 := by decide +kernel
theorem c_find : ∀ q ∈ qIx, qIx.find? (fun r => cPos r.1 r.2 == cPos q.1 q.2) = some q := by decide +kernel
theorem c_inj {j u j' u' : Nat} (h : u < qCnt j) (h' : u' < qCnt j') (e : cPos j u = cPos j' u') : j = j' ∧ u = u' := by
  have h1 := c_find (j, u) (q_ixMem'.mpr h)
  have h2 := c_find (j', u') (q_ixMem'.mpr h')
  dsimp only at h1 h2
  rw [e] at h1
  have h3 := Option.some.inj (h1.symm.trans h2)
  exact ⟨congrArg Prod.fst h3, congrArg Prod.snd h3⟩
theorem c_refEq {cA : ClassId} {n : Nat} {f f' : Nat → Option Nat} (h : ∀ q, q < n → f q = f' q) : vp_cell cA (n, .inr (.inr (.inr (.inr f)))) = vp_cell cA (n, .inr (.inr (.inr (.inr f')))) := by
  rw [vp_cell_q, vp_cell_q]
  unfold arrV
  congr 2
  funext j
  show va_rf (f j.val) = va_rf (f' j.val)
  rw [h j.val j.isLt]
theorem c_wd {g : qGm} {ad : Nat → Nat} {E : Nat → va_E} {H : Heap} (hA : cAll g ad E 0) (hM : cMod g ad E 330) (hP : va_P g.1 qcl (cL ad 353 E) H) : qWd (cG g ad) cM0 H := by
  intro k q hq
  obtain ⟨j, u, h1, h2, rfl⟩ := q_wlAt hq
  have hp := hP (cPos j u) _ (cL_at (c_lt (j, u) (q_ixMem'.mpr h1)))
  by_cases e : j = 27
  · subst e
    obtain rfl : u = 0 := Nat.lt_one_iff.mp h1
    have ep : E (cPos 27 0) = _ := hA.2.2.2.2.2.2.2.1.2.1
    rw [ep] at hp
    refine Eq.trans (show H[ad (cPos 27 0)]? = some (vp_cell g.2.1.2.2.2 (30, .inr (.inr (.inr (.inr (fun k => if k < 30 then some (ad (0 + 32 + 2 + 9 * k)) else none)))))) from hp) (congrArg some (c_refEq (fun q hq => ?_)))
    rw [if_pos hq]
    show some (ad (0 + 32 + 2 + 9 * q)) = some (ad (cHb (q + 1)))
    unfold cHb
    rw [if_neg (by omega), if_pos (by omega), show 34 + 9 * (q + 1 - 1) = 0 + 32 + 2 + 9 * q by omega]
  · rw [c_cell hA hM j u h1 e] at hp
    exact hp
theorem c_dj {g : qGm} {A : Nat → Prop} {ad : Nat → Nat} {E : Nat → va_E} (hD : va_D A (cL ad 353 E)) : qDj (cG g ad) := by
  intro j u j' u' h h' e
  exact c_inj h h' (hD.1 _ _ _ _ (cL_at (c_lt (j, u) (q_ixMem'.mpr h))) (cL_at (c_lt (j', u') (q_ixMem'.mpr h'))) e)
theorem c_fr {g : qGm} {A : Nat → Prop} {ad : Nat → Nat} {E : Nat → va_E} (hD : va_D A (cL ad 353 E)) : ∀ q, qFr (cG g ad) q → A q := by
  rintro q ⟨j, u, h, rfl⟩
  exact hD.2 _ _ (cL_at (c_lt (j, u) (q_ixMem'.mpr h)))
theorem c_rg : qRg cM0 := by
  intro j u i
  unfold cM0
  split
  · decide
  · split
    · decide
    · split <;> decide
def cSd : sSD := fun a _ => if a = 0 then -1 else 0
theorem c_inv : qInv cM0 cSd := by
  refine ⟨⟨rfl, ⟨by decide, by decide⟩, rfl, fun k a b => ?_, rfl⟩, ⟨⟨⟨by decide, by decide⟩, ⟨by decide, by decide⟩, ⟨by decide, by decide⟩, fun c a b => ?_, fun c a b => ?_, fun c a b => ?_, fun _ => ⟨rfl, rfl⟩⟩, ⟨rfl, rfl, rfl, fun c a b => ?_, fun c a b => ?_, fun c a b => ?_⟩, ⟨rfl, rfl, rfl, fun c a b => ?_, fun c a b => ?_, fun c a b => ?_⟩, ⟨⟨⟨rfl, rfl, fun c a b => ?_, fun c a b => ?_, fun c h a b a' b' => ⟨fun q => ?_, fun _ => rfl⟩, rfl, ⟨by decide, by decide⟩, fun i k a b => ?_⟩, ⟨⟨by decide, by decide⟩, ⟨by decide, by decide⟩, fun c a b => ?_, fun c a b => ?_, fun c h a b => ?_, ⟨by decide, by decide⟩⟩⟩, ⟨rfl, by decide, by decide⟩, ⟨rfl, by decide, by decide⟩, fun k a b => ?_, ⟨rfl, by decide, by decide⟩⟩, ⟨rfl, Or.inl rfl⟩, ⟨rfl, Or.inl rfl⟩⟩, ⟨rfl, ⟨by decide, by decide⟩, fun k a b => ?_⟩, ⟨rfl, ⟨by decide, by decide⟩, fun k a b => ?_⟩⟩
  all_goals first | (have b' : _ < (0 : Int) := b; omega) | (have b' : _ < 8 * (0 : Int) := b; omega) | (have b' : _ ≤ (0 : Int) := b; omega) | (have b' : _ < (0 : Int) := q.1; omega)
