/-! the low 31 bits, draws, days, images -/
theorem q_and31 (z : Int) : qAnd z 2147483647 = z % 2147483648 := by
  have hb : (Int32.ofInt z &&& Int32.ofInt 2147483647).toBitVec = BitVec.ofInt 32 z &&& 2147483647#32 := by
    rw [Int32.toBitVec_and]
    rfl
  have h1 : (BitVec.ofInt 32 z &&& 2147483647#32).toNat = (z % 2147483648).toNat := by
    rw [BitVec.toNat_and, BitVec.toNat_ofInt, show (2147483647#32).toNat = 2 ^ 31 - 1 from rfl, Nat.and_two_pow_sub_one_eq_mod]
    omega
  unfold qAnd
  rw [← Int32.toInt_toBitVec, hb, BitVec.toInt_eq_toNat_of_lt (by rw [h1]; omega), h1]
  omega
def zDraw (Z : sZ) : sZ := zSeed Z ((Z 2 0 2 * 1103515245 + 12345) % 2147483648)
def zVal (Z : sZ) (n : Int) : Int := Z 2 0 2 / 65536 % n
def zLbd (sd : sSD) (Z : sZ) : sZ := if 0 < sd 4 0 ∧ 0 < sd 5 0 then zRow (zDraw (zDraw (zDraw Z))) (vVisit sd (Z 0 0) (zVal (zDraw Z) (sd 4 0)) (zVal (zDraw (zDraw Z)) (sd 5 0)) (zVal (zDraw (zDraw (zDraw Z))) 48)) else Z
def zDay1 (n : Int) (Z : sZ) : sZ := zRow Z (vDay n (Z 0 0))
def zDays (n : Int) (Z : sZ) : Nat → sZ
  | 0 => Z
  | k + 1 => zDay1 n (zRem (zDays n Z k))
def zDrift (sd : sSD) (Z : sZ) : Nat → sZ
  | 0 => Z
  | k + 1 => zDay1 (sd 5 0) (zLbd sd (zLbd sd (zRem (zDrift sd Z k))))
theorem zDraw_r (Z : sZ) : zDraw Z 0 0 = Z 0 0 := by funext c; simp [zDraw, zSeed]
theorem zLbd_0 (sd : sSD) (Z : sZ) : zLbd sd Z 0 0 0 = Z 0 0 0 := by
  unfold zLbd
  split
  · rename_i hq
    have b1 : 0 ≤ zVal (zDraw Z) (sd 4 0) := Int.emod_nonneg _ (by omega)
    have b2 : 0 ≤ zVal (zDraw (zDraw Z)) (sd 5 0) := Int.emod_nonneg _ (by omega)
    simp [zRow, vVisit, vEnter]
    split
    · unfold vWel; rw [if_neg (by omega), if_neg (by omega), if_neg (by omega), if_neg (by omega)]
    · rfl
  · rfl
theorem zRem_r (Z : sZ) : zRem Z 0 0 = Z 0 0 := by funext c; simp [zRem]
theorem zDay1_0 (n : Int) (Z : sZ) : zDay1 n Z 0 0 0 = Z 0 0 0 + 1 := by simp [zDay1, zRow, vDay]
theorem zDays_0 (n : Int) (Z : sZ) (k : Nat) : zDays n Z k 0 0 0 = Z 0 0 0 + k := by
  induction k with
  | zero => simp [zDays]
  | succ k ih => rw [zDays, zDay1_0, zRem_r, ih]; omega
theorem zDrift_0 (sd : sSD) (Z : sZ) (k : Nat) : zDrift sd Z k 0 0 0 = Z 0 0 0 + k := by
  induction k with
  | zero => simp [zDrift]
  | succ k ih => rw [zDrift, zDay1_0, zLbd_0, zLbd_0, zRem_r, ih]; omega
theorem xZ_seed {M : qMem} {m n : Int} {Z : sZ} (hZ : xZ M m n Z) {s : Int} (hs : 0 ≤ s ∧ s ≤ 2147483647) : xZ (qUp M 0 0 11 s) m n (zSeed Z s) ∧ xDP M (qUp M 0 0 11 s) := by
  obtain ⟨⟨z1, z1'⟩, z2, z3, z4, z5⟩ := hZ
  have fr : ∀ j u, j ≠ 0 → qUp M 0 0 11 s j u = M j u := by intro j u hj; simp only [q_rdR]; simp [hj]
  have e00 : zSeed Z s 0 0 = Z 0 0 := by funext c; simp [zSeed]
  have e1 : ∀ b, zSeed Z s 1 b = Z 1 b := by intro b; funext c; simp [zSeed]
  have e20 : zSeed Z s 2 0 0 = Z 2 0 0 := by simp [zSeed]
  have e21 : zSeed Z s 2 0 1 = Z 2 0 1 := by simp [zSeed]
  have e22 : zSeed Z s 2 0 2 = s := by simp [zSeed]
  refine ⟨⟨⟨?_, ?_⟩, ?_, ?_, fun k a b => ?_, ?_⟩, fun j u a b c => fr j u a⟩
  · rw [e00]; exact xH_fr (fun j h1 h2 => fr j _ (by omega)) z1
  · rw [e00]; exact z1'
  · rw [e20, fr 26 0 (by decide)]; exact z2
  · rw [e21, fr 26 0 (by decide)]; exact z3
  · rw [e21] at b
    rw [e20, e1]
    exact ⟨xH_fr (fun j h1 h2 => fr j _ (by omega)) (z4 k a b).1, (z4 k a b).2⟩
  · rw [e22]; exact ⟨by simp [q_rd], hs⟩
theorem xDay_fr (M : qMem) (n : Int) {j u : Nat} (h : ¬ (10 ≤ j ∧ j ≤ 18 ∧ u = 0)) : xDay M 0 n j u = M j u := by
  unfold xDay
  simp only [q_rdR, q_rdPR]
  by_cases hu : u = 0
  · simp [show ¬ j = 10 by omega, show ¬ j = 14 by omega]
  · simp [hu]
theorem xZ_day {M : qMem} {m n : Int} {Z : sZ} (hZ : xZ M m n Z) (hm : m ≤ 6) (hn : 0 ≤ n ∧ n ≤ 6) (hd : Z 0 0 0 < 90030) : xZ (xDay M 0 n) m n (zDay1 n Z) ∧ xDP M (xDay M 0 n) := by
  obtain ⟨z1, z1'⟩ := hZ.1
  exact ⟨xZ_row hZ (xH_day z1 z1' hm hn) (sRR_day z1' hm hn hd) (fun j u a1 a2 a3 => xDay_fr M n (by omega)) (xDay_fr M n (by omega)) (by rw [xDay_fr M n (by omega)]), fun j u a1 a2 a3 => xDay_fr M n (by omega)⟩
/-! what calls answer and leave -/
def dVisit (sd : sSD) (Z : sZ) (c h a : Int) : Int × sZ := if (0 ≤ c ∧ c < sd 4 0) ∧ (0 ≤ h ∧ h < sd 5 0) then (if 0 ≤ a ∧ a < 48 then (sAns sd (Z 0 0) c h a, zRow (zRem Z) (vVisit sd (Z 0 0) c h a)) else (-1000000002, Z)) else (-1000000001, Z)
def dNo (sd : sSD) (Z : sZ) (k : Int) : Int := if 1 ≤ k ∧ k ≤ 30 then (if sd 0 0 = -1 then -1000000003 else if 90000 < Z 0 0 0 then -1000000004 else 0) else -1000000002
def dDay (sd : sSD) (Z : sZ) (k : Int) : Int × sZ := if dNo sd Z k = 0 then (Z 0 0 0 + k, zDays (sd 5 0) Z k.toNat) else (dNo sd Z k, Z)
def dDrift (sd : sSD) (Z : sZ) (k : Int) : Int × sZ := if dNo sd Z k = 0 then (Z 0 0 0 + k, zDrift sd Z k.toNat) else (dNo sd Z k, Z)
def dMean (sd : sSD) (Z : sZ) (c z : Int) : Int × sZ := if 0 ≤ c ∧ c < sd 4 0 then (if 0 ≤ z ∧ z ≤ 7 then (Z 0 0 (8 + c), zRow (zRem Z) (vSet (Z 0 0) (8 + c) z)) else (-1000000002, Z)) else (-1000000001, Z)
def dStuff (sd : sSD) (Z : sZ) (c z : Int) : Int × sZ := if 0 ≤ c ∧ c < sd 4 0 then (if 0 ≤ z ∧ z ≤ 9 then (Z 0 0 (14 + c), zRow (zRem Z) (vSet (Z 0 0) (14 + c) z)) else (-1000000002, Z)) else (-1000000001, Z)
def dPard (sd : sSD) (Z : sZ) (c h : Int) : Int × sZ := if (0 ≤ c ∧ c < sd 4 0) ∧ (0 ≤ h ∧ h < sd 5 0) then (if sHas (Z 0 0 (92 + c)) h then (Z 0 0 (20 + (6 * c + h)), zRow (zRem Z) (vPard (Z 0 0) c h)) else (-1000000003, Z)) else (-1000000001, Z)
def dUndo (Z : sZ) (k : Int) : Int × sZ := if 1 ≤ k ∧ k ≤ 30 then (if k ≤ Z 2 0 1 then (Z 1 (xPos (Z 2 0 0) k) 0, zBack Z k) else (-1000000003, Z)) else (-1000000002, Z)
def dSeed (Z : sZ) (s : Int) : Int × sZ := if 0 ≤ s then (Z 2 0 2, zSeed Z s) else (-1000000002, Z)
/-- an image: Z 3 i its row, Z 4 i: 0 kept, 1 the seed then -/
def zKeep (Z : sZ) (i : Int) : sZ := fun a b c => if a = 3 ∧ b = i then Z 0 0 c else if a = 4 ∧ b = i then (if c = 0 then 1 else if c = 1 then Z 2 0 2 else Z 4 i c) else if a = 2 then (if c = 1 then 0 else Z 2 0 c) else Z a b c
def zGo (Z : sZ) (i : Int) : sZ := fun a b c => if a = 0 then Z 3 i c else if a = 2 then (if c = 1 then 0 else if c = 2 then Z 4 i 1 else Z 2 0 c) else Z a b c
def xIm (M : qMem) (m n : Int) (Z : sZ) (i : Nat) : Prop := M 28 i 0 = Z 4 i 0 ∧ (Z 4 i 0 = 0 ∨ (Z 4 i 0 = 1 ∧ (xH M (31 + i) m n (Z 3 i) ∧ sRR m n (Z 3 i)) ∧ (M 28 i 1 = Z 4 i 1 ∧ 0 ≤ Z 4 i 1 ∧ Z 4 i 1 ≤ 2147483647)))
theorem xIm_fr {M N : qMem} {m n : Int} {Z W : sZ} {i : Nat} (h28 : N 28 i = M 28 i) (hh : ∀ j, 10 ≤ j → j ≤ 18 → N j (31 + i) = M j (31 + i)) (h3 : W 3 i = Z 3 i) (h4 : W 4 i = Z 4 i) (hx : xIm M m n Z i) : xIm N m n W i := by
  unfold xIm at *
  rw [h28, h3, h4]
  refine ⟨hx.1, hx.2.imp id (fun q => ⟨q.1, ⟨xH_fr hh q.2.1.1, q.2.1.2⟩, q.2.2⟩)⟩
theorem xIm_dp {M N : qMem} {m n : Int} {Z W : sZ} {i : Nat} (hp : xDP M N) (h3 : W 3 i = Z 3 i) (h4 : W 4 i = Z 4 i) (hx : xIm M m n Z i) : xIm N m n W i := xIm_fr (hp 28 i (by decide) (by decide) (by omega)) (fun j a b => hp j _ (by omega) (by omega) (by omega)) h3 h4 hx
/-- all deeds leave the images as they are -/
def zIm (Z W : sZ) : Prop := ∀ a, 3 ≤ a → W a = Z a
theorem zIm_row (Z : sZ) (v : Int → Int) : zIm Z (zRow Z v) := by intro a h; funext b c; unfold zRow; rw [if_neg (by omega)]
theorem zIm_rem (Z : sZ) : zIm Z (zRem Z) := by intro a h; funext b c; unfold zRem; rw [if_neg (by omega), if_neg (by omega)]
theorem zIm_back (Z : sZ) (k : Int) : zIm Z (zBack Z k) := by intro a h; funext b c; unfold zBack; rw [if_neg (by omega), if_neg (by omega)]
theorem zIm_seed (Z : sZ) (k : Int) : zIm Z (zSeed Z k) := by intro a h; funext b c; unfold zSeed; rw [if_neg (by omega)]
theorem zIm.rf {Z : sZ} : zIm Z Z := fun _ _ => rfl
theorem zIm.tr {Z W V : sZ} (h : zIm Z W) (k : zIm W V) : zIm Z V := fun a ha => (k a ha).trans (h a ha)
theorem zIm_lbd (sd : sSD) (Z : sZ) : zIm Z (zLbd sd Z) := by
  unfold zLbd
  split
  · exact (((zIm_seed _ _).tr (zIm_seed _ _)).tr (zIm_seed _ _)).tr (zIm_row _ _)
  · exact zIm.rf
theorem zIm_days (n : Int) (Z : sZ) (k : Nat) : zIm Z (zDays n Z k) := by
  induction k with
  | zero => exact zIm.rf
  | succ k ih => exact (ih.tr (zIm_rem _)).tr (zIm_row _ _)
theorem zIm_drift (sd : sSD) (Z : sZ) (k : Nat) : zIm Z (zDrift sd Z k) := by
  induction k with
  | zero => exact zIm.rf
  | succ k ih => exact (((ih.tr (zIm_rem _)).tr (zIm_lbd sd _)).tr (zIm_lbd sd _)).tr (zIm_row _ _)
/-- what a deed's call leaves -/
def xD (M : qMem) (sd : sSD) (d : Int × sZ) (r : Option Int) (N : qMem) : Prop := r = some d.1 ∧ xZ N (sd 4 0) (sd 5 0) d.2 ∧ xDP M N
