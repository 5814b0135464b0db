/-! bits of small numbers, by trying all -/
theorem q_fin48 {p : Int → Prop} (h : ∀ k : Nat, k < 48 → p k) {g : Int} (h0 : 0 ≤ g) (h1 : g < 48) : p g := by
  obtain ⟨k, rfl⟩ := Int.eq_ofNat_of_zero_le h0
  exact h k (by omega)
theorem q_fin {p : Int → Prop} {N : Nat} (h : ∀ k : Nat, k < N → p k) {g : Int} (h0 : 0 ≤ g) (h1 : g < N) : p g := by
  obtain ⟨k, rfl⟩ := Int.eq_ofNat_of_zero_le h0
  exact h k (by omega)
theorem q_fin2 {p : Int → Int → Prop} {N K : Nat} (h : ∀ k : Nat, k < N → ∀ j : Nat, j < K → p k j) {a b : Int} (h0 : 0 ≤ a) (h1 : a < N) (h2 : 0 ≤ b) (h3 : b < K) : p a b := by
  obtain ⟨k, rfl⟩ := Int.eq_ofNat_of_zero_le h0
  obtain ⟨j, rfl⟩ := Int.eq_ofNat_of_zero_le h2
  exact h k (by omega) j (by omega)
theorem q_and1 {g : Int} (h0 : 0 ≤ g) (h1 : g < 48) : qAnd g 1 = g % 2 := q_fin (p := fun g => qAnd g 1 = g % 2) (N := 48) (by decide +kernel) h0 h1
theorem q_and2 {g : Int} (h0 : 0 ≤ g) (h1 : g < 48) : qAnd g 2 = 2 * (g / 2 % 2) := q_fin (p := fun g => qAnd g 2 = 2 * (g / 2 % 2)) (N := 48) (by decide +kernel) h0 h1
theorem q_and4 {g : Int} (h0 : 0 ≤ g) (h1 : g < 48) : qAnd g 4 = 4 * (g / 4 % 2) := q_fin (p := fun g => qAnd g 4 = 4 * (g / 4 % 2)) (N := 48) (by decide +kernel) h0 h1
theorem q_and8 {g : Int} (h0 : 0 ≤ g) (h1 : g < 48) : qAnd g 8 = 8 * (g / 8 % 2) := q_fin (p := fun g => qAnd g 8 = 8 * (g / 8 % 2)) (N := 48) (by decide +kernel) h0 h1
theorem q_and15 {g : Int} (h0 : 0 ≤ g) (h1 : g < 48) : qAnd g 15 = g % 16 := q_fin (p := fun g => qAnd g 15 = g % 16) (N := 48) (by decide +kernel) h0 h1
/-- part k of a sign -/
def sPart (g k : Int) : Int := if k = 4 then g / 16 else g / 2 ^ k.toNat % 2
theorem q_shr1 {g k : Int} (h0 : 0 ≤ g) (h1 : g < 64) (h2 : 0 ≤ k) (h3 : k < 8) : qAnd (qShr g k) 1 = g / 2 ^ k.toNat % 2 := q_fin2 (p := fun g k => qAnd (qShr g k) 1 = g / 2 ^ k.toNat % 2) (N := 64) (K := 8) (by decide +kernel) h0 h1 h2 h3
/-- what a sign means -/
def sMean (g : Int) : Int := if g / 16 = 2 then 7 else g % 2 + g / 2 % 2 + 3 * (g / 4 % 2) + g / 8 % 2
/-- said, by these manners -/
abbrev sSaid (mn g : Int) : Prop := mn = 0 ∨ (mn = 1 ∧ (g / 4 % 2 = 0 ∨ g / 16 = 1)) ∨ (mn = 2 ∧ ¬ (g % 2 = 1 ∧ g / 2 % 2 = 1) ∧ ¬ (g / 8 % 2 = 1 ∧ g / 16 = 2))
theorem sMean_in {g : Int} (h0 : 0 ≤ g) (h1 : g < 48) : 0 ≤ sMean g ∧ sMean g ≤ 7 := by
  unfold sMean
  split <;> omega
/-- a place of a set -/
abbrev sHas (s k : Int) : Prop := s / 2 ^ k.toNat % 2 = 1
def sAdd (s k : Int) : Int := qOr s (qShl 1 k)
def sDel (s k : Int) : Int := qAnd s (qXor (qShl 1 k) (-1))
theorem q_fin3 {p : Int → Int → Int → Prop} {N K L : Nat} (h : ∀ k : Nat, k < N → ∀ j : Nat, j < K → ∀ i : Nat, i < L → p k j i) {a b c : Int} (h0 : 0 ≤ a) (h1 : a < N) (h2 : 0 ≤ b) (h3 : b < K) (h4 : 0 ≤ c) (h5 : c < L) : p a b c := by
  obtain ⟨k, rfl⟩ := Int.eq_ofNat_of_zero_le h0
  obtain ⟨j, rfl⟩ := Int.eq_ofNat_of_zero_le h2
  obtain ⟨i, rfl⟩ := Int.eq_ofNat_of_zero_le h4
  exact h k (by omega) j (by omega) i (by omega)
theorem q_addIn {s k : Int} (h0 : 0 ≤ s) (h1 : s < 64) (h2 : 0 ≤ k) (h3 : k < 6) : 0 ≤ sAdd s k ∧ sAdd s k < 64 := q_fin2 (p := fun s k => 0 ≤ sAdd s k ∧ sAdd s k < 64) (N := 64) (K := 6) (by decide +kernel) h0 h1 h2 h3
theorem q_delIn {s k : Int} (h0 : 0 ≤ s) (h1 : s < 64) (h2 : 0 ≤ k) (h3 : k < 6) : 0 ≤ sDel s k ∧ sDel s k < 64 := q_fin2 (p := fun s k => 0 ≤ sDel s k ∧ sDel s k < 64) (N := 64) (K := 6) (by decide +kernel) h0 h1 h2 h3
theorem q_addHas {s k j : Int} (h0 : 0 ≤ s) (h1 : s < 64) (h2 : 0 ≤ k) (h3 : k < 6) (h4 : 0 ≤ j) (h5 : j < 6) : sAdd s k / 2 ^ j.toNat % 2 = 1 ↔ (j = k ∨ s / 2 ^ j.toNat % 2 = 1) := q_fin3 (p := fun s k j => sAdd s k / 2 ^ j.toNat % 2 = 1 ↔ (j = k ∨ s / 2 ^ j.toNat % 2 = 1)) (N := 64) (K := 6) (L := 6) (by decide +kernel) h0 h1 h2 h3 h4 h5
theorem q_delHas {s k j : Int} (h0 : 0 ≤ s) (h1 : s < 64) (h2 : 0 ≤ k) (h3 : k < 6) (h4 : 0 ≤ j) (h5 : j < 6) : sDel s k / 2 ^ j.toNat % 2 = 1 ↔ (j ≠ k ∧ s / 2 ^ j.toNat % 2 = 1) := q_fin3 (p := fun s k j => sDel s k / 2 ^ j.toNat % 2 = 1 ↔ (j ≠ k ∧ s / 2 ^ j.toNat % 2 = 1)) (N := 64) (K := 6) (L := 6) (by decide +kernel) h0 h1 h2 h3 h4 h5
/-- how many are in a set -/
def sPop (s : Int) : Int := s % 2 + s / 2 % 2 + s / 4 % 2 + s / 8 % 2 + s / 16 % 2 + s / 32 % 2
theorem q_popIn {s : Int} (h0 : 0 ≤ s) (h1 : s < 64) : 0 ≤ sPop s ∧ sPop s ≤ 6 := by unfold sPop; omega
theorem q_nat : Cond.native arraycopyName ∈ qtb := q_mt 467 (by decide +kernel) (by decide +kernel)
theorem q_sta : Cond.static arraycopyName ∈ qtb := q_mt 466 (by decide +kernel) (by decide +kernel)
theorem q_sin : Cond.initialized "java/lang/System" ∈ qtb := q_mt 79 (by decide +kernel) (by decide +kernel)
def sMax (a b : Int) : Int := if a < b then b else a
def sMin (a b : Int) : Int := if b < a then b else a
theorem sMax_l (a b : Int) : a ≤ sMax a b ∧ b ≤ sMax a b ∧ (sMax a b = a ∨ sMax a b = b) := by unfold sMax; split <;> omega
theorem sMin_l (a b : Int) : sMin a b ≤ a ∧ sMin a b ≤ b ∧ (sMin a b = a ∨ sMin a b = b) := by unfold sMin; split <;> omega
section QMATH
variable {l : Launch} {g : qGm} {X : qCt} {M : qMem} {b : ByteArray} {own : String} {d pc : Nat} {ls : List (Nat × Value)} {st : List Value}
theorem q_mmax (C : qCx l g X b own d) {idx : Nat} {x y : Int} (hm : Cond.methodLink own idx yJ9_max_7cf53 ∈ qtb) (hx : qIn x) (hy : qIn y) (hdd : 1 ≤ d) (hrest : (st.map fun v => v.category).sum ≤ 8) (hd : decode b pc = .ok (.invokestatic idx, 3)) (k : qIn (sMax x y) → qV l g X M (pc + 3) ls (qI (sMax x y) :: st)) : qV l g X M pc ls (qI y :: qI x :: st) := by
  obtain ⟨p, e, R, s, m, args, below, meth, c, Q, A, nL, nc, ns⟩ := X
  intro H locs la hR hW hS hL
  have hf := C.2.2.2.2.2.1
  have hk := k (by have := sMax_l x y; omega) H locs la hR hW hS hL
  refine va_mmax C.1 C.2.1 (C.2.2.1.trans hL.1.symm) C.2.2.2.1 (C.2.2.2.2.1 _ hm) (C.2.2.2.2.1 _ q_st_yJ9_max_7cf53) (C.2.2.2.2.1 _ q_in_RJ9) (C.2.2.2.2.1 _ q_cd_yJ9_max_7cf53) (by omega) (by omega) C.2.2.2.2.2.2.2.2.2.2.1 C.2.2.2.2.2.2.2.2.2.2.2 hd ?_
  have e1 : (if Int32.ofInt x < Int32.ofInt y then Int32.ofInt y else Int32.ofInt x) = Int32.ofInt (sMax x y) := by
    unfold sMax
    by_cases h : x < y
    · rw [if_pos h, if_pos ((q_lt hx hy).mpr h)]
    · rw [if_neg h, if_neg (fun e => h ((q_lt hx hy).mp e))]
  rw [e1]
  exact hk
theorem q_mmin (C : qCx l g X b own d) {idx : Nat} {x y : Int} (hm : Cond.methodLink own idx yJ9_min_7cf53 ∈ qtb) (hx : qIn x) (hy : qIn y) (hdd : 1 ≤ d) (hrest : (st.map fun v => v.category).sum ≤ 8) (hd : decode b pc = .ok (.invokestatic idx, 3)) (k : qIn (sMin x y) → qV l g X M (pc + 3) ls (qI (sMin x y) :: st)) : qV l g X M pc ls (qI y :: qI x :: st) := by
  obtain ⟨p, e, R, s, m, args, below, meth, c, Q, A, nL, nc, ns⟩ := X
  intro H locs la hR hW hS hL
  have hf := C.2.2.2.2.2.1
  have hk := k (by have := sMin_l x y; omega) H locs la hR hW hS hL
  refine va_mmin C.1 C.2.1 (C.2.2.1.trans hL.1.symm) C.2.2.2.1 (C.2.2.2.2.1 _ hm) (C.2.2.2.2.1 _ q_st_yJ9_min_7cf53) (C.2.2.2.2.1 _ q_in_RJ9) (C.2.2.2.2.1 _ q_cd_yJ9_min_7cf53) (by omega) (by omega) C.2.2.2.2.2.2.2.2.2.2.1 C.2.2.2.2.2.2.2.2.2.2.2 hd ?_
  have e1 : (if Int32.ofInt y < Int32.ofInt x then Int32.ofInt y else Int32.ofInt x) = Int32.ofInt (sMin x y) := by
    unfold sMin
    by_cases h : y < x
    · rw [if_pos h, if_pos ((q_lt hy hx).mpr h)]
    · rw [if_neg h, if_neg (fun e => h ((q_lt hy hx).mp e))]
  rw [e1]
  exact hk
end QMATH
