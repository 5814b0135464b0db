def sAllN (p : Int → Bool) : Nat → Bool
  | 0 => true
  | n + 1 => sAllN p n && p n
def sAll (p : Int → Bool) (i : Int) : Bool := sAllN p i.toNat
theorem sAll_0 (p : Int → Bool) : sAll p 0 = true := rfl
theorem sAll_s (p : Int → Bool) {i : Int} (h : 0 ≤ i) : sAll p (i + 1) = (sAll p i && p i) := by
  unfold sAll
  rw [show (i + 1).toNat = i.toNat + 1 by omega, sAllN, Int.toNat_of_nonneg h]
theorem sAll_iff (p : Int → Bool) {n : Int} (hn : 0 ≤ n) : sAll p n = true ↔ ∀ k, 0 ≤ k → k < n → p k = true := by
  have : ∀ m : Nat, sAllN p m = true ↔ ∀ k : Int, 0 ≤ k → k < m → p k = true := by
    intro m
    induction m with
    | zero => exact ⟨fun _ k h1 h2 => by omega, fun _ => rfl⟩
    | succ m ih =>
      rw [sAllN, Bool.and_eq_true, ih]
      constructor
      · rintro ⟨h1, h2⟩ k h3 h4
        by_cases hk : k < m
        · exact h1 k h3 hk
        · rw [show k = m by omega]; exact h2
      · intro h
        exact ⟨fun k h1 h2 => h k h1 (by omega), h m (by omega) (by omega)⟩
  unfold sAll
  rw [this, Int.toNat_of_nonneg hn]
theorem sAll_f {p : Int → Bool} {n k : Int} (h0 : 0 ≤ k) (h1 : k < n) (h : ¬ p k = true) : sAll p n = false := by
  by_cases ha : sAll p n = true
  · exact absurd ((sAll_iff p (by omega)).mp ha k h0 h1) h
  · exact Bool.eq_false_iff.mpr ha
theorem sAll_c {p p' : Int → Bool} {n : Int} (h : ∀ k, 0 ≤ k → k < n → p k = p' k) : sAll p n = sAll p' n := by
  unfold sAll
  have : ∀ m : Nat, (m : Int) ≤ n ∨ m = 0 → sAllN p m = sAllN p' m := by
    intro m
    induction m with
    | zero => intro _; rfl
    | succ m ih => intro hm; rw [sAllN, sAllN, ih (by omega), h m (by omega) (by omega)]
  exact this _ (by omega)
/-- a sign that fits what was seen -/
def sFits (np : Int) (pa va : Int → Int) (mn g : Int) : Bool := sAll (fun i => decide (sPart g (pa i) = va i)) np && decide (sSaid mn g)
/-- the sets of f 0 .. f (i-1) in one -/
def sOrN (f : Int → Int) : Nat → Int
  | 0 => 0
  | n + 1 => qOr (sOrN f n) (f n)
def sOr (f : Int → Int) (i : Int) : Int := sOrN f i.toNat
theorem sOr_0 (f : Int → Int) : sOr f 0 = 0 := rfl
theorem sOr_s (f : Int → Int) {i : Int} (h : 0 ≤ i) : sOr f (i + 1) = qOr (sOr f i) (f i) := by
  unfold sOr
  rw [show (i + 1).toNat = i.toNat + 1 by omega, sOrN, Int.toNat_of_nonneg h]
theorem q_or0 {x : Int} (h : qIn x) : qOr x 0 = x := by
  unfold qOr
  have : Int32.ofInt x ||| Int32.ofInt 0 = Int32.ofInt x := by
    rw [show Int32.ofInt 0 = 0 from rfl]
    exact Int32.or_zero
  rw [this, q_ti h]
theorem q_orA (x y z : Int) : qOr (qOr x y) z = qOr x (qOr y z) := by
  unfold qOr
  rw [Int32.ofInt_toInt, Int32.ofInt_toInt, Int32.or_assoc]
theorem q_orC (x y : Int) : qOr x y = qOr y x := by
  unfold qOr
  rw [Int32.or_comm]
theorem sOr_in (f : Int → Int) (i : Int) : qIn (sOr f i) := by
  unfold sOr
  cases i.toNat with
  | zero => exact q_in0
  | succ n => exact q_tin _
/-! the reads of halls that change -/
theorem xBec_off (M : qMem) (u w : Nat) {j : Nat} (h : j < 10 ∨ 18 < j) : xBec M u w j = M j := by
  funext u'
  unfold xBec
  simp only [q_rdR, q_rdSR]
  repeat (first | rw [if_neg (by omega)])
theorem xBec_3 (M : qMem) (u w : Nat) : xBec M u w 3 = M 3 := xBec_off M u w (by decide)
theorem xBec_26 (M : qMem) (u w : Nat) : xBec M u w 26 = M 26 := xBec_off M u w (by decide)
theorem xBec_0 (M : qMem) (u w : Nat) : xBec M u w 0 = M 0 := xBec_off M u w (by decide)
theorem xBec_28 (M : qMem) (u w : Nat) : xBec M u w 28 = M 28 := xBec_off M u w (by decide)
theorem q_bIff {p q : Prop} [Decidable p] [Decidable q] (h : p ↔ q) : qB p = qB q := by
  by_cases hp : p
  · rw [q_bT hp, q_bT (h.mp hp)]
  · rw [q_bF hp, q_bF (fun e => hp (h.mpr e))]
theorem q_bIn (p : Prop) [Decidable p] : qIn (qB p) := by rcases q_b01 p with h | h <;> omega
