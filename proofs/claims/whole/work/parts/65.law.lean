/-! the law: script b of L ints xs -/
def lCx (X : qCt) (b L : Nat) (xs : Nat → Int32) : Prop := match X with
  | (_, _, _, s, _, _, _, _, _, _, A, _, _, _) => va_X b L xs s s.heap ∧ b < s.heap.size ∧ ¬ A b
def lSc (xs : Nat → Int32) (i : Int) : Int := (xs i.toNat).toInt
theorem lSc_in (xs : Nat → Int32) (i : Int) : qIn (lSc xs i) := q_tin _
abbrev lwL (g : qGm) (b : Nat) (i : Int) : List (Nat × Value) := [(0, .ref b), (1, qR g 0 0), (2, qR g 35 0), (3, qI i)]
theorem q_sld {l : Launch} {g : qGm} {X : qCt} {M : qMem} {b0 : ByteArray} {own : String} {d pc : Nat} {ls : List (Nat × Value)} {st : List Value} (C : qCx l g X b0 own d) {b L : Nat} {xs : Nat → Int32} (D : lCx X b L xs) {i : Int} (h0 : 0 ≤ i) (h1 : i < L) (hL : L ≤ 320) (hd : decode b0 pc = .ok (.iaload, 1)) (k : qV l g X M (pc + 1) ls (qI (lSc xs i) :: st)) : qV l g X M pc ls (qI i :: .ref b :: st) := by
  obtain ⟨p, e, R, s, m, args, below, meth, c, Q, A, nL, nc, ns⟩ := X
  intro H locs la hR hW hS hl
  refine va_sld C.1 C.2.1 D.1 D.2.1 D.2.2 hS (q_vin h0 h1 (by omega)) hd ?_
  have := k H locs la hR hW hS hl
  rw [qI, lSc, Int32.ofInt_toInt] at this
  rw [q_cl h0 (by omega)]
  exact this
theorem q_slen {l : Launch} {g : qGm} {X : qCt} {M : qMem} {b0 : ByteArray} {own : String} {d pc : Nat} {ls : List (Nat × Value)} {st : List Value} (C : qCx l g X b0 own d) {b L : Nat} {xs : Nat → Int32} (D : lCx X b L xs) (hd : decode b0 pc = .ok (.arraylength, 1)) (k : qV l g X M (pc + 1) ls (qI (L : Int) :: st)) : qV l g X M pc ls (.ref b :: st) := by
  obtain ⟨p, e, R, s, m, args, below, meth, c, Q, A, nL, nc, ns⟩ := X
  intro H locs la hR hW hS hl
  refine va_slen C.1 C.2.1 D.1 D.2.1 D.2.2 hS hd ?_
  have := k H locs la hR hW hS hl
  rw [qI, Int32.ofInt_eq_ofNat] at this
  exact this
