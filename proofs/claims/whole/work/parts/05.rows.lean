section QROWS2
variable {l : Launch} {g : qGm} {X : qCt} {M : qMem} {b : ByteArray} {own : String} {d pc : Nat} {ls : List (Nat × Value)} {st : List Value}
theorem q_in0 : qIn 0 := by omega
theorem q_icmp_eq (C : qCx l g X b own d) {x y : Int} {off : Int} (tgt : Nat) (hd : decode b pc = .ok (.if_icmp .eq off, 3)) (ht : (pc : Int) + off = (tgt : Int)) (hx : qIn x) (hy : qIn y)
    (kt : x = y → qV l g X M tgt ls st) (kf : ¬ (x = y) → qV l g X M (pc + 3) ls st) : qV l g X M pc ls (qI y :: qI x :: st) := by
  obtain ⟨p, e, R, s, m, args, below, meth, c, Q, A, nL, nc, ns⟩ := X
  intro H locs la hR hW hS hL
  exact lv_icmp_eq C.1 C.2.1 hd ht (fun h => kt (by first | exact (q_inj hx hy).mp h | exact fun e => h ((q_inj hx hy).mpr e)) H locs la hR hW hS hL) (fun h => kf (by first | exact fun e => h ((q_inj hx hy).mpr e) | exact fun e => e ((q_inj hx hy).mp h)) H locs la hR hW hS hL)
theorem q_if_eq (C : qCx l g X b own d) {x : Int} {off : Int} (tgt : Nat) (hd : decode b pc = .ok (.ifCond .eq off, 3)) (ht : (pc : Int) + off = (tgt : Int)) (hx : qIn x)
    (kt : x = 0 → qV l g X M tgt ls st) (kf : ¬ (x = 0) → qV l g X M (pc + 3) ls st) : qV l g X M pc ls (qI x :: st) := by
  obtain ⟨p, e, R, s, m, args, below, meth, c, Q, A, nL, nc, ns⟩ := X
  intro H locs la hR hW hS hL
  exact lv_if_eq C.1 C.2.1 hd ht (fun h => kt (by first | exact (q_inj hx q_in0).mp h | exact fun e => h ((q_inj hx q_in0).mpr e)) H locs la hR hW hS hL) (fun h => kf (by first | exact fun e => h ((q_inj hx q_in0).mpr e) | exact fun e => e ((q_inj hx q_in0).mp h)) H locs la hR hW hS hL)
theorem q_icmp_ne (C : qCx l g X b own d) {x y : Int} {off : Int} (tgt : Nat) (hd : decode b pc = .ok (.if_icmp .ne off, 3)) (ht : (pc : Int) + off = (tgt : Int)) (hx : qIn x) (hy : qIn y)
    (kt : x ≠ y → qV l g X M tgt ls st) (kf : ¬ (x ≠ y) → qV l g X M (pc + 3) ls st) : qV l g X M pc ls (qI y :: qI x :: st) := by
  obtain ⟨p, e, R, s, m, args, below, meth, c, Q, A, nL, nc, ns⟩ := X
  intro H locs la hR hW hS hL
  exact lv_icmp_ne C.1 C.2.1 hd ht (fun h => kt (by first | exact (q_inj hx hy).mp h | exact fun e => h ((q_inj hx hy).mpr e)) H locs la hR hW hS hL) (fun h => kf (by first | exact fun e => h ((q_inj hx hy).mpr e) | exact fun e => e ((q_inj hx hy).mp h)) H locs la hR hW hS hL)
theorem q_if_ne (C : qCx l g X b own d) {x : Int} {off : Int} (tgt : Nat) (hd : decode b pc = .ok (.ifCond .ne off, 3)) (ht : (pc : Int) + off = (tgt : Int)) (hx : qIn x)
    (kt : x ≠ 0 → qV l g X M tgt ls st) (kf : ¬ (x ≠ 0) → qV l g X M (pc + 3) ls st) : qV l g X M pc ls (qI x :: st) := by
  obtain ⟨p, e, R, s, m, args, below, meth, c, Q, A, nL, nc, ns⟩ := X
  intro H locs la hR hW hS hL
  exact lv_if_ne C.1 C.2.1 hd ht (fun h => kt (by first | exact (q_inj hx q_in0).mp h | exact fun e => h ((q_inj hx q_in0).mpr e)) H locs la hR hW hS hL) (fun h => kf (by first | exact fun e => h ((q_inj hx q_in0).mpr e) | exact fun e => e ((q_inj hx q_in0).mp h)) H locs la hR hW hS hL)
theorem q_icmp_lt (C : qCx l g X b own d) {x y : Int} {off : Int} (tgt : Nat) (hd : decode b pc = .ok (.if_icmp .lt off, 3)) (ht : (pc : Int) + off = (tgt : Int)) (hx : qIn x) (hy : qIn y)
    (kt : x < y → qV l g X M tgt ls st) (kf : ¬ (x < y) → qV l g X M (pc + 3) ls st) : qV l g X M pc ls (qI y :: qI x :: st) := by
  obtain ⟨p, e, R, s, m, args, below, meth, c, Q, A, nL, nc, ns⟩ := X
  intro H locs la hR hW hS hL
  exact lv_icmp_lt C.1 C.2.1 hd ht (fun h => kt (by first | exact (q_lt hx hy).mp h | exact fun e => h ((q_lt hx hy).mpr e)) H locs la hR hW hS hL) (fun h => kf (by first | exact fun e => h ((q_lt hx hy).mpr e) | exact fun e => h (fun e2 => e ((q_lt hx hy).mp e2))) H locs la hR hW hS hL)
theorem q_if_lt (C : qCx l g X b own d) {x : Int} {off : Int} (tgt : Nat) (hd : decode b pc = .ok (.ifCond .lt off, 3)) (ht : (pc : Int) + off = (tgt : Int)) (hx : qIn x)
    (kt : x < 0 → qV l g X M tgt ls st) (kf : ¬ (x < 0) → qV l g X M (pc + 3) ls st) : qV l g X M pc ls (qI x :: st) := by
  obtain ⟨p, e, R, s, m, args, below, meth, c, Q, A, nL, nc, ns⟩ := X
  intro H locs la hR hW hS hL
  exact lv_if_lt C.1 C.2.1 hd ht (fun h => kt (by first | exact (q_lt hx q_in0).mp h | exact fun e => h ((q_lt hx q_in0).mpr e)) H locs la hR hW hS hL) (fun h => kf (by first | exact fun e => h ((q_lt hx q_in0).mpr e) | exact fun e => h (fun e2 => e ((q_lt hx q_in0).mp e2))) H locs la hR hW hS hL)
theorem q_icmp_ge (C : qCx l g X b own d) {x y : Int} {off : Int} (tgt : Nat) (hd : decode b pc = .ok (.if_icmp .ge off, 3)) (ht : (pc : Int) + off = (tgt : Int)) (hx : qIn x) (hy : qIn y)
    (kt : y ≤ x → qV l g X M tgt ls st) (kf : ¬ (y ≤ x) → qV l g X M (pc + 3) ls st) : qV l g X M pc ls (qI y :: qI x :: st) := by
  obtain ⟨p, e, R, s, m, args, below, meth, c, Q, A, nL, nc, ns⟩ := X
  intro H locs la hR hW hS hL
  exact lv_icmp_ge C.1 C.2.1 hd ht (fun h => kt (by first | exact (q_le hy hx).mp h | exact fun e => h ((q_le hy hx).mpr e)) H locs la hR hW hS hL) (fun h => kf (by first | exact fun e => h ((q_le hy hx).mpr e) | exact fun e => h (fun e2 => e ((q_le hy hx).mp e2))) H locs la hR hW hS hL)
theorem q_if_ge (C : qCx l g X b own d) {x : Int} {off : Int} (tgt : Nat) (hd : decode b pc = .ok (.ifCond .ge off, 3)) (ht : (pc : Int) + off = (tgt : Int)) (hx : qIn x)
    (kt : 0 ≤ x → qV l g X M tgt ls st) (kf : ¬ (0 ≤ x) → qV l g X M (pc + 3) ls st) : qV l g X M pc ls (qI x :: st) := by
  obtain ⟨p, e, R, s, m, args, below, meth, c, Q, A, nL, nc, ns⟩ := X
  intro H locs la hR hW hS hL
  exact lv_if_ge C.1 C.2.1 hd ht (fun h => kt (by first | exact (q_le q_in0 hx).mp h | exact fun e => h ((q_le q_in0 hx).mpr e)) H locs la hR hW hS hL) (fun h => kf (by first | exact fun e => h ((q_le q_in0 hx).mpr e) | exact fun e => h (fun e2 => e ((q_le q_in0 hx).mp e2))) H locs la hR hW hS hL)
theorem q_icmp_gt (C : qCx l g X b own d) {x y : Int} {off : Int} (tgt : Nat) (hd : decode b pc = .ok (.if_icmp .gt off, 3)) (ht : (pc : Int) + off = (tgt : Int)) (hx : qIn x) (hy : qIn y)
    (kt : y < x → qV l g X M tgt ls st) (kf : ¬ (y < x) → qV l g X M (pc + 3) ls st) : qV l g X M pc ls (qI y :: qI x :: st) := by
  obtain ⟨p, e, R, s, m, args, below, meth, c, Q, A, nL, nc, ns⟩ := X
  intro H locs la hR hW hS hL
  exact lv_icmp_gt C.1 C.2.1 hd ht (fun h => kt (by first | exact (q_lt hy hx).mp h | exact fun e => h ((q_lt hy hx).mpr e)) H locs la hR hW hS hL) (fun h => kf (by first | exact fun e => h ((q_lt hy hx).mpr e) | exact fun e => h (fun e2 => e ((q_lt hy hx).mp e2))) H locs la hR hW hS hL)
theorem q_if_gt (C : qCx l g X b own d) {x : Int} {off : Int} (tgt : Nat) (hd : decode b pc = .ok (.ifCond .gt off, 3)) (ht : (pc : Int) + off = (tgt : Int)) (hx : qIn x)
    (kt : 0 < x → qV l g X M tgt ls st) (kf : ¬ (0 < x) → qV l g X M (pc + 3) ls st) : qV l g X M pc ls (qI x :: st) := by
  obtain ⟨p, e, R, s, m, args, below, meth, c, Q, A, nL, nc, ns⟩ := X
  intro H locs la hR hW hS hL
  exact lv_if_gt C.1 C.2.1 hd ht (fun h => kt (by first | exact (q_lt q_in0 hx).mp h | exact fun e => h ((q_lt q_in0 hx).mpr e)) H locs la hR hW hS hL) (fun h => kf (by first | exact fun e => h ((q_lt q_in0 hx).mpr e) | exact fun e => h (fun e2 => e ((q_lt q_in0 hx).mp e2))) H locs la hR hW hS hL)
theorem q_icmp_le (C : qCx l g X b own d) {x y : Int} {off : Int} (tgt : Nat) (hd : decode b pc = .ok (.if_icmp .le off, 3)) (ht : (pc : Int) + off = (tgt : Int)) (hx : qIn x) (hy : qIn y)
    (kt : x ≤ y → qV l g X M tgt ls st) (kf : ¬ (x ≤ y) → qV l g X M (pc + 3) ls st) : qV l g X M pc ls (qI y :: qI x :: st) := by
  obtain ⟨p, e, R, s, m, args, below, meth, c, Q, A, nL, nc, ns⟩ := X
  intro H locs la hR hW hS hL
  exact lv_icmp_le C.1 C.2.1 hd ht (fun h => kt (by first | exact (q_le hx hy).mp h | exact fun e => h ((q_le hx hy).mpr e)) H locs la hR hW hS hL) (fun h => kf (by first | exact fun e => h ((q_le hx hy).mpr e) | exact fun e => h (fun e2 => e ((q_le hx hy).mp e2))) H locs la hR hW hS hL)
theorem q_if_le (C : qCx l g X b own d) {x : Int} {off : Int} (tgt : Nat) (hd : decode b pc = .ok (.ifCond .le off, 3)) (ht : (pc : Int) + off = (tgt : Int)) (hx : qIn x)
    (kt : x ≤ 0 → qV l g X M tgt ls st) (kf : ¬ (x ≤ 0) → qV l g X M (pc + 3) ls st) : qV l g X M pc ls (qI x :: st) := by
  obtain ⟨p, e, R, s, m, args, below, meth, c, Q, A, nL, nc, ns⟩ := X
  intro H locs la hR hW hS hL
  exact lv_if_le C.1 C.2.1 hd ht (fun h => kt (by first | exact (q_le hx q_in0).mp h | exact fun e => h ((q_le hx q_in0).mpr e)) H locs la hR hW hS hL) (fun h => kf (by first | exact fun e => h ((q_le hx q_in0).mpr e) | exact fun e => h (fun e2 => e ((q_le hx q_in0).mp e2))) H locs la hR hW hS hL)
/-- a truth value as a number -/
def qB (p : Prop) [Decidable p] : Int := if p then 1 else 0
theorem q_bT {p : Prop} [Decidable p] (h : p) : qB p = 1 := if_pos h
theorem q_bF {p : Prop} [Decidable p] (h : ¬ p) : qB p = 0 := if_neg h
theorem q_b01 (p : Prop) [Decidable p] : qB p = 0 ∨ qB p = 1 := by unfold qB; split <;> simp
theorem q_ifeqB (C : qCx l g X b own d) {p : Prop} [Decidable p] {off : Int} (tgt : Nat) (hd : decode b pc = .ok (.ifCond .eq off, 3)) (ht : (pc : Int) + off = (tgt : Int))
    (kt : ¬ p → qV l g X M tgt ls st) (kf : p → qV l g X M (pc + 3) ls st) : qV l g X M pc ls (qI (qB p) :: st) := by
  refine q_if_eq C tgt hd ht (by rcases q_b01 p with h | h <;> omega) (fun h => kt (fun hp => ?_)) (fun h => kf ?_)
  · rw [q_bT hp] at h; cases h
  · by_cases hp : p
    · exact hp
    · exact absurd (q_bF hp) h
theorem q_ifneB (C : qCx l g X b own d) {p : Prop} [Decidable p] {off : Int} (tgt : Nat) (hd : decode b pc = .ok (.ifCond .ne off, 3)) (ht : (pc : Int) + off = (tgt : Int))
    (kt : p → qV l g X M tgt ls st) (kf : ¬ p → qV l g X M (pc + 3) ls st) : qV l g X M pc ls (qI (qB p) :: st) := by
  refine q_if_ne C tgt hd ht (by rcases q_b01 p with h | h <;> omega) (fun h => kt ?_) (fun h => kf (fun hp => ?_))
  · by_cases hp : p
    · exact hp
    · exact absurd (q_bF hp) h
  · exact h (by rw [q_bT hp]; decide)
theorem q_idiv (C : qCx l g X b own d) {x y : Int} (hd : decode b pc = .ok (.idiv, 1)) (hx : 0 ≤ x) (hx2 : x ≤ 2147483647) (hy : 0 < y) (hy2 : y ≤ 2147483647) (k : qV l g X M (pc + 1) ls (qI (x / y) :: st)) : qV l g X M pc ls (qI y :: qI x :: st) := by
  obtain ⟨p, e, R, s, m, args, below, meth, c, Q, A, nL, nc, ns⟩ := X
  intro H locs la hR hW hS hL
  refine lv_idiv C.1 C.2.1 hd (fun h => ?_) ?_
  · have := (q_inj (a := y) (b := 0) ⟨by omega, by omega⟩ q_in0).mp h
    omega
  · have e1 : Int32.ofInt x / Int32.ofInt y = Int32.ofInt (x / y) := by
      rw [← Int.tdiv_eq_ediv_of_nonneg hx]
      exact (Int32.ofInt_tdiv (by show (-2147483648 : Int) ≤ x; omega) (by show x ≤ (2147483647 : Int); omega) (by show (-2147483648 : Int) ≤ y; omega) (by show y ≤ (2147483647 : Int); omega)).symm
    rw [e1]
    exact k H locs la hR hW hS hL
theorem q_irem (C : qCx l g X b own d) {x y : Int} (hd : decode b pc = .ok (.irem, 1)) (hx : 0 ≤ x) (hx2 : x ≤ 2147483647) (hy : 0 < y) (hy2 : y ≤ 2147483647) (k : qV l g X M (pc + 1) ls (qI (x % y) :: st)) : qV l g X M pc ls (qI y :: qI x :: st) := by
  obtain ⟨p, e, R, s, m, args, below, meth, c, Q, A, nL, nc, ns⟩ := X
  intro H locs la hR hW hS hL
  refine lv_irem C.1 C.2.1 hd (fun h => ?_) ?_
  · have := (q_inj (a := y) (b := 0) ⟨by omega, by omega⟩ q_in0).mp h
    omega
  · have e1 : Int32.ofInt x / Int32.ofInt y = Int32.ofInt (x / y) := by
      rw [← Int.tdiv_eq_ediv_of_nonneg hx]
      exact (Int32.ofInt_tdiv (by show (-2147483648 : Int) ≤ x; omega) (by show x ≤ (2147483647 : Int); omega) (by show (-2147483648 : Int) ≤ y; omega) (by show y ≤ (2147483647 : Int); omega)).symm
    rw [e1, ← Int32.ofInt_mul, ← Int32.ofInt_sub]
    have e2 : x - x / y * y = x % y := by
      have := Int.mul_ediv_add_emod x y
      rw [Int.mul_comm]; omega
    rw [e2]
    exact k H locs la hR hW hS hL
/-- the other operations, as they are -/
def qAnd (x y : Int) : Int := (Int32.ofInt x &&& Int32.ofInt y).toInt
def qOr (x y : Int) : Int := (Int32.ofInt x ||| Int32.ofInt y).toInt
def qXor (x y : Int) : Int := (Int32.ofInt x ^^^ Int32.ofInt y).toInt
def qShl (x y : Int) : Int := (Int32.ofInt x <<< (Int32.ofInt y &&& 31)).toInt
def qShr (x y : Int) : Int := (Int32.ofInt x >>> (Int32.ofInt y &&& 31)).toInt
def qUshr (x y : Int) : Int := ((Int32.ofInt x).toUInt32 >>> ((Int32.ofInt y).toUInt32 &&& Int32.toUInt32 31)).toInt32.toInt
theorem q_andIn (x y : Int) : qIn (qAnd x y) := q_tin _
theorem q_orIn (x y : Int) : qIn (qOr x y) := q_tin _
theorem q_xorIn (x y : Int) : qIn (qXor x y) := q_tin _
theorem q_shlIn (x y : Int) : qIn (qShl x y) := q_tin _
theorem q_shrIn (x y : Int) : qIn (qShr x y) := q_tin _
theorem q_ushrIn (x y : Int) : qIn (qUshr x y) := q_tin _
theorem q_iand (C : qCx l g X b own d) {x y : Int} (hd : decode b pc = .ok (.iand, 1)) (k : qV l g X M (pc + 1) ls (qI (qAnd x y) :: st)) : qV l g X M pc ls (qI y :: qI x :: st) := by
  obtain ⟨p, e, R, s, m, args, below, meth, c, Q, A, nL, nc, ns⟩ := X
  intro H locs la hR hW hS hL
  refine lv_iand C.1 C.2.1 hd ?_
  have := k H locs la hR hW hS hL
  rw [qI, qAnd, Int32.ofInt_toInt] at this
  exact this
theorem q_ior (C : qCx l g X b own d) {x y : Int} (hd : decode b pc = .ok (.ior, 1)) (k : qV l g X M (pc + 1) ls (qI (qOr x y) :: st)) : qV l g X M pc ls (qI y :: qI x :: st) := by
  obtain ⟨p, e, R, s, m, args, below, meth, c, Q, A, nL, nc, ns⟩ := X
  intro H locs la hR hW hS hL
  refine lv_ior C.1 C.2.1 hd ?_
  have := k H locs la hR hW hS hL
  rw [qI, qOr, Int32.ofInt_toInt] at this
  exact this
theorem q_ixor (C : qCx l g X b own d) {x y : Int} (hd : decode b pc = .ok (.ixor, 1)) (k : qV l g X M (pc + 1) ls (qI (qXor x y) :: st)) : qV l g X M pc ls (qI y :: qI x :: st) := by
  obtain ⟨p, e, R, s, m, args, below, meth, c, Q, A, nL, nc, ns⟩ := X
  intro H locs la hR hW hS hL
  refine lv_ixor C.1 C.2.1 hd ?_
  have := k H locs la hR hW hS hL
  rw [qI, qXor, Int32.ofInt_toInt] at this
  exact this
theorem q_ishl (C : qCx l g X b own d) {x y : Int} (hd : decode b pc = .ok (.ishl, 1)) (k : qV l g X M (pc + 1) ls (qI (qShl x y) :: st)) : qV l g X M pc ls (qI y :: qI x :: st) := by
  obtain ⟨p, e, R, s, m, args, below, meth, c, Q, A, nL, nc, ns⟩ := X
  intro H locs la hR hW hS hL
  refine lv_ishl C.1 C.2.1 hd ?_
  have := k H locs la hR hW hS hL
  rw [qI, qShl, Int32.ofInt_toInt] at this
  exact this
theorem q_ishr (C : qCx l g X b own d) {x y : Int} (hd : decode b pc = .ok (.ishr, 1)) (k : qV l g X M (pc + 1) ls (qI (qShr x y) :: st)) : qV l g X M pc ls (qI y :: qI x :: st) := by
  obtain ⟨p, e, R, s, m, args, below, meth, c, Q, A, nL, nc, ns⟩ := X
  intro H locs la hR hW hS hL
  refine lv_ishr C.1 C.2.1 hd ?_
  have := k H locs la hR hW hS hL
  rw [qI, qShr, Int32.ofInt_toInt] at this
  exact this
theorem q_iushr (C : qCx l g X b own d) {x y : Int} (hd : decode b pc = .ok (.iushr, 1)) (k : qV l g X M (pc + 1) ls (qI (qUshr x y) :: st)) : qV l g X M pc ls (qI y :: qI x :: st) := by
  obtain ⟨p, e, R, s, m, args, below, meth, c, Q, A, nL, nc, ns⟩ := X
  intro H locs la hR hW hS hL
  exact lv_iushr C.1 C.2.1 hd (by rw [qUshr, Int32.ofInt_toInt]) (k H locs la hR hW hS hL)
theorem q_tsIn (C : qCx l g X b own d) {dflt lo hi : Int} {offs : Array Int} {len : Nat} {x : Int} {off : Int} (tgt : Nat) (hd : decode b pc = .ok (.tableswitch dflt lo hi offs, len)) (hx : qIn x) (h1 : ¬ x < lo) (h2 : ¬ hi < x) (ho : offs[(x - lo).toNat]? = some off) (ht : (pc : Int) + off = (tgt : Int)) (k : qV l g X M tgt ls st) : qV l g X M pc ls (qI x :: st) := by
  obtain ⟨p, e, R, s, m, args, below, meth, c, Q, A, nL, nc, ns⟩ := X
  intro H locs la hR hW hS hL
  exact lv_tableIn C.1 C.2.1 hd (by rw [q_ti hx]; exact h1) (by rw [q_ti hx]; exact h2) (by rw [q_ti hx]; exact ho) ht (k H locs la hR hW hS hL)
theorem q_tsOut (C : qCx l g X b own d) {dflt lo hi : Int} {offs : Array Int} {len : Nat} {x : Int} (tgt : Nat) (hd : decode b pc = .ok (.tableswitch dflt lo hi offs, len)) (hx : qIn x) (h : x < lo ∨ hi < x) (ht : (pc : Int) + dflt = (tgt : Int)) (k : qV l g X M tgt ls st) : qV l g X M pc ls (qI x :: st) := by
  obtain ⟨p, e, R, s, m, args, below, meth, c, Q, A, nL, nc, ns⟩ := X
  intro H locs la hR hW hS hL
  exact lv_tableOut C.1 C.2.1 hd (by rw [q_ti hx]; exact h) ht (k H locs la hR hW hS hL)
theorem q_lsw (C : qCx l g X b own d) {dflt : Int} {ps : Array (Int × Int)} {len : Nat} {x : Int} {off : Int} (tgt : Nat) (hd : decode b pc = .ok (.lookupswitch dflt ps, len)) (hp : (ps.toList.zip (ps.toList.drop 1)).all (fun (a, next) => a.1 < next.1) = true) (hx : qIn x) (ho : Op.lookupswitch.offset ps.toList dflt x = off) (ht : (pc : Int) + off = (tgt : Int)) (k : qV l g X M tgt ls st) : qV l g X M pc ls (qI x :: st) := by
  obtain ⟨p, e, R, s, m, args, below, meth, c, Q, A, nL, nc, ns⟩ := X
  intro H locs la hR hW hS hL
  exact lv_lookup C.1 C.2.1 hd hp (by rw [q_ti hx]; exact ho) ht (k H locs la hR hW hS hL)
theorem q_i2l (C : qCx l g X b own d) {x : Int} (hx : qIn x) (hd : decode b pc = .ok (.i2l, 1)) (k : qV l g X M (pc + 1) ls (qJ x :: st)) : qV l g X M pc ls (qI x :: st) := by
  obtain ⟨p, e, R, s, m, args, below, meth, c, Q, A, nL, nc, ns⟩ := X
  intro H locs la hR hW hS hL
  exact lv_i2l C.1 C.2.1 hd (Int32.toInt64_ofInt (by show (-2147483648 : Int) ≤ x; omega) (by show x ≤ (2147483647 : Int); omega)) (k H locs la hR hW hS hL)
theorem q_l2i (C : qCx l g X b own d) {x : Int} (hd : decode b pc = .ok (.l2i, 1)) (k : qV l g X M (pc + 1) ls (qI x :: st)) : qV l g X M pc ls (qJ x :: st) := by
  obtain ⟨p, e, R, s, m, args, below, meth, c, Q, A, nL, nc, ns⟩ := X
  intro H locs la hR hW hS hL
  exact lv_l2i C.1 C.2.1 hd Int64.toInt32_ofInt (k H locs la hR hW hS hL)
theorem q_lmul (C : qCx l g X b own d) {x y : Int} (hd : decode b pc = .ok (.lmul, 1)) (k : qV l g X M (pc + 1) ls (qJ (x * y) :: st)) : qV l g X M pc ls (qJ y :: qJ x :: st) := by
  obtain ⟨p, e, R, s, m, args, below, meth, c, Q, A, nL, nc, ns⟩ := X
  intro H locs la hR hW hS hL
  exact lv_lmul C.1 C.2.1 hd (by rw [← Int64.ofInt_mul]; exact k H locs la hR hW hS hL)
theorem q_ladd (C : qCx l g X b own d) {x y : Int} (hd : decode b pc = .ok (.ladd, 1)) (k : qV l g X M (pc + 1) ls (qJ (x + y) :: st)) : qV l g X M pc ls (qJ y :: qJ x :: st) := by
  obtain ⟨p, e, R, s, m, args, below, meth, c, Q, A, nL, nc, ns⟩ := X
  intro H locs la hR hW hS hL
  exact lv_ladd C.1 C.2.1 hd (by rw [← Int64.ofInt_add]; exact k H locs la hR hW hS hL)
theorem q_lne {y : Int} (hy : 0 < y) (hy2 : y ≤ 9223372036854775807) : ¬ Int64.ofInt y = 0 := fun h => by
  have := congrArg Int64.toInt h
  rw [q_tj (by omega) hy2] at this
  have h0 : (0 : Int64).toInt = 0 := by decide
  omega
theorem q_ldq {x y : Int} (hx : 0 ≤ x) (hx2 : x ≤ 9223372036854775807) (hy : 0 < y) (hy2 : y ≤ 9223372036854775807) : Int64.ofInt x / Int64.ofInt y = Int64.ofInt (x / y) := by
  rw [← Int.tdiv_eq_ediv_of_nonneg hx]
  exact (Int64.ofInt_tdiv (by show (-9223372036854775808 : Int) ≤ x; omega) (by show x ≤ (9223372036854775807 : Int); omega) (by show (-9223372036854775808 : Int) ≤ y; omega) (by show y ≤ (9223372036854775807 : Int); omega)).symm
theorem q_ldiv (C : qCx l g X b own d) {x y : Int} (hd : decode b pc = .ok (.ldiv, 1)) (hx : 0 ≤ x) (hx2 : x ≤ 9223372036854775807) (hy : 0 < y) (hy2 : y ≤ 9223372036854775807) (k : qV l g X M (pc + 1) ls (qJ (x / y) :: st)) : qV l g X M pc ls (qJ y :: qJ x :: st) := by
  obtain ⟨p, e, R, s, m, args, below, meth, c, Q, A, nL, nc, ns⟩ := X
  intro H locs la hR hW hS hL
  refine lv_ldiv C.1 C.2.1 hd (q_lne hy hy2) ?_
  rw [q_ldq hx hx2 hy hy2]
  exact k H locs la hR hW hS hL
theorem q_lrem (C : qCx l g X b own d) {x y : Int} (hd : decode b pc = .ok (.lrem, 1)) (hx : 0 ≤ x) (hx2 : x ≤ 9223372036854775807) (hy : 0 < y) (hy2 : y ≤ 9223372036854775807) (k : qV l g X M (pc + 1) ls (qJ (x % y) :: st)) : qV l g X M pc ls (qJ y :: qJ x :: st) := by
  obtain ⟨p, e, R, s, m, args, below, meth, c, Q, A, nL, nc, ns⟩ := X
  intro H locs la hR hW hS hL
  refine lv_lrem C.1 C.2.1 hd (q_lne hy hy2) ?_
  rw [q_ldq hx hx2 hy hy2, ← Int64.ofInt_mul, ← Int64.ofInt_sub]
  have e2 : x - x / y * y = x % y := by
    have := Int.mul_ediv_add_emod x y
    rw [Int.mul_comm]; omega
  rw [e2]
  exact k H locs la hR hW hS hL
/-- a long local at place 3 (and 4): the listed places below 3 stay -/
theorem q_lstore3 (C : qCx l g X b own d) {z : Int} {ls' : List (Nat × Value)} (hd : decode b pc = .ok (.lstore_n 3, 1)) {nl : Nat} (hn : qNL X = nl) (hi : 4 < nl) (hl : qLs ls ls') (hb : ls'.all (fun q => q.1 != 3 && q.1 != 4 && q.2.category == 1) = true) (k : qV l g X M (pc + 1) ((3, qJ z) :: ls') st) : qV l g X M pc ls (qJ z :: st) := by
  subst hn
  obtain ⟨p, e, R, s, m, args, below, meth, c, Q, A, nL, nc, ns⟩ := X
  intro H locs la hR hW hS hL
  have hL2 : lv_has la nL ls' := by
    refine ⟨hL.1, hL.2.1, fun q hq => ?_⟩
    clear hb k
    induction ls' with
    | nil => cases hq
    | cons a r ih =>
      rcases List.mem_cons.mp hq with rfl | h
      · exact hL.2.2 _ _ hl.1
      · exact ih hl.2 h
  refine lv_lstore_n (lv' := (3, qJ z) :: ls') C.1 C.2.1 hd rfl hL2 hi ?_ (fun la' h => k H locs la' hR hW hS ⟨h.1, h.2.1, fun kk v hk => ?_⟩)
  · congr 1
    refine List.filter_eq_self.mpr (fun q hq => ?_)
    have := List.all_eq_true.mp hb q hq
    simp only [Bool.and_eq_true, bne_iff_ne, ne_eq, beq_iff_eq] at this
    obtain ⟨⟨h1, h2⟩, h3⟩ := this
    simp [h3]
    exact ⟨h1, h2⟩
  · have : ∀ (ls : List (Nat × Value)) (k : Nat) (v : Value), qLg ls k = some v → (k, v) ∈ ls := by
      intro ls
      induction ls with
      | nil => intro k v h; cases h
      | cons q r ih =>
        intro k v h
        rcases qLg_cons (i := q.1) (v := q.2) h with ⟨rfl, rfl⟩ | ⟨-, h⟩
        · exact List.mem_cons_self
        · exact List.mem_cons_of_mem _ (ih k v h)
    exact h.2.2 (kk, v) (this _ _ _ hk)
end QROWS2
