section QTERN
variable {l : Launch} {g : qGm} {X : qCt} {M : qMem} {b : ByteArray} {own : String} {d pc : Nat} {ls : List (Nat × Value)} {st : List Value}
theorem q_bE {p : Prop} [Decidable p] {z : Int} (h : p → z = 1) (h2 : ¬ p → z = 0) : qB p = z := by
  by_cases hp : p
  · rw [q_bT hp, h hp]
  · rw [q_bF hp, h2 hp]
theorem q_tI_eq (C : qCx l g X b own d) {x y : Int} {off off2 : Int} (t e : Nat) (hd : decode b pc = .ok (.if_icmp .eq off, 3)) (h1 : decode b (pc + 3) = .ok (.iconst 1, 1)) (h2 : decode b (pc + 3 + 1) = .ok (.goto off2, 3)) (h3 : decode b t = .ok (.iconst 0, 1)) (ht : (pc : Int) + off = (t : Int)) (ht2 : ((pc + 3 + 1 : Nat) : Int) + off2 = (e : Int)) (he : t + 1 = e) (hx : qIn x) (hy : qIn y) (k : qV l g X M e ls (qI (qB (x ≠ y)) :: st)) : qV l g X M pc ls (qI y :: qI x :: st) := by
  subst he
  refine q_icmp_eq C t hd ht hx hy (fun h => q_iconst C h3 ?_) (fun h => q_iconst C h1 (q_goto C h2 ht2 ?_))
  · rw [q_bE (z := 0) (fun hp => by exfalso; omega) (fun _ => rfl)] at k; exact k
  · rw [q_bE (z := 1) (fun _ => rfl) (fun hp => by exfalso; omega)] at k; exact k
theorem q_tZ_eq (C : qCx l g X b own d) {x : Int} {off off2 : Int} (t e : Nat) (hd : decode b pc = .ok (.ifCond .eq off, 3)) (h1 : decode b (pc + 3) = .ok (.iconst 1, 1)) (h2 : decode b (pc + 3 + 1) = .ok (.goto off2, 3)) (h3 : decode b t = .ok (.iconst 0, 1)) (ht : (pc : Int) + off = (t : Int)) (ht2 : ((pc + 3 + 1 : Nat) : Int) + off2 = (e : Int)) (he : t + 1 = e) (hx : qIn x) (k : qV l g X M e ls (qI (qB (x ≠ 0)) :: st)) : qV l g X M pc ls (qI x :: st) := by
  subst he
  refine q_if_eq C t hd ht hx (fun h => q_iconst C h3 ?_) (fun h => q_iconst C h1 (q_goto C h2 ht2 ?_))
  · rw [q_bE (z := 0) (fun hp => by exfalso; omega) (fun _ => rfl)] at k; exact k
  · rw [q_bE (z := 1) (fun _ => rfl) (fun hp => by exfalso; omega)] at k; exact k
theorem q_tIn_eq (C : qCx l g X b own d) {x y : Int} {off off2 : Int} (t e : Nat) (hd : decode b pc = .ok (.if_icmp .eq off, 3)) (h1 : decode b (pc + 3) = .ok (.iconst 0, 1)) (h2 : decode b (pc + 3 + 1) = .ok (.goto off2, 3)) (h3 : decode b t = .ok (.iconst 1, 1)) (ht : (pc : Int) + off = (t : Int)) (ht2 : ((pc + 3 + 1 : Nat) : Int) + off2 = (e : Int)) (he : t + 1 = e) (hx : qIn x) (hy : qIn y) (k : qV l g X M e ls (qI (qB (x = y)) :: st)) : qV l g X M pc ls (qI y :: qI x :: st) := by
  subst he
  refine q_icmp_eq C t hd ht hx hy (fun h => q_iconst C h3 ?_) (fun h => q_iconst C h1 (q_goto C h2 ht2 ?_))
  · rw [q_bE (z := 1) (fun _ => rfl) (fun hp => by exfalso; omega)] at k; exact k
  · rw [q_bE (z := 0) (fun hp => by exfalso; omega) (fun _ => rfl)] at k; exact k
theorem q_tZn_eq (C : qCx l g X b own d) {x : Int} {off off2 : Int} (t e : Nat) (hd : decode b pc = .ok (.ifCond .eq off, 3)) (h1 : decode b (pc + 3) = .ok (.iconst 0, 1)) (h2 : decode b (pc + 3 + 1) = .ok (.goto off2, 3)) (h3 : decode b t = .ok (.iconst 1, 1)) (ht : (pc : Int) + off = (t : Int)) (ht2 : ((pc + 3 + 1 : Nat) : Int) + off2 = (e : Int)) (he : t + 1 = e) (hx : qIn x) (k : qV l g X M e ls (qI (qB (x = 0)) :: st)) : qV l g X M pc ls (qI x :: st) := by
  subst he
  refine q_if_eq C t hd ht hx (fun h => q_iconst C h3 ?_) (fun h => q_iconst C h1 (q_goto C h2 ht2 ?_))
  · rw [q_bE (z := 1) (fun _ => rfl) (fun hp => by exfalso; omega)] at k; exact k
  · rw [q_bE (z := 0) (fun hp => by exfalso; omega) (fun _ => rfl)] at k; exact k
theorem q_tI_ne (C : qCx l g X b own d) {x y : Int} {off off2 : Int} (t e : Nat) (hd : decode b pc = .ok (.if_icmp .ne off, 3)) (h1 : decode b (pc + 3) = .ok (.iconst 1, 1)) (h2 : decode b (pc + 3 + 1) = .ok (.goto off2, 3)) (h3 : decode b t = .ok (.iconst 0, 1)) (ht : (pc : Int) + off = (t : Int)) (ht2 : ((pc + 3 + 1 : Nat) : Int) + off2 = (e : Int)) (he : t + 1 = e) (hx : qIn x) (hy : qIn y) (k : qV l g X M e ls (qI (qB (x = y)) :: st)) : qV l g X M pc ls (qI y :: qI x :: st) := by
  subst he
  refine q_icmp_ne C t hd ht hx hy (fun h => q_iconst C h3 ?_) (fun h => q_iconst C h1 (q_goto C h2 ht2 ?_))
  · rw [q_bE (z := 0) (fun hp => by exfalso; omega) (fun _ => rfl)] at k; exact k
  · rw [q_bE (z := 1) (fun _ => rfl) (fun hp => by exfalso; omega)] at k; exact k
theorem q_tZ_ne (C : qCx l g X b own d) {x : Int} {off off2 : Int} (t e : Nat) (hd : decode b pc = .ok (.ifCond .ne off, 3)) (h1 : decode b (pc + 3) = .ok (.iconst 1, 1)) (h2 : decode b (pc + 3 + 1) = .ok (.goto off2, 3)) (h3 : decode b t = .ok (.iconst 0, 1)) (ht : (pc : Int) + off = (t : Int)) (ht2 : ((pc + 3 + 1 : Nat) : Int) + off2 = (e : Int)) (he : t + 1 = e) (hx : qIn x) (k : qV l g X M e ls (qI (qB (x = 0)) :: st)) : qV l g X M pc ls (qI x :: st) := by
  subst he
  refine q_if_ne C t hd ht hx (fun h => q_iconst C h3 ?_) (fun h => q_iconst C h1 (q_goto C h2 ht2 ?_))
  · rw [q_bE (z := 0) (fun hp => by exfalso; omega) (fun _ => rfl)] at k; exact k
  · rw [q_bE (z := 1) (fun _ => rfl) (fun hp => by exfalso; omega)] at k; exact k
theorem q_tIn_ne (C : qCx l g X b own d) {x y : Int} {off off2 : Int} (t e : Nat) (hd : decode b pc = .ok (.if_icmp .ne off, 3)) (h1 : decode b (pc + 3) = .ok (.iconst 0, 1)) (h2 : decode b (pc + 3 + 1) = .ok (.goto off2, 3)) (h3 : decode b t = .ok (.iconst 1, 1)) (ht : (pc : Int) + off = (t : Int)) (ht2 : ((pc + 3 + 1 : Nat) : Int) + off2 = (e : Int)) (he : t + 1 = e) (hx : qIn x) (hy : qIn y) (k : qV l g X M e ls (qI (qB (x ≠ y)) :: st)) : qV l g X M pc ls (qI y :: qI x :: st) := by
  subst he
  refine q_icmp_ne C t hd ht hx hy (fun h => q_iconst C h3 ?_) (fun h => q_iconst C h1 (q_goto C h2 ht2 ?_))
  · rw [q_bE (z := 1) (fun _ => rfl) (fun hp => by exfalso; omega)] at k; exact k
  · rw [q_bE (z := 0) (fun hp => by exfalso; omega) (fun _ => rfl)] at k; exact k
theorem q_tZn_ne (C : qCx l g X b own d) {x : Int} {off off2 : Int} (t e : Nat) (hd : decode b pc = .ok (.ifCond .ne off, 3)) (h1 : decode b (pc + 3) = .ok (.iconst 0, 1)) (h2 : decode b (pc + 3 + 1) = .ok (.goto off2, 3)) (h3 : decode b t = .ok (.iconst 1, 1)) (ht : (pc : Int) + off = (t : Int)) (ht2 : ((pc + 3 + 1 : Nat) : Int) + off2 = (e : Int)) (he : t + 1 = e) (hx : qIn x) (k : qV l g X M e ls (qI (qB (x ≠ 0)) :: st)) : qV l g X M pc ls (qI x :: st) := by
  subst he
  refine q_if_ne C t hd ht hx (fun h => q_iconst C h3 ?_) (fun h => q_iconst C h1 (q_goto C h2 ht2 ?_))
  · rw [q_bE (z := 1) (fun _ => rfl) (fun hp => by exfalso; omega)] at k; exact k
  · rw [q_bE (z := 0) (fun hp => by exfalso; omega) (fun _ => rfl)] at k; exact k
theorem q_tI_lt (C : qCx l g X b own d) {x y : Int} {off off2 : Int} (t e : Nat) (hd : decode b pc = .ok (.if_icmp .lt off, 3)) (h1 : decode b (pc + 3) = .ok (.iconst 1, 1)) (h2 : decode b (pc + 3 + 1) = .ok (.goto off2, 3)) (h3 : decode b t = .ok (.iconst 0, 1)) (ht : (pc : Int) + off = (t : Int)) (ht2 : ((pc + 3 + 1 : Nat) : Int) + off2 = (e : Int)) (he : t + 1 = e) (hx : qIn x) (hy : qIn y) (k : qV l g X M e ls (qI (qB (y ≤ x)) :: st)) : qV l g X M pc ls (qI y :: qI x :: st) := by
  subst he
  refine q_icmp_lt C t hd ht hx hy (fun h => q_iconst C h3 ?_) (fun h => q_iconst C h1 (q_goto C h2 ht2 ?_))
  · rw [q_bE (z := 0) (fun hp => by exfalso; omega) (fun _ => rfl)] at k; exact k
  · rw [q_bE (z := 1) (fun _ => rfl) (fun hp => by exfalso; omega)] at k; exact k
theorem q_tZ_lt (C : qCx l g X b own d) {x : Int} {off off2 : Int} (t e : Nat) (hd : decode b pc = .ok (.ifCond .lt off, 3)) (h1 : decode b (pc + 3) = .ok (.iconst 1, 1)) (h2 : decode b (pc + 3 + 1) = .ok (.goto off2, 3)) (h3 : decode b t = .ok (.iconst 0, 1)) (ht : (pc : Int) + off = (t : Int)) (ht2 : ((pc + 3 + 1 : Nat) : Int) + off2 = (e : Int)) (he : t + 1 = e) (hx : qIn x) (k : qV l g X M e ls (qI (qB (0 ≤ x)) :: st)) : qV l g X M pc ls (qI x :: st) := by
  subst he
  refine q_if_lt C t hd ht hx (fun h => q_iconst C h3 ?_) (fun h => q_iconst C h1 (q_goto C h2 ht2 ?_))
  · rw [q_bE (z := 0) (fun hp => by exfalso; omega) (fun _ => rfl)] at k; exact k
  · rw [q_bE (z := 1) (fun _ => rfl) (fun hp => by exfalso; omega)] at k; exact k
theorem q_tIn_lt (C : qCx l g X b own d) {x y : Int} {off off2 : Int} (t e : Nat) (hd : decode b pc = .ok (.if_icmp .lt off, 3)) (h1 : decode b (pc + 3) = .ok (.iconst 0, 1)) (h2 : decode b (pc + 3 + 1) = .ok (.goto off2, 3)) (h3 : decode b t = .ok (.iconst 1, 1)) (ht : (pc : Int) + off = (t : Int)) (ht2 : ((pc + 3 + 1 : Nat) : Int) + off2 = (e : Int)) (he : t + 1 = e) (hx : qIn x) (hy : qIn y) (k : qV l g X M e ls (qI (qB (x < y)) :: st)) : qV l g X M pc ls (qI y :: qI x :: st) := by
  subst he
  refine q_icmp_lt C t hd ht hx hy (fun h => q_iconst C h3 ?_) (fun h => q_iconst C h1 (q_goto C h2 ht2 ?_))
  · rw [q_bE (z := 1) (fun _ => rfl) (fun hp => by exfalso; omega)] at k; exact k
  · rw [q_bE (z := 0) (fun hp => by exfalso; omega) (fun _ => rfl)] at k; exact k
theorem q_tZn_lt (C : qCx l g X b own d) {x : Int} {off off2 : Int} (t e : Nat) (hd : decode b pc = .ok (.ifCond .lt off, 3)) (h1 : decode b (pc + 3) = .ok (.iconst 0, 1)) (h2 : decode b (pc + 3 + 1) = .ok (.goto off2, 3)) (h3 : decode b t = .ok (.iconst 1, 1)) (ht : (pc : Int) + off = (t : Int)) (ht2 : ((pc + 3 + 1 : Nat) : Int) + off2 = (e : Int)) (he : t + 1 = e) (hx : qIn x) (k : qV l g X M e ls (qI (qB (x < 0)) :: st)) : qV l g X M pc ls (qI x :: st) := by
  subst he
  refine q_if_lt C t hd ht hx (fun h => q_iconst C h3 ?_) (fun h => q_iconst C h1 (q_goto C h2 ht2 ?_))
  · rw [q_bE (z := 1) (fun _ => rfl) (fun hp => by exfalso; omega)] at k; exact k
  · rw [q_bE (z := 0) (fun hp => by exfalso; omega) (fun _ => rfl)] at k; exact k
theorem q_tI_ge (C : qCx l g X b own d) {x y : Int} {off off2 : Int} (t e : Nat) (hd : decode b pc = .ok (.if_icmp .ge off, 3)) (h1 : decode b (pc + 3) = .ok (.iconst 1, 1)) (h2 : decode b (pc + 3 + 1) = .ok (.goto off2, 3)) (h3 : decode b t = .ok (.iconst 0, 1)) (ht : (pc : Int) + off = (t : Int)) (ht2 : ((pc + 3 + 1 : Nat) : Int) + off2 = (e : Int)) (he : t + 1 = e) (hx : qIn x) (hy : qIn y) (k : qV l g X M e ls (qI (qB (x < y)) :: st)) : qV l g X M pc ls (qI y :: qI x :: st) := by
  subst he
  refine q_icmp_ge C t hd ht hx hy (fun h => q_iconst C h3 ?_) (fun h => q_iconst C h1 (q_goto C h2 ht2 ?_))
  · rw [q_bE (z := 0) (fun hp => by exfalso; omega) (fun _ => rfl)] at k; exact k
  · rw [q_bE (z := 1) (fun _ => rfl) (fun hp => by exfalso; omega)] at k; exact k
theorem q_tZ_ge (C : qCx l g X b own d) {x : Int} {off off2 : Int} (t e : Nat) (hd : decode b pc = .ok (.ifCond .ge off, 3)) (h1 : decode b (pc + 3) = .ok (.iconst 1, 1)) (h2 : decode b (pc + 3 + 1) = .ok (.goto off2, 3)) (h3 : decode b t = .ok (.iconst 0, 1)) (ht : (pc : Int) + off = (t : Int)) (ht2 : ((pc + 3 + 1 : Nat) : Int) + off2 = (e : Int)) (he : t + 1 = e) (hx : qIn x) (k : qV l g X M e ls (qI (qB (x < 0)) :: st)) : qV l g X M pc ls (qI x :: st) := by
  subst he
  refine q_if_ge C t hd ht hx (fun h => q_iconst C h3 ?_) (fun h => q_iconst C h1 (q_goto C h2 ht2 ?_))
  · rw [q_bE (z := 0) (fun hp => by exfalso; omega) (fun _ => rfl)] at k; exact k
  · rw [q_bE (z := 1) (fun _ => rfl) (fun hp => by exfalso; omega)] at k; exact k
theorem q_tIn_ge (C : qCx l g X b own d) {x y : Int} {off off2 : Int} (t e : Nat) (hd : decode b pc = .ok (.if_icmp .ge off, 3)) (h1 : decode b (pc + 3) = .ok (.iconst 0, 1)) (h2 : decode b (pc + 3 + 1) = .ok (.goto off2, 3)) (h3 : decode b t = .ok (.iconst 1, 1)) (ht : (pc : Int) + off = (t : Int)) (ht2 : ((pc + 3 + 1 : Nat) : Int) + off2 = (e : Int)) (he : t + 1 = e) (hx : qIn x) (hy : qIn y) (k : qV l g X M e ls (qI (qB (y ≤ x)) :: st)) : qV l g X M pc ls (qI y :: qI x :: st) := by
  subst he
  refine q_icmp_ge C t hd ht hx hy (fun h => q_iconst C h3 ?_) (fun h => q_iconst C h1 (q_goto C h2 ht2 ?_))
  · rw [q_bE (z := 1) (fun _ => rfl) (fun hp => by exfalso; omega)] at k; exact k
  · rw [q_bE (z := 0) (fun hp => by exfalso; omega) (fun _ => rfl)] at k; exact k
theorem q_tZn_ge (C : qCx l g X b own d) {x : Int} {off off2 : Int} (t e : Nat) (hd : decode b pc = .ok (.ifCond .ge off, 3)) (h1 : decode b (pc + 3) = .ok (.iconst 0, 1)) (h2 : decode b (pc + 3 + 1) = .ok (.goto off2, 3)) (h3 : decode b t = .ok (.iconst 1, 1)) (ht : (pc : Int) + off = (t : Int)) (ht2 : ((pc + 3 + 1 : Nat) : Int) + off2 = (e : Int)) (he : t + 1 = e) (hx : qIn x) (k : qV l g X M e ls (qI (qB (0 ≤ x)) :: st)) : qV l g X M pc ls (qI x :: st) := by
  subst he
  refine q_if_ge C t hd ht hx (fun h => q_iconst C h3 ?_) (fun h => q_iconst C h1 (q_goto C h2 ht2 ?_))
  · rw [q_bE (z := 1) (fun _ => rfl) (fun hp => by exfalso; omega)] at k; exact k
  · rw [q_bE (z := 0) (fun hp => by exfalso; omega) (fun _ => rfl)] at k; exact k
theorem q_tI_gt (C : qCx l g X b own d) {x y : Int} {off off2 : Int} (t e : Nat) (hd : decode b pc = .ok (.if_icmp .gt off, 3)) (h1 : decode b (pc + 3) = .ok (.iconst 1, 1)) (h2 : decode b (pc + 3 + 1) = .ok (.goto off2, 3)) (h3 : decode b t = .ok (.iconst 0, 1)) (ht : (pc : Int) + off = (t : Int)) (ht2 : ((pc + 3 + 1 : Nat) : Int) + off2 = (e : Int)) (he : t + 1 = e) (hx : qIn x) (hy : qIn y) (k : qV l g X M e ls (qI (qB (x ≤ y)) :: st)) : qV l g X M pc ls (qI y :: qI x :: st) := by
  subst he
  refine q_icmp_gt C t hd ht hx hy (fun h => q_iconst C h3 ?_) (fun h => q_iconst C h1 (q_goto C h2 ht2 ?_))
  · rw [q_bE (z := 0) (fun hp => by exfalso; omega) (fun _ => rfl)] at k; exact k
  · rw [q_bE (z := 1) (fun _ => rfl) (fun hp => by exfalso; omega)] at k; exact k
theorem q_tZ_gt (C : qCx l g X b own d) {x : Int} {off off2 : Int} (t e : Nat) (hd : decode b pc = .ok (.ifCond .gt off, 3)) (h1 : decode b (pc + 3) = .ok (.iconst 1, 1)) (h2 : decode b (pc + 3 + 1) = .ok (.goto off2, 3)) (h3 : decode b t = .ok (.iconst 0, 1)) (ht : (pc : Int) + off = (t : Int)) (ht2 : ((pc + 3 + 1 : Nat) : Int) + off2 = (e : Int)) (he : t + 1 = e) (hx : qIn x) (k : qV l g X M e ls (qI (qB (x ≤ 0)) :: st)) : qV l g X M pc ls (qI x :: st) := by
  subst he
  refine q_if_gt C t hd ht hx (fun h => q_iconst C h3 ?_) (fun h => q_iconst C h1 (q_goto C h2 ht2 ?_))
  · rw [q_bE (z := 0) (fun hp => by exfalso; omega) (fun _ => rfl)] at k; exact k
  · rw [q_bE (z := 1) (fun _ => rfl) (fun hp => by exfalso; omega)] at k; exact k
theorem q_tIn_gt (C : qCx l g X b own d) {x y : Int} {off off2 : Int} (t e : Nat) (hd : decode b pc = .ok (.if_icmp .gt off, 3)) (h1 : decode b (pc + 3) = .ok (.iconst 0, 1)) (h2 : decode b (pc + 3 + 1) = .ok (.goto off2, 3)) (h3 : decode b t = .ok (.iconst 1, 1)) (ht : (pc : Int) + off = (t : Int)) (ht2 : ((pc + 3 + 1 : Nat) : Int) + off2 = (e : Int)) (he : t + 1 = e) (hx : qIn x) (hy : qIn y) (k : qV l g X M e ls (qI (qB (y < x)) :: st)) : qV l g X M pc ls (qI y :: qI x :: st) := by
  subst he
  refine q_icmp_gt C t hd ht hx hy (fun h => q_iconst C h3 ?_) (fun h => q_iconst C h1 (q_goto C h2 ht2 ?_))
  · rw [q_bE (z := 1) (fun _ => rfl) (fun hp => by exfalso; omega)] at k; exact k
  · rw [q_bE (z := 0) (fun hp => by exfalso; omega) (fun _ => rfl)] at k; exact k
theorem q_tZn_gt (C : qCx l g X b own d) {x : Int} {off off2 : Int} (t e : Nat) (hd : decode b pc = .ok (.ifCond .gt off, 3)) (h1 : decode b (pc + 3) = .ok (.iconst 0, 1)) (h2 : decode b (pc + 3 + 1) = .ok (.goto off2, 3)) (h3 : decode b t = .ok (.iconst 1, 1)) (ht : (pc : Int) + off = (t : Int)) (ht2 : ((pc + 3 + 1 : Nat) : Int) + off2 = (e : Int)) (he : t + 1 = e) (hx : qIn x) (k : qV l g X M e ls (qI (qB (0 < x)) :: st)) : qV l g X M pc ls (qI x :: st) := by
  subst he
  refine q_if_gt C t hd ht hx (fun h => q_iconst C h3 ?_) (fun h => q_iconst C h1 (q_goto C h2 ht2 ?_))
  · rw [q_bE (z := 1) (fun _ => rfl) (fun hp => by exfalso; omega)] at k; exact k
  · rw [q_bE (z := 0) (fun hp => by exfalso; omega) (fun _ => rfl)] at k; exact k
theorem q_tI_le (C : qCx l g X b own d) {x y : Int} {off off2 : Int} (t e : Nat) (hd : decode b pc = .ok (.if_icmp .le off, 3)) (h1 : decode b (pc + 3) = .ok (.iconst 1, 1)) (h2 : decode b (pc + 3 + 1) = .ok (.goto off2, 3)) (h3 : decode b t = .ok (.iconst 0, 1)) (ht : (pc : Int) + off = (t : Int)) (ht2 : ((pc + 3 + 1 : Nat) : Int) + off2 = (e : Int)) (he : t + 1 = e) (hx : qIn x) (hy : qIn y) (k : qV l g X M e ls (qI (qB (y < x)) :: st)) : qV l g X M pc ls (qI y :: qI x :: st) := by
  subst he
  refine q_icmp_le C t hd ht hx hy (fun h => q_iconst C h3 ?_) (fun h => q_iconst C h1 (q_goto C h2 ht2 ?_))
  · rw [q_bE (z := 0) (fun hp => by exfalso; omega) (fun _ => rfl)] at k; exact k
  · rw [q_bE (z := 1) (fun _ => rfl) (fun hp => by exfalso; omega)] at k; exact k
theorem q_tZ_le (C : qCx l g X b own d) {x : Int} {off off2 : Int} (t e : Nat) (hd : decode b pc = .ok (.ifCond .le off, 3)) (h1 : decode b (pc + 3) = .ok (.iconst 1, 1)) (h2 : decode b (pc + 3 + 1) = .ok (.goto off2, 3)) (h3 : decode b t = .ok (.iconst 0, 1)) (ht : (pc : Int) + off = (t : Int)) (ht2 : ((pc + 3 + 1 : Nat) : Int) + off2 = (e : Int)) (he : t + 1 = e) (hx : qIn x) (k : qV l g X M e ls (qI (qB (0 < x)) :: st)) : qV l g X M pc ls (qI x :: st) := by
  subst he
  refine q_if_le C t hd ht hx (fun h => q_iconst C h3 ?_) (fun h => q_iconst C h1 (q_goto C h2 ht2 ?_))
  · rw [q_bE (z := 0) (fun hp => by exfalso; omega) (fun _ => rfl)] at k; exact k
  · rw [q_bE (z := 1) (fun _ => rfl) (fun hp => by exfalso; omega)] at k; exact k
theorem q_tIn_le (C : qCx l g X b own d) {x y : Int} {off off2 : Int} (t e : Nat) (hd : decode b pc = .ok (.if_icmp .le off, 3)) (h1 : decode b (pc + 3) = .ok (.iconst 0, 1)) (h2 : decode b (pc + 3 + 1) = .ok (.goto off2, 3)) (h3 : decode b t = .ok (.iconst 1, 1)) (ht : (pc : Int) + off = (t : Int)) (ht2 : ((pc + 3 + 1 : Nat) : Int) + off2 = (e : Int)) (he : t + 1 = e) (hx : qIn x) (hy : qIn y) (k : qV l g X M e ls (qI (qB (x ≤ y)) :: st)) : qV l g X M pc ls (qI y :: qI x :: st) := by
  subst he
  refine q_icmp_le C t hd ht hx hy (fun h => q_iconst C h3 ?_) (fun h => q_iconst C h1 (q_goto C h2 ht2 ?_))
  · rw [q_bE (z := 1) (fun _ => rfl) (fun hp => by exfalso; omega)] at k; exact k
  · rw [q_bE (z := 0) (fun hp => by exfalso; omega) (fun _ => rfl)] at k; exact k
theorem q_tZn_le (C : qCx l g X b own d) {x : Int} {off off2 : Int} (t e : Nat) (hd : decode b pc = .ok (.ifCond .le off, 3)) (h1 : decode b (pc + 3) = .ok (.iconst 0, 1)) (h2 : decode b (pc + 3 + 1) = .ok (.goto off2, 3)) (h3 : decode b t = .ok (.iconst 1, 1)) (ht : (pc : Int) + off = (t : Int)) (ht2 : ((pc + 3 + 1 : Nat) : Int) + off2 = (e : Int)) (he : t + 1 = e) (hx : qIn x) (k : qV l g X M e ls (qI (qB (x ≤ 0)) :: st)) : qV l g X M pc ls (qI x :: st) := by
  subst he
  refine q_if_le C t hd ht hx (fun h => q_iconst C h3 ?_) (fun h => q_iconst C h1 (q_goto C h2 ht2 ?_))
  · rw [q_bE (z := 1) (fun _ => rfl) (fun hp => by exfalso; omega)] at k; exact k
  · rw [q_bE (z := 0) (fun hp => by exfalso; omega) (fun _ => rfl)] at k; exact k
theorem q_tB_eq (C : qCx l g X b own d) {p : Prop} [Decidable p] {off off2 : Int} (t e : Nat) (hd : decode b pc = .ok (.ifCond .eq off, 3)) (h1 : decode b (pc + 3) = .ok (.iconst 1, 1)) (h2 : decode b (pc + 3 + 1) = .ok (.goto off2, 3)) (h3 : decode b t = .ok (.iconst 0, 1)) (ht : (pc : Int) + off = (t : Int)) (ht2 : ((pc + 3 + 1 : Nat) : Int) + off2 = (e : Int)) (he : t + 1 = e) (k : qV l g X M e ls (qI (qB (p)) :: st)) : qV l g X M pc ls (qI (qB p) :: st) := by
  subst he
  refine q_ifeqB C t hd ht (fun h => q_iconst C h3 ?_) (fun h => q_iconst C h1 (q_goto C h2 ht2 ?_))
  · rw [q_bE (z := 0) (fun hp => by first | rfl | exact absurd hp h | exact absurd h hp) (fun hp => by first | rfl | exact absurd hp h | exact absurd h hp)] at k; exact k
  · rw [q_bE (z := 1) (fun hp => by first | rfl | exact absurd hp h | exact absurd h hp) (fun hp => by first | rfl | exact absurd hp h | exact absurd h hp)] at k; exact k
theorem q_tB_ne (C : qCx l g X b own d) {p : Prop} [Decidable p] {off off2 : Int} (t e : Nat) (hd : decode b pc = .ok (.ifCond .ne off, 3)) (h1 : decode b (pc + 3) = .ok (.iconst 1, 1)) (h2 : decode b (pc + 3 + 1) = .ok (.goto off2, 3)) (h3 : decode b t = .ok (.iconst 0, 1)) (ht : (pc : Int) + off = (t : Int)) (ht2 : ((pc + 3 + 1 : Nat) : Int) + off2 = (e : Int)) (he : t + 1 = e) (k : qV l g X M e ls (qI (qB (¬ p)) :: st)) : qV l g X M pc ls (qI (qB p) :: st) := by
  subst he
  refine q_ifneB C t hd ht (fun h => q_iconst C h3 ?_) (fun h => q_iconst C h1 (q_goto C h2 ht2 ?_))
  · rw [q_bE (z := 0) (fun hp => by first | rfl | exact absurd hp h | exact absurd h hp) (fun hp => by first | rfl | exact absurd hp h | exact absurd h hp)] at k; exact k
  · rw [q_bE (z := 1) (fun hp => by first | rfl | exact absurd hp h | exact absurd h hp) (fun hp => by first | rfl | exact absurd hp h | exact absurd h hp)] at k; exact k
theorem q_tBn_eq (C : qCx l g X b own d) {p : Prop} [Decidable p] {off off2 : Int} (t e : Nat) (hd : decode b pc = .ok (.ifCond .eq off, 3)) (h1 : decode b (pc + 3) = .ok (.iconst 0, 1)) (h2 : decode b (pc + 3 + 1) = .ok (.goto off2, 3)) (h3 : decode b t = .ok (.iconst 1, 1)) (ht : (pc : Int) + off = (t : Int)) (ht2 : ((pc + 3 + 1 : Nat) : Int) + off2 = (e : Int)) (he : t + 1 = e) (k : qV l g X M e ls (qI (qB (¬ p)) :: st)) : qV l g X M pc ls (qI (qB p) :: st) := by
  subst he
  refine q_ifeqB C t hd ht (fun h => q_iconst C h3 ?_) (fun h => q_iconst C h1 (q_goto C h2 ht2 ?_))
  · rw [q_bE (z := 1) (fun hp => by first | rfl | exact absurd hp h | exact absurd h hp) (fun hp => by first | rfl | exact absurd hp h | exact absurd h hp)] at k; exact k
  · rw [q_bE (z := 0) (fun hp => by first | rfl | exact absurd hp h | exact absurd h hp) (fun hp => by first | rfl | exact absurd hp h | exact absurd h hp)] at k; exact k
theorem q_tBn_ne (C : qCx l g X b own d) {p : Prop} [Decidable p] {off off2 : Int} (t e : Nat) (hd : decode b pc = .ok (.ifCond .ne off, 3)) (h1 : decode b (pc + 3) = .ok (.iconst 0, 1)) (h2 : decode b (pc + 3 + 1) = .ok (.goto off2, 3)) (h3 : decode b t = .ok (.iconst 1, 1)) (ht : (pc : Int) + off = (t : Int)) (ht2 : ((pc + 3 + 1 : Nat) : Int) + off2 = (e : Int)) (he : t + 1 = e) (k : qV l g X M e ls (qI (qB (p)) :: st)) : qV l g X M pc ls (qI (qB p) :: st) := by
  subst he
  refine q_ifneB C t hd ht (fun h => q_iconst C h3 ?_) (fun h => q_iconst C h1 (q_goto C h2 ht2 ?_))
  · rw [q_bE (z := 1) (fun hp => by first | rfl | exact absurd hp h | exact absurd h hp) (fun hp => by first | rfl | exact absurd hp h | exact absurd h hp)] at k; exact k
  · rw [q_bE (z := 0) (fun hp => by first | rfl | exact absurd hp h | exact absurd h hp) (fun hp => by first | rfl | exact absurd hp h | exact absurd h hp)] at k; exact k
end QTERN
