section QROWS3
variable {l : Launch} {g : qGm} {X : qCt} {M : qMem} {b : ByteArray} {own : String} {d pc : Nat} {ls : List (Nat × Value)} {st : List Value}
theorem q_get (C : qCx l g X b own d) {j u ci kf idx N : Nat} {Cn : String} {T : u_T} {fs : List Value} {v : Value} (hu : u < qCnt j) (he : qCell g M j u = .inr (ci, fs)) (hc : qcl[ci]? = some (Cn, T, N)) (fx : ∀ w ∈ u_ws Cn T N, w ∈ qtb) (hk : kf < N) (hl : Cond.fieldLink own idx (T kf).1 (T kf).2.1 (T kf).2.2.1 ∈ qtb) (hv : fs[kf]? = some v) (hd : decode b pc = .ok (.getfield idx, 3)) (k : qV l g X M (pc + 3) ls (v :: st)) : qV l g X M pc ls (qR g j u :: st) := by
  obtain ⟨p, e, R, s, m, args, below, meth, c, Q, A, nL, nc, ns⟩ := X
  intro H locs la hR hW hS hL
  obtain ⟨q0, -, hq⟩ := q_at hu g M
  rw [he] at hq
  exact va_get C.1 C.2.1 C.2.2.2.2.1 fx C.2.2.2.1 C.2.2.2.2.2.2.1.1 hW q0 hq hc kf hk (C.2.2.2.2.1 _ hl) (fun _ h => h) hv hd (k H locs la hR hW hS hL)
theorem q_put (C : qCx l g X b own d) {j u ci kf idx N : Nat} {Cn : String} {T : u_T} {fs : List Value} {v : Value} {z : Int} {ty : FieldType} (hu : u < qCnt j) (he : qCell g M j u = .inr (ci, fs)) (hc : qcl[ci]? = some (Cn, T, N)) (fx : ∀ w ∈ u_ws Cn T N, w ∈ qtb) (ty0 : Nat → FieldType) (hty : ∀ k, k < N → parseFieldDescriptor (T k).2.2.1 = some (ty0 k)) (hnm : ∀ a, a < N → ∀ b, b < N → a ≠ b → (T a).2.1 ≠ (T b).2.1) (hk : kf < N) (hl : Cond.fieldLink own idx (T kf).1 (T kf).2.1 (T kf).2.2.1 ∈ qtb) (hfin : (T kf).2.2.2 = false) (hd0 : parseFieldDescriptor (T kf).2.2.1 = some ty) (hn : narrow ty v = v) (hfit : fits ty v = true) (hlen : kf < fs.length) (hz : qIn z) (hnew : qCell g (qUp M j u kf z) j u = .inr (ci, fs.set kf v)) (hd : decode b pc = .ok (.putfield idx, 3)) (k : qV l g X (qUp M j u kf z) (pc + 3) ls st) : qV l g X M pc ls (v :: qR g j u :: st) := by
  obtain ⟨p, e, R, s, m, args, below, meth, c, Q, A, nL, nc, ns⟩ := X
  intro H locs la hR hW hS hL
  obtain ⟨q0, hi, hq⟩ := q_at hu g M
  rw [he] at hq
  refine va_put C.1 C.2.1 C.2.2.2.2.1 fx ty0 hty hnm C.2.2.2.1 C.2.2.2.2.2.2.1.1 hW (q_D C.2.2.2.2.2.2.2.1 C.2.2.2.2.2.2.2.2.1 M) hS q0 hq hc kf hk (C.2.2.2.2.1 _ hl) (fun _ h => h) hfin hd0 hn hfit hlen hd (fun H1 locs1 hP hD hS1 => k H1 locs1 la (q_rgUp hR hz) ?_ hS1 hL)
  exact q_wdSet hu hi (fun j' u' h => q_upOff h) hnew hP
theorem q_idx {z : Int} {n : Nat} (h0 : 0 ≤ z) (h1 : z < n) (hn : n ≤ 2147483647) : (((Int32.ofInt z).toNatClampNeg : Nat) : Int) = z := by
  rw [q_cl h0 (by omega)]
  exact Int.toNat_of_nonneg h0
/-- an array's cell looks at its places alone -/
theorem q_rowEq {cA : ClassId} {n : Nat} {f f' : Nat → Int32} (h : ∀ q, q < n → f q = f' q) : vp_cell cA (n, .inl f) = vp_cell cA (n, .inl f') := by
  rw [vp_cell_i, vp_cell_i]
  unfold arrV
  congr 2
  funext j
  show Value.int (f j.val) = Value.int (f' j.val)
  rw [h j.val j.isLt]
theorem q_iald (C : qCx l g X b own d) {j u n : Nat} {i : Int} (hu : u < qCnt j) (he : qCell g M j u = qRow g M j u n) (hd : decode b pc = .ok (.iaload, 1)) (h0 : 0 ≤ i) (h1 : i < n) (hn : n ≤ 2147483647) (k : qIn (M j u i) → qV l g X M (pc + 1) ls (qI (M j u i) :: st)) : qV l g X M pc ls (qI i :: qR g j u :: st) := by
  obtain ⟨p, e, R, s, m, args, below, meth, c, Q, A, nL, nc, ns⟩ := X
  intro H locs la hR hW hS hL
  obtain ⟨q0, -, hq⟩ := q_at hu g M
  rw [he] at hq
  refine va_iald C.1 C.2.1 C.2.2.2.2.2.2.1.1 hW q0 0 hq rfl (q_vin h0 h1 hn) hd ?_
  have := k (hR j u i) H locs la hR hW hS hL
  show W p l e R s m args below meth c H locs nc ns Q (F0 m (pc + 1) la (qI (M j u (((Int32.ofInt i).toNatClampNeg : Nat) : Int)) :: st))
  rw [q_idx h0 h1 hn]
  exact this
theorem q_iast (C : qCx l g X b own d) {j u n : Nat} {i z : Int} (hu : u < qCnt j) (he : ∀ M, qCell g M j u = qRow g M j u n) (hd : decode b pc = .ok (.iastore, 1)) (h0 : 0 ≤ i) (h1 : i < n) (hn : n ≤ 2147483647) (hz : qIn z) (k : qV l g X (qUp M j u i z) (pc + 1) ls st) : qV l g X M pc ls (qI z :: qI i :: qR g j u :: st) := by
  obtain ⟨p, e, R, s, m, args, below, meth, c, Q, A, nL, nc, ns⟩ := X
  intro H locs la hR hW hS hL
  obtain ⟨q0, hi, hq⟩ := q_at hu g M
  rw [he] at hq
  refine va_iast C.1 C.2.1 C.2.2.2.2.2.2.1.1 hW (q_D C.2.2.2.2.2.2.2.1 C.2.2.2.2.2.2.2.2.1 M) hS q0 0 hq rfl (q_vin h0 h1 hn) hd (fun H1 locs1 hP hD hS1 => k H1 locs1 la (q_rgUp hR hz) ?_ hS1 hL)
  refine q_wdSet hu hi (fun j' u' h => q_upOff h) ?_ hP
  rw [he]
  unfold qRow
  congr 4
  funext q
  have e := q_idx h0 h1 hn
  rw [q_upOn]
  by_cases hq : q = (Int32.ofInt i).toNatClampNeg
  · subst hq
    simp [upd, e]
  · have : ¬ ((q : Int) = i) := fun h => hq (by omega)
    simp [upd, hq, this]
theorem q_zald (C : qCx l g X b own d) {i : Int} (hd : decode b pc = .ok (.baload, 1)) (h0 : 0 ≤ i) (h1 : i < 2) (k : qIn (M 75 0 i) → qV l g X M (pc + 1) ls (qI (M 75 0 i) :: st)) : qV l g X M pc ls (qI i :: qR g 75 0 :: st) := by
  obtain ⟨p, e, R, s, m, args, below, meth, c, Q, A, nL, nc, ns⟩ := X
  intro H locs la hR hW hS hL
  obtain ⟨q0, -, hq⟩ := q_at (j := 75) (u := 0) (by decide) g M
  refine va_zald C.1 C.2.1 C.2.2.2.2.2.2.1.1 hW q0 2 hq rfl (q_vin h0 h1 (by decide)) hd ?_
  have := k (hR 75 0 i) H locs la hR hW hS hL
  show W p l e R s m args below meth c H locs nc ns Q (F0 m (pc + 1) la (qI (M 75 0 (((Int32.ofInt i).toNatClampNeg : Nat) : Int)) :: st))
  rw [q_idx (n := 2) h0 h1 (by decide)]
  exact this
theorem q_zast (C : qCx l g X b own d) {i z : Int} (hd : decode b pc = .ok (.bastore, 1)) (h0 : 0 ≤ i) (h1 : i < 2) (hz : z = 0 ∨ z = 1) (k : qV l g X (qUp M 75 0 i z) (pc + 1) ls st) : qV l g X M pc ls (qI z :: qI i :: qR g 75 0 :: st) := by
  obtain ⟨p, e, R, s, m, args, below, meth, c, Q, A, nL, nc, ns⟩ := X
  intro H locs la hR hW hS hL
  obtain ⟨q0, hi, hq⟩ := q_at (j := 75) (u := 0) (by decide) g M
  refine va_zast C.1 C.2.1 C.2.2.2.2.2.2.1.1 hW (q_D C.2.2.2.2.2.2.2.1 C.2.2.2.2.2.2.2.2.1 M) hS q0 2 hq rfl (q_vin h0 h1 (by decide)) hd (fun H1 locs1 hP hD hS1 => k H1 locs1 la (q_rgUp hR (by omega)) ?_ hS1 hL)
  refine q_wdSet (by decide) hi (fun j' u' h => q_upOff h) ?_ hP
  have hn : vp_nar .boolean (Int32.ofInt z) = Int32.ofInt z := by rcases hz with rfl | rfl <;> decide
  rw [hn]
  show (Sum.inl (_, 2, Sum.inl _) : va_E) = _
  congr 4
  funext q
  have e := q_idx (n := 2) h0 h1 (by decide)
  rw [q_upOn]
  by_cases hq : q = (Int32.ofInt i).toNatClampNeg
  · subst hq
    simp [upd, e]
  · have : ¬ ((q : Int) = i) := fun h => hq (by omega)
    simp [upd, hq, this]
theorem q_lald (C : qCx l g X b own d) {i : Int} (hd : decode b pc = .ok (.laload, 1)) (h0 : 0 ≤ i) (h1 : i < 2) (k : qIn (M 77 0 i) → qV l g X M (pc + 1) ls (qJ (M 77 0 i) :: st)) : qV l g X M pc ls (qI i :: qR g 77 0 :: st) := by
  obtain ⟨p, e, R, s, m, args, below, meth, c, Q, A, nL, nc, ns⟩ := X
  intro H locs la hR hW hS hL
  obtain ⟨q0, -, hq⟩ := q_at (j := 77) (u := 0) (by decide) g M
  refine va_lald C.1 C.2.1 C.2.2.2.2.2.2.1.1 hW q0 1 hq rfl (q_vin h0 h1 (by decide)) hd ?_
  have := k (hR 77 0 i) H locs la hR hW hS hL
  show W p l e R s m args below meth c H locs nc ns Q (F0 m (pc + 1) la (qJ (M 77 0 (((Int32.ofInt i).toNatClampNeg : Nat) : Int)) :: st))
  rw [q_idx (n := 2) h0 h1 (by decide)]
  exact this
theorem q_last (C : qCx l g X b own d) {i z : Int} (hd : decode b pc = .ok (.lastore, 1)) (h0 : 0 ≤ i) (h1 : i < 2) (hz : qIn z) (k : qV l g X (qUp M 77 0 i z) (pc + 1) ls st) : qV l g X M pc ls (qJ z :: qI i :: qR g 77 0 :: st) := by
  obtain ⟨p, e, R, s, m, args, below, meth, c, Q, A, nL, nc, ns⟩ := X
  intro H locs la hR hW hS hL
  obtain ⟨q0, hi, hq⟩ := q_at (j := 77) (u := 0) (by decide) g M
  refine va_last C.1 C.2.1 C.2.2.2.2.2.2.1.1 hW (q_D C.2.2.2.2.2.2.2.1 C.2.2.2.2.2.2.2.2.1 M) hS q0 1 hq rfl (q_vin h0 h1 (by decide)) hd (fun H1 locs1 hP hD hS1 => k H1 locs1 la (q_rgUp hR hz) ?_ hS1 hL)
  refine q_wdSet (by decide) hi (fun j' u' h => q_upOff h) ?_ hP
  show (Sum.inl (_, 2, Sum.inr (Sum.inl _)) : va_E) = _
  congr 5
  funext q
  have e := q_idx (n := 2) h0 h1 (by decide)
  rw [q_upOn]
  by_cases hq : q = (Int32.ofInt i).toNatClampNeg
  · subst hq
    simp [vp_updL, e]
  · have : ¬ ((q : Int) = i) := fun h => hq (by omega)
    simp [vp_updL, hq, this]
theorem q_aald (C : qCx l g X b own d) {i : Int} (hd : decode b pc = .ok (.aaload, 1)) (h0 : 0 ≤ i) (h1 : i < 30) (k : qV l g X M (pc + 1) ls (qR g 10 (i.toNat + 1) :: st)) : qV l g X M pc ls (qI i :: qR g 27 0 :: st) := by
  obtain ⟨p, e, R, s, m, args, below, meth, c, Q, A, nL, nc, ns⟩ := X
  intro H locs la hR hW hS hL
  obtain ⟨q0, -, hq⟩ := q_at (j := 27) (u := 0) (by decide) g M
  refine va_aldq C.1 C.2.1 C.2.2.2.2.2.2.1.1 hW q0 3 hq rfl (q_vin h0 h1 (by decide)) hd ?_
  show W p l e R s m args below meth c H locs nc ns Q (F0 m (pc + 1) la (qR g 10 ((Int32.ofInt i).toNatClampNeg + 1) :: st))
  rw [q_cl h0 (by omega)]
  exact k H locs la hR hW hS hL
theorem q_alen (C : qCx l g X b own d) {j u n : Nat} (hu : u < qCnt j) (he : qCell g M j u = qRow g M j u n) (hd : decode b pc = .ok (.arraylength, 1)) (k : qV l g X M (pc + 1) ls (qI n :: st)) : qV l g X M pc ls (qR g j u :: st) := by
  obtain ⟨p, e, R, s, m, args, below, meth, c, Q, A, nL, nc, ns⟩ := X
  intro H locs la hR hW hS hL
  obtain ⟨q0, -, hq⟩ := q_at hu g M
  rw [he] at hq
  exact va_alen C.1 C.2.1 C.2.2.2.2.2.2.1.1 hW q0 0 hq (ty := .int) rfl (v := Int32.ofInt n) Int32.ofInt_eq_ofNat.symm hd (k H locs la hR hW hS hL)
/-- all of one int array into another of the same length -/
theorem q_copy (C : qCx l g X b own d) {j u j' u' n idx : Nat} (hu : u < qCnt j) (hu' : u' < qCnt j') (he : qCell g M j u = qRow g M j u n) (he' : ∀ M, qCell g M j' u' = qRow g M j' u' n) (hn : n ≤ 2147483647)
    (hml : Cond.methodLink own idx arraycopyName ∈ qtb) (hna : Cond.native arraycopyName ∈ qtb) (hst : Cond.static arraycopyName ∈ qtb) (hin : Cond.initialized "java/lang/System" ∈ qtb) (hdd : 1 ≤ d) (hrest : (st.map fun v => v.category).sum ≤ 2) (hd : decode b pc = .ok (.invokestatic idx, 3))
    (k : qV l g X (qSet M j' u' (M j u)) (pc + 3) ls st) : qV l g X M pc ls (qI n :: qI 0 :: qR g j' u' :: qI 0 :: qR g j u :: st) := by
  obtain ⟨p, e, R, s, m, args, below, meth, c, Q, A, nL, nc, ns⟩ := X
  intro H locs la hR hW hS hL
  obtain ⟨q0, hi0, hq0⟩ := q_at hu g M
  obtain ⟨q1, hi1, hq1⟩ := q_at hu' g M
  rw [he] at hq0
  rw [he'] at hq1
  have hnn : (Int32.ofInt (n : Int)).toNatClampNeg = n := by rw [q_cl (by omega) (by omega)]; exact Int.toNat_natCast n
  have hn0 : ¬ Int32.ofInt (n : Int) < 0 := fun h => by
    have := (q_lt (a := (n : Int)) (b := 0) ⟨by omega, by omega⟩ q_in0).mp h
    omega
  have h00 : (Int32.ofInt 0).toNatClampNeg = 0 := by decide
  refine va_copyi (ty := .int) C.1 C.2.1 (C.2.2.1.trans hL.1.symm) C.2.2.2.1 (C.2.2.2.2.1 _ hml) (C.2.2.2.2.1 _ hna) (C.2.2.2.2.1 _ hst) (C.2.2.2.2.1 _ hin) C.2.2.2.2.2.2.1.1 hW (q_D C.2.2.2.2.2.2.2.1 C.2.2.2.2.2.2.2.2.1 M) hS q0 q1 0 0 hq0 hq1 rfl rfl rfl (by decide) (by decide) hn0 (by rw [hnn, h00]; omega) (by rw [hnn, h00]; omega) (fun _ _ => rfl) (by have := C.2.2.2.2.2.1.1; omega) ?_ hd (fun H1 locs1 hP hD hS1 => k H1 locs1 la (q_rgSet hR (fun i => hR j u i)) ?_ hS1 hL)
  · have h9 := C.2.2.2.2.2.1.2
    have h8 : nativeFrameWords "java/lang/System" "arraycopy" 5 + 11 ≤ 30 := by decide
    omega
  · refine q_wdSetA hu' hi1 (fun j' u' h => q_setOff h) (fun h => ?_) hP
    rw [he', qRow, q_setOn]
    refine h.trans (congrArg some (q_rowEq (fun q hq => ?_)))
    rw [hnn, h00]
    simp [va_cpy, hq]
/-! calls -/
def qLk (own : String) (idx : Nat) (y : MethodName) (b' : ByteArray) (mL : Nat) (rt : Option FieldType) (n : Nat) : Prop := Cond.methodLink own idx y ∈ qtb ∧ Cond.initialized y.cls ∈ qtb ∧ Cond.code y b' mL rt ∈ qtb ∧ (y.cls ≠ "java/lang/invoke/MethodHandle" ∧ y.cls ≠ "java/lang/invoke/VarHandle") ∧ (parseMethodDescriptor y.desc).map (fun d => d.parameters.length) = some n ∧ mL ≤ 13
theorem q_good {y : MethodName} {b' : ByteArray} {mL : Nat} {rt : Option FieldType} (h : Cond.code y b' mL rt ∈ qtb) : GoodIn qtb (qWs y b' mL rt) := by
  intro w hw
  have : w ∈ qtb := by
    rcases List.mem_cons.mp hw with rfl | h2
    · exact h
    · exact h2
  exact ⟨this, good_of_word (List.mem_filter.mp this).2⟩
theorem q_callB {R : Room} {s : State} {args : Array Value} {idx mL n d' : Nat} {y : MethodName} {b' : ByteArray} {rt : Option FieldType} (ht : ∀ w ∈ qtb, w.before args s = true) (L : qLk own idx y b' mL rt n) (hd' : d' < d) (hR : d ≤ R.frames ∧ 32 * d ≤ R.locals) : CallB R s args own idx y b' mL rt (qWs y b' mL rt) (qRm d') 0 0 n := by
  obtain ⟨h1, h2, h3, h4, h5, h6⟩ := L
  refine ⟨rfl, rfl, ?_, ?_, pay_in ht (q_good h3), List.mem_cons_self, ht _ h3, ht _ h2, h4, fun sig h => ?_, ht _ h1⟩
  · show d' + 1 ≤ R.frames
    omega
  · show 8 + (mL + 11) + 32 * d' ≤ R.locals
    omega
  · rw [h] at h5
    exact (Option.some.inj h5).symm
theorem q_back {p : Program} {e : Env} {R : Room} {s : State} {m : MethodId} {args : Array Value} {below : List Frame} {meth : Method} {c : Code} {Q : State → Prop} {A : Nat → Prop} {nL nc ns : Nat} {H : Heap} {locs : List Loc} {la : Array Slot} {st0 rest : List Value} {P : Option Int → qMem → Prop} {a : Array Value}
    (hr : va_Run p l e R s m args below meth c H locs nc ns 0 0 (F0 m pc la st0) rest (qQQ g P a) (qFr g)) (hS : va_S A s.heap H locs) (hA : ∀ q, qFr g q → A q) (hL : qLh la nL ls)
    (k : ∀ (r : Option Int) (M' : qMem), (∀ z, r = some z → qIn z) → P r M' → qV l g (p, e, R, s, m, args, below, meth, c, Q, A, nL, nc, ns) M' (pc + 3) ls ((r.map qI).toList ++ rest)) : W p l e R s m args below meth c H locs nc ns Q (F0 m pc la st0) := by
  intro T hT X
  obtain ⟨v, st₀, t, T', L, h0, X', hL2, e1, e2, ⟨⟨r, M', hv, hz, hp, hRg, hW⟩, hsz, hk⟩, st⟩ := hr T hT X
  cases hv
  rw [h0] at hsz hk
  obtain ⟨t2, a1, b1⟩ := k r M' hz hp T'.heap (locs ++ L) la hRg (by rw [e1]; exact hW)
    ⟨Nat.le_trans hS.1 (by rw [e1]; exact hsz), fun q h1 h2 => by rw [e1, hk q (Nat.lt_of_lt_of_le h1 hS.1) (fun z => h2 (hA q z))]; exact hS.2.1 q h1 h2, fun q hq => by
      rcases List.mem_append.mp hq with h | h
      · exact hS.2.2 q h
      · exact hA _ (hL2 q h)⟩ hL T' rfl X'
  exact ⟨t2, st t2 a1, b1⟩
theorem q_callV (C : qCx l g X b own d) {j u ci idx mL n d' N : Nat} {y : MethodName} {b' : ByteArray} {rt : Option FieldType} {T : u_T} {fs As rest : List Value} {P : Option Int → qMem → Prop} (L : qLk own idx y b' mL rt n) (hin : Cond.instanceMethod y ∈ qtb) (hse : Cond.selects y.cls y y ∈ qtb) (hn : As.length = n) (hd' : d' < d) (hu : u < qCnt j) (he : qCell g M j u = .inr (ci, fs)) (hc : qcl[ci]? = some (y.cls, T, N))
    (hok : qOk l g d' y b' mL rt (qR g j u :: As) M P) (hd : decode b pc = .ok (.invokevirtual idx, 3)) (hrest : (rest.map fun v => v.category).sum ≤ 8) (hst : st = As.reverse ++ qR g j u :: rest)
    (k : ∀ (r : Option Int) (M' : qMem), (∀ z, r = some z → qIn z) → P r M' → qV l g X M' (pc + 3) ls ((r.map qI).toList ++ rest)) : qV l g X M pc ls st := by
  subst hst
  obtain ⟨p, e, R, s, m, args, below, meth, c, Q, A, nL, nc, ns⟩ := X
  intro H locs la hR hW hS hL
  obtain ⟨q0, hi, hq⟩ := q_at hu g M
  rw [he] at hq
  refine q_back (va_runV (As := As) (rest := rest) ⟨C.1, C.2.1, C.2.2.1, C.2.2.2.1, C.2.2.2.2.1⟩ hok ⟨q_callB C.2.2.2.2.1 L hd' C.2.2.2.2.2.1, C.2.2.2.2.1 _ hin, C.2.2.2.2.1 _ hse⟩ ⟨q_blind g M _, va_recv C.2.2.2.2.2.2.1.1 hW hc hq, fun U hU hWm => ⟨rfl, hR, by rw [hU]; exact hW, C.2.2.2.2.2.2.1.warm hWm, C.2.2.2.2.2.2.2.1⟩⟩ rfl hn hL.1 rfl (lv_room hrest) hd C.2.2.2.2.2.2.2.2.2.2) hS C.2.2.2.2.2.2.2.2.1 hL k
theorem q_callS (C : qCx l g X b own d) {idx mL n d' : Nat} {y : MethodName} {b' : ByteArray} {rt : Option FieldType} {As rest : List Value} {P : Option Int → qMem → Prop} (L : qLk own idx y b' mL rt n) (hsta : Cond.static y ∈ qtb) (hn : As.length = n) (hd' : d' < d)
    (hok : qOk l g d' y b' mL rt As M P) (hd : decode b pc = .ok (.invokestatic idx, 3)) (hrest : (rest.map fun v => v.category).sum ≤ 8) (hst : st = As.reverse ++ rest)
    (k : ∀ (r : Option Int) (M' : qMem), (∀ z, r = some z → qIn z) → P r M' → qV l g X M' (pc + 3) ls ((r.map qI).toList ++ rest)) : qV l g X M pc ls st := by
  subst hst
  obtain ⟨p, e, R, s, m, args, below, meth, c, Q, A, nL, nc, ns⟩ := X
  intro H locs la hR hW hS hL
  refine q_back (va_runS (As := As) (rest := rest) ⟨C.1, C.2.1, C.2.2.1, C.2.2.2.1, C.2.2.2.2.1⟩ hok ⟨q_callB C.2.2.2.2.1 L hd' C.2.2.2.2.2.1, C.2.2.2.2.1 _ hsta⟩ ⟨q_blind g M _, fun U hU hWm => ⟨rfl, hR, by rw [hU]; exact hW, C.2.2.2.2.2.2.1.warm hWm, C.2.2.2.2.2.2.2.1⟩⟩ rfl hn hL.1 rfl (lv_room hrest) hd C.2.2.2.2.2.2.2.2.2.2) hS C.2.2.2.2.2.2.2.2.1 hL k
/-- Season.setPrize's call of the private GloveSigns.isWithin -/
theorem q_callN (C : qCx l g X b RX7 d) {d' : Nat} {As rest : List Value} {P : Option Int → qMem → Prop} (hn : As.length = 2) (hd' : d' < d)
    (hok : qOk l g d' yX11_isWithin cX11_isWithin 2 (some .boolean) As M P) (hd : decode b pc = .ok (.invokestatic 47, 3)) (hrest : (rest.map fun v => v.category).sum ≤ 8) (hst : st = As.reverse ++ rest)
    (k : ∀ (r : Option Int) (M' : qMem), (∀ z, r = some z → qIn z) → P r M' → qV l g X M' (pc + 3) ls ((r.map qI).toList ++ rest)) : qV l g X M pc ls st := by
  subst hst
  obtain ⟨p, e, R, s, m, args, below, meth, c, Q, A, nL, nc, ns⟩ := X
  intro H locs la hR hW hS hL
  have hf := C.2.2.2.2.2.1
  refine q_back (va_runSN (As := As) (rest := rest) ⟨C.1, C.2.1, C.2.2.1, C.2.2.2.1, C.2.2.2.2.1⟩ hok ⟨va_cnB (ws' := qtb) 2 C.2.2.2.2.1 (q_good q_cd_yX11_isWithin) rfl rfl rfl C.2.2.2.2.2.2.1.2 (C.2.2.2.2.1 _ q_in_RX11) (by decide +kernel) ⟨by show d' + 1 ≤ R.frames; omega, by show 8 + (2 + 11) + 32 * d' ≤ R.locals; omega⟩, C.2.2.2.2.1 _ q_st_yX11_isWithin, trivial⟩ ⟨q_blind g M _, fun U hU hWm => ⟨rfl, hR, by rw [hU]; exact hW, C.2.2.2.2.2.2.1.warm hWm, C.2.2.2.2.2.2.2.1⟩⟩ rfl hn hL.1 rfl (lv_room hrest) hd C.2.2.2.2.2.2.2.2.2.2) hS C.2.2.2.2.2.2.2.2.1 hL k
/-- the plain end of a call: this answer, this memory -/
def qEv (z : Option Int) (M' : qMem) : Option Int → qMem → Prop := fun r N => r = z ∧ N = M'
theorem q_evI {z : Int} {M' : qMem} {rest : List Value} (k : qIn z → qV l g X M' pc ls (qI z :: rest)) : ∀ (r : Option Int) (N : qMem), (∀ z, r = some z → qIn z) → qEv (some z) M' r N → qV l g X N pc ls ((r.map qI).toList ++ rest) := by
  rintro r N hz ⟨rfl, rfl⟩
  exact k (hz z rfl)
theorem q_evV {M' : qMem} {rest : List Value} (k : qV l g X M' pc ls rest) : ∀ (r : Option Int) (N : qMem), (∀ z, r = some z → qIn z) → qEv none M' r N → qV l g X N pc ls ((r.map qI).toList ++ rest) := by
  rintro r N hz ⟨rfl, rfl⟩
  exact k
end QROWS3
