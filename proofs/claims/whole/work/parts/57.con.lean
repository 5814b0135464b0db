/-! making the objects: the cells are made one behind another: ad k is where the k-th lies, E k what it is -/
def cL (ad : Nat → Nat) (t : Nat) (E : Nat → va_E) : va_W := (List.range t).map (fun k => (ad k, E k))
theorem cL_len (ad : Nat → Nat) (t : Nat) (E : Nat → va_E) : (cL ad t E).length = t := by simp [cL]
theorem cL_at {ad : Nat → Nat} {t k : Nat} {E : Nat → va_E} (h : k < t) : (cL ad t E)[k]? = some (ad k, E k) := by
  unfold cL
  rw [List.getElem?_map, List.getElem?_range h]
  rfl
theorem cL_in {ad : Nat → Nat} {t k : Nat} {E : Nat → va_E} {q : Nat × va_E} (h : (cL ad t E)[k]? = some q) : k < t ∧ q = (ad k, E k) := by
  have hk : k < t := by
    have := (List.getElem?_eq_some_iff.mp h).1
    rwa [cL_len] at this
  rw [cL_at hk] at h
  exact ⟨hk, (Option.some.inj h).symm⟩
theorem va_upO {α : Type} {f : Nat → α} {k : Nat} {v : α} : va_up f k v k = v := by simp [va_up]
theorem va_upN {α : Type} {f : Nat → α} {k j : Nat} {v : α} (h : j ≠ k) : va_up f k v j = f j := by simp [va_up, h]
theorem cL_push {ad : Nat → Nat} {t q : Nat} {E : Nat → va_E} {e : va_E} : cL ad t E ++ [(q, e)] = cL (va_up ad t q) (t + 1) (va_up E t e) := by
  refine List.ext_getElem? (fun i => ?_)
  by_cases hi : i < t
  · rw [List.getElem?_append_left (by rw [cL_len]; exact hi), cL_at hi, cL_at (by omega), va_upN (by omega), va_upN (by omega)]
  · rw [List.getElem?_append_right (by rw [cL_len]; omega), cL_len]
    by_cases e1 : i = t
    · subst e1
      rw [cL_at (by omega), va_upO, va_upO, Nat.sub_self]
      rfl
    · rw [List.getElem?_eq_none (by simp; omega), List.getElem?_eq_none (by rw [cL_len]; omega)]
theorem cL_set {ad : Nat → Nat} {t k : Nat} {E : Nat → va_E} {e : va_E} (h : k < t) : (cL ad t E).set k (ad k, e) = cL ad t (va_up E k e) := by
  refine List.ext_getElem? (fun i => ?_)
  by_cases hi : i < t
  · rw [cL_at hi]
    by_cases e1 : i = k
    · subst e1
      rw [List.getElem?_set_self (by rw [cL_len]; exact hi), va_upO]
    · rw [List.getElem?_set_ne (Ne.symm e1), cL_at hi, va_upN e1]
  · rw [List.getElem?_eq_none (by rw [List.length_set, cL_len]; omega), List.getElem?_eq_none (by rw [cL_len]; omega)]
def cNst : List Cond := [.methodLinkNest RX11 9 yX7_init RX11, .methodLinkNest RX11 12 yX2_init RX11, .methodLinkNest RX2 39 yX4_init RX11, .methodLinkNest RX11 20 yX9_init RX11, .methodLinkNest RX6 24 yX2_init RX11, .methodLinkNest RX11 60 yX3_init RX11, .methodLinkNest RX3 19 yX2_init RX11, .methodLinkNest RX11 70 yX8_init RX11, .methodLinkNest RX11 77 yX0_init RX11]
theorem c_nstW {s U : State} (hW : s.WarmedH U.vm) (h : ∀ w ∈ cNst, va_Nw w s) : ∀ w ∈ cNst, va_Nw w U := by
  intro w hw
  have h2 := h w hw
  simp only [cNst, List.mem_cons, List.not_mem_nil, or_false] at hw
  rcases hw with rfl | rfl | rfl | rfl | rfl | rfl | rfl | rfl | rfl <;> exact va_Nw.warmM hW h2
theorem c_nstS {s U : State} (hv : s.vm = U.vm) (h : ∀ w ∈ cNst, va_Nw w s) : ∀ w ∈ cNst, va_Nw w U := by
  intro w hw
  have h2 := h w hw
  simp only [cNst, List.mem_cons, List.not_mem_nil, or_false] at hw
  rcases hw with rfl | rfl | rfl | rfl | rfl | rfl | rfl | rfl | rfl <;> exact va_Nw.same rfl hv h2
def cKd (g : qGm) (U : State) : Prop := va_K g.1 qcl (qTy g) U ∧ (∀ w ∈ cNst, va_Nw w U) ∧ va_AO RX2 U
theorem cKd.warm {g : qGm} {s U : State} (hW : s.WarmedH U.vm) (h : cKd g s) : cKd g U := ⟨va_K.moved hW.alike h.1, c_nstW hW h.2.1, va_AO.moved hW.alike h.2.2⟩
/-- the machine while objects are made -/
def cV (l : Launch) (g : qGm) (X : qCt) (ad : Nat → Nat) (t : Nat) (E : Nat → va_E) (nc ns pc : Nat) (ls : List (Nat × Value)) (st : List Value) : Prop := match X with
  | (p, e, R, s, m, args, below, meth, c, Q, A, nL, _, _) => ∀ (H : Heap) (locs : List Loc) (la : Array Slot), va_P g.1 qcl (cL ad t E) H → va_D A (cL ad t E) → va_S A s.heap H locs → qLh la nL ls → W p l e R s m args below meth c H locs nc ns Q (F0 m pc la st)
def cCx (g : qGm) (X : qCt) (b : ByteArray) (own : String) (n0 d mc ms : Nat) : Prop := match X with
  | (p, _, R, s, m, args, _, meth, c, _, A, nL, _, _) => p.tables.exec = Jvm.exec ∧ c.code = b ∧ c.maxLocals = nL ∧ s.vm.findClass own = some m.cls ∧ (∀ w ∈ qtb, w.before args s = true) ∧ (d ≤ R.frames ∧ 32 * d ≤ R.locals) ∧ cKd g s ∧ (n0 ≤ s.heap.size ∧ ∀ q, A q ↔ n0 ≤ q) ∧ meth.locks = false ∧ (mc ≤ R.cells ∧ ms ≤ R.slots)
def cRm (d mc ms : Nat) : Room := { frames := d, cells := mc, slots := ms, locals := 32 * d }
def cPc (g : qGm) (n0 : Nat) (ad : Nat → Nat) (t : Nat) (E : Nat → va_E) (av : List Value) : Array Value → State → Prop := va_Pc av (fun U => n0 ≤ U.heap.size ∧ va_P g.1 qcl (cL ad t E) U.heap ∧ va_D (fun q => n0 ≤ q) (cL ad t E) ∧ cKd g U)
def cQQ (g : qGm) (n0 t' : Nat) (P : (Nat → Nat) → (Nat → va_E) → Prop) : Array Value → State → Outcome → State → Prop := fun _ st oc u =>
  (∃ (ad' : Nat → Nat) (E' : Nat → va_E), oc = .returned none ∧ P ad' E' ∧ va_P g.1 qcl (cL ad' t' E') u.heap ∧ va_D (fun q => n0 ≤ q) (cL ad' t' E')) ∧ va_F (fun q => n0 ≤ q) st u
/-- a constructor's contract -/
def cOk (l : Launch) (g : qGm) (d : Nat) (y : MethodName) (b : ByteArray) (mL : Nat) (av : List Value) (n0 : Nat) (ad : Nat → Nat) (t : Nat) (E : Nat → va_E) (t' mc ms : Nat) (P : (Nat → Nat) → (Nat → va_E) → Prop) : Prop :=
  Met l y (qWs y b mL none) (cRm d mc ms) (cPc g n0 ad t E av) (cQQ g n0 t' P) mc ms (fun q => n0 ≤ q)
def cCm (g : qGm) (X : qCt) (b : ByteArray) (own : String) (n0 d t' mc ms : Nat) (P : (Nat → Nat) → (Nat → va_E) → Prop) : Prop := cCx g X b own n0 d mc ms ∧ match X with
  | (_, _, _, s, _, args, below, meth, _, Q, A, _, _, _) => Q = MQ below (cQQ g n0 t' P) args s mc ms (fun q => n0 ≤ q) ∧ meth.sig.returnType = none ∧ A = (fun q => n0 ≤ q) ∧ meth.name = "<init>"
theorem c_blind (g : qGm) (n0 : Nat) (ad : Nat → Nat) (t : Nat) (E : Nat → va_E) (av : List Value) : FrameBlind (cPc g n0 ad t E av) := fun a U gg mk q => by
  obtain ⟨q0, q1, q2, q3, q4, q5, q6⟩ := q
  exact ⟨q0, q1, q2, q3, va_K.moved (u := U) (U := U.calling gg mk a) (Vm.Alike.refl U.vm) q4, c_nstS (s := U) (U := U.calling gg mk a) rfl q5, va_AO.moved (u := U) (U := U.calling gg mk a) (Vm.Alike.refl U.vm) q6⟩
theorem c_ok {l : Launch} {g : qGm} {d : Nat} {y : MethodName} {b : ByteArray} {mL : Nat} {av : List Value} {n0 : Nat} {ad : Nat → Nat} {t : Nat} {E : Nat → va_E} {t' mc ms : Nat} {P : (Nat → Nat) → (Nat → va_E) → Prop} (hy : plainName y.cls = true) (hav : (lg_sl av).length ≤ mL) (hnm : y.name = "<init>")
    (body : ∀ X, cCm g X b y.cls n0 d t' mc ms P → qNL X = mL → cV l g X ad t E 0 0 0 (lv_args 0 av) []) : cOk l g d y b mL av n0 ad t E t' mc ms P := by
  refine Met.ofW (cc := b) (maxL := mL) (ret := none) hy rfl ?_
  intro p e s m args below meth c s₁ B hml hv
  obtain ⟨rfl, hz, hP, hD, hK⟩ := hv
  have hts := atoms_spec (ws := qWs y b mL none) B.pre
  have hown : s.vm.findClass y.cls = some m.cls := findClass_of_methodNamed B.named
  have hin : meth.name = "<init>" := (name_of_methodNamed B.named B.method).1.trans hnm
  have hl := lv_entry av (n := mL) hav
  rw [lg_entry_eq]
  generalize (lg_sl av ++ List.replicate (mL - (lg_sl av).length) Slot.unset).toArray = la at hl ⊢
  have key := body (p, e, (headSpec (qWs y b mL none) (cRm d mc ms)).room, s, m, av.toArray, below, meth, c, MQ below (cQQ g n0 t' P) av.toArray s mc ms (fun q => n0 ≤ q), (fun q => n0 ≤ q), mL, 0, 0) ⟨⟨B.exec, B.bytes, hml, hown, fun w hw => hts w (List.mem_cons_of_mem _ hw), ⟨Nat.le_refl _, Nat.le_refl _⟩, hK, ⟨hz, fun _ => Iff.rfl⟩, B.notSynchronized, ⟨Nat.le_refl _, Nat.le_refl _⟩⟩, rfl, B.returns, rfl, hin⟩ rfl
  refine key s.heap [] la hP hD va_S.rf ⟨hl.1, hl.2.1, fun k v hk => ?_⟩
  have : ∀ (ls : List (Nat × Value)) (k : Nat) (v : Value), qLg ls k = some v → (k, v) ∈ ls := by
    intro ls
    induction ls with
    | nil => intro k v h; cases h
    | cons q r ih =>
      intro k v h
      rcases qLg_cons (i := q.1) (v := q.2) h with ⟨rfl, rfl⟩ | ⟨-, h⟩
      · exact List.mem_cons_self
      · exact List.mem_cons_of_mem _ (ih k v h)
  exact hl.2.2 (k, v) (this _ _ _ hk)
theorem c_oiM : Cond.instanceMethod objectInit ∈ qtb := q_mt 88 (by decide +kernel) (by decide +kernel)
theorem c_oiC : Cond.code objectInit ⟨#[0xb1]⟩ 1 none ∈ qtb := q_mt 89 (by decide +kernel) (by decide +kernel)
theorem c_arI : Cond.arrayClass .int ∈ qtb := q_mt 140 (by decide +kernel) (by decide +kernel)
theorem c_arZ : Cond.arrayClass .boolean ∈ qtb := q_mt 1036 (by decide +kernel) (by decide +kernel)
theorem c_arJ : Cond.arrayClass .long ∈ qtb := q_mt 1037 (by decide +kernel) (by decide +kernel)
section CROWS
variable {l : Launch} {g : qGm} {X : qCt} {b : ByteArray} {own : String} {n0 d mc ms pc nc ns t : Nat} {ad : Nat → Nat} {E : Nat → va_E} {ls : List (Nat × Value)} {st : List Value}
theorem c_vret {t' : Nat} {P : (Nat → Nat) → (Nat → va_E) → Prop} (C : cCm g X b own n0 d t' mc ms P) (hd : decode b pc = .ok (.return_, 1)) (hc : nc ≤ mc ∧ ns ≤ ms) (h : P ad E) : cV l g X ad t' E nc ns pc ls [] := by
  obtain ⟨p, e, R, s, m, args, below, meth, c, Q, A, nL, nc0, ns0⟩ := X
  obtain ⟨C, hQ, hr, hA, hin⟩ := C
  subst hQ; subst hA
  intro H locs la hP hD hS hL
  refine W.widen (k := mc) (n := ms) hc.1 hc.2 ?_
  exact W.vret C.1 C.2.1 hr (fun t ht _ => ⟨⟨ad, E, rfl, h, by rw [ht]; exact hP, hD⟩, hS.F ht⟩) hS.2.2 hd C.2.2.2.2.2.2.2.2.1
theorem c_ls {ls' : List (Nat × Value)} (h : qLs ls ls') (k : cV l g X ad t E nc ns pc ls' st) : cV l g X ad t E nc ns pc ls st := by
  obtain ⟨p, e, R, s, m, args, below, meth, c, Q, A, nL, nc0, ns0⟩ := X
  intro H locs la hR hW hS hL
  refine k H locs la hR hW hS ⟨hL.1, hL.2.1, fun i v hi => hL.2.2 i v ?_⟩
  clear k hL hS hW hR
  induction ls' with
  | nil => cases hi
  | cons q r ih =>
    rcases qLg_cons (i := q.1) (v := q.2) hi with ⟨rfl, rfl⟩ | ⟨-, h2⟩
    · exact h.1
    · exact ih h.2 h2
theorem c_iconst (C : cCx g X b own n0 d mc ms) {n : Int} (hd : decode b pc = .ok (.iconst n, 1)) (k : cV l g X ad t E nc ns (pc + 1) ls (qI n :: st)) : cV l g X ad t E nc ns pc ls st := by
  obtain ⟨p, e, R, s, m, args, below, meth, c, Q, A, nL, nc0, ns0⟩ := X
  intro H locs la hP hD hS hL
  exact lv_iconst C.1 C.2.1 hd rfl (k H locs la hP hD hS hL)
theorem c_bipush (C : cCx g X b own n0 d mc ms) {n : Int} (hd : decode b pc = .ok (.bipush n, 2)) (hn : (Int8.ofInt n).toInt32 = Int32.ofInt n) (k : cV l g X ad t E nc ns (pc + 2) ls (qI n :: st)) : cV l g X ad t E nc ns pc ls st := by
  obtain ⟨p, e, R, s, m, args, below, meth, c, Q, A, nL, nc0, ns0⟩ := X
  intro H locs la hP hD hS hL
  exact lv_bipush C.1 C.2.1 hd hn (k H locs la hP hD hS hL)
theorem c_sipush (C : cCx g X b own n0 d mc ms) {n : Int} (hd : decode b pc = .ok (.sipush n, 3)) (hn : (Int16.ofInt n).toInt32 = Int32.ofInt n) (k : cV l g X ad t E nc ns (pc + 3) ls (qI n :: st)) : cV l g X ad t E nc ns pc ls st := by
  obtain ⟨p, e, R, s, m, args, below, meth, c, Q, A, nL, nc0, ns0⟩ := X
  intro H locs la hP hD hS hL
  exact lv_sipush C.1 C.2.1 hd hn (k H locs la hP hD hS hL)
theorem c_aloadn (C : cCx g X b own n0 d mc ms) {i : Fin 4} {a : Nat} (hd : decode b pc = .ok (.aload_n i, 1)) (hl : qLg ls i = some (.ref a)) (k : cV l g X ad t E nc ns (pc + 1) ls (.ref a :: st)) : cV l g X ad t E nc ns pc ls st := by
  obtain ⟨p, e, R, s, m, args, below, meth, c, Q, A, nL, nc0, ns0⟩ := X
  intro H locs la hP hD hS hL
  exact lv_aload_n C.1 C.2.1 hd rfl (hL.2.2 _ _ hl) (k H locs la hP hD hS hL)
theorem c_iloadn (C : cCx g X b own n0 d mc ms) {i : Fin 4} {z : Int} (hd : decode b pc = .ok (.iload_n i, 1)) (hl : qLg ls i = some (qI z)) (k : cV l g X ad t E nc ns (pc + 1) ls (qI z :: st)) : cV l g X ad t E nc ns pc ls st := by
  obtain ⟨p, e, R, s, m, args, below, meth, c, Q, A, nL, nc0, ns0⟩ := X
  intro H locs la hP hD hS hL
  exact lv_iload_n C.1 C.2.1 hd rfl (hL.2.2 _ _ hl) (k H locs la hP hD hS hL)
theorem c_astoren (C : cCx g X b own n0 d mc ms) {i : Fin 4} {a : Nat} (hd : decode b pc = .ok (.astore_n i, 1)) {nl : Nat} (hn : qNL X = nl) (hi : (i : Nat) < nl) (hc : qL1 ls i = true) (k : cV l g X ad t E nc ns (pc + 1) ((i, .ref a) :: ls) st) : cV l g X ad t E nc ns pc ls (.ref a :: st) := by
  subst hn
  obtain ⟨p, e, R, s, m, args, below, meth, c, Q, A, nL, nc0, ns0⟩ := X
  intro H locs la hP hD hS hL
  exact lv_astore_n C.1 C.2.1 hd rfl hL.has hi rfl (fun la' h => k H locs la' hP hD hS (hL.put1 hc h))
theorem c_istoren (C : cCx g X b own n0 d mc ms) {i : Fin 4} {z : Int} (hd : decode b pc = .ok (.istore_n i, 1)) {nl : Nat} (hn : qNL X = nl) (hi : (i : Nat) < nl) (hc : qL1 ls i = true) (k : cV l g X ad t E nc ns (pc + 1) ((i, qI z) :: ls) st) : cV l g X ad t E nc ns pc ls (qI z :: st) := by
  subst hn
  obtain ⟨p, e, R, s, m, args, below, meth, c, Q, A, nL, nc0, ns0⟩ := X
  intro H locs la hP hD hS hL
  exact lv_istore_n C.1 C.2.1 hd rfl hL.has hi rfl (fun la' h => k H locs la' hP hD hS (hL.put1 hc h))
theorem c_iinc (C : cCx g X b own n0 d mc ms) {i : Nat} {n x : Int} (hd : decode b pc = .ok (.iinc i n, 3)) (hl : qLg ls i = some (qI x)) {nl : Nat} (hn : qNL X = nl) (hi : i < nl) (hc : qL1 ls i = true) (k : cV l g X ad t E nc ns (pc + 3) ((i, qI (x + n)) :: ls) st) : cV l g X ad t E nc ns pc ls st := by
  subst hn
  obtain ⟨p, e, R, s, m, args, below, meth, c, Q, A, nL, nc0, ns0⟩ := X
  intro H locs la hP hD hS hL
  obtain ⟨kk, hkk⟩ := List.getElem?_of_mem (q_lcMem.mpr ⟨hi, hl⟩)
  exact lv_iinc C.1 C.2.1 hd hL.has hkk (Int32.ofInt_add x n).symm hi rfl (fun la' h => k H locs la' hP hD hS (hL.put1 hc h))
theorem c_goto (C : cCx g X b own n0 d mc ms) {off : Int} {tgt : Nat} (hd : decode b pc = .ok (.goto off, 3)) (ht : (pc : Int) + off = (tgt : Int)) (k : cV l g X ad t E nc ns tgt ls st) : cV l g X ad t E nc ns pc ls st := by
  obtain ⟨p, e, R, s, m, args, below, meth, c, Q, A, nL, nc0, ns0⟩ := X
  intro H locs la hP hD hS hL
  exact lv_goto C.1 C.2.1 hd ht (k H locs la hP hD hS hL)
theorem c_dup (C : cCx g X b own n0 d mc ms) {v : Value} (hd : decode b pc = .ok (.dup, 1)) (hv : v.category = 1) (k : cV l g X ad t E nc ns (pc + 1) ls (v :: v :: st)) : cV l g X ad t E nc ns pc ls (v :: st) := by
  obtain ⟨p, e, R, s, m, args, below, meth, c, Q, A, nL, nc0, ns0⟩ := X
  intro H locs la hP hD hS hL
  exact lv_dup C.1 C.2.1 hd hv (k H locs la hP hD hS hL)
theorem c_icmp_ge (C : cCx g X b own n0 d mc ms) {x y : Int} {off : Int} (tgt : Nat) (hd : decode b pc = .ok (.if_icmp .ge off, 3)) (ht : (pc : Int) + off = (tgt : Int)) (hx : qIn x) (hy : qIn y)
    (kt : y ≤ x → cV l g X ad t E nc ns tgt ls st) (kf : ¬ (y ≤ x) → cV l g X ad t E nc ns (pc + 3) ls st) : cV l g X ad t E nc ns pc ls (qI y :: qI x :: st) := by
  obtain ⟨p, e, R, s, m, args, below, meth, c, Q, A, nL, nc0, ns0⟩ := X
  intro H locs la hP hD hS hL
  exact lv_icmp_ge C.1 C.2.1 hd ht (fun h => kt ((q_le hy hx).mp h) H locs la hP hD hS hL) (fun h => kf (fun e => h ((q_le hy hx).mpr e)) H locs la hP hD hS hL)
theorem c_obj (C : cCx g X b own n0 d mc ms) {idx a : Nat} (hl : Cond.methodLink own idx objectInit ∈ qtb) (hd0 : 0 < d) (hrest : (st.map fun v => v.category).sum ≤ 8) (hd : decode b pc = .ok (.invokespecial idx, 3)) (k : cV l g X ad t E nc ns (pc + 3) ls st) : cV l g X ad t E nc ns pc ls (.ref a :: st) := by
  obtain ⟨p, e, R, s, m, args, below, meth, c, Q, A, nL, nc0, ns0⟩ := X
  intro H locs la hP hD hS hL
  have h1 := C.2.2.2.2.2.1
  refine W.objInit (a := a) (rest := st) C.1 C.2.1 C.2.2.2.1 (C.2.2.2.2.1 _ hl) (C.2.2.2.2.1 _ c_oiM) (C.2.2.2.2.1 _ c_oiC) rfl (hL.1.trans C.2.2.1.symm) rfl hd (by omega) (Nat.le_trans (Nat.add_le_add_right (lv_room hrest) 12) (by omega)) ?_
  exact W.eq (g2 := F0 m (pc + 3) la st) rfl (k H locs la hP hD hS hL)
theorem c_nn {N : Nat} (h : N ≤ 100000) : ¬ Int32.ofInt (N : Int) < 0 ∧ (Int32.ofInt (N : Int)).toNatClampNeg = N := by
  refine ⟨fun q => ?_, by rw [q_cl (by omega) (by omega)]; exact Int.toNat_natCast N⟩
  have := (q_lt (a := (N : Int)) (b := 0) ⟨by omega, by omega⟩ q_in0).mp q
  omega
theorem c_newI (C : cCx g X b own n0 d mc ms) {n : Int} (N : Nat) {f : Nat → Int32} (hN : n = (N : Int)) (hb : N ≤ 100000) (hf : ∀ k, f k = 0) (hr : nc + 1 ≤ mc ∧ ns + N ≤ ms) (hd : decode b pc = .ok (.newarray .int, 2)) (k : ∀ q, cV l g X (va_up ad t q) (t + 1) (va_up E t (.inl (g.2.1.1, N, .inl f))) (nc + 1) (ns + N) (pc + 2) ls (.ref q :: st)) : cV l g X ad t E nc ns pc ls (qI n :: st) := by
  obtain ⟨p, e, R, s, m, args, below, meth, c, Q, A, nL, nc0, ns0⟩ := X
  intro H locs la hP hD hS hL
  subst hN
  have hK := C.2.2.2.2.2.2.1.1
  have hA : ∀ q, s.heap.size ≤ q → A q := fun q h => (C.2.2.2.2.2.2.2.1.2 q).mpr (Nat.le_trans C.2.2.2.2.2.2.2.1.1 h)
  have hz := C.2.2.2.2.2.2.2.2.2
  refine va_newa (a0 := (N, .inl f)) (atype := .int) (ty := .int) C.1 C.2.1 (C.2.2.2.2.1 _ c_arI) rfl hK hP hD hS hA (fun cA => ?_) (c_nn hb).1 (c_nn hb).2 ?_ (by omega) (by omega) hd (fun q cA H1 hK1 hP1 hD1 hS1 => ?_)
  · rw [vp_cell_i]; congr 1; funext j; rw [hf]; rfl
  · show N * 4 ≤ _; omega
  · have e : cA = g.2.1.1 := by
      have h1 : s.vm.findClass ("[" ++ (FieldType.int).toString) = some cA := (hK1.2 4 (cA, .int) rfl).2
      have h2 : s.vm.findClass ("[" ++ (FieldType.int).toString) = some g.2.1.1 := (hK.2 0 (g.2.1.1, .int) rfl).2
      exact Option.some.inj (h1.symm.trans h2)
    subst e
    rw [cL_push] at hP1 hD1
    exact k q H1 locs la hP1 hD1 hS1 hL
theorem c_newZ (C : cCx g X b own n0 d mc ms) {n : Int} (N : Nat) {f : Nat → Int32} (hN : n = (N : Int)) (hb : N ≤ 100000) (hf : ∀ k, f k = 0) (hr : nc + 1 ≤ mc ∧ ns + N ≤ ms) (hd : decode b pc = .ok (.newarray .boolean, 2)) (k : ∀ q, cV l g X (va_up ad t q) (t + 1) (va_up E t (.inl (g.2.1.2.2.1, N, .inl f))) (nc + 1) (ns + N) (pc + 2) ls (.ref q :: st)) : cV l g X ad t E nc ns pc ls (qI n :: st) := by
  obtain ⟨p, e, R, s, m, args, below, meth, c, Q, A, nL, nc0, ns0⟩ := X
  intro H locs la hP hD hS hL
  subst hN
  have hK := C.2.2.2.2.2.2.1.1
  have hA : ∀ q, s.heap.size ≤ q → A q := fun q h => (C.2.2.2.2.2.2.2.1.2 q).mpr (Nat.le_trans C.2.2.2.2.2.2.2.1.1 h)
  have hz := C.2.2.2.2.2.2.2.2.2
  refine va_newa (a0 := (N, .inl f)) (atype := .boolean) (ty := .boolean) C.1 C.2.1 (C.2.2.2.2.1 _ c_arZ) rfl hK hP hD hS hA (fun cA => ?_) (c_nn hb).1 (c_nn hb).2 ?_ (by omega) (by omega) hd (fun q cA H1 hK1 hP1 hD1 hS1 => ?_)
  · rw [vp_cell_i]; congr 1; funext j; rw [hf]; rfl
  · show N * 1 ≤ _; omega
  · have e : cA = g.2.1.2.2.1 := by
      have h1 : s.vm.findClass ("[" ++ (FieldType.boolean).toString) = some cA := (hK1.2 4 (cA, .boolean) rfl).2
      have h2 : s.vm.findClass ("[" ++ (FieldType.boolean).toString) = some g.2.1.2.2.1 := (hK.2 2 (g.2.1.2.2.1, .boolean) rfl).2
      exact Option.some.inj (h1.symm.trans h2)
    subst e
    rw [cL_push] at hP1 hD1
    exact k q H1 locs la hP1 hD1 hS1 hL
theorem c_newJ (C : cCx g X b own n0 d mc ms) {n : Int} (N : Nat) {f : Nat → Int64} (hN : n = (N : Int)) (hb : N ≤ 100000) (hf : ∀ k, f k = 0) (hr : nc + 1 ≤ mc ∧ ns + N ≤ ms) (hd : decode b pc = .ok (.newarray .long, 2)) (k : ∀ q, cV l g X (va_up ad t q) (t + 1) (va_up E t (.inl (g.2.1.2.1, N, .inr (.inl f)))) (nc + 1) (ns + N) (pc + 2) ls (.ref q :: st)) : cV l g X ad t E nc ns pc ls (qI n :: st) := by
  obtain ⟨p, e, R, s, m, args, below, meth, c, Q, A, nL, nc0, ns0⟩ := X
  intro H locs la hP hD hS hL
  subst hN
  have hK := C.2.2.2.2.2.2.1.1
  have hA : ∀ q, s.heap.size ≤ q → A q := fun q h => (C.2.2.2.2.2.2.2.1.2 q).mpr (Nat.le_trans C.2.2.2.2.2.2.2.1.1 h)
  have hz := C.2.2.2.2.2.2.2.2.2
  refine va_newa (a0 := (N, .inr (.inl f))) (atype := .long) (ty := .long) C.1 C.2.1 (C.2.2.2.2.1 _ c_arJ) rfl hK hP hD hS hA (fun cA => ?_) (c_nn hb).1 (c_nn hb).2 ?_ (by omega) (by omega) hd (fun q cA H1 hK1 hP1 hD1 hS1 => ?_)
  · rw [vp_cell_l]; congr 1; funext j; rw [hf]; rfl
  · show N * 8 ≤ _; omega
  · have e : cA = g.2.1.2.1 := by
      have h1 : s.vm.findClass ("[" ++ (FieldType.long).toString) = some cA := (hK1.2 4 (cA, .long) rfl).2
      have h2 : s.vm.findClass ("[" ++ (FieldType.long).toString) = some g.2.1.2.1 := (hK.2 1 (g.2.1.2.1, .long) rfl).2
      exact Option.some.inj (h1.symm.trans h2)
    subst e
    rw [cL_push] at hP1 hD1
    exact k q H1 locs la hP1 hD1 hS1 hL
theorem c_newQ (C : cCx g X b own n0 d mc ms) {n : Int} {idx : Nat} (N : Nat) (hN : n = (N : Int)) (hb : N ≤ 100000) (hcl : Cond.classLink own idx RX2 ∈ qtb) (hr : nc + 1 ≤ mc ∧ ns + N ≤ ms) (hd : decode b pc = .ok (.anewarray idx, 3)) (k : ∀ q, cV l g X (va_up ad t q) (t + 1) (va_up E t (.inl (g.2.1.2.2.2, N, .inr (.inr (.inr (.inr (fun _ => none))))))) (nc + 1) (ns + N) (pc + 3) ls (.ref q :: st)) : cV l g X ad t E nc ns pc ls (qI n :: st) := by
  obtain ⟨p, e, R, s, m, args, below, meth, c, Q, A, nL, nc0, ns0⟩ := X
  intro H locs la hP hD hS hL
  subst hN
  have hK := C.2.2.2.2.2.2.1.1
  have hA : ∀ q, s.heap.size ≤ q → A q := fun q h => (C.2.2.2.2.2.2.2.1.2 q).mpr (Nat.le_trans C.2.2.2.2.2.2.2.1.1 h)
  have hz := C.2.2.2.2.2.2.2.2.2
  refine va_newq C.1 C.2.1 C.2.2.2.1 (C.2.2.2.2.1 _ hcl) C.2.2.2.2.2.2.1.2.2 hK hP hD hS hA (c_nn hb).1 (c_nn hb).2 (by omega) (by omega) (by omega) hd (fun q cA H1 hK1 hP1 hD1 hS1 => ?_)
  have e : cA = g.2.1.2.2.2 := by
    obtain ⟨-, -, -, -, -, h1⟩ := (hK1.2 4 (cA, .object RX2) rfl).2
    obtain ⟨-, -, -, -, -, h2⟩ := (hK.2 3 (g.2.1.2.2.2, .object RX2) rfl).2
    exact Option.some.inj (h1.symm.trans h2)
  subst e
  rw [cL_push] at hP1 hD1
  exact k q H1 locs la hP1 hD1 hS1 hL
theorem c_new (C : cCx g X b own n0 d mc ms) {idx ci N : Nat} {Cn : String} {T : u_T} {fs : List Value} (hcl : Cond.classLink own idx Cn ∈ qtb) (hins : Cond.instantiable Cn N ∈ qtb) (hini : Cond.initialized Cn ∈ qtb) (hc : qcl[ci]? = some (Cn, T, N)) (fx : ∀ w ∈ u_ws Cn T N, w ∈ qtb) (ty0 : Nat → FieldType) (hty : ∀ k, k < N → parseFieldDescriptor (T k).2.2.1 = some (ty0 k)) (hfs : ∀ j, j < N → defaultValue (ty0 j) = vp_V fs j) (hr : nc + 1 ≤ mc ∧ ns + N ≤ ms) (hd : decode b pc = .ok (.new idx, 3)) (k : ∀ q, cV l g X (va_up ad t q) (t + 1) (va_up E t (.inr (ci, fs))) (nc + 1) (ns + N) (pc + 3) ls (.ref q :: st)) : cV l g X ad t E nc ns pc ls st := by
  obtain ⟨p, e, R, s, m, args, below, meth, c, Q, A, nL, nc0, ns0⟩ := X
  intro H locs la hP hD hS hL
  have hA : ∀ q, s.heap.size ≤ q → A q := fun q h => (C.2.2.2.2.2.2.2.1.2 q).mpr (Nat.le_trans C.2.2.2.2.2.2.2.1.1 h)
  have hz := C.2.2.2.2.2.2.2.2.2
  refine va_new C.1 C.2.1 C.2.2.2.2.1 fx ty0 hty C.2.2.2.1 (C.2.2.2.2.1 _ hcl) (C.2.2.2.2.1 _ hins) (C.2.2.2.2.1 _ hini) C.2.2.2.2.2.2.1.1 hP hD hS hA hc hfs (by omega) (by omega) hd (fun q H1 hP1 hD1 hS1 => ?_)
  rw [cL_push] at hP1 hD1
  exact k q H1 locs la hP1 hD1 hS1 hL
theorem c_put (C : cCx g X b own n0 d mc ms) {p0 a ci kf idx N : Nat} {Cn : String} {T : u_T} {fs fs' : List Value} {v : Value} {ty : FieldType} (hp : p0 < t) (ha : ad p0 = a) (he : E p0 = .inr (ci, fs)) (hc : qcl[ci]? = some (Cn, T, N)) (fx : ∀ w ∈ u_ws Cn T N, w ∈ qtb) (ty0 : Nat → FieldType) (hty : ∀ k, k < N → parseFieldDescriptor (T k).2.2.1 = some (ty0 k)) (hnm : ∀ a, a < N → ∀ b, b < N → a ≠ b → (T a).2.1 ≠ (T b).2.1) (hk : kf < N) (hl : Cond.fieldLink own idx (T kf).1 (T kf).2.1 (T kf).2.2.1 ∈ qtb) (hfin : (T kf).2.2.2 = false) (hd0 : parseFieldDescriptor (T kf).2.2.1 = some ty) (hn : narrow ty v = v) (hfit : fits ty v = true) (hlen : kf < fs.length) (hnew : fs.set kf v = fs') (hd : decode b pc = .ok (.putfield idx, 3)) (k : cV l g X ad t (va_up E p0 (.inr (ci, fs'))) nc ns (pc + 3) ls st) : cV l g X ad t E nc ns pc ls (v :: .ref a :: st) := by
  obtain ⟨p, e, R, s, m, args, below, meth, c, Q, A, nL, nc0, ns0⟩ := X
  intro H locs la hP hD hS hL
  subst hnew
  subst ha
  refine va_put C.1 C.2.1 C.2.2.2.2.1 fx ty0 hty hnm C.2.2.2.1 C.2.2.2.2.2.2.1.1 hP hD hS p0 (by rw [cL_at hp, he]) hc kf hk (C.2.2.2.2.1 _ hl) (fun _ h => h) hfin hd0 hn hfit hlen hd (fun H1 locs1 hP1 hD1 hS1 => ?_)
  rw [cL_set hp] at hP1 hD1
  exact k H1 locs1 la hP1 hD1 hS1 hL
theorem c_putF {t' : Nat} {P : (Nat → Nat) → (Nat → va_E) → Prop} (C' : cCm g X b own n0 d t' mc ms P) {p0 a ci kf idx N : Nat} {Cn : String} {T : u_T} {fs fs' : List Value} {v : Value} {ty : FieldType} (hp : p0 < t) (ha : ad p0 = a) (he : E p0 = .inr (ci, fs)) (hc : qcl[ci]? = some (Cn, T, N)) (fx : ∀ w ∈ u_ws Cn T N, w ∈ qtb) (ty0 : Nat → FieldType) (hty : ∀ k, k < N → parseFieldDescriptor (T k).2.2.1 = some (ty0 k)) (hnm : ∀ a, a < N → ∀ b, b < N → a ≠ b → (T a).2.1 ≠ (T b).2.1) (hk : kf < N) (hl : Cond.fieldLink own idx (T kf).1 (T kf).2.1 (T kf).2.2.1 ∈ qtb) (hfin : (T kf).2.2.2 = true) (hdecl : (T kf).1 = own) (hd0 : parseFieldDescriptor (T kf).2.2.1 = some ty) (hn : narrow ty v = v) (hfit : fits ty v = true) (hlen : kf < fs.length) (hnew : fs.set kf v = fs') (hd : decode b pc = .ok (.putfield idx, 3)) (k : cV l g X ad t (va_up E p0 (.inr (ci, fs'))) nc ns (pc + 3) ls st) : cV l g X ad t E nc ns pc ls (v :: .ref a :: st) := by
  obtain ⟨p, e, R, s, m, args, below, meth, c, Q, A, nL, nc0, ns0⟩ := X
  obtain ⟨C, -, -, -, hin⟩ := C'
  intro H locs la hP hD hS hL
  subst hnew
  subst ha
  refine va_putF C.1 C.2.1 C.2.2.2.2.1 fx ty0 hty hnm C.2.2.2.1 C.2.2.2.2.2.2.1.1 hP hD hS p0 (by rw [cL_at hp, he]) hc kf hk (C.2.2.2.2.1 _ hl) (fun _ h => h) hfin hin hdecl hd0 hn hfit hlen hd (fun H1 locs1 hP1 hD1 hS1 => ?_)
  rw [cL_set hp] at hP1 hD1
  exact k H1 locs1 la hP1 hD1 hS1 hL
theorem c_get (C : cCx g X b own n0 d mc ms) {p0 a ci kf idx N : Nat} {Cn : String} {T : u_T} {fs : List Value} {v : Value} (hp : p0 < t) (ha : ad p0 = a) (he : E p0 = .inr (ci, fs)) (hc : qcl[ci]? = some (Cn, T, N)) (fx : ∀ w ∈ u_ws Cn T N, w ∈ qtb) (hk : kf < N) (hl : Cond.fieldLink own idx (T kf).1 (T kf).2.1 (T kf).2.2.1 ∈ qtb) (hv : fs[kf]? = some v) (hd : decode b pc = .ok (.getfield idx, 3)) (k : cV l g X ad t E nc ns (pc + 3) ls (v :: st)) : cV l g X ad t E nc ns pc ls (.ref a :: st) := by
  obtain ⟨p, e, R, s, m, args, below, meth, c, Q, A, nL, nc0, ns0⟩ := X
  intro H locs la hP hD hS hL
  subst ha
  exact va_get C.1 C.2.1 C.2.2.2.2.1 fx C.2.2.2.1 C.2.2.2.2.2.2.1.1 hP p0 (by rw [cL_at hp, he]) hc kf hk (C.2.2.2.2.1 _ hl) (fun _ h => h) hv hd (k H locs la hP hD hS hL)
theorem c_aast (C : cCx g X b own n0 d mc ms) {p0 p1 a a1 n i : Nat} {fs : List Value} {f : Nat → Option Nat} (hp : p0 < t) (ha : ad p0 = a) (he : E p0 = .inl (g.2.1.2.2.2, n, .inr (.inr (.inr (.inr f))))) (hp1 : p1 < t) (ha1 : ad p1 = a1) (he1 : E p1 = .inr (2, fs)) (hi : i < n) (hn : n ≤ 100000) (hd : decode b pc = .ok (.aastore, 1)) (k : cV l g X ad t (va_up E p0 (.inl (g.2.1.2.2.2, n, .inr (.inr (.inr (.inr (va_up f i (some a1)))))))) nc ns (pc + 1) ls st) : cV l g X ad t E nc ns pc ls (.ref a1 :: qI (i : Int) :: .ref a :: st) := by
  obtain ⟨p, e, R, s, m, args, below, meth, c, Q, A, nL, nc0, ns0⟩ := X
  intro H locs la hP hD hS hL
  subst ha
  subst ha1
  refine va_astq (r := (RX2, TX2, 9)) (n := n) (ci := 2) C.1 C.2.1 C.2.2.2.2.2.2.1.1 hP hD hS p0 3 p1 (by rw [cL_at hp, he]) rfl (by rw [cL_at hp1, he1]) rfl (q_vin (by omega) (by omega) (by omega)) hd (fun H1 locs1 hP1 hD1 hS1 => ?_)
  rw [cL_set hp, (c_nn (show i ≤ 100000 by omega)).2] at hP1 hD1
  exact k H1 locs1 la hP1 hD1 hS1 hL
theorem c_back {p : Program} {e : Env} {R : Room} {s : State} {m : MethodId} {args : Array Value} {below : List Frame} {meth : Method} {c : Code} {Q : State → Prop} {A : Nat → Prop} {nL nc0 ns0 mc' ms' t' : Nat} {H : Heap} {locs : List Loc} {la : Array Slot} {st0 rest : List Value} {P : (Nat → Nat) → (Nat → va_E) → Prop} {a : Array Value}
    (hr : va_Run p l e R s m args below meth c H locs nc ns mc' ms' (F0 m pc la st0) rest (cQQ g n0 t' P a) (fun q => n0 ≤ q)) (hS : va_S A s.heap H locs) (hA : ∀ q, A q ↔ n0 ≤ q) (hL : qLh la nL ls)
    (k : ∀ ad' E', P ad' E' → cV l g (p, e, R, s, m, args, below, meth, c, Q, A, nL, nc0, ns0) ad' t' E' (nc + mc') (ns + ms') (pc + 3) ls rest) : W p l e R s m args below meth c H locs nc ns Q (F0 m pc la st0) := by
  intro T hT X
  obtain ⟨v, st₀, t, T', L, h0, X', hL2, e1, e2, ⟨⟨ad', E', hv, hp, hP, hD⟩, hsz, hk⟩, st⟩ := hr T hT X
  cases hv
  rw [h0] at hsz hk
  obtain ⟨t2, a1, b1⟩ := k ad' E' hp T'.heap (locs ++ L) la (by rw [e1]; exact hP) ⟨hD.1, fun k q h => (hA _).mpr (hD.2 k q h)⟩
    ⟨Nat.le_trans hS.1 (by rw [e1]; exact hsz), fun q h1 h2 => by rw [e1, hk q (Nat.lt_of_lt_of_le h1 hS.1) (fun z => h2 ((hA q).mpr z))]; exact hS.2.1 q h1 h2, fun q hq => by
      rcases List.mem_append.mp hq with h | h
      · exact hS.2.2 q h
      · exact (hA _).mpr (hL2 q h)⟩ hL T' rfl X'
  exact ⟨t2, st t2 a1, b1⟩
theorem c_call (C : cCx g X b own n0 d mc ms) {idx a mL n d' t' mc' ms' : Nat} {y : MethodName} {b' : ByteArray} {As rest : List Value} {P : (Nat → Nat) → (Nat → va_E) → Prop} (L : qLk own idx y b' mL none n) (hin : Cond.instanceMethod y ∈ qtb) (hnm : y.name = "<init>") (hn : As.length = n) (hd' : d' < d) (hok : cOk l g d' y b' mL (.ref a :: As) n0 ad t E t' mc' ms' P) (hd : decode b pc = .ok (.invokespecial idx, 3)) (hrest : (rest.map fun v => v.category).sum ≤ 8) (hst : st = As.reverse ++ .ref a :: rest) (hr : nc + mc' ≤ mc ∧ ns + ms' ≤ ms)
    (k : ∀ ad' E', P ad' E' → cV l g X ad' t' E' (nc + mc') (ns + ms') (pc + 3) ls rest) : cV l g X ad t E nc ns pc ls st := by
  subst hst
  obtain ⟨p, e, R, s, m, args, below, meth, c, Q, A, nL, nc0, ns0⟩ := X
  intro H locs la hP hD hS hL
  obtain ⟨h1, h2, h3, h4, h5, h6⟩ := L
  have hR := C.2.2.2.2.2.1
  have hz := C.2.2.2.2.2.2.2.2.2
  refine c_back (va_runI (As := As) (rest := rest) ⟨C.1, C.2.1, C.2.2.1, C.2.2.2.1, C.2.2.2.2.1⟩ hok ⟨⟨rfl, rfl, (by show d' + 1 ≤ R.frames; omega), (by show 8 + (mL + 11) + 32 * d' ≤ R.locals; omega), pay_in C.2.2.2.2.1 (q_good h3), List.mem_cons_self, C.2.2.2.2.1 _ h3, C.2.2.2.2.1 _ h2, h4, fun sig h => (by rw [h] at h5; exact (Option.some.inj h5).symm), C.2.2.2.2.1 _ h1⟩, hnm, C.2.2.2.2.1 _ hin⟩ ⟨c_blind g n0 ad t E _, fun U hU hWm => ⟨rfl, by rw [hU]; exact Nat.le_trans C.2.2.2.2.2.2.2.1.1 hS.1, by rw [hU]; exact hP, ⟨hD.1, fun k q h => (C.2.2.2.2.2.2.2.1.2 _).mp (hD.2 k q h)⟩, C.2.2.2.2.2.2.1.warm hWm⟩⟩ rfl hn hL.1 rfl (lv_room hrest) hd ⟨by omega, by omega⟩) hS C.2.2.2.2.2.2.2.1.2 hL k
theorem c_callN (C : cCx g X b own n0 d mc ms) {idx a mL n d' t' mc' ms' : Nat} {y : MethodName} {host : String} {b' : ByteArray} {As rest : List Value} {P : (Nat → Nat) → (Nat → va_E) → Prop} (hnl : Cond.methodLinkNest own idx y host ∈ cNst) (hini : Cond.initialized y.cls ∈ qtb) (hco : Cond.code y b' mL none ∈ qtb) (hmh : y.cls ≠ "java/lang/invoke/MethodHandle" ∧ y.cls ≠ "java/lang/invoke/VarHandle" ∧ (parseMethodDescriptor y.desc).map (fun d => d.parameters.length) = some n) (hmL : mL ≤ 13) (hin : Cond.instanceMethod y ∈ qtb) (hnm : y.name = "<init>") (hn : As.length = n) (hd' : d' < d) (hok : cOk l g d' y b' mL (.ref a :: As) n0 ad t E t' mc' ms' P) (hd : decode b pc = .ok (.invokespecial idx, 3)) (hrest : (rest.map fun v => v.category).sum ≤ 8) (hst : st = As.reverse ++ .ref a :: rest) (hr : nc + mc' ≤ mc ∧ ns + ms' ≤ ms)
    (k : ∀ ad' E', P ad' E' → cV l g X ad' t' E' (nc + mc') (ns + ms') (pc + 3) ls rest) : cV l g X ad t E nc ns pc ls st := by
  subst hst
  obtain ⟨p, e, R, s, m, args, below, meth, c, Q, A, nL, nc0, ns0⟩ := X
  intro H locs la hP hD hS hL
  have hR := C.2.2.2.2.2.1
  have hz := C.2.2.2.2.2.2.2.2.2
  refine c_back (va_runIN (As := As) (rest := rest) ⟨C.1, C.2.1, C.2.2.1, C.2.2.2.1, C.2.2.2.2.1⟩ hok ⟨va_cnB n C.2.2.2.2.1 (q_good hco) rfl rfl rfl (C.2.2.2.2.2.2.1.2.1 _ hnl) (C.2.2.2.2.1 _ hini) hmh ⟨by show d' + 1 ≤ R.frames; omega, by show 8 + (mL + 11) + 32 * d' ≤ R.locals; omega⟩, hnm, C.2.2.2.2.1 _ hin⟩ ⟨c_blind g n0 ad t E _, fun U hU hWm => ⟨rfl, by rw [hU]; exact Nat.le_trans C.2.2.2.2.2.2.2.1.1 hS.1, by rw [hU]; exact hP, ⟨hD.1, fun k q h => (C.2.2.2.2.2.2.2.1.2 _).mp (hD.2 k q h)⟩, C.2.2.2.2.2.2.1.warm hWm⟩⟩ rfl hn hL.1 rfl (lv_room hrest) hd ⟨by omega, by omega⟩) hS C.2.2.2.2.2.2.2.1.2 hL k
end CROWS
