/-! the judgement: the machine at a place of a method, the world holding the memory M -/
abbrev qCt : Type := Program × Env × Room × State × MethodId × Array Value × List Frame × Method × Code × (State → Prop) × (Nat → Prop) × Nat × Nat × Nat
abbrev qNL (X : qCt) : Nat := X.2.2.2.2.2.2.2.2.2.2.2.1
def qV (l : Launch) (g : qGm) (X : qCt) (M : qMem) (pc : Nat) (ls : List (Nat × Value)) (st : List Value) : Prop := match X with
  | (p, e, R, s, m, args, below, meth, c, Q, A, nL, nc, ns) => ∀ (H : Heap) (locs : List Loc) (la : Array Slot), qRg M → qWd g M H → va_S A s.heap H locs → qLh la nL ls → W p l e R s m args below meth c H locs nc ns Q (F0 m pc la st)
def qTy (g : qGm) : List (ClassId × FieldType) := [(g.2.1.1, .int), (g.2.1.2.1, .long), (g.2.1.2.2.1, .boolean), (g.2.1.2.2.2, .object RX2)]
def qNest : Cond := .methodLinkNest RX7 47 yX11_isWithin RX11
def qKd (g : qGm) (U : State) : Prop := va_K g.1 qcl (qTy g) U ∧ va_Nw qNest U
def qCx (l : Launch) (g : qGm) (X : qCt) (b : ByteArray) (own : String) (d : Nat) : Prop := match X with
  | (p, e, R, s, m, args, below, meth, c, Q, A, nL, nc, ns) => p.tables.exec = Jvm.exec ∧ c.code = b ∧ c.maxLocals = nL ∧ s.vm.findClass own = some m.cls ∧ (∀ w ∈ qtb, w.before args s = true) ∧ (d ≤ R.frames ∧ 32 * d ≤ R.locals) ∧ qKd g s ∧ qDj g ∧ (∀ q, qFr g q → A q) ∧ meth.locks = false ∧ nc ≤ R.cells ∧ ns ≤ R.slots
def qRm (d : Nat) : Room := { frames := d, cells := 0, slots := 0, locals := 32 * d }
def qQQ (g : qGm) (P : Option Int → qMem → Prop) : Array Value → State → Outcome → State → Prop := fun _ st oc t =>
  (∃ (r : Option Int) (M : qMem), oc = .returned (r.map qI) ∧ (∀ z, r = some z → qIn z) ∧ P r M ∧ qRg M ∧ qWd g M t.heap) ∧ va_F (qFr g) st t
def qWs (y : MethodName) (b : ByteArray) (mL : Nat) (rt : Option FieldType) : List Cond := .code y b mL rt :: qtb
def qPc (g : qGm) (M : qMem) (av : List Value) : Array Value → State → Prop := va_Pc av (fun U => qRg M ∧ qWd g M U.heap ∧ qKd g U ∧ qDj g)
/-- a method's contract: called so, at the memory M, it ends with P -/
def qOk (l : Launch) (g : qGm) (d : Nat) (y : MethodName) (b : ByteArray) (mL : Nat) (rt : Option FieldType) (av : List Value) (M : qMem) (P : Option Int → qMem → Prop) : Prop :=
  Met l y (qWs y b mL rt) (qRm d) (qPc g M av) (qQQ g P) 0 0 (qFr g)
def qCm (l : Launch) (g : qGm) (X : qCt) (b : ByteArray) (own : String) (d : Nat) (rt : Option FieldType) (P : Option Int → qMem → Prop) : Prop := qCx l g X b own d ∧ match X with
  | (p, e, R, s, m, args, below, meth, c, Q, A, nL, nc, ns) => Q = MQ below (qQQ g P) args s 0 0 (qFr g) ∧ meth.sig.returnType = rt ∧ A = qFr g ∧ nc = 0 ∧ ns = 0
theorem q_blind (g : qGm) (M : qMem) (av : List Value) : FrameBlind (qPc g M av) := fun a U gg mk q => by
  obtain ⟨q0, q1, q2, ⟨q3, q4⟩, q5⟩ := q
  exact ⟨q0, q1, q2, ⟨va_K.moved (u := U) (U := U.calling gg mk a) (Vm.Alike.refl U.vm) q3, va_Nw.same rfl rfl q4⟩, q5⟩
theorem qKd.warm {g : qGm} {s U : State} (hW : s.WarmedH U.vm) (h : qKd g s) : qKd g U := ⟨va_K.moved hW.alike h.1, va_Nw.warmM hW h.2⟩
theorem q_ok {l : Launch} {g : qGm} {d : Nat} {y : MethodName} {b : ByteArray} {mL : Nat} {rt : Option FieldType} {av : List Value} {M : qMem} {P : Option Int → qMem → Prop} (hy : plainName y.cls = true) (hav : (lg_sl av).length ≤ mL)
    (body : ∀ X, qCm l g X b y.cls d rt P → qNL X = mL → qV l g X M 0 (lv_args 0 av) []) : qOk l g d y b mL rt av M P := by
  refine Met.ofW (cc := b) (maxL := mL) (ret := rt) hy rfl ?_
  intro p e s m args below meth c s₁ B hml hv
  obtain ⟨rfl, hR, hW, hK, hDj⟩ := hv
  have hts := atoms_spec (ws := qWs y b mL rt) B.pre
  have hown : s.vm.findClass y.cls = some m.cls := findClass_of_methodNamed B.named
  have hl := lv_entry av (n := mL) hav
  rw [lg_entry_eq]
  generalize (lg_sl av ++ List.replicate (mL - (lg_sl av).length) Slot.unset).toArray = la at hl ⊢
  have key := body (p, e, (headSpec (qWs y b mL rt) (qRm d)).room, s, m, av.toArray, below, meth, c, MQ below (qQQ g P) av.toArray s 0 0 (qFr g), qFr g, mL, 0, 0) ⟨⟨B.exec, B.bytes, hml, hown, fun w hw => hts w (List.mem_cons_of_mem _ hw), ⟨Nat.le_refl _, Nat.le_refl _⟩, hK, hDj, fun _ h => h, B.notSynchronized, Nat.zero_le _, Nat.zero_le _⟩, rfl, B.returns, rfl, rfl, rfl⟩ rfl
  refine key s.heap [] la hR hW va_S.rf ⟨hl.1, hl.2.1, fun k v hk => ?_⟩
  have : ∀ (ls : List (Nat × Value)) (k : Nat) (v : Value), qLg ls k = some v → (k, v) ∈ ls := by
    intro ls
    induction ls with
    | nil => intro k v h; cases h
    | cons q r ih =>
      intro k v h
      rcases qLg_cons (i := q.1) (v := q.2) h with ⟨rfl, rfl⟩ | ⟨-, h⟩
      · exact List.mem_cons_self
      · exact List.mem_cons_of_mem _ (ih k v h)
  exact hl.2.2 (k, v) (this _ _ _ hk)
section QROWS
variable {l : Launch} {g : qGm} {X : qCt} {M : qMem} {b : ByteArray} {own : String} {d pc : Nat} {ls : List (Nat × Value)} {st : List Value}
/-- other words for the locals -/
def qLs (ls : List (Nat × Value)) : List (Nat × Value) → Prop
  | [] => True
  | q :: r => qLg ls q.1 = some q.2 ∧ qLs ls r
theorem q_ls {ls' : List (Nat × Value)} (h : qLs ls ls') (k : qV l g X M pc ls' st) : qV l g X M pc ls st := by
  obtain ⟨p, e, R, s, m, args, below, meth, c, Q, A, nL, nc, ns⟩ := X
  intro H locs la hR hW hS hL
  refine k H locs la hR hW hS ⟨hL.1, hL.2.1, fun i v hi => hL.2.2 i v ?_⟩
  clear k hL hS hW hR
  induction ls' with
  | nil => cases hi
  | cons q r ih =>
    rcases qLg_cons (i := q.1) (v := q.2) hi with ⟨rfl, rfl⟩ | ⟨-, h2⟩
    · exact h.1
    · exact ih h.2 h2
theorem q_iconst (C : qCx l g X b own d) {n : Int} (hd : decode b pc = .ok (.iconst n, 1)) (k : qV l g X M (pc + 1) ls (qI n :: st)) : qV l g X M pc ls st := by
  obtain ⟨p, e, R, s, m, args, below, meth, c, Q, A, nL, nc, ns⟩ := X
  intro H locs la hR hW hS hL
  exact lv_iconst C.1 C.2.1 hd rfl (k H locs la hR hW hS hL)
theorem q_bipush (C : qCx l g X b own d) {n : Int} (hd : decode b pc = .ok (.bipush n, 2)) (hn : (Int8.ofInt n).toInt32 = Int32.ofInt n) (k : qV l g X M (pc + 2) ls (qI n :: st)) : qV l g X M pc ls st := by
  obtain ⟨p, e, R, s, m, args, below, meth, c, Q, A, nL, nc, ns⟩ := X
  intro H locs la hR hW hS hL
  exact lv_bipush C.1 C.2.1 hd hn (k H locs la hR hW hS hL)
theorem q_sipush (C : qCx l g X b own d) {n : Int} (hd : decode b pc = .ok (.sipush n, 3)) (hn : (Int16.ofInt n).toInt32 = Int32.ofInt n) (k : qV l g X M (pc + 3) ls (qI n :: st)) : qV l g X M pc ls st := by
  obtain ⟨p, e, R, s, m, args, below, meth, c, Q, A, nL, nc, ns⟩ := X
  intro H locs la hR hW hS hL
  exact lv_sipush C.1 C.2.1 hd hn (k H locs la hR hW hS hL)
theorem q_ldc (C : qCx l g X b own d) {i : Nat} {z : Int} {w : Int32} (hw : Cond.constant own i w ∈ qtb) (hz : w = Int32.ofInt z) (hd : decode b pc = .ok (.ldc i, 2)) (k : qV l g X M (pc + 2) ls (qI z :: st)) : qV l g X M pc ls st := by
  subst hz
  obtain ⟨p, e, R, s, m, args, below, meth, c, Q, A, nL, nc, ns⟩ := X
  intro H locs la hR hW hS hL
  exact lv_ldc C.1 C.2.1 C.2.2.2.1 (C.2.2.2.2.1 _ hw) hd (k H locs la hR hW hS hL)
theorem q_ldcw (C : qCx l g X b own d) {i : Nat} {z : Int} {w : Int32} (hw : Cond.constant own i w ∈ qtb) (hz : w = Int32.ofInt z) (hd : decode b pc = .ok (.ldc_w i, 3)) (k : qV l g X M (pc + 3) ls (qI z :: st)) : qV l g X M pc ls st := by
  subst hz
  obtain ⟨p, e, R, s, m, args, below, meth, c, Q, A, nL, nc, ns⟩ := X
  intro H locs la hR hW hS hL
  exact lv_ldcw C.1 C.2.1 C.2.2.2.1 (C.2.2.2.2.1 _ hw) hd (k H locs la hR hW hS hL)
theorem q_ldc2 (C : qCx l g X b own d) {i : Nat} {z : Int} {w : Int64} (hw : Cond.constantLong own i w ∈ qtb) (hz : w = Int64.ofInt z) (hd : decode b pc = .ok (.ldc2_w i, 3)) (k : qV l g X M (pc + 3) ls (qJ z :: st)) : qV l g X M pc ls st := by
  subst hz
  obtain ⟨p, e, R, s, m, args, below, meth, c, Q, A, nL, nc, ns⟩ := X
  intro H locs la hR hW hS hL
  exact lv_ldc2 C.1 C.2.1 C.2.2.2.1 (C.2.2.2.2.1 _ hw) hd (k H locs la hR hW hS hL)
theorem q_iloadn (C : qCx l g X b own d) {i : Fin 4} {z : Int} (hd : decode b pc = .ok (.iload_n i, 1)) (hl : qLg ls i = some (qI z)) (k : qV l g X M (pc + 1) ls (qI z :: st)) : qV l g X M pc ls st := by
  obtain ⟨p, e, R, s, m, args, below, meth, c, Q, A, nL, nc, ns⟩ := X
  intro H locs la hR hW hS hL
  exact lv_iload_n C.1 C.2.1 hd rfl (hL.2.2 _ _ hl) (k H locs la hR hW hS hL)
theorem q_iload (C : qCx l g X b own d) {i : Nat} {z : Int} (hd : decode b pc = .ok (.iload i, 2)) (hl : qLg ls i = some (qI z)) (k : qV l g X M (pc + 2) ls (qI z :: st)) : qV l g X M pc ls st := by
  obtain ⟨p, e, R, s, m, args, below, meth, c, Q, A, nL, nc, ns⟩ := X
  intro H locs la hR hW hS hL
  exact lv_iload C.1 C.2.1 hd (hL.2.2 _ _ hl) (k H locs la hR hW hS hL)
theorem q_aloadn (C : qCx l g X b own d) {i : Fin 4} {a : Nat} (hd : decode b pc = .ok (.aload_n i, 1)) (hl : qLg ls i = some (.ref a)) (k : qV l g X M (pc + 1) ls (.ref a :: st)) : qV l g X M pc ls st := by
  obtain ⟨p, e, R, s, m, args, below, meth, c, Q, A, nL, nc, ns⟩ := X
  intro H locs la hR hW hS hL
  exact lv_aload_n C.1 C.2.1 hd rfl (hL.2.2 _ _ hl) (k H locs la hR hW hS hL)
theorem q_lloadn (C : qCx l g X b own d) {i : Fin 4} {z : Int} (hd : decode b pc = .ok (.lload_n i, 1)) (hl : qLg ls i = some (qJ z)) (k : qV l g X M (pc + 1) ls (qJ z :: st)) : qV l g X M pc ls st := by
  obtain ⟨p, e, R, s, m, args, below, meth, c, Q, A, nL, nc, ns⟩ := X
  intro H locs la hR hW hS hL
  exact lv_lload_n C.1 C.2.1 hd rfl (hL.2.2 _ _ hl) (k H locs la hR hW hS hL)
theorem q_istoren (C : qCx l g X b own d) {i : Fin 4} {z : Int} (hd : decode b pc = .ok (.istore_n i, 1)) {nl : Nat} (hn : qNL X = nl) (hi : (i : Nat) < nl) (hc : qL1 ls i = true) (k : qV l g X M (pc + 1) ((i, qI z) :: ls) st) : qV l g X M pc ls (qI z :: st) := by
  subst hn
  obtain ⟨p, e, R, s, m, args, below, meth, c, Q, A, nL, nc, ns⟩ := X
  intro H locs la hR hW hS hL
  exact lv_istore_n C.1 C.2.1 hd rfl hL.has hi rfl (fun la' h => k H locs la' hR hW hS (hL.put1 hc h))
theorem q_istore (C : qCx l g X b own d) {i : Nat} {z : Int} (hd : decode b pc = .ok (.istore i, 2)) {nl : Nat} (hn : qNL X = nl) (hi : i < nl) (hc : qL1 ls i = true) (k : qV l g X M (pc + 2) ((i, qI z) :: ls) st) : qV l g X M pc ls (qI z :: st) := by
  subst hn
  obtain ⟨p, e, R, s, m, args, below, meth, c, Q, A, nL, nc, ns⟩ := X
  intro H locs la hR hW hS hL
  exact lv_istore C.1 C.2.1 hd hL.has hi rfl (fun la' h => k H locs la' hR hW hS (hL.put1 hc h))
theorem q_astoren (C : qCx l g X b own d) {i : Fin 4} {a : Nat} (hd : decode b pc = .ok (.astore_n i, 1)) {nl : Nat} (hn : qNL X = nl) (hi : (i : Nat) < nl) (hc : qL1 ls i = true) (k : qV l g X M (pc + 1) ((i, .ref a) :: ls) st) : qV l g X M pc ls (.ref a :: st) := by
  subst hn
  obtain ⟨p, e, R, s, m, args, below, meth, c, Q, A, nL, nc, ns⟩ := X
  intro H locs la hR hW hS hL
  exact lv_astore_n C.1 C.2.1 hd rfl hL.has hi rfl (fun la' h => k H locs la' hR hW hS (hL.put1 hc h))
theorem q_goto (C : qCx l g X b own d) {off : Int} {tgt : Nat} (hd : decode b pc = .ok (.goto off, 3)) (ht : (pc : Int) + off = (tgt : Int)) (k : qV l g X M tgt ls st) : qV l g X M pc ls st := by
  obtain ⟨p, e, R, s, m, args, below, meth, c, Q, A, nL, nc, ns⟩ := X
  intro H locs la hR hW hS hL
  exact lv_goto C.1 C.2.1 hd ht (k H locs la hR hW hS hL)
theorem q_dup (C : qCx l g X b own d) {v : Value} (hd : decode b pc = .ok (.dup, 1)) (hv : v.category = 1) (k : qV l g X M (pc + 1) ls (v :: v :: st)) : qV l g X M pc ls (v :: st) := by
  obtain ⟨p, e, R, s, m, args, below, meth, c, Q, A, nL, nc, ns⟩ := X
  intro H locs la hR hW hS hL
  exact lv_dup C.1 C.2.1 hd hv (k H locs la hR hW hS hL)
theorem q_pop (C : qCx l g X b own d) {v : Value} (hd : decode b pc = .ok (.pop, 1)) (hv : v.category = 1) (k : qV l g X M (pc + 1) ls st) : qV l g X M pc ls (v :: st) := by
  obtain ⟨p, e, R, s, m, args, below, meth, c, Q, A, nL, nc, ns⟩ := X
  intro H locs la hR hW hS hL
  exact lv_pop C.1 C.2.1 hd hv (k H locs la hR hW hS hL)
theorem q_dup2 (C : qCx l g X b own d) {v w : Value} (hd : decode b pc = .ok (.dup2, 1)) (hv : v.category = 1) (hw : w.category = 1) (k : qV l g X M (pc + 1) ls (v :: w :: v :: w :: st)) : qV l g X M pc ls (v :: w :: st) := by
  obtain ⟨p, e, R, s, m, args, below, meth, c, Q, A, nL, nc, ns⟩ := X
  intro H locs la hR hW hS hL
  exact lv_dup2_11 C.1 C.2.1 hd hv hw (k H locs la hR hW hS hL)
theorem q_iadd (C : qCx l g X b own d) {x y : Int} (hd : decode b pc = .ok (.iadd, 1)) (k : qV l g X M (pc + 1) ls (qI (x + y) :: st)) : qV l g X M pc ls (qI y :: qI x :: st) := by
  obtain ⟨p, e, R, s, m, args, below, meth, c, Q, A, nL, nc, ns⟩ := X
  intro H locs la hR hW hS hL
  exact lv_iadd C.1 C.2.1 hd (by rw [← Int32.ofInt_add]; exact k H locs la hR hW hS hL)
theorem q_isub (C : qCx l g X b own d) {x y : Int} (hd : decode b pc = .ok (.isub, 1)) (k : qV l g X M (pc + 1) ls (qI (x - y) :: st)) : qV l g X M pc ls (qI y :: qI x :: st) := by
  obtain ⟨p, e, R, s, m, args, below, meth, c, Q, A, nL, nc, ns⟩ := X
  intro H locs la hR hW hS hL
  exact lv_isub C.1 C.2.1 hd (by rw [← Int32.ofInt_sub]; exact k H locs la hR hW hS hL)
theorem q_imul (C : qCx l g X b own d) {x y : Int} (hd : decode b pc = .ok (.imul, 1)) (k : qV l g X M (pc + 1) ls (qI (x * y) :: st)) : qV l g X M pc ls (qI y :: qI x :: st) := by
  obtain ⟨p, e, R, s, m, args, below, meth, c, Q, A, nL, nc, ns⟩ := X
  intro H locs la hR hW hS hL
  exact lv_imul C.1 C.2.1 hd (by rw [← Int32.ofInt_mul]; exact k H locs la hR hW hS hL)
theorem q_iinc (C : qCx l g X b own d) {i : Nat} {n x : Int} (hd : decode b pc = .ok (.iinc i n, 3)) (hl : qLg ls i = some (qI x)) {nl : Nat} (hn : qNL X = nl) (hi : i < nl) (hc : qL1 ls i = true) (k : qV l g X M (pc + 3) ((i, qI (x + n)) :: ls) st) : qV l g X M pc ls st := by
  subst hn
  obtain ⟨p, e, R, s, m, args, below, meth, c, Q, A, nL, nc, ns⟩ := X
  intro H locs la hR hW hS hL
  obtain ⟨kk, hkk⟩ := List.getElem?_of_mem (q_lcMem.mpr ⟨hi, hl⟩)
  exact lv_iinc C.1 C.2.1 hd hL.has hkk (Int32.ofInt_add x n).symm hi rfl (fun la' h => k H locs la' hR hW hS (hL.put1 hc h))
/-- the value on top, in other words -/
theorem q_top {x y : Int} (h : x = y) (k : qV l g X M pc ls (qI y :: st)) : qV l g X M pc ls (qI x :: st) := by rw [h]; exact k
theorem q_mem {M' : qMem} (h : M = M') (k : qV l g X M' pc ls st) : qV l g X M pc ls st := by rw [h]; exact k
theorem q_rng (k : qRg M → qV l g X M pc ls st) : qV l g X M pc ls st := by
  obtain ⟨p, e, R, s, m, args, below, meth, c, Q, A, nL, nc, ns⟩ := X
  intro H locs la hR hW hS hL
  exact k hR H locs la hR hW hS hL
theorem q_iret {P : Option Int → qMem → Prop} (C : qCm l g X b own d (some .int) P) {z : Int} (hd : decode b pc = .ok (.ireturn, 1)) (hz : qIn z) (h : P (some z) M) : qV l g X M pc ls [qI z] := by
  obtain ⟨p, e, R, s, m, args, below, meth, c, Q, A, nL, nc, ns⟩ := X
  obtain ⟨C, hQ, hr, hA, h0c, h0s⟩ := C
  subst hQ; subst hA; subst h0c; subst h0s
  intro H locs la hR hW hS hL
  exact W.iret C.1 C.2.1 hr (fun t ht _ => ⟨⟨some z, M, rfl, fun z' hz' => by cases hz'; exact hz, h, hR, by rw [ht]; exact hW⟩, hS.F ht⟩) hS.2.2 hd C.2.2.2.2.2.2.2.2.2.1
theorem q_zret {P : Option Int → qMem → Prop} (C : qCm l g X b own d (some .boolean) P) {z : Int} (hd : decode b pc = .ok (.ireturn, 1)) (hz : z = 0 ∨ z = 1) (h : P (some z) M) : qV l g X M pc ls [qI z] := by
  obtain ⟨p, e, R, s, m, args, below, meth, c, Q, A, nL, nc, ns⟩ := X
  obtain ⟨C, hQ, hr, hA, h0c, h0s⟩ := C
  subst hQ; subst hA; subst h0c; subst h0s
  intro H locs la hR hW hS hL
  exact W.zret C.1 C.2.1 hr (by rcases hz with rfl | rfl <;> decide) (fun t ht _ => ⟨⟨some z, M, rfl, fun z' hz' => by cases hz'; omega, h, hR, by rw [ht]; exact hW⟩, hS.F ht⟩) hS.2.2 hd C.2.2.2.2.2.2.2.2.2.1
theorem q_vret {P : Option Int → qMem → Prop} (C : qCm l g X b own d none P) (hd : decode b pc = .ok (.return_, 1)) (h : P none M) : qV l g X M pc ls [] := by
  obtain ⟨p, e, R, s, m, args, below, meth, c, Q, A, nL, nc, ns⟩ := X
  obtain ⟨C, hQ, hr, hA, h0c, h0s⟩ := C
  subst hQ; subst hA; subst h0c; subst h0s
  intro H locs la hR hW hS hL
  exact W.vret C.1 C.2.1 hr (fun t ht _ => ⟨⟨none, M, rfl, (by intro z' hz'; cases hz'), h, hR, by rw [ht]; exact hW⟩, hS.F ht⟩) hS.2.2 hd C.2.2.2.2.2.2.2.2.2.1
end QROWS
