theorem dL_0 : decode code 0 = .ok (.new 7, 3) := by decide +kernel
theorem dL_3 : decode code 3 = .ok (.dup, 1) := by decide +kernel
theorem dL_4 : decode code 4 = .ok (.invokespecial 9, 3) := by decide +kernel
theorem dL_7 : decode code 7 = .ok (.astore_n 1, 1) := by decide +kernel
theorem dL_8 : decode code 8 = .ok (.new 10, 3) := by decide +kernel
theorem dL_11 : decode code 11 = .ok (.dup, 1) := by decide +kernel
theorem dL_12 : decode code 12 = .ok (.invokespecial 12, 3) := by decide +kernel
theorem dL_15 : decode code 15 = .ok (.astore_n 2, 1) := by decide +kernel
theorem dL_16 : decode code 16 = .ok (.iconst 0, 1) := by decide +kernel
theorem dL_17 : decode code 17 = .ok (.istore_n 3, 1) := by decide +kernel
theorem dL_1162 : decode code 1162 = .ok (.iconst 1, 1) := by decide +kernel
theorem dL_1163 : decode code 1163 = .ok (.ireturn, 1) := by decide +kernel
def R_law : String := "GloveSignsLaw"
def lw_P (b : Addr) (xs : List Int32) (args : Array Value) (s : State) : Prop := args = #[.ref b] ∧ s.IntsAt b xs ∧ xs.length ≤ 320 ∧ (Jvm.Cond.and given_1 narrow_1).before args s = true
def lw_Q (_ : Array Value) (s : State) (o : Outcome) (t : State) : Prop := o = .returned (some (.int 1)) ∧ Framed s o t [] 600000 7302250
def lw_Z (below : List Frame) (a : Array Value) (s : State) : State → Prop := fun t => ∃ o, t.status = .running ∧ Ended t below o ∧ lw_Q a s o t
/-- the law's own end, with 1 on the stack, nothing written that was there before, its room as the claim has it -/
theorem lw_ret {p : Program} {l : Launch} {e : Env} {s : State} {m : MethodId} {below : List Frame} {meth : Method} {c : Code} {b : Nat} (hx : p.tables.exec = Jvm.exec) (hb : c.code = code) (hr : meth.sig.returnType = ret) (hlocks : meth.locks = false) {pc : Nat} {H : Heap} {ls : Array Slot} (hdg : decode code pc = .ok (.ireturn, 1)) : W p l e room_1 s m #[Value.ref b] below meth c H [] 600000 7302250 (lw_Z below #[Value.ref b] s) (F0 m pc ls [.int 1]) := by
  intro T hT X
  obtain ⟨fs, hret, hrun, hended, hW, hframe⟩ := X.leave (v := some (.int 1)) (hlocks := hlocks) (fun h => by rw [hr] at h; cases h)
  have hmeth' : T.vm.method? m = some meth := X.method'
  refine ⟨T.setFrames fs, ?_, .returned (some (.int 1)), hrun, hended, rfl, ⟨_, rfl⟩, hW, hframe⟩
  jvm_step X.here [X.here.top, hx, hb, hdg, hmeth', hr, ret, narrow_b1]
  (try refine ⟨rfl, ?_⟩); (try refine ⟨rfl, ?_⟩)
  first | (intro acts; rw [hret _ acts rfl rfl rfl]) | rw [hret _ _ rfl rfl rfl]
  exact Steps.refl _
/-- what holds at the law's entry: the machine, the code, the tables' words (any of lw_tbl by 'hts w (by decide +kernel)'), the script of L ints xs at the cell b, what the Statement gives of the start (any of its parts by flat_of_before) -/
def lw_At (p : Program) (s : State) (m : MethodId) (meth : Method) (c : Code) (b L : Nat) (xs : Nat → Int32) : Prop :=
  p.tables.exec = Jvm.exec ∧ c.code = code ∧ meth.sig.returnType = ret ∧ c.maxLocals = 4 ∧ s.vm.findClass R_law = some m.cls ∧ (∀ w ∈ lw_tbl, w.before #[Value.ref b] s = true) ∧ va_X b L xs s s.heap ∧ b < s.heap.size ∧ meth.locks = false ∧ (Jvm.Cond.and given_1 narrow_1).before #[Value.ref b] s = true

theorem lw_end {p : Program} {e : Env} {s : State} {m : MethodId} {below : List Frame} {meth : Method} {c : Code} (l : Launch) {b L : Nat} {xs : Nat → Int32} (C0 : lw_At p s m meth c b L xs) (g : qGm) {nc ns : Nat} (hc : nc ≤ 600000) (hs : ns ≤ 7302250) (M : qMem) (ls : List (Nat × Value)) : qV l g (p, e, room_1, s, m, #[Value.ref b], below, meth, c, lw_Z below #[Value.ref b] s, (fun q : Nat => s.heap.size ≤ q), 4, nc, ns) M 1162 ls [] := by
  obtain ⟨hx, hb, hr, hml, hown, hts, hX, hbl, hlocks, hgv⟩ := C0
  intro H locs la hR hW hS hL
  refine lv_iconst (v := 1) hx hb dL_1162 (by decide) ?_
  refine va_forget (fun q hq => hS.2.2 q hq) ?_
  refine W.widen (k := 600000) (n := 7302250) hc hs ?_
  exact lw_ret hx hb hr hlocks dL_1163
theorem lw_known {s : State} {args : Array Value} (z : ClassId) (hq : ∀ w ∈ qtb, w.before args s = true) : ∃ (dC : Nat → ClassId) (dI : Nat → Nat → Nat), ∀ (k : Nat) (q : vw_C), qcl[k]? = some q → u_Kn s q.1 q.2.1 q.2.2 (dC k) (dI k) := by
  have key : ∀ q ∈ qcl, ∃ (c : ClassId) (iS : Nat → Nat), u_Kn s q.1 q.2.1 q.2.2 c iS := by
      intro q hm
      simp only [qcl, List.mem_cons, List.not_mem_nil, or_false] at hm
      rcases hm with rfl | rfl | rfl | rfl | rfl | rfl | rfl | rfl | rfl | rfl | rfl | rfl | rfl
      · exact u_known (n := 3) hq q_fX0 (hq _ (q_mt 325 (by decide +kernel) (by decide +kernel)))
      · exact u_known (n := 3) hq q_fX0 (hq _ (q_mt 325 (by decide +kernel) (by decide +kernel)))
      · exact u_known (n := 9) hq q_fX2 (hq _ (q_mt 142 (by decide +kernel) (by decide +kernel)))
      · exact u_known (n := 3) hq q_fX3 (hq _ (q_mt 287 (by decide +kernel) (by decide +kernel)))
      · exact u_known (n := 3) hq q_fX4 (hq _ (q_mt 148 (by decide +kernel) (by decide +kernel)))
      · exact u_known (n := 6) hq q_fX5 (hq _ (q_mt 242 (by decide +kernel) (by decide +kernel)))
      · exact u_known (n := 3) hq q_fX6 (hq _ (q_mt 267 (by decide +kernel) (by decide +kernel)))
      · exact u_known (n := 9) hq q_fX7 (hq _ (q_mt 91 (by decide +kernel) (by decide +kernel)))
      · exact u_known (n := 3) hq q_fX8 (hq _ (q_mt 308 (by decide +kernel) (by decide +kernel)))
      · exact u_known (n := 5) hq q_fX9 (hq _ (q_mt 217 (by decide +kernel) (by decide +kernel)))
      · exact u_known (n := 2) hq q_fX10 (hq _ (q_mt 204 (by decide +kernel) (by decide +kernel)))
      · exact u_known (n := 12) hq q_fX11 (hq _ (q_mt 83 (by decide +kernel) (by decide +kernel)))
      · exact u_known (n := 38) hq q_fX12 (hq _ (q_mt 916 (by decide +kernel) (by decide +kernel)))
  have key2 : ∀ k : Nat, ∃ (c : ClassId) (iS : Nat → Nat), ∀ q, qcl[k]? = some q → u_Kn s q.1 q.2.1 q.2.2 c iS := by
    intro k
    cases hk : qcl[k]? with
    | none => exact ⟨z, fun _ => 0, fun q h => by cases h⟩
    | some q =>
      obtain ⟨c, iS, h⟩ := key q (List.mem_of_getElem? hk)
      exact ⟨c, iS, fun q' h' => by cases h'; exact h⟩
  exact ⟨fun k => Classical.choose (key2 k), fun k => Classical.choose (Classical.choose_spec (key2 k)), fun k q hk => Classical.choose_spec (Classical.choose_spec (key2 k)) q hk⟩
theorem lw_kd {s : State} {args : Array Value} (z : ClassId) (hts : ∀ w ∈ lw_tbl, w.before args s = true) : ∃ g : qGm, cKd g s := by
  have hq : ∀ w ∈ qtb, w.before args s = true := fun w hw => hts w (List.mem_filter.mp hw).1
  obtain ⟨dC, dI, hKc⟩ := lw_known z hq
  obtain ⟨cI, kI, pI, hI1, hI2, hI3⟩ := Cond.arrayClass_spec (hq _ c_arI)
  obtain ⟨cJ, kJ, pJ, hJ1, hJ2, hJ3⟩ := Cond.arrayClass_spec (hq _ c_arJ)
  obtain ⟨cZ, kZ, pZ, hZ1, hZ2, hZ3⟩ := Cond.arrayClass_spec (hq _ c_arZ)
  have hover : (Cond.arrayOver (.object RX2)).before args s = true := hts _ (List.mem_of_getElem? (i := 273) (by decide +kernel))
  obtain ⟨comp, cH, kH, hH1, -, hH2, hH3, hH4⟩ := Cond.arrayOver_spec hover
  refine ⟨((dC, dI), (cI, cJ, cZ, cH), fun _ _ => 0), ⟨hKc, fun k q hk => ?_⟩, fun w hw => ?_, va_AO.of hover⟩
  · match k, hk with
    | 0, hk => cases hk; exact ⟨fun n z => ⟨fun k h => (by cases h), kI, hI2, pI, hI3⟩, hI1⟩
    | 1, hk => cases hk; exact ⟨fun n z => ⟨fun k h => (by cases h), kJ, hJ2, pJ, hJ3⟩, hJ1⟩
    | 2, hk => cases hk; exact ⟨fun n z => ⟨fun k h => (by cases h), kZ, hZ2, pZ, hZ3⟩, hZ1⟩
    | 3, hk => cases hk; exact ⟨fun n z => ⟨fun k h => (by cases h), kH, hH2, comp, hH3⟩, kH, comp, hH2, hH3, hH1, hH4⟩
    | k + 4, hk => simp [qTy] at hk
  · simp only [cNst, List.mem_cons, List.not_mem_nil, or_false] at hw
    rcases hw with rfl | rfl | rfl | rfl | rfl | rfl | rfl | rfl | rfl
    · exact va_Nw.of rfl (hts _ (List.mem_of_getElem? (i := 92) (by decide +kernel)))
    · exact va_Nw.of rfl (hts _ (List.mem_of_getElem? (i := 143) (by decide +kernel)))
    · exact va_Nw.of rfl (hts _ (List.mem_of_getElem? (i := 149) (by decide +kernel)))
    · exact va_Nw.of rfl (hts _ (List.mem_of_getElem? (i := 218) (by decide +kernel)))
    · exact va_Nw.of rfl (hts _ (List.mem_of_getElem? (i := 274) (by decide +kernel)))
    · exact va_Nw.of rfl (hts _ (List.mem_of_getElem? (i := 288) (by decide +kernel)))
    · exact va_Nw.of rfl (hts _ (List.mem_of_getElem? (i := 293) (by decide +kernel)))
    · exact va_Nw.of rfl (hts _ (List.mem_of_getElem? (i := 309) (by decide +kernel)))
    · exact va_Nw.of rfl (hts _ (List.mem_of_getElem? (i := 326) (by decide +kernel)))
set_option maxRecDepth 20000 in
set_option maxHeartbeats 4000000 in
theorem whole_start {p : Program} {e : Env} {s : State} {m : MethodId} {below : List Frame} {meth : Method} {c : Code} (l : Launch) {b L : Nat} {xs : Nat → Int32} (hL : L ≤ 320) (C0 : lw_At p s m meth c b L xs) : W p l e room_1 s m #[Value.ref b] below meth c s.heap [] 0 0 (lw_Z below #[Value.ref b] s) (entryFrame m ([Value.ref b] : List Value).toArray 4) := by
  obtain ⟨hx, hb, hr, hml, hown, hts, hX, hbl, hlocks, hgv⟩ := id C0
  have hq : ∀ w ∈ qtb, w.before #[Value.ref b] s = true := fun w hw => hts w (List.mem_filter.mp hw).1
  obtain ⟨g, hKd⟩ := lw_kd m.cls hts
  have hNest : va_Nw qNest s := va_Nw.of rfl (hts _ (List.mem_of_getElem? (i := 456) (by decide +kernel)))
  have hl := lv_entry ([.ref b]) (n := 4) (Nat.le_of_ble_eq_true rfl)
  rw [lg_entry_eq]
  generalize (lg_sl ([.ref b]) ++ List.replicate (4 - (lg_sl ([.ref b])).length) Slot.unset).toArray = la at hl ⊢
  have hl : lv_has la 4 [(0, .ref b)] := hl
  have C : cCx g (p, e, room_1, s, m, #[Value.ref b], below, meth, c, lw_Z below #[Value.ref b] s, (fun q : Nat => s.heap.size ≤ q), 4, 0, 0) code RL s.heap.size 9 600000 7302250 := ⟨hx, hb, hml, hown, hq, ⟨by decide, by decide⟩, hKd, ⟨Nat.le_refl _, fun _ => Iff.rfl⟩, hlocks, ⟨by decide, by decide⟩⟩
  have key : cV l g (p, e, room_1, s, m, #[Value.ref b], below, meth, c, lw_Z below #[Value.ref b] s, (fun q : Nat => s.heap.size ≤ q), 4, 0, 0) (fun _ => 0) 0 (fun _ => .inr (0, [])) 0 0 0 [(0, .ref b)] [] := by
    refine c_new C (ci := 11) (fs := [.null, .null, .null, .null, .null, .null, .null, .null, .null, .null, .null, qI 0]) (q_mt 82 (by decide +kernel) (by decide +kernel)) (q_mt 83 (by decide +kernel) (by decide +kernel)) q_in_RX11 rfl q_fX11 tyX11 tyX11_ok (fun j hj => by rcases (show j = 0 ∨ j = 1 ∨ j = 2 ∨ j = 3 ∨ j = 4 ∨ j = 5 ∨ j = 6 ∨ j = 7 ∨ j = 8 ∨ j = 9 ∨ j = 10 ∨ j = 11 by omega) with rfl | rfl | rfl | rfl | rfl | rfl | rfl | rfl | rfl | rfl | rfl | rfl <;> rfl) (by decide) dL_0 (fun q0 => ?_)
    refine c_dup C dL_3 rfl ?_
    refine c_call C (a := q0) (As := []) (rest := [.ref q0]) (n := 0) ⟨q_ml_RL_9, q_in_RX11, q_cd_yX11_init, ⟨by decide, by decide⟩, by decide +kernel, by decide⟩ q_im_yX11_init rfl rfl (by decide) (i_X11 l g s.heap.size _ _ 0 q0 va_upO va_upO) dL_4 (Nat.le_of_ble_eq_true rfl) rfl (by decide) (fun ad1 E1 hp1 => ?_)
    obtain ⟨⟨f1, f2⟩, hA⟩ := hp1
    have e0 : ad1 0 = q0 := (f1 0 (Nat.le_refl 0)).trans va_upO
    refine c_t (t' := 330) (by omega) rfl rfl ?_
    refine c_astoren C dL_7 (nl := 4) rfl (by decide) rfl ?_
    refine c_new C (ci := 12) (fs := [qI 0, .null, qI 0, qI 0, qI 0, qI 0, qI 0, qI 0, qI 0, .null, .null, .null, .null, .null, .null, qI 0, qI 0, qI 0, .null, .null, .null, .null, .null, .null, .null, qI 0, qI 0, .null, qJ 0, qI 0, .null, .null, qI 0, .null, .null, .null, .null, .null]) (q_mt 915 (by decide +kernel) (by decide +kernel)) (q_mt 916 (by decide +kernel) (by decide +kernel)) q_in_RX12 rfl q_fX12 tyX12 tyX12_ok (fun j hj => by rcases (show j = 0 ∨ j = 1 ∨ j = 2 ∨ j = 3 ∨ j = 4 ∨ j = 5 ∨ j = 6 ∨ j = 7 ∨ j = 8 ∨ j = 9 ∨ j = 10 ∨ j = 11 ∨ j = 12 ∨ j = 13 ∨ j = 14 ∨ j = 15 ∨ j = 16 ∨ j = 17 ∨ j = 18 ∨ j = 19 ∨ j = 20 ∨ j = 21 ∨ j = 22 ∨ j = 23 ∨ j = 24 ∨ j = 25 ∨ j = 26 ∨ j = 27 ∨ j = 28 ∨ j = 29 ∨ j = 30 ∨ j = 31 ∨ j = 32 ∨ j = 33 ∨ j = 34 ∨ j = 35 ∨ j = 36 ∨ j = 37 by omega) with rfl | rfl | rfl | rfl | rfl | rfl | rfl | rfl | rfl | rfl | rfl | rfl | rfl | rfl | rfl | rfl | rfl | rfl | rfl | rfl | rfl | rfl | rfl | rfl | rfl | rfl | rfl | rfl | rfl | rfl | rfl | rfl | rfl | rfl | rfl | rfl | rfl | rfl <;> rfl) (by decide) dL_8 (fun q8 => ?_)
    refine c_dup C dL_11 rfl ?_
    refine c_call C (a := q8) (As := []) (rest := [.ref q8]) (n := 0) ⟨q_ml_RL_12, q_in_RX12, q_cd_yX12_init, ⟨by decide, by decide⟩, by decide +kernel, by decide⟩ q_im_yX12_init rfl rfl (by decide) (i_X12 l g s.heap.size _ _ 330 q8 va_upO va_upO) dL_12 (Nat.le_of_ble_eq_true rfl) rfl (by decide) (fun ad2 E2 hp2 => ?_)
    obtain ⟨⟨k1, k2⟩, hM⟩ := hp2
    have hA2 : cAll g ad2 E2 0 := hA.mv (fun k a b => (k1 k (by omega)).trans (va_upN (by omega))) (fun k a b => (k2 k (by omega)).trans (va_upN (by omega)))
    have e0 : ad2 0 = q0 := (k1 0 (by omega)).trans ((va_upN (by omega)).trans e0)
    have e8 : ad2 330 = q8 := (k1 330 (Nat.le_refl _)).trans va_upO
    refine c_t (t' := 353) (by omega) rfl rfl ?_
    refine c_astoren C dL_15 (nl := 4) rfl (by decide) rfl ?_
    refine c_iconst C dL_16 ?_
    refine c_istoren C dL_17 (nl := 4) rfl (by decide) rfl ?_
    intro H locs la hP hD hS hL2
    have C2 : qCx l (cG g ad2) (p, e, room_1, s, m, #[Value.ref b], below, meth, c, lw_Z below #[Value.ref b] s, (fun q : Nat => s.heap.size ≤ q), 4, 0 + 1 + 329 + 1 + 22, 0 + 12 + 7442 + 38 + 7019) code RL 9 := ⟨hx, hb, hml, hown, hq, ⟨by decide, by decide⟩, ⟨hKd.1, hNest⟩, c_dj hD, c_fr hD, hlocks, by decide, by decide⟩
    have hloop := lw_loop (b := b) (L := L) (xs := xs) C2 ⟨hX, hbl, Nat.not_le.mpr hbl⟩ rfl hL (lw_end l C0 (cG g ad2) (by decide) (by decide)) 1000 0 cM0 cSd (by omega) (by omega) (by omega) c_inv
    exact q_ls (ls' := lwL (cG g ad2) b 0) (ls := [(3, qI 0), (2, .ref q8), (1, .ref q0), (0, .ref b)]) ⟨rfl, by rw [← e0]; rfl, by rw [← e8]; rfl, rfl, trivial⟩ hloop H locs la c_rg (c_wd hA2 hM hP) hS hL2
  refine key s.heap [] la (fun k q h => by simp [cL] at h) ⟨fun i j p q h => by simp [cL] at h, fun k q h => by simp [cL] at h⟩ va_S.rf ⟨hl.1, hl.2.1, fun k v hk => ?_⟩
  rcases qLg_cons hk with ⟨rfl, rfl⟩ | ⟨-, h⟩
  · exact hl.2.2 (0, .ref b) List.mem_cons_self
  · cases h
-- ===== YOUR PART ENDS =====
set_option maxHeartbeats 4000000 in
theorem lw_walk (l : Launch) (b : Addr) (xs : List Int32) : MetFree l x (headSpec (Jvm.Cond.code x code maxLocals ret :: tables_1) room_1) (lw_P b xs) (fun _ _ _ _ _ => True) lw_Q := by
  refine MetFree.of_bodyS (code := code) (maxLocals := maxLocals) (ret := ret) (by decide) ?_ ?_
  · intro args s m h hn
    obtain ⟨meth, c, h1, h2, h3, h4, h5, h6, -, -⟩ := Cond.code_spec hn (atoms_spec (ws := Jvm.Cond.code x code maxLocals ret :: tables_1) h _ List.mem_cons_self)
    exact ⟨meth, c, h1, h2, h3, h4, h5, h6⟩
  · intro p e s m args below meth c s₁ B hml0 hP _
    obtain ⟨rfl, hx, hbd, hgv⟩ := hP
    obtain ⟨scr, harrAt, hlist, hof, hsmall⟩ := hx
    obtain ⟨hcb, hkn, -, -⟩ := State.arrayAt?_spec harrAt
    have hown : s.vm.findClass R_law = some m.cls := findClass_of_methodNamed B.named
    have hts0 : ∀ c ∈ (Jvm.Cond.code x code maxLocals ret :: tables_1), c.before #[Value.ref b] s = true := atoms_spec (ws := Jvm.Cond.code x code maxLocals ret :: tables_1) B.pre
    have hts : ∀ w ∈ lw_tbl, w.before #[Value.ref b] s = true := k2_hts_sels lw_privs (fun w hw => hts0 w (List.mem_cons_of_mem _ hw)) lw_privs_ok
    have hml : c.maxLocals = 4 := B.maxLocals_eq (hts0 _ List.mem_cons_self)
    have X₀ : Stand p l e room_1 s m #[Value.ref b] below meth c s₁ [] 0 0 := Stand.of_body B
    have hh0 : s₁.heap = s.heap := by rw [B.state]; rfl
    have hsz : scr.slots.size = xs.length := by rw [← Array.length_toList, hlist, List.length_map]
    have hval : ∀ j : Nat, j < xs.length → scr.slots[j]? = some (.int (xs.getD j 0)) := fun j hj => by
      rw [← Array.getElem?_toList, hlist]
      simp [hj]
    have hbl : b < s.heap.size := (Array.getElem?_eq_some_iff.mp hcb).1
    have hX : va_X b xs.length (fun j => xs.getD j 0) s s.heap := ⟨scr, hcb, hof, hkn, hsz, hval⟩
    have K : W p l e room_1 s m #[Value.ref b] below meth c s₁.heap [] 0 0 (lw_Z below #[Value.ref b] s) (entryFrame m ([Value.ref b] : List Value).toArray 4) := by
      rw [hh0]
      exact whole_start l hbd ⟨B.exec, B.bytes, B.returns, hml, hown, hts, hX, hbl, B.notSynchronized, hgv⟩
    obtain ⟨t, a1, o, b1, b2, b3⟩ := K s₁ rfl X₀
    exact ⟨t, o, a1, b1, b2, b3⟩
theorem lw_pre_spec {args : Array Value} {s : State} (h : (Jvm.Cond.and given_1 narrow_1).before args s = true) (hr : rest_1_c.before args s = true) : ∃ (b : Addr) (xs : List Int32), lw_P b xs args s := by
  have hs := flat_of_before _ h
  have hq := flat_of_before _ hr
  have hc : (Cond.count 1).before args s = true := hs _ (by decide +kernel)
  have harr : (Cond.arrayOf (.arg 0) .int).before args s = true := hs _ (by decide +kernel)
  have hle : (Cond.le (.length (.arg 0)) (.int 320)).before args s = true := hs _ (by decide +kernel)
  have hlen : (Cond.isInt (.length (.arg 0))).before args s = true := hq _ (by decide +kernel)
  have hall : (Cond.all (.arg 0) (.isInt (.elem (.arg 0) (.index 0)))).before args s = true := hq _ (by decide +kernel)
  obtain ⟨b, xs, hb, hx⟩ := State.ints_of_pre rfl harr hlen hall
  have hsm : xs.length < 2 ^ 31 := hx.choose_spec.2.2.2
  have hev : (Term.length (.arg 0)).eval args s none [] s = some (.int xs.length.toInt32) := hx.length_eval hb
  have hv := Cond.le_ints hev (show (Term.int 320).eval args s none [] s = some (.int 320) from rfl)
  have hd : xs.length.toInt32 ≤ 320 := by
    simpa [Cond.before, Cond.holds, hv] using hle
  have hN : xs.length ≤ 320 := (Int32.ofNat_le_ofNat hsm (by decide)).mp (show Int32.ofNat xs.length ≤ Int32.ofNat 320 from hd)
  exact ⟨b, xs, Cond.one_arg hc (show args[0]? = some (.ref b) from hb), hx, hN, h⟩
theorem lw_comes (l : Launch) : Comes l x (Jvm.Cond.code x code maxLocals ret :: tables_1) room_1 (fun tb e args s => Calls_1 tb e args s ∧ rest_1 tb e args s ∧ Pre_1 tb e args s)
    (fun _ _ args s o t => lw_Q args s o t) := by
  intro p e ha hc hk s m args below hf hfit hheap happ hpre
  obtain ⟨b, xs, hP⟩ := lw_pre_spec hpre.2.2 hpre.2.1
  obtain ⟨k, o, h1, h2, h3, hQ⟩ := lw_walk l b xs p e ha hc hk s m args below hf ((Spec.applies_iff_loose hf).mp happ).1 hP trivial
  exact ⟨k, o, h1, h2, h3, hQ⟩
theorem lw_frame {s t : State} {o : Outcome} {args : Array Value} (h : Framed s o t [] 600000 7302250) :
    Framed s o t (fieldLocs frame_1_writes args s ++ arrayLocs frame_1_arrays args s ++ staticLocs frame_1_statics s) 600000 7302250 := h
theorem lw_limb (L : Cond) (hL : ∀ (args : Array Value) (s t : State), L.after args s (.returned (some (.int 1))) t = true) :
    ArmFor flags0 classFile x code maxLocals ret World_1 tables_1 room_1 Calls_1 rest_1 Pre_1
      (fun tb e a s o t => postC L tb e a s o t ∧ Framed s o t (fieldLocs frame_1_writes a s ++ arrayLocs frame_1_arrays a s ++ staticLocs frame_1_statics s) 600000 7302250) := by
  intro l _ _ _ p e ha hc hk s m args below hf hfit hheap happ hpre
  obtain ⟨k, o, h1, h2, h3, rfl, hF⟩ := lw_comes l p e ha hc hk s m args below hf hfit hheap happ hpre
  exact ⟨k, _, h1, h2, h3, hL args s _, lw_frame hF⟩
theorem i_vc : Claimed_1_1 ∧ Claimed_1_2 := ⟨lw_limb limb_1_1 (fun args s t => by simp [limb_1_1, Cond.after, Cond.holds, Cond.value]), lw_limb limb_1_2 (fun args s t => Cond.after_iff.mpr (by
  first | (rw [show limb_1_2 = Cond.eq .result (.int 1) from rfl, Cond.eq_ints (x := 1) (y := 1) rfl rfl]; simp; done) | (simp [limb_1_2, Cond.value, Term.eval]; done)))⟩

