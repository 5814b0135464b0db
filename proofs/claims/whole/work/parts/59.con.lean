theorem dX6_init_0 : decode cX6_init 0 = .ok (.aload_n 0, 1) := by decide +kernel
theorem dX6_init_1 : decode cX6_init 1 = .ok (.invokespecial 3, 3) := by decide +kernel
theorem dX6_init_4 : decode cX6_init 4 = .ok (.aload_n 0, 1) := by decide +kernel
theorem dX6_init_5 : decode cX6_init 5 = .ok (.bipush 30, 2) := by decide +kernel
theorem dX6_init_7 : decode cX6_init 7 = .ok (.anewarray 9, 3) := by decide +kernel
theorem dX6_init_10 : decode cX6_init 10 = .ok (.putfield 11, 3) := by decide +kernel
theorem dX6_init_13 : decode cX6_init 13 = .ok (.aload_n 0, 1) := by decide +kernel
theorem dX6_init_14 : decode cX6_init 14 = .ok (.iconst 0, 1) := by decide +kernel
theorem dX6_init_15 : decode cX6_init 15 = .ok (.putfield 17, 3) := by decide +kernel
theorem dX6_init_18 : decode cX6_init 18 = .ok (.aload_n 0, 1) := by decide +kernel
theorem dX6_init_19 : decode cX6_init 19 = .ok (.iconst 0, 1) := by decide +kernel
theorem dX6_init_20 : decode cX6_init 20 = .ok (.putfield 21, 3) := by decide +kernel
theorem dX6_init_23 : decode cX6_init 23 = .ok (.iconst 0, 1) := by decide +kernel
theorem dX6_init_24 : decode cX6_init 24 = .ok (.istore_n 1, 1) := by decide +kernel
theorem dX6_init_25 : decode cX6_init 25 = .ok (.iload_n 1, 1) := by decide +kernel
theorem dX6_init_26 : decode cX6_init 26 = .ok (.bipush 30, 2) := by decide +kernel
theorem dX6_init_28 : decode cX6_init 28 = .ok (.if_icmp .ge 22, 3) := by decide +kernel
theorem dX6_init_31 : decode cX6_init 31 = .ok (.aload_n 0, 1) := by decide +kernel
theorem dX6_init_32 : decode cX6_init 32 = .ok (.getfield 11, 3) := by decide +kernel
theorem dX6_init_35 : decode cX6_init 35 = .ok (.iload_n 1, 1) := by decide +kernel
theorem dX6_init_36 : decode cX6_init 36 = .ok (.new 9, 3) := by decide +kernel
theorem dX6_init_39 : decode cX6_init 39 = .ok (.dup, 1) := by decide +kernel
theorem dX6_init_40 : decode cX6_init 40 = .ok (.invokespecial 24, 3) := by decide +kernel
theorem dX6_init_43 : decode cX6_init 43 = .ok (.aastore, 1) := by decide +kernel
theorem dX6_init_44 : decode cX6_init 44 = .ok (.iinc 1 1, 3) := by decide +kernel
theorem dX6_init_47 : decode cX6_init 47 = .ok (.goto (-22), 3) := by decide +kernel
theorem dX6_init_50 : decode cX6_init 50 = .ok (.return_, 1) := by decide +kernel
def cPast (g : qGm) (ad : Nat → Nat) (E : Nat → va_E) (p : Nat) : Prop := E p = .inr (6, [.ref (ad (p + 1)), qI 0, qI 0]) ∧ E (p + 1) = (.inl (g.2.1.2.2.2, 30, .inr (.inr (.inr (.inr (fun k => if k < 30 then some (ad (p + 2 + 9 * k)) else none)))))) ∧ ∀ i, i < 30 → cHall g ad E (p + 2 + 9 * i)
theorem cPast.mv {g : qGm} {ad ad' : Nat → Nat} {E E' : Nat → va_E} {p : Nat} (h : cPast g ad E p) (ha : ∀ k, p ≤ k → k < p + 272 → ad' k = ad k) (he : ∀ k, p ≤ k → k < p + 272 → E' k = E k) : cPast g ad' E' p := by
  refine ⟨?_, ?_, fun i hi => (h.2.2 i hi).mv (fun k a b => ha k (by omega) (by omega)) (fun k a b => he k (by omega) (by omega))⟩
  · rw [he p (by omega) (by omega), ha (p + 1) (by omega) (by omega)]
    exact h.1
  · rw [he (p + 1) (by omega) (by omega), h.2.1]
    have e : (fun k => if k < 30 then some (ad (p + 2 + 9 * k)) else none) = (fun k => if k < 30 then some (ad' (p + 2 + 9 * k)) else none) := by
      funext k
      by_cases q : k < 30
      · rw [if_pos q, if_pos q, ha _ (by omega) (by omega)]
      · rw [if_neg q, if_neg q]
    rw [e]
theorem c_t {l : Launch} {g : qGm} {X : qCt} {pc nc ns t nc' ns' t' : Nat} {ad : Nat → Nat} {E : Nat → va_E} {ls : List (Nat × Value)} {st : List Value} (h1 : t = t') (h2 : nc = nc') (h3 : ns = ns') (k : cV l g X ad t' E nc' ns' pc ls st) : cV l g X ad t E nc ns pc ls st := by
  subst h1; subst h2; subst h3; exact k
def cPs (g : qGm) (ad0 : Nat → Nat) (E0 : Nat → va_E) (p a qa i : Nat) (ad : Nat → Nat) (E : Nat → va_E) : Prop := (∀ k, k ≤ p → ad k = ad0 k) ∧ (∀ k, k < p → E k = E0 k) ∧ ad p = a ∧ ad (p + 1) = qa ∧ E p = .inr (6, [.ref qa, qI 0, qI 0]) ∧ E (p + 1) = (.inl (g.2.1.2.2.2, 30, .inr (.inr (.inr (.inr (fun k => if k < i then some (ad (p + 2 + 9 * k)) else none)))))) ∧ ∀ j, j < i → cHall g ad E (p + 2 + 9 * j)
theorem cPs_s {g : qGm} {ad0 ad ad1 : Nat → Nat} {E0 E E1 : Nat → va_E} {p a qa i q : Nat} {z : va_E} (h : cPs g ad0 E0 p a qa i ad E) (f1 : ∀ k, k ≤ p + 2 + 9 * i → ad1 k = va_up ad (p + 2 + 9 * i) q k) (f2 : ∀ k, k < p + 2 + 9 * i → E1 k = va_up E (p + 2 + 9 * i) z k) (b0 : cHall g ad1 E1 (p + 2 + 9 * i)) : cPs g ad0 E0 p a qa (i + 1) ad1 (va_up E1 (p + 1) (.inl (g.2.1.2.2.2, 30, .inr (.inr (.inr (.inr (va_up (fun k => if k < i then some (ad (p + 2 + 9 * k)) else none) i (some q)))))))) := by
  obtain ⟨h1, h2, h3, h4, h5, h6, h7⟩ := h
  have g1 : ∀ k, k < p + 2 + 9 * i → ad1 k = ad k := fun k hk => (f1 k (by omega)).trans (va_upN (by omega))
  have g2 : ∀ k, k < p + 2 + 9 * i → E1 k = E k := fun k hk => (f2 k hk).trans (va_upN (by omega))
  refine ⟨fun k hk => (g1 k (by omega)).trans (h1 k hk), fun k hk => (va_upN (by omega)).trans ((g2 k (by omega)).trans (h2 k hk)), (g1 p (by omega)).trans h3, (g1 _ (by omega)).trans h4, (va_upN (by omega)).trans ((g2 p (by omega)).trans h5), ?_, fun j hj => ?_⟩
  · rw [va_upO]
    have e : va_up (fun k => if k < i then some (ad (p + 2 + 9 * k)) else none) i (some q) = (fun k => if k < (i + 1) then some (ad1 (p + 2 + 9 * k)) else none) := by
      funext k
      by_cases e1 : k = i
      · subst e1
        rw [va_upO, if_pos (by omega), f1 _ (by omega), va_upO]
      · rw [va_upN e1]
        by_cases e2 : k < i
        · rw [if_pos e2, if_pos (by omega), g1 _ (by omega)]
        · rw [if_neg e2, if_neg (by omega)]
    rw [e]
  · by_cases e : j = i
    · subst e
      exact b0.mv (fun _ _ _ => rfl) (fun k a1 a2 => va_upN (by omega))
    · exact (h7 j (by omega)).mv (fun k a1 a2 => g1 k (by omega)) (fun k a1 a2 => (va_upN (by omega)).trans (g2 k (by omega)))
set_option maxRecDepth 8000 in
set_option maxHeartbeats 4000000 in
theorem i_X6 (l : Launch) (g : qGm) (n0 : Nat) (ad0 : Nat → Nat) (E0 : Nat → va_E) (p a : Nat) (ha : ad0 p = a) (hE : E0 p = .inr (6, [.null, qI 0, qI 0])) : cOk l g 3 yX6_init cX6_init 2 [.ref a] n0 ad0 (p + 1) E0 (p + 272) 271 6270 (fun ad' E' => cFr p ad0 E0 ad' E' ∧ cPast g ad' E' p) := by
  refine c_ok (by decide +kernel) (Nat.le_of_ble_eq_true rfl) rfl (fun X C' hn => ?_)
  have C := C'.1
  have L25 : ∀ (n i qa : Nat) (ad : Nat → Nat) (E : Nat → va_E), i + n = 30 → cPs g ad0 E0 p a qa i ad E → cV l g X ad (p + 2 + 9 * i) E (1 + 9 * i) (30 + 208 * i) 25 [(0, .ref a), (1, qI (i : Int))] [] := by
    intro n
    induction n with
    | zero =>
      intro i qa ad E hi hs
      obtain rfl : i = 30 := by omega
      refine c_iloadn C dX6_init_25 rfl ?_
      refine c_bipush C dX6_init_26 (by decide) ?_
      refine c_icmp_ge C 50 dX6_init_28 (by decide) (by omega) (by omega) (fun h28 => ?_) (fun h28 => absurd (by omega) h28)
      refine c_vret C' dX6_init_50 (by decide) ?_
      obtain ⟨h1, h2, h3, h4, h5, h6, h7⟩ := hs
      exact ⟨⟨h1, h2⟩, by rw [h4]; exact h5, h6, h7⟩
    | succ n ih =>
      intro i qa ad E hi hs
      have hs' := hs
      obtain ⟨h1, h2, h3, h4, h5, h6, h7⟩ := hs
      refine c_iloadn C dX6_init_25 rfl ?_
      refine c_bipush C dX6_init_26 (by decide) ?_
      refine c_icmp_ge C 50 dX6_init_28 (by decide) (by omega) (by omega) (fun h28 => absurd h28 (by omega)) (fun h28 => ?_)
      refine c_aloadn C dX6_init_31 rfl ?_
      refine c_get C (p0 := p) (ci := 6) (kf := 0) (fs := [.ref qa, qI 0, qI 0]) (by omega) h3 h5 rfl q_fX6 (by decide) q_fl_RX6_11 rfl dX6_init_32 ?_
      refine c_iloadn C dX6_init_35 rfl ?_
      refine c_new C (ci := 2) (fs := [qI 0, qI 0, .null, .null, .null, .null, .null, .null, .null]) (q_mt 272 (by decide +kernel) (by decide +kernel)) (q_mt 142 (by decide +kernel) (by decide +kernel)) q_in_RX2 rfl q_fX2 tyX2 tyX2_ok (fun j hj => by rcases (show j = 0 ∨ j = 1 ∨ j = 2 ∨ j = 3 ∨ j = 4 ∨ j = 5 ∨ j = 6 ∨ j = 7 ∨ j = 8 by omega) with rfl | rfl | rfl | rfl | rfl | rfl | rfl | rfl | rfl <;> rfl) (by omega) dX6_init_36 (fun q36 => ?_)
      refine c_dup C dX6_init_39 rfl ?_
      refine c_callN C (a := q36) (As := []) (rest := [.ref q36, qI (i : Int), .ref qa]) (n := 0) (host := RX11) (List.mem_of_getElem? (i := 4) rfl) q_in_RX2 q_cd_yX2_init ⟨by decide, by decide, by decide +kernel⟩ (by decide) q_im_yX2_init rfl rfl (by decide) (i_X2 l g n0 _ _ (p + 2 + 9 * i) q36 va_upO va_upO) dX6_init_40 (Nat.le_of_ble_eq_true rfl) rfl (by omega) (fun ad1 E1 hp => ?_)
      obtain ⟨⟨f1, f2⟩, b0⟩ := hp
      refine c_aast C (p0 := p + 1) (p1 := p + 2 + 9 * i) (n := 30) (i := i) (by omega) (by rw [f1 _ (by omega), va_upN (by omega)]; exact h4) (by rw [f2 _ (by omega), va_upN (by omega)]; exact h6) (by omega) (by rw [f1 _ (by omega), va_upO]) b0.1 (by omega) (by decide) dX6_init_43 ?_
      refine c_iinc C dX6_init_44 rfl hn (by decide) rfl ?_
      refine c_goto C (tgt := 25) dX6_init_47 (by decide) ?_
      refine c_t (t' := p + 2 + 9 * (i + 1)) (nc' := 1 + 9 * (i + 1)) (ns' := 30 + 208 * (i + 1)) (by omega) (by omega) (by omega) ?_
      exact c_ls (ls' := [(0, .ref a), (1, qI ((i + 1 : Nat) : Int))]) ⟨rfl, rfl, trivial⟩ (ih (i + 1) qa _ _ (by omega) (cPs_s hs' f1 f2 b0))
  refine c_aloadn C dX6_init_0 rfl ?_
  refine c_obj C q_ml_RX6_3 (by decide) (Nat.le_of_ble_eq_true rfl) dX6_init_1 ?_
  refine c_aloadn C dX6_init_4 rfl ?_
  refine c_bipush C dX6_init_5 (by decide) ?_
  refine c_newQ C 30 rfl (by decide) (q_mt 272 (by decide +kernel) (by decide +kernel)) (by decide) dX6_init_7 (fun q7 => ?_)
  refine c_putF C' (p0 := p) (ci := 6) (kf := 0) (fs := [.null, qI 0, qI 0]) (fs' := [.ref q7, qI 0, qI 0]) (ty := .array (.object "GloveSigns$Hall")) (by omega) (by simp [Nat.add_assoc, va_up, ha]) (by simp [Nat.add_assoc, va_up, hE]) rfl q_fX6 tyX6 tyX6_ok nmX6 (by decide) q_fl_RX6_11 rfl rfl (by decide +kernel) rfl rfl (Nat.le_of_ble_eq_true rfl) rfl dX6_init_10 ?_
  refine c_aloadn C dX6_init_13 rfl ?_
  refine c_iconst C dX6_init_14 ?_
  refine c_put C (p0 := p) (ci := 6) (kf := 1) (fs := [.ref q7, qI 0, qI 0]) (fs' := [.ref q7, qI 0, qI 0]) (ty := .int) (by omega) (by simp [Nat.add_assoc, va_up, ha]) (by simp [Nat.add_assoc, va_up, hE]) rfl q_fX6 tyX6 tyX6_ok nmX6 (by decide) q_fl_RX6_17 rfl (by decide +kernel) rfl rfl (Nat.le_of_ble_eq_true rfl) rfl dX6_init_15 ?_
  refine c_aloadn C dX6_init_18 rfl ?_
  refine c_iconst C dX6_init_19 ?_
  refine c_put C (p0 := p) (ci := 6) (kf := 2) (fs := [.ref q7, qI 0, qI 0]) (fs' := [.ref q7, qI 0, qI 0]) (ty := .int) (by omega) (by simp [Nat.add_assoc, va_up, ha]) (by simp [Nat.add_assoc, va_up, hE]) rfl q_fX6 tyX6 tyX6_ok nmX6 (by decide) q_fl_RX6_21 rfl (by decide +kernel) rfl rfl (Nat.le_of_ble_eq_true rfl) rfl dX6_init_20 ?_
  refine c_iconst C dX6_init_23 ?_
  refine c_istoren C dX6_init_24 hn (by decide) rfl ?_
  refine c_ls (ls' := [(0, .ref a), (1, qI ((0 : Nat) : Int))]) ⟨rfl, rfl, trivial⟩ (c_t (t' := p + 2 + 9 * 0) (nc' := 1 + 9 * 0) (ns' := 30 + 208 * 0) (by omega) (by omega) (by omega) (L25 30 0 q7 _ _ (by omega) ⟨fun k hk => ?_, fun k hk => ?_, ?_, ?_, ?_, ?_, fun j hj => absurd hj (by omega)⟩))
  · rw [va_upN (by omega)]
  · repeat rw [va_upN (by omega)]
  · rw [va_upN (by omega)]; exact ha
  · exact va_upO
  · exact va_upO
  · rw [va_upN (by omega), va_upN (by omega), va_upN (by omega), va_upO]
    rfl
