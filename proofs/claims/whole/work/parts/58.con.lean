def cRw (g : qGm) (n : Nat) : va_E := .inl (g.2.1.1, n, .inl (fun _ => 0))
/-- what a constructor leaves -/
def cFr (p : Nat) (ad : Nat → Nat) (E : Nat → va_E) (ad' : Nat → Nat) (E' : Nat → va_E) : Prop := (∀ k, k ≤ p → ad' k = ad k) ∧ (∀ k, k < p → E' k = E k)
def cLog (g : qGm) (ad : Nat → Nat) (E : Nat → va_E) (q : Nat) : Prop := E q = .inr (4, [.ref (ad (q + 1)), qI 0, qI 0]) ∧ E (q + 1) = cRw g 100
theorem cLog.mv {g : qGm} {ad ad' : Nat → Nat} {E E' : Nat → va_E} {q : Nat} (h : cLog g ad E q ) (ha : ∀ k, q ≤ k → k < q + 2 → ad' k = ad k) (he : ∀ k, q ≤ k → k < q + 2 → E' k = E k) : cLog g ad' E' q  := by
  unfold cLog at *
  rw [ha (q + 1) (by omega) (by omega), he q (by omega) (by omega), he (q + 1) (by omega) (by omega)]
  exact h
def cHall (g : qGm) (ad : Nat → Nat) (E : Nat → va_E) (q : Nat) : Prop := E q = .inr (2, [qI 0, qI 0, .ref (ad (q + 1)), .ref (ad (q + 2)), .ref (ad (q + 3)), .ref (ad (q + 4)), .ref (ad (q + 5)), .ref (ad (q + 6)), .ref (ad (q + 7))]) ∧ E (q + 1) = cRw g 6 ∧ E (q + 2) = cRw g 6 ∧ E (q + 3) = cRw g 6 ∧ E (q + 4) = cRw g 6 ∧ E (q + 5) = cRw g 36 ∧ E (q + 6) = cRw g 36 ∧ E (q + 7) = .inr (4, [.ref (ad (q + 8)), qI 0, qI 0]) ∧ E (q + 8) = cRw g 100
theorem cHall.mv {g : qGm} {ad ad' : Nat → Nat} {E E' : Nat → va_E} {q : Nat} (h : cHall g ad E q ) (ha : ∀ k, q ≤ k → k < q + 9 → ad' k = ad k) (he : ∀ k, q ≤ k → k < q + 9 → E' k = E k) : cHall g ad' E' q  := by
  unfold cHall at *
  rw [ha (q + 1) (by omega) (by omega), ha (q + 2) (by omega) (by omega), ha (q + 3) (by omega) (by omega), ha (q + 4) (by omega) (by omega), ha (q + 5) (by omega) (by omega), ha (q + 6) (by omega) (by omega), ha (q + 7) (by omega) (by omega), ha (q + 8) (by omega) (by omega), he q (by omega) (by omega), he (q + 1) (by omega) (by omega), he (q + 2) (by omega) (by omega), he (q + 3) (by omega) (by omega), he (q + 4) (by omega) (by omega), he (q + 5) (by omega) (by omega), he (q + 6) (by omega) (by omega), he (q + 7) (by omega) (by omega), he (q + 8) (by omega) (by omega)]
  exact h
def cSeas (g : qGm) (ad : Nat → Nat) (E : Nat → va_E) (q : Nat) : Prop := E q = .inr (7, [qI (-1), qI 0, qI 0, .ref (ad (q + 1)), .ref (ad (q + 2)), .ref (ad (q + 3)), .ref (ad (q + 4)), .ref (ad (q + 5)), .ref (ad (q + 6))]) ∧ E (q + 1) = cRw g 6 ∧ E (q + 2) = cRw g 6 ∧ E (q + 3) = cRw g 6 ∧ E (q + 4) = cRw g 6 ∧ E (q + 5) = cRw g 6 ∧ E (q + 6) = cRw g 48
theorem cSeas.mv {g : qGm} {ad ad' : Nat → Nat} {E E' : Nat → va_E} {q : Nat} (h : cSeas g ad E q ) (ha : ∀ k, q ≤ k → k < q + 7 → ad' k = ad k) (he : ∀ k, q ≤ k → k < q + 7 → E' k = E k) : cSeas g ad' E' q  := by
  unfold cSeas at *
  rw [ha (q + 1) (by omega) (by omega), ha (q + 2) (by omega) (by omega), ha (q + 3) (by omega) (by omega), ha (q + 4) (by omega) (by omega), ha (q + 5) (by omega) (by omega), ha (q + 6) (by omega) (by omega), he q (by omega) (by omega), he (q + 1) (by omega) (by omega), he (q + 2) (by omega) (by omega), he (q + 3) (by omega) (by omega), he (q + 4) (by omega) (by omega), he (q + 5) (by omega) (by omega), he (q + 6) (by omega) (by omega)]
  exact h
def cTxt (g : qGm) (ad : Nat → Nat) (E : Nat → va_E) (q : Nat) : Prop := E q = .inr (9, [.ref (ad (q + 1)), qI 0, qI 0, qI 0, qI (-1)]) ∧ E (q + 1) = cRw g 240
theorem cTxt.mv {g : qGm} {ad ad' : Nat → Nat} {E E' : Nat → va_E} {q : Nat} (h : cTxt g ad E q ) (ha : ∀ k, q ≤ k → k < q + 2 → ad' k = ad k) (he : ∀ k, q ≤ k → k < q + 2 → E' k = E k) : cTxt g ad' E' q  := by
  unfold cTxt at *
  rw [ha (q + 1) (by omega) (by omega), he q (by omega) (by omega), he (q + 1) (by omega) (by omega)]
  exact h
def cTri (g : qGm) (ad : Nat → Nat) (E : Nat → va_E) (q : Nat) (x : Nat) (y : Nat) : Prop := E q = .inr (10, [.ref x, .ref y])
theorem cTri.mv {g : qGm} {ad ad' : Nat → Nat} {E E' : Nat → va_E} {q : Nat} {x : Nat} {y : Nat} (h : cTri g ad E q x y) (ha : ∀ k, q ≤ k → k < q + 1 → ad' k = ad k) (he : ∀ k, q ≤ k → k < q + 1 → E' k = E k) : cTri g ad' E' q x y := by
  unfold cTri at *
  rw [he q (by omega) (by omega)]
  exact h
def cMat (g : qGm) (ad : Nat → Nat) (E : Nat → va_E) (q : Nat) (x : Nat) : Prop := E q = .inr (5, [.ref x, .ref (ad (q + 1)), .ref (ad (q + 2)), .ref (ad (q + 3)), .ref (ad (q + 4)), qI 0]) ∧ E (q + 1) = cRw g 36 ∧ E (q + 2) = cRw g 6 ∧ E (q + 3) = cRw g 6 ∧ E (q + 4) = cRw g 6
theorem cMat.mv {g : qGm} {ad ad' : Nat → Nat} {E E' : Nat → va_E} {q : Nat} {x : Nat} (h : cMat g ad E q x) (ha : ∀ k, q ≤ k → k < q + 5 → ad' k = ad k) (he : ∀ k, q ≤ k → k < q + 5 → E' k = E k) : cMat g ad' E' q x := by
  unfold cMat at *
  rw [ha (q + 1) (by omega) (by omega), ha (q + 2) (by omega) (by omega), ha (q + 3) (by omega) (by omega), ha (q + 4) (by omega) (by omega), he q (by omega) (by omega), he (q + 1) (by omega) (by omega), he (q + 2) (by omega) (by omega), he (q + 3) (by omega) (by omega), he (q + 4) (by omega) (by omega)]
  exact h
def cSeen (g : qGm) (ad : Nat → Nat) (E : Nat → va_E) (q : Nat) : Prop := E q = .inr (8, [.ref (ad (q + 1)), .ref (ad (q + 2)), qI 0]) ∧ E (q + 1) = cRw g 6 ∧ E (q + 2) = cRw g 6
theorem cSeen.mv {g : qGm} {ad ad' : Nat → Nat} {E E' : Nat → va_E} {q : Nat} (h : cSeen g ad E q ) (ha : ∀ k, q ≤ k → k < q + 3 → ad' k = ad k) (he : ∀ k, q ≤ k → k < q + 3 → E' k = E k) : cSeen g ad' E' q  := by
  unfold cSeen at *
  rw [ha (q + 1) (by omega) (by omega), ha (q + 2) (by omega) (by omega), he q (by omega) (by omega), he (q + 1) (by omega) (by omega), he (q + 2) (by omega) (by omega)]
  exact h
def cBook (g : qGm) (ad : Nat → Nat) (E : Nat → va_E) (q : Nat) : Prop := E q = .inr (0, [.ref (ad (q + 1)), .ref (ad (q + 2)), qI 0]) ∧ E (q + 1) = cRw g 20 ∧ E (q + 2) = cRw g 20
theorem cBook.mv {g : qGm} {ad ad' : Nat → Nat} {E E' : Nat → va_E} {q : Nat} (h : cBook g ad E q ) (ha : ∀ k, q ≤ k → k < q + 3 → ad' k = ad k) (he : ∀ k, q ≤ k → k < q + 3 → E' k = E k) : cBook g ad' E' q  := by
  unfold cBook at *
  rw [ha (q + 1) (by omega) (by omega), ha (q + 2) (by omega) (by omega), he q (by omega) (by omega), he (q + 1) (by omega) (by omega), he (q + 2) (by omega) (by omega)]
  exact h
theorem dX4_init_0 : decode cX4_init 0 = .ok (.aload_n 0, 1) := by decide +kernel
theorem dX4_init_1 : decode cX4_init 1 = .ok (.invokespecial 3, 3) := by decide +kernel
theorem dX4_init_4 : decode cX4_init 4 = .ok (.aload_n 0, 1) := by decide +kernel
theorem dX4_init_5 : decode cX4_init 5 = .ok (.bipush 100, 2) := by decide +kernel
theorem dX4_init_7 : decode cX4_init 7 = .ok (.newarray .int, 2) := by decide +kernel
theorem dX4_init_9 : decode cX4_init 9 = .ok (.putfield 11, 3) := by decide +kernel
theorem dX4_init_12 : decode cX4_init 12 = .ok (.aload_n 0, 1) := by decide +kernel
theorem dX4_init_13 : decode cX4_init 13 = .ok (.iconst 0, 1) := by decide +kernel
theorem dX4_init_14 : decode cX4_init 14 = .ok (.putfield 15, 3) := by decide +kernel
theorem dX4_init_17 : decode cX4_init 17 = .ok (.aload_n 0, 1) := by decide +kernel
theorem dX4_init_18 : decode cX4_init 18 = .ok (.iconst 0, 1) := by decide +kernel
theorem dX4_init_19 : decode cX4_init 19 = .ok (.putfield 19, 3) := by decide +kernel
theorem dX4_init_22 : decode cX4_init 22 = .ok (.return_, 1) := by decide +kernel
set_option maxRecDepth 8000 in
set_option maxHeartbeats 4000000 in
theorem i_X4 (l : Launch) (g : qGm) (n0 : Nat) (ad : Nat → Nat) (E : Nat → va_E) (p a : Nat) (ha : ad p = a) (hE : E p = .inr (4, [.null, qI 0, qI 0])) : cOk l g 1 yX4_init cX4_init 1 [.ref a] n0 ad (p + 1) E (p + 2) 1 100 (fun ad' E' => cFr p ad E ad' E' ∧ cLog g ad' E' p) := by
  refine c_ok (by decide +kernel) (Nat.le_of_ble_eq_true rfl) rfl (fun X C' hn => ?_)
  have C := C'.1
  refine c_aloadn C dX4_init_0 rfl ?_
  refine c_obj C q_ml_RX4_3 (by decide) (Nat.le_of_ble_eq_true rfl) dX4_init_1 ?_
  refine c_aloadn C dX4_init_4 rfl ?_
  refine c_bipush C dX4_init_5 (by decide) ?_
  refine c_newI C 100 (f := fun _ => 0) rfl (by decide) (fun _ => rfl) (by decide) dX4_init_7 (fun q7 => ?_)
  refine c_putF C' (p0 := p) (ci := 4) (kf := 0) (fs := [.null, qI 0, qI 0]) (fs' := [.ref q7, qI 0, qI 0]) (ty := (.array .int)) (by omega) (by simp [Nat.add_assoc, va_up, ha]) (by simp [Nat.add_assoc, va_up, hE]) rfl q_fX4 tyX4 tyX4_ok nmX4 (by decide) q_fl_RX4_11 rfl rfl (by decide +kernel) rfl rfl (Nat.le_of_ble_eq_true rfl) rfl dX4_init_9 ?_
  refine c_aloadn C dX4_init_12 rfl ?_
  refine c_iconst C dX4_init_13 ?_
  refine c_put C (p0 := p) (ci := 4) (kf := 1) (fs := [.ref q7, qI 0, qI 0]) (fs' := [.ref q7, qI 0, qI 0]) (ty := .int) (by omega) (by simp [Nat.add_assoc, va_up, ha]) (by simp [Nat.add_assoc, va_up, hE]) rfl q_fX4 tyX4 tyX4_ok nmX4 (by decide) q_fl_RX4_15 rfl (by decide +kernel) rfl rfl (Nat.le_of_ble_eq_true rfl) rfl dX4_init_14 ?_
  refine c_aloadn C dX4_init_17 rfl ?_
  refine c_iconst C dX4_init_18 ?_
  refine c_put C (p0 := p) (ci := 4) (kf := 2) (fs := [.ref q7, qI 0, qI 0]) (fs' := [.ref q7, qI 0, qI 0]) (ty := .int) (by omega) (by simp [Nat.add_assoc, va_up, ha]) (by simp [Nat.add_assoc, va_up, hE]) rfl q_fX4 tyX4 tyX4_ok nmX4 (by decide) q_fl_RX4_19 rfl (by decide +kernel) rfl rfl (Nat.le_of_ble_eq_true rfl) rfl dX4_init_19 ?_
  refine c_vret C' dX4_init_22 (by decide) ?_
  refine ⟨⟨fun k hk => by first | rfl | (repeat rw [va_upN (by omega)]), fun k hk => by first | rfl | (repeat rw [va_upN (by omega)])⟩, ?_⟩
  unfold cLog
  exact ⟨by simp [Nat.add_assoc, va_up, cRw], by simp [Nat.add_assoc, va_up, cRw]⟩
theorem dX7_init_0 : decode cX7_init 0 = .ok (.aload_n 0, 1) := by decide +kernel
theorem dX7_init_1 : decode cX7_init 1 = .ok (.invokespecial 3, 3) := by decide +kernel
theorem dX7_init_4 : decode cX7_init 4 = .ok (.aload_n 0, 1) := by decide +kernel
theorem dX7_init_5 : decode cX7_init 5 = .ok (.iconst (-1), 1) := by decide +kernel
theorem dX7_init_6 : decode cX7_init 6 = .ok (.putfield 9, 3) := by decide +kernel
theorem dX7_init_9 : decode cX7_init 9 = .ok (.aload_n 0, 1) := by decide +kernel
theorem dX7_init_10 : decode cX7_init 10 = .ok (.iconst 0, 1) := by decide +kernel
theorem dX7_init_11 : decode cX7_init 11 = .ok (.putfield 15, 3) := by decide +kernel
theorem dX7_init_14 : decode cX7_init 14 = .ok (.aload_n 0, 1) := by decide +kernel
theorem dX7_init_15 : decode cX7_init 15 = .ok (.iconst 0, 1) := by decide +kernel
theorem dX7_init_16 : decode cX7_init 16 = .ok (.putfield 18, 3) := by decide +kernel
theorem dX7_init_19 : decode cX7_init 19 = .ok (.aload_n 0, 1) := by decide +kernel
theorem dX7_init_20 : decode cX7_init 20 = .ok (.bipush 6, 2) := by decide +kernel
theorem dX7_init_22 : decode cX7_init 22 = .ok (.newarray .int, 2) := by decide +kernel
theorem dX7_init_24 : decode cX7_init 24 = .ok (.putfield 21, 3) := by decide +kernel
theorem dX7_init_27 : decode cX7_init 27 = .ok (.aload_n 0, 1) := by decide +kernel
theorem dX7_init_28 : decode cX7_init 28 = .ok (.bipush 6, 2) := by decide +kernel
theorem dX7_init_30 : decode cX7_init 30 = .ok (.newarray .int, 2) := by decide +kernel
theorem dX7_init_32 : decode cX7_init 32 = .ok (.putfield 25, 3) := by decide +kernel
theorem dX7_init_35 : decode cX7_init 35 = .ok (.aload_n 0, 1) := by decide +kernel
theorem dX7_init_36 : decode cX7_init 36 = .ok (.bipush 6, 2) := by decide +kernel
theorem dX7_init_38 : decode cX7_init 38 = .ok (.newarray .int, 2) := by decide +kernel
theorem dX7_init_40 : decode cX7_init 40 = .ok (.putfield 28, 3) := by decide +kernel
theorem dX7_init_43 : decode cX7_init 43 = .ok (.aload_n 0, 1) := by decide +kernel
theorem dX7_init_44 : decode cX7_init 44 = .ok (.bipush 6, 2) := by decide +kernel
theorem dX7_init_46 : decode cX7_init 46 = .ok (.newarray .int, 2) := by decide +kernel
theorem dX7_init_48 : decode cX7_init 48 = .ok (.putfield 31, 3) := by decide +kernel
theorem dX7_init_51 : decode cX7_init 51 = .ok (.aload_n 0, 1) := by decide +kernel
theorem dX7_init_52 : decode cX7_init 52 = .ok (.bipush 6, 2) := by decide +kernel
theorem dX7_init_54 : decode cX7_init 54 = .ok (.newarray .int, 2) := by decide +kernel
theorem dX7_init_56 : decode cX7_init 56 = .ok (.putfield 34, 3) := by decide +kernel
theorem dX7_init_59 : decode cX7_init 59 = .ok (.aload_n 0, 1) := by decide +kernel
theorem dX7_init_60 : decode cX7_init 60 = .ok (.bipush 48, 2) := by decide +kernel
theorem dX7_init_62 : decode cX7_init 62 = .ok (.newarray .int, 2) := by decide +kernel
theorem dX7_init_64 : decode cX7_init 64 = .ok (.putfield 37, 3) := by decide +kernel
theorem dX7_init_67 : decode cX7_init 67 = .ok (.return_, 1) := by decide +kernel
set_option maxRecDepth 8000 in
set_option maxHeartbeats 4000000 in
theorem i_X7 (l : Launch) (g : qGm) (n0 : Nat) (ad : Nat → Nat) (E : Nat → va_E) (p a : Nat) (ha : ad p = a) (hE : E p = .inr (7, [qI 0, qI 0, qI 0, .null, .null, .null, .null, .null, .null])) : cOk l g 1 yX7_init cX7_init 1 [.ref a] n0 ad (p + 1) E (p + 7) 6 78 (fun ad' E' => cFr p ad E ad' E' ∧ cSeas g ad' E' p) := by
  refine c_ok (by decide +kernel) (Nat.le_of_ble_eq_true rfl) rfl (fun X C' hn => ?_)
  have C := C'.1
  refine c_aloadn C dX7_init_0 rfl ?_
  refine c_obj C q_ml_RX7_3 (by decide) (Nat.le_of_ble_eq_true rfl) dX7_init_1 ?_
  refine c_aloadn C dX7_init_4 rfl ?_
  refine c_iconst C dX7_init_5 ?_
  refine c_put C (p0 := p) (ci := 7) (kf := 0) (fs := [qI 0, qI 0, qI 0, .null, .null, .null, .null, .null, .null]) (fs' := [qI (-1), qI 0, qI 0, .null, .null, .null, .null, .null, .null]) (ty := .int) (by omega) (by simp [Nat.add_assoc, va_up, ha]) (by simp [Nat.add_assoc, va_up, hE]) rfl q_fX7 tyX7 tyX7_ok nmX7 (by decide) q_fl_RX7_9 rfl (by decide +kernel) rfl rfl (Nat.le_of_ble_eq_true rfl) rfl dX7_init_6 ?_
  refine c_aloadn C dX7_init_9 rfl ?_
  refine c_iconst C dX7_init_10 ?_
  refine c_put C (p0 := p) (ci := 7) (kf := 1) (fs := [qI (-1), qI 0, qI 0, .null, .null, .null, .null, .null, .null]) (fs' := [qI (-1), qI 0, qI 0, .null, .null, .null, .null, .null, .null]) (ty := .int) (by omega) (by simp [Nat.add_assoc, va_up, ha]) (by simp [Nat.add_assoc, va_up, hE]) rfl q_fX7 tyX7 tyX7_ok nmX7 (by decide) q_fl_RX7_15 rfl (by decide +kernel) rfl rfl (Nat.le_of_ble_eq_true rfl) rfl dX7_init_11 ?_
  refine c_aloadn C dX7_init_14 rfl ?_
  refine c_iconst C dX7_init_15 ?_
  refine c_put C (p0 := p) (ci := 7) (kf := 2) (fs := [qI (-1), qI 0, qI 0, .null, .null, .null, .null, .null, .null]) (fs' := [qI (-1), qI 0, qI 0, .null, .null, .null, .null, .null, .null]) (ty := .int) (by omega) (by simp [Nat.add_assoc, va_up, ha]) (by simp [Nat.add_assoc, va_up, hE]) rfl q_fX7 tyX7 tyX7_ok nmX7 (by decide) q_fl_RX7_18 rfl (by decide +kernel) rfl rfl (Nat.le_of_ble_eq_true rfl) rfl dX7_init_16 ?_
  refine c_aloadn C dX7_init_19 rfl ?_
  refine c_bipush C dX7_init_20 (by decide) ?_
  refine c_newI C 6 (f := fun _ => 0) rfl (by decide) (fun _ => rfl) (by decide) dX7_init_22 (fun q22 => ?_)
  refine c_putF C' (p0 := p) (ci := 7) (kf := 3) (fs := [qI (-1), qI 0, qI 0, .null, .null, .null, .null, .null, .null]) (fs' := [qI (-1), qI 0, qI 0, .ref q22, .null, .null, .null, .null, .null]) (ty := (.array .int)) (by omega) (by simp [Nat.add_assoc, va_up, ha]) (by simp [Nat.add_assoc, va_up, hE]) rfl q_fX7 tyX7 tyX7_ok nmX7 (by decide) q_fl_RX7_21 rfl rfl (by decide +kernel) rfl rfl (Nat.le_of_ble_eq_true rfl) rfl dX7_init_24 ?_
  refine c_aloadn C dX7_init_27 rfl ?_
  refine c_bipush C dX7_init_28 (by decide) ?_
  refine c_newI C 6 (f := fun _ => 0) rfl (by decide) (fun _ => rfl) (by decide) dX7_init_30 (fun q30 => ?_)
  refine c_putF C' (p0 := p) (ci := 7) (kf := 4) (fs := [qI (-1), qI 0, qI 0, .ref q22, .null, .null, .null, .null, .null]) (fs' := [qI (-1), qI 0, qI 0, .ref q22, .ref q30, .null, .null, .null, .null]) (ty := (.array .int)) (by omega) (by simp [Nat.add_assoc, va_up, ha]) (by simp [Nat.add_assoc, va_up, hE]) rfl q_fX7 tyX7 tyX7_ok nmX7 (by decide) q_fl_RX7_25 rfl rfl (by decide +kernel) rfl rfl (Nat.le_of_ble_eq_true rfl) rfl dX7_init_32 ?_
  refine c_aloadn C dX7_init_35 rfl ?_
  refine c_bipush C dX7_init_36 (by decide) ?_
  refine c_newI C 6 (f := fun _ => 0) rfl (by decide) (fun _ => rfl) (by decide) dX7_init_38 (fun q38 => ?_)
  refine c_putF C' (p0 := p) (ci := 7) (kf := 5) (fs := [qI (-1), qI 0, qI 0, .ref q22, .ref q30, .null, .null, .null, .null]) (fs' := [qI (-1), qI 0, qI 0, .ref q22, .ref q30, .ref q38, .null, .null, .null]) (ty := (.array .int)) (by omega) (by simp [Nat.add_assoc, va_up, ha]) (by simp [Nat.add_assoc, va_up, hE]) rfl q_fX7 tyX7 tyX7_ok nmX7 (by decide) q_fl_RX7_28 rfl rfl (by decide +kernel) rfl rfl (Nat.le_of_ble_eq_true rfl) rfl dX7_init_40 ?_
  refine c_aloadn C dX7_init_43 rfl ?_
  refine c_bipush C dX7_init_44 (by decide) ?_
  refine c_newI C 6 (f := fun _ => 0) rfl (by decide) (fun _ => rfl) (by decide) dX7_init_46 (fun q46 => ?_)
  refine c_putF C' (p0 := p) (ci := 7) (kf := 6) (fs := [qI (-1), qI 0, qI 0, .ref q22, .ref q30, .ref q38, .null, .null, .null]) (fs' := [qI (-1), qI 0, qI 0, .ref q22, .ref q30, .ref q38, .ref q46, .null, .null]) (ty := (.array .int)) (by omega) (by simp [Nat.add_assoc, va_up, ha]) (by simp [Nat.add_assoc, va_up, hE]) rfl q_fX7 tyX7 tyX7_ok nmX7 (by decide) q_fl_RX7_31 rfl rfl (by decide +kernel) rfl rfl (Nat.le_of_ble_eq_true rfl) rfl dX7_init_48 ?_
  refine c_aloadn C dX7_init_51 rfl ?_
  refine c_bipush C dX7_init_52 (by decide) ?_
  refine c_newI C 6 (f := fun _ => 0) rfl (by decide) (fun _ => rfl) (by decide) dX7_init_54 (fun q54 => ?_)
  refine c_putF C' (p0 := p) (ci := 7) (kf := 7) (fs := [qI (-1), qI 0, qI 0, .ref q22, .ref q30, .ref q38, .ref q46, .null, .null]) (fs' := [qI (-1), qI 0, qI 0, .ref q22, .ref q30, .ref q38, .ref q46, .ref q54, .null]) (ty := (.array .int)) (by omega) (by simp [Nat.add_assoc, va_up, ha]) (by simp [Nat.add_assoc, va_up, hE]) rfl q_fX7 tyX7 tyX7_ok nmX7 (by decide) q_fl_RX7_34 rfl rfl (by decide +kernel) rfl rfl (Nat.le_of_ble_eq_true rfl) rfl dX7_init_56 ?_
  refine c_aloadn C dX7_init_59 rfl ?_
  refine c_bipush C dX7_init_60 (by decide) ?_
  refine c_newI C 48 (f := fun _ => 0) rfl (by decide) (fun _ => rfl) (by decide) dX7_init_62 (fun q62 => ?_)
  refine c_putF C' (p0 := p) (ci := 7) (kf := 8) (fs := [qI (-1), qI 0, qI 0, .ref q22, .ref q30, .ref q38, .ref q46, .ref q54, .null]) (fs' := [qI (-1), qI 0, qI 0, .ref q22, .ref q30, .ref q38, .ref q46, .ref q54, .ref q62]) (ty := (.array .int)) (by omega) (by simp [Nat.add_assoc, va_up, ha]) (by simp [Nat.add_assoc, va_up, hE]) rfl q_fX7 tyX7 tyX7_ok nmX7 (by decide) q_fl_RX7_37 rfl rfl (by decide +kernel) rfl rfl (Nat.le_of_ble_eq_true rfl) rfl dX7_init_64 ?_
  refine c_vret C' dX7_init_67 (by decide) ?_
  refine ⟨⟨fun k hk => by first | rfl | (repeat rw [va_upN (by omega)]), fun k hk => by first | rfl | (repeat rw [va_upN (by omega)])⟩, ?_⟩
  unfold cSeas
  exact ⟨by simp [Nat.add_assoc, va_up, cRw], by simp [Nat.add_assoc, va_up, cRw], by simp [Nat.add_assoc, va_up, cRw], by simp [Nat.add_assoc, va_up, cRw], by simp [Nat.add_assoc, va_up, cRw], by simp [Nat.add_assoc, va_up, cRw], by simp [Nat.add_assoc, va_up, cRw]⟩
theorem dX9_init_0 : decode cX9_init 0 = .ok (.aload_n 0, 1) := by decide +kernel
theorem dX9_init_1 : decode cX9_init 1 = .ok (.invokespecial 3, 3) := by decide +kernel
theorem dX9_init_4 : decode cX9_init 4 = .ok (.aload_n 0, 1) := by decide +kernel
theorem dX9_init_5 : decode cX9_init 5 = .ok (.sipush 240, 3) := by decide +kernel
theorem dX9_init_8 : decode cX9_init 8 = .ok (.newarray .int, 2) := by decide +kernel
theorem dX9_init_10 : decode cX9_init 10 = .ok (.putfield 9, 3) := by decide +kernel
theorem dX9_init_13 : decode cX9_init 13 = .ok (.aload_n 0, 1) := by decide +kernel
theorem dX9_init_14 : decode cX9_init 14 = .ok (.iconst 0, 1) := by decide +kernel
theorem dX9_init_15 : decode cX9_init 15 = .ok (.putfield 15, 3) := by decide +kernel
theorem dX9_init_18 : decode cX9_init 18 = .ok (.aload_n 0, 1) := by decide +kernel
theorem dX9_init_19 : decode cX9_init 19 = .ok (.iconst 0, 1) := by decide +kernel
theorem dX9_init_20 : decode cX9_init 20 = .ok (.putfield 19, 3) := by decide +kernel
theorem dX9_init_23 : decode cX9_init 23 = .ok (.aload_n 0, 1) := by decide +kernel
theorem dX9_init_24 : decode cX9_init 24 = .ok (.iconst 0, 1) := by decide +kernel
theorem dX9_init_25 : decode cX9_init 25 = .ok (.putfield 22, 3) := by decide +kernel
theorem dX9_init_28 : decode cX9_init 28 = .ok (.aload_n 0, 1) := by decide +kernel
theorem dX9_init_29 : decode cX9_init 29 = .ok (.iconst (-1), 1) := by decide +kernel
theorem dX9_init_30 : decode cX9_init 30 = .ok (.putfield 25, 3) := by decide +kernel
theorem dX9_init_33 : decode cX9_init 33 = .ok (.return_, 1) := by decide +kernel
set_option maxRecDepth 8000 in
set_option maxHeartbeats 4000000 in
theorem i_X9 (l : Launch) (g : qGm) (n0 : Nat) (ad : Nat → Nat) (E : Nat → va_E) (p a : Nat) (ha : ad p = a) (hE : E p = .inr (9, [.null, qI 0, qI 0, qI 0, qI 0])) : cOk l g 1 yX9_init cX9_init 1 [.ref a] n0 ad (p + 1) E (p + 2) 1 240 (fun ad' E' => cFr p ad E ad' E' ∧ cTxt g ad' E' p) := by
  refine c_ok (by decide +kernel) (Nat.le_of_ble_eq_true rfl) rfl (fun X C' hn => ?_)
  have C := C'.1
  refine c_aloadn C dX9_init_0 rfl ?_
  refine c_obj C q_ml_RX9_3 (by decide) (Nat.le_of_ble_eq_true rfl) dX9_init_1 ?_
  refine c_aloadn C dX9_init_4 rfl ?_
  refine c_sipush C dX9_init_5 (by decide) ?_
  refine c_newI C 240 (f := fun _ => 0) rfl (by decide) (fun _ => rfl) (by decide) dX9_init_8 (fun q8 => ?_)
  refine c_putF C' (p0 := p) (ci := 9) (kf := 0) (fs := [.null, qI 0, qI 0, qI 0, qI 0]) (fs' := [.ref q8, qI 0, qI 0, qI 0, qI 0]) (ty := (.array .int)) (by omega) (by simp [Nat.add_assoc, va_up, ha]) (by simp [Nat.add_assoc, va_up, hE]) rfl q_fX9 tyX9 tyX9_ok nmX9 (by decide) q_fl_RX9_9 rfl rfl (by decide +kernel) rfl rfl (Nat.le_of_ble_eq_true rfl) rfl dX9_init_10 ?_
  refine c_aloadn C dX9_init_13 rfl ?_
  refine c_iconst C dX9_init_14 ?_
  refine c_put C (p0 := p) (ci := 9) (kf := 1) (fs := [.ref q8, qI 0, qI 0, qI 0, qI 0]) (fs' := [.ref q8, qI 0, qI 0, qI 0, qI 0]) (ty := .int) (by omega) (by simp [Nat.add_assoc, va_up, ha]) (by simp [Nat.add_assoc, va_up, hE]) rfl q_fX9 tyX9 tyX9_ok nmX9 (by decide) q_fl_RX9_15 rfl (by decide +kernel) rfl rfl (Nat.le_of_ble_eq_true rfl) rfl dX9_init_15 ?_
  refine c_aloadn C dX9_init_18 rfl ?_
  refine c_iconst C dX9_init_19 ?_
  refine c_put C (p0 := p) (ci := 9) (kf := 2) (fs := [.ref q8, qI 0, qI 0, qI 0, qI 0]) (fs' := [.ref q8, qI 0, qI 0, qI 0, qI 0]) (ty := .int) (by omega) (by simp [Nat.add_assoc, va_up, ha]) (by simp [Nat.add_assoc, va_up, hE]) rfl q_fX9 tyX9 tyX9_ok nmX9 (by decide) q_fl_RX9_19 rfl (by decide +kernel) rfl rfl (Nat.le_of_ble_eq_true rfl) rfl dX9_init_20 ?_
  refine c_aloadn C dX9_init_23 rfl ?_
  refine c_iconst C dX9_init_24 ?_
  refine c_put C (p0 := p) (ci := 9) (kf := 3) (fs := [.ref q8, qI 0, qI 0, qI 0, qI 0]) (fs' := [.ref q8, qI 0, qI 0, qI 0, qI 0]) (ty := .int) (by omega) (by simp [Nat.add_assoc, va_up, ha]) (by simp [Nat.add_assoc, va_up, hE]) rfl q_fX9 tyX9 tyX9_ok nmX9 (by decide) q_fl_RX9_22 rfl (by decide +kernel) rfl rfl (Nat.le_of_ble_eq_true rfl) rfl dX9_init_25 ?_
  refine c_aloadn C dX9_init_28 rfl ?_
  refine c_iconst C dX9_init_29 ?_
  refine c_put C (p0 := p) (ci := 9) (kf := 4) (fs := [.ref q8, qI 0, qI 0, qI 0, qI 0]) (fs' := [.ref q8, qI 0, qI 0, qI 0, qI (-1)]) (ty := .int) (by omega) (by simp [Nat.add_assoc, va_up, ha]) (by simp [Nat.add_assoc, va_up, hE]) rfl q_fX9 tyX9 tyX9_ok nmX9 (by decide) q_fl_RX9_25 rfl (by decide +kernel) rfl rfl (Nat.le_of_ble_eq_true rfl) rfl dX9_init_30 ?_
  refine c_vret C' dX9_init_33 (by decide) ?_
  refine ⟨⟨fun k hk => by first | rfl | (repeat rw [va_upN (by omega)]), fun k hk => by first | rfl | (repeat rw [va_upN (by omega)])⟩, ?_⟩
  unfold cTxt
  exact ⟨by simp [Nat.add_assoc, va_up, cRw], by simp [Nat.add_assoc, va_up, cRw]⟩
theorem dX10_init_0 : decode cX10_init 0 = .ok (.aload_n 0, 1) := by decide +kernel
theorem dX10_init_1 : decode cX10_init 1 = .ok (.invokespecial 3, 3) := by decide +kernel
theorem dX10_init_4 : decode cX10_init 4 = .ok (.aload_n 0, 1) := by decide +kernel
theorem dX10_init_5 : decode cX10_init 5 = .ok (.aload_n 1, 1) := by decide +kernel
theorem dX10_init_6 : decode cX10_init 6 = .ok (.putfield 9, 3) := by decide +kernel
theorem dX10_init_9 : decode cX10_init 9 = .ok (.aload_n 0, 1) := by decide +kernel
theorem dX10_init_10 : decode cX10_init 10 = .ok (.aload_n 2, 1) := by decide +kernel
theorem dX10_init_11 : decode cX10_init 11 = .ok (.putfield 15, 3) := by decide +kernel
theorem dX10_init_14 : decode cX10_init 14 = .ok (.return_, 1) := by decide +kernel
set_option maxRecDepth 8000 in
set_option maxHeartbeats 4000000 in
theorem i_X10 (l : Launch) (g : qGm) (n0 : Nat) (ad : Nat → Nat) (E : Nat → va_E) (p a : Nat) (ha : ad p = a) (hE : E p = .inr (10, [.null, .null])) (x y : Nat) : cOk l g 1 yX10_init cX10_init 3 [.ref a, .ref x, .ref y] n0 ad (p + 1) E (p + 1) 0 0 (fun ad' E' => cFr p ad E ad' E' ∧ cTri g ad' E' p x y) := by
  refine c_ok (by decide +kernel) (Nat.le_of_ble_eq_true rfl) rfl (fun X C' hn => ?_)
  have C := C'.1
  refine c_aloadn C dX10_init_0 rfl ?_
  refine c_obj C q_ml_RX10_3 (by decide) (Nat.le_of_ble_eq_true rfl) dX10_init_1 ?_
  refine c_aloadn C dX10_init_4 rfl ?_
  refine c_aloadn C dX10_init_5 rfl ?_
  refine c_putF C' (p0 := p) (ci := 10) (kf := 0) (fs := [.null, .null]) (fs' := [.ref x, .null]) (ty := (.object "GloveSigns$Season")) (by omega) (by simp [Nat.add_assoc, va_up, ha]) (by simp [Nat.add_assoc, va_up, hE]) rfl q_fX10 tyX10 tyX10_ok nmX10 (by decide) q_fl_RX10_9 rfl rfl (by decide +kernel) rfl rfl (Nat.le_of_ble_eq_true rfl) rfl dX10_init_6 ?_
  refine c_aloadn C dX10_init_9 rfl ?_
  refine c_aloadn C dX10_init_10 rfl ?_
  refine c_putF C' (p0 := p) (ci := 10) (kf := 1) (fs := [.ref x, .null]) (fs' := [.ref x, .ref y]) (ty := (.object "GloveSigns$Hall")) (by omega) (by simp [Nat.add_assoc, va_up, ha]) (by simp [Nat.add_assoc, va_up, hE]) rfl q_fX10 tyX10 tyX10_ok nmX10 (by decide) q_fl_RX10_15 rfl rfl (by decide +kernel) rfl rfl (Nat.le_of_ble_eq_true rfl) rfl dX10_init_11 ?_
  refine c_vret C' dX10_init_14 (by decide) ?_
  refine ⟨⟨fun k hk => by first | rfl | (repeat rw [va_upN (by omega)]), fun k hk => by first | rfl | (repeat rw [va_upN (by omega)])⟩, ?_⟩
  unfold cTri
  exact (by simp [Nat.add_assoc, va_up])
theorem dX5_init_0 : decode cX5_init 0 = .ok (.aload_n 0, 1) := by decide +kernel
theorem dX5_init_1 : decode cX5_init 1 = .ok (.invokespecial 3, 3) := by decide +kernel
theorem dX5_init_4 : decode cX5_init 4 = .ok (.aload_n 0, 1) := by decide +kernel
theorem dX5_init_5 : decode cX5_init 5 = .ok (.bipush 36, 2) := by decide +kernel
theorem dX5_init_7 : decode cX5_init 7 = .ok (.newarray .int, 2) := by decide +kernel
theorem dX5_init_9 : decode cX5_init 9 = .ok (.putfield 9, 3) := by decide +kernel
theorem dX5_init_12 : decode cX5_init 12 = .ok (.aload_n 0, 1) := by decide +kernel
theorem dX5_init_13 : decode cX5_init 13 = .ok (.bipush 6, 2) := by decide +kernel
theorem dX5_init_15 : decode cX5_init 15 = .ok (.newarray .int, 2) := by decide +kernel
theorem dX5_init_17 : decode cX5_init 17 = .ok (.putfield 15, 3) := by decide +kernel
theorem dX5_init_20 : decode cX5_init 20 = .ok (.aload_n 0, 1) := by decide +kernel
theorem dX5_init_21 : decode cX5_init 21 = .ok (.bipush 6, 2) := by decide +kernel
theorem dX5_init_23 : decode cX5_init 23 = .ok (.newarray .int, 2) := by decide +kernel
theorem dX5_init_25 : decode cX5_init 25 = .ok (.putfield 18, 3) := by decide +kernel
theorem dX5_init_28 : decode cX5_init 28 = .ok (.aload_n 0, 1) := by decide +kernel
theorem dX5_init_29 : decode cX5_init 29 = .ok (.bipush 6, 2) := by decide +kernel
theorem dX5_init_31 : decode cX5_init 31 = .ok (.newarray .int, 2) := by decide +kernel
theorem dX5_init_33 : decode cX5_init 33 = .ok (.putfield 21, 3) := by decide +kernel
theorem dX5_init_36 : decode cX5_init 36 = .ok (.aload_n 0, 1) := by decide +kernel
theorem dX5_init_37 : decode cX5_init 37 = .ok (.iconst 0, 1) := by decide +kernel
theorem dX5_init_38 : decode cX5_init 38 = .ok (.putfield 24, 3) := by decide +kernel
theorem dX5_init_41 : decode cX5_init 41 = .ok (.aload_n 0, 1) := by decide +kernel
theorem dX5_init_42 : decode cX5_init 42 = .ok (.aload_n 1, 1) := by decide +kernel
theorem dX5_init_43 : decode cX5_init 43 = .ok (.putfield 28, 3) := by decide +kernel
theorem dX5_init_46 : decode cX5_init 46 = .ok (.return_, 1) := by decide +kernel
set_option maxRecDepth 8000 in
set_option maxHeartbeats 4000000 in
theorem i_X5 (l : Launch) (g : qGm) (n0 : Nat) (ad : Nat → Nat) (E : Nat → va_E) (p a : Nat) (ha : ad p = a) (hE : E p = .inr (5, [.null, .null, .null, .null, .null, qI 0])) (x : Nat) : cOk l g 1 yX5_init cX5_init 2 [.ref a, .ref x] n0 ad (p + 1) E (p + 5) 4 54 (fun ad' E' => cFr p ad E ad' E' ∧ cMat g ad' E' p x) := by
  refine c_ok (by decide +kernel) (Nat.le_of_ble_eq_true rfl) rfl (fun X C' hn => ?_)
  have C := C'.1
  refine c_aloadn C dX5_init_0 rfl ?_
  refine c_obj C q_ml_RX5_3 (by decide) (Nat.le_of_ble_eq_true rfl) dX5_init_1 ?_
  refine c_aloadn C dX5_init_4 rfl ?_
  refine c_bipush C dX5_init_5 (by decide) ?_
  refine c_newI C 36 (f := fun _ => 0) rfl (by decide) (fun _ => rfl) (by decide) dX5_init_7 (fun q7 => ?_)
  refine c_putF C' (p0 := p) (ci := 5) (kf := 1) (fs := [.null, .null, .null, .null, .null, qI 0]) (fs' := [.null, .ref q7, .null, .null, .null, qI 0]) (ty := (.array .int)) (by omega) (by simp [Nat.add_assoc, va_up, ha]) (by simp [Nat.add_assoc, va_up, hE]) rfl q_fX5 tyX5 tyX5_ok nmX5 (by decide) q_fl_RX5_9 rfl rfl (by decide +kernel) rfl rfl (Nat.le_of_ble_eq_true rfl) rfl dX5_init_9 ?_
  refine c_aloadn C dX5_init_12 rfl ?_
  refine c_bipush C dX5_init_13 (by decide) ?_
  refine c_newI C 6 (f := fun _ => 0) rfl (by decide) (fun _ => rfl) (by decide) dX5_init_15 (fun q15 => ?_)
  refine c_putF C' (p0 := p) (ci := 5) (kf := 2) (fs := [.null, .ref q7, .null, .null, .null, qI 0]) (fs' := [.null, .ref q7, .ref q15, .null, .null, qI 0]) (ty := (.array .int)) (by omega) (by simp [Nat.add_assoc, va_up, ha]) (by simp [Nat.add_assoc, va_up, hE]) rfl q_fX5 tyX5 tyX5_ok nmX5 (by decide) q_fl_RX5_15 rfl rfl (by decide +kernel) rfl rfl (Nat.le_of_ble_eq_true rfl) rfl dX5_init_17 ?_
  refine c_aloadn C dX5_init_20 rfl ?_
  refine c_bipush C dX5_init_21 (by decide) ?_
  refine c_newI C 6 (f := fun _ => 0) rfl (by decide) (fun _ => rfl) (by decide) dX5_init_23 (fun q23 => ?_)
  refine c_putF C' (p0 := p) (ci := 5) (kf := 3) (fs := [.null, .ref q7, .ref q15, .null, .null, qI 0]) (fs' := [.null, .ref q7, .ref q15, .ref q23, .null, qI 0]) (ty := (.array .int)) (by omega) (by simp [Nat.add_assoc, va_up, ha]) (by simp [Nat.add_assoc, va_up, hE]) rfl q_fX5 tyX5 tyX5_ok nmX5 (by decide) q_fl_RX5_18 rfl rfl (by decide +kernel) rfl rfl (Nat.le_of_ble_eq_true rfl) rfl dX5_init_25 ?_
  refine c_aloadn C dX5_init_28 rfl ?_
  refine c_bipush C dX5_init_29 (by decide) ?_
  refine c_newI C 6 (f := fun _ => 0) rfl (by decide) (fun _ => rfl) (by decide) dX5_init_31 (fun q31 => ?_)
  refine c_putF C' (p0 := p) (ci := 5) (kf := 4) (fs := [.null, .ref q7, .ref q15, .ref q23, .null, qI 0]) (fs' := [.null, .ref q7, .ref q15, .ref q23, .ref q31, qI 0]) (ty := (.array .int)) (by omega) (by simp [Nat.add_assoc, va_up, ha]) (by simp [Nat.add_assoc, va_up, hE]) rfl q_fX5 tyX5 tyX5_ok nmX5 (by decide) q_fl_RX5_21 rfl rfl (by decide +kernel) rfl rfl (Nat.le_of_ble_eq_true rfl) rfl dX5_init_33 ?_
  refine c_aloadn C dX5_init_36 rfl ?_
  refine c_iconst C dX5_init_37 ?_
  refine c_put C (p0 := p) (ci := 5) (kf := 5) (fs := [.null, .ref q7, .ref q15, .ref q23, .ref q31, qI 0]) (fs' := [.null, .ref q7, .ref q15, .ref q23, .ref q31, qI 0]) (ty := .int) (by omega) (by simp [Nat.add_assoc, va_up, ha]) (by simp [Nat.add_assoc, va_up, hE]) rfl q_fX5 tyX5 tyX5_ok nmX5 (by decide) q_fl_RX5_24 rfl (by decide +kernel) rfl rfl (Nat.le_of_ble_eq_true rfl) rfl dX5_init_38 ?_
  refine c_aloadn C dX5_init_41 rfl ?_
  refine c_aloadn C dX5_init_42 rfl ?_
  refine c_putF C' (p0 := p) (ci := 5) (kf := 0) (fs := [.null, .ref q7, .ref q15, .ref q23, .ref q31, qI 0]) (fs' := [.ref x, .ref q7, .ref q15, .ref q23, .ref q31, qI 0]) (ty := (.object "GloveSigns$Trial")) (by omega) (by simp [Nat.add_assoc, va_up, ha]) (by simp [Nat.add_assoc, va_up, hE]) rfl q_fX5 tyX5 tyX5_ok nmX5 (by decide) q_fl_RX5_28 rfl rfl (by decide +kernel) rfl rfl (Nat.le_of_ble_eq_true rfl) rfl dX5_init_43 ?_
  refine c_vret C' dX5_init_46 (by decide) ?_
  refine ⟨⟨fun k hk => by first | rfl | (repeat rw [va_upN (by omega)]), fun k hk => by first | rfl | (repeat rw [va_upN (by omega)])⟩, ?_⟩
  unfold cMat
  exact ⟨by simp [Nat.add_assoc, va_up, cRw], by simp [Nat.add_assoc, va_up, cRw], by simp [Nat.add_assoc, va_up, cRw], by simp [Nat.add_assoc, va_up, cRw], by simp [Nat.add_assoc, va_up, cRw]⟩
theorem dX8_init_0 : decode cX8_init 0 = .ok (.aload_n 0, 1) := by decide +kernel
theorem dX8_init_1 : decode cX8_init 1 = .ok (.invokespecial 3, 3) := by decide +kernel
theorem dX8_init_4 : decode cX8_init 4 = .ok (.aload_n 0, 1) := by decide +kernel
theorem dX8_init_5 : decode cX8_init 5 = .ok (.bipush 6, 2) := by decide +kernel
theorem dX8_init_7 : decode cX8_init 7 = .ok (.newarray .int, 2) := by decide +kernel
theorem dX8_init_9 : decode cX8_init 9 = .ok (.putfield 9, 3) := by decide +kernel
theorem dX8_init_12 : decode cX8_init 12 = .ok (.aload_n 0, 1) := by decide +kernel
theorem dX8_init_13 : decode cX8_init 13 = .ok (.bipush 6, 2) := by decide +kernel
theorem dX8_init_15 : decode cX8_init 15 = .ok (.newarray .int, 2) := by decide +kernel
theorem dX8_init_17 : decode cX8_init 17 = .ok (.putfield 15, 3) := by decide +kernel
theorem dX8_init_20 : decode cX8_init 20 = .ok (.aload_n 0, 1) := by decide +kernel
theorem dX8_init_21 : decode cX8_init 21 = .ok (.iconst 0, 1) := by decide +kernel
theorem dX8_init_22 : decode cX8_init 22 = .ok (.putfield 18, 3) := by decide +kernel
theorem dX8_init_25 : decode cX8_init 25 = .ok (.return_, 1) := by decide +kernel
set_option maxRecDepth 8000 in
set_option maxHeartbeats 4000000 in
theorem i_X8 (l : Launch) (g : qGm) (n0 : Nat) (ad : Nat → Nat) (E : Nat → va_E) (p a : Nat) (ha : ad p = a) (hE : E p = .inr (8, [.null, .null, qI 0])) : cOk l g 1 yX8_init cX8_init 1 [.ref a] n0 ad (p + 1) E (p + 3) 2 12 (fun ad' E' => cFr p ad E ad' E' ∧ cSeen g ad' E' p) := by
  refine c_ok (by decide +kernel) (Nat.le_of_ble_eq_true rfl) rfl (fun X C' hn => ?_)
  have C := C'.1
  refine c_aloadn C dX8_init_0 rfl ?_
  refine c_obj C q_ml_RX8_3 (by decide) (Nat.le_of_ble_eq_true rfl) dX8_init_1 ?_
  refine c_aloadn C dX8_init_4 rfl ?_
  refine c_bipush C dX8_init_5 (by decide) ?_
  refine c_newI C 6 (f := fun _ => 0) rfl (by decide) (fun _ => rfl) (by decide) dX8_init_7 (fun q7 => ?_)
  refine c_putF C' (p0 := p) (ci := 8) (kf := 0) (fs := [.null, .null, qI 0]) (fs' := [.ref q7, .null, qI 0]) (ty := (.array .int)) (by omega) (by simp [Nat.add_assoc, va_up, ha]) (by simp [Nat.add_assoc, va_up, hE]) rfl q_fX8 tyX8 tyX8_ok nmX8 (by decide) q_fl_RX8_9 rfl rfl (by decide +kernel) rfl rfl (Nat.le_of_ble_eq_true rfl) rfl dX8_init_9 ?_
  refine c_aloadn C dX8_init_12 rfl ?_
  refine c_bipush C dX8_init_13 (by decide) ?_
  refine c_newI C 6 (f := fun _ => 0) rfl (by decide) (fun _ => rfl) (by decide) dX8_init_15 (fun q15 => ?_)
  refine c_putF C' (p0 := p) (ci := 8) (kf := 1) (fs := [.ref q7, .null, qI 0]) (fs' := [.ref q7, .ref q15, qI 0]) (ty := (.array .int)) (by omega) (by simp [Nat.add_assoc, va_up, ha]) (by simp [Nat.add_assoc, va_up, hE]) rfl q_fX8 tyX8 tyX8_ok nmX8 (by decide) q_fl_RX8_15 rfl rfl (by decide +kernel) rfl rfl (Nat.le_of_ble_eq_true rfl) rfl dX8_init_17 ?_
  refine c_aloadn C dX8_init_20 rfl ?_
  refine c_iconst C dX8_init_21 ?_
  refine c_put C (p0 := p) (ci := 8) (kf := 2) (fs := [.ref q7, .ref q15, qI 0]) (fs' := [.ref q7, .ref q15, qI 0]) (ty := .int) (by omega) (by simp [Nat.add_assoc, va_up, ha]) (by simp [Nat.add_assoc, va_up, hE]) rfl q_fX8 tyX8 tyX8_ok nmX8 (by decide) q_fl_RX8_18 rfl (by decide +kernel) rfl rfl (Nat.le_of_ble_eq_true rfl) rfl dX8_init_22 ?_
  refine c_vret C' dX8_init_25 (by decide) ?_
  refine ⟨⟨fun k hk => by first | rfl | (repeat rw [va_upN (by omega)]), fun k hk => by first | rfl | (repeat rw [va_upN (by omega)])⟩, ?_⟩
  unfold cSeen
  exact ⟨by simp [Nat.add_assoc, va_up, cRw], by simp [Nat.add_assoc, va_up, cRw], by simp [Nat.add_assoc, va_up, cRw]⟩
theorem dX0_init_0 : decode cX0_init 0 = .ok (.aload_n 0, 1) := by decide +kernel
theorem dX0_init_1 : decode cX0_init 1 = .ok (.invokespecial 3, 3) := by decide +kernel
theorem dX0_init_4 : decode cX0_init 4 = .ok (.aload_n 0, 1) := by decide +kernel
theorem dX0_init_5 : decode cX0_init 5 = .ok (.bipush 20, 2) := by decide +kernel
theorem dX0_init_7 : decode cX0_init 7 = .ok (.newarray .int, 2) := by decide +kernel
theorem dX0_init_9 : decode cX0_init 9 = .ok (.putfield 9, 3) := by decide +kernel
theorem dX0_init_12 : decode cX0_init 12 = .ok (.aload_n 0, 1) := by decide +kernel
theorem dX0_init_13 : decode cX0_init 13 = .ok (.bipush 20, 2) := by decide +kernel
theorem dX0_init_15 : decode cX0_init 15 = .ok (.newarray .int, 2) := by decide +kernel
theorem dX0_init_17 : decode cX0_init 17 = .ok (.putfield 15, 3) := by decide +kernel
theorem dX0_init_20 : decode cX0_init 20 = .ok (.aload_n 0, 1) := by decide +kernel
theorem dX0_init_21 : decode cX0_init 21 = .ok (.iconst 0, 1) := by decide +kernel
theorem dX0_init_22 : decode cX0_init 22 = .ok (.putfield 18, 3) := by decide +kernel
theorem dX0_init_25 : decode cX0_init 25 = .ok (.return_, 1) := by decide +kernel
set_option maxRecDepth 8000 in
set_option maxHeartbeats 4000000 in
theorem i_X0 (l : Launch) (g : qGm) (n0 : Nat) (ad : Nat → Nat) (E : Nat → va_E) (p a : Nat) (ha : ad p = a) (hE : E p = .inr (0, [.null, .null, qI 0])) : cOk l g 1 yX0_init cX0_init 1 [.ref a] n0 ad (p + 1) E (p + 3) 2 40 (fun ad' E' => cFr p ad E ad' E' ∧ cBook g ad' E' p) := by
  refine c_ok (by decide +kernel) (Nat.le_of_ble_eq_true rfl) rfl (fun X C' hn => ?_)
  have C := C'.1
  refine c_aloadn C dX0_init_0 rfl ?_
  refine c_obj C q_ml_RX0_3 (by decide) (Nat.le_of_ble_eq_true rfl) dX0_init_1 ?_
  refine c_aloadn C dX0_init_4 rfl ?_
  refine c_bipush C dX0_init_5 (by decide) ?_
  refine c_newI C 20 (f := fun _ => 0) rfl (by decide) (fun _ => rfl) (by decide) dX0_init_7 (fun q7 => ?_)
  refine c_putF C' (p0 := p) (ci := 0) (kf := 0) (fs := [.null, .null, qI 0]) (fs' := [.ref q7, .null, qI 0]) (ty := (.array .int)) (by omega) (by simp [Nat.add_assoc, va_up, ha]) (by simp [Nat.add_assoc, va_up, hE]) rfl q_fX0 tyX0 tyX0_ok nmX0 (by decide) q_fl_RX0_9 rfl rfl (by decide +kernel) rfl rfl (Nat.le_of_ble_eq_true rfl) rfl dX0_init_9 ?_
  refine c_aloadn C dX0_init_12 rfl ?_
  refine c_bipush C dX0_init_13 (by decide) ?_
  refine c_newI C 20 (f := fun _ => 0) rfl (by decide) (fun _ => rfl) (by decide) dX0_init_15 (fun q15 => ?_)
  refine c_putF C' (p0 := p) (ci := 0) (kf := 1) (fs := [.ref q7, .null, qI 0]) (fs' := [.ref q7, .ref q15, qI 0]) (ty := (.array .int)) (by omega) (by simp [Nat.add_assoc, va_up, ha]) (by simp [Nat.add_assoc, va_up, hE]) rfl q_fX0 tyX0 tyX0_ok nmX0 (by decide) q_fl_RX0_15 rfl rfl (by decide +kernel) rfl rfl (Nat.le_of_ble_eq_true rfl) rfl dX0_init_17 ?_
  refine c_aloadn C dX0_init_20 rfl ?_
  refine c_iconst C dX0_init_21 ?_
  refine c_put C (p0 := p) (ci := 0) (kf := 2) (fs := [.ref q7, .ref q15, qI 0]) (fs' := [.ref q7, .ref q15, qI 0]) (ty := .int) (by omega) (by simp [Nat.add_assoc, va_up, ha]) (by simp [Nat.add_assoc, va_up, hE]) rfl q_fX0 tyX0 tyX0_ok nmX0 (by decide) q_fl_RX0_18 rfl (by decide +kernel) rfl rfl (Nat.le_of_ble_eq_true rfl) rfl dX0_init_22 ?_
  refine c_vret C' dX0_init_25 (by decide) ?_
  refine ⟨⟨fun k hk => by first | rfl | (repeat rw [va_upN (by omega)]), fun k hk => by first | rfl | (repeat rw [va_upN (by omega)])⟩, ?_⟩
  unfold cBook
  exact ⟨by simp [Nat.add_assoc, va_up, cRw], by simp [Nat.add_assoc, va_up, cRw], by simp [Nat.add_assoc, va_up, cRw]⟩
theorem dX2_init_0 : decode cX2_init 0 = .ok (.aload_n 0, 1) := by decide +kernel
theorem dX2_init_1 : decode cX2_init 1 = .ok (.invokespecial 3, 3) := by decide +kernel
theorem dX2_init_4 : decode cX2_init 4 = .ok (.aload_n 0, 1) := by decide +kernel
theorem dX2_init_5 : decode cX2_init 5 = .ok (.iconst 0, 1) := by decide +kernel
theorem dX2_init_6 : decode cX2_init 6 = .ok (.putfield 9, 3) := by decide +kernel
theorem dX2_init_9 : decode cX2_init 9 = .ok (.aload_n 0, 1) := by decide +kernel
theorem dX2_init_10 : decode cX2_init 10 = .ok (.iconst 0, 1) := by decide +kernel
theorem dX2_init_11 : decode cX2_init 11 = .ok (.putfield 15, 3) := by decide +kernel
theorem dX2_init_14 : decode cX2_init 14 = .ok (.aload_n 0, 1) := by decide +kernel
theorem dX2_init_15 : decode cX2_init 15 = .ok (.bipush 6, 2) := by decide +kernel
theorem dX2_init_17 : decode cX2_init 17 = .ok (.newarray .int, 2) := by decide +kernel
theorem dX2_init_19 : decode cX2_init 19 = .ok (.putfield 18, 3) := by decide +kernel
theorem dX2_init_22 : decode cX2_init 22 = .ok (.aload_n 0, 1) := by decide +kernel
theorem dX2_init_23 : decode cX2_init 23 = .ok (.bipush 6, 2) := by decide +kernel
theorem dX2_init_25 : decode cX2_init 25 = .ok (.newarray .int, 2) := by decide +kernel
theorem dX2_init_27 : decode cX2_init 27 = .ok (.putfield 22, 3) := by decide +kernel
theorem dX2_init_30 : decode cX2_init 30 = .ok (.aload_n 0, 1) := by decide +kernel
theorem dX2_init_31 : decode cX2_init 31 = .ok (.bipush 6, 2) := by decide +kernel
theorem dX2_init_33 : decode cX2_init 33 = .ok (.newarray .int, 2) := by decide +kernel
theorem dX2_init_35 : decode cX2_init 35 = .ok (.putfield 25, 3) := by decide +kernel
theorem dX2_init_38 : decode cX2_init 38 = .ok (.aload_n 0, 1) := by decide +kernel
theorem dX2_init_39 : decode cX2_init 39 = .ok (.bipush 6, 2) := by decide +kernel
theorem dX2_init_41 : decode cX2_init 41 = .ok (.newarray .int, 2) := by decide +kernel
theorem dX2_init_43 : decode cX2_init 43 = .ok (.putfield 28, 3) := by decide +kernel
theorem dX2_init_46 : decode cX2_init 46 = .ok (.aload_n 0, 1) := by decide +kernel
theorem dX2_init_47 : decode cX2_init 47 = .ok (.bipush 36, 2) := by decide +kernel
theorem dX2_init_49 : decode cX2_init 49 = .ok (.newarray .int, 2) := by decide +kernel
theorem dX2_init_51 : decode cX2_init 51 = .ok (.putfield 31, 3) := by decide +kernel
theorem dX2_init_54 : decode cX2_init 54 = .ok (.aload_n 0, 1) := by decide +kernel
theorem dX2_init_55 : decode cX2_init 55 = .ok (.bipush 36, 2) := by decide +kernel
theorem dX2_init_57 : decode cX2_init 57 = .ok (.newarray .int, 2) := by decide +kernel
theorem dX2_init_59 : decode cX2_init 59 = .ok (.putfield 34, 3) := by decide +kernel
theorem dX2_init_62 : decode cX2_init 62 = .ok (.aload_n 0, 1) := by decide +kernel
theorem dX2_init_63 : decode cX2_init 63 = .ok (.new 37, 3) := by decide +kernel
theorem dX2_init_66 : decode cX2_init 66 = .ok (.dup, 1) := by decide +kernel
theorem dX2_init_67 : decode cX2_init 67 = .ok (.invokespecial 39, 3) := by decide +kernel
theorem dX2_init_70 : decode cX2_init 70 = .ok (.putfield 40, 3) := by decide +kernel
theorem dX2_init_73 : decode cX2_init 73 = .ok (.return_, 1) := by decide +kernel
set_option maxRecDepth 8000 in
set_option maxHeartbeats 4000000 in
theorem i_X2 (l : Launch) (g : qGm) (n0 : Nat) (ad : Nat → Nat) (E : Nat → va_E) (p a : Nat) (ha : ad p = a) (hE : E p = .inr (2, [qI 0, qI 0, .null, .null, .null, .null, .null, .null, .null])) : cOk l g 2 yX2_init cX2_init 1 [.ref a] n0 ad (p + 1) E (p + 9) 8 199 (fun ad' E' => cFr p ad E ad' E' ∧ cHall g ad' E' p) := by
  refine c_ok (by decide +kernel) (Nat.le_of_ble_eq_true rfl) rfl (fun X C' hn => ?_)
  have C := C'.1
  refine c_aloadn C dX2_init_0 rfl ?_
  refine c_obj C q_ml_RX2_3 (by decide) (Nat.le_of_ble_eq_true rfl) dX2_init_1 ?_
  refine c_aloadn C dX2_init_4 rfl ?_
  refine c_iconst C dX2_init_5 ?_
  refine c_put C (p0 := p) (ci := 2) (kf := 0) (fs := [qI 0, qI 0, .null, .null, .null, .null, .null, .null, .null]) (fs' := [qI 0, qI 0, .null, .null, .null, .null, .null, .null, .null]) (ty := .int) (by omega) (by simp [Nat.add_assoc, va_up, ha]) (by simp [Nat.add_assoc, va_up, hE]) rfl q_fX2 tyX2 tyX2_ok nmX2 (by decide) q_fl_RX2_9 rfl (by decide +kernel) rfl rfl (Nat.le_of_ble_eq_true rfl) rfl dX2_init_6 ?_
  refine c_aloadn C dX2_init_9 rfl ?_
  refine c_iconst C dX2_init_10 ?_
  refine c_put C (p0 := p) (ci := 2) (kf := 1) (fs := [qI 0, qI 0, .null, .null, .null, .null, .null, .null, .null]) (fs' := [qI 0, qI 0, .null, .null, .null, .null, .null, .null, .null]) (ty := .int) (by omega) (by simp [Nat.add_assoc, va_up, ha]) (by simp [Nat.add_assoc, va_up, hE]) rfl q_fX2 tyX2 tyX2_ok nmX2 (by decide) q_fl_RX2_15 rfl (by decide +kernel) rfl rfl (Nat.le_of_ble_eq_true rfl) rfl dX2_init_11 ?_
  refine c_aloadn C dX2_init_14 rfl ?_
  refine c_bipush C dX2_init_15 (by decide) ?_
  refine c_newI C 6 (f := fun _ => 0) rfl (by decide) (fun _ => rfl) (by decide) dX2_init_17 (fun q17 => ?_)
  refine c_putF C' (p0 := p) (ci := 2) (kf := 2) (fs := [qI 0, qI 0, .null, .null, .null, .null, .null, .null, .null]) (fs' := [qI 0, qI 0, .ref q17, .null, .null, .null, .null, .null, .null]) (ty := (.array .int)) (by omega) (by simp [Nat.add_assoc, va_up, ha]) (by simp [Nat.add_assoc, va_up, hE]) rfl q_fX2 tyX2 tyX2_ok nmX2 (by decide) q_fl_RX2_18 rfl rfl (by decide +kernel) rfl rfl (Nat.le_of_ble_eq_true rfl) rfl dX2_init_19 ?_
  refine c_aloadn C dX2_init_22 rfl ?_
  refine c_bipush C dX2_init_23 (by decide) ?_
  refine c_newI C 6 (f := fun _ => 0) rfl (by decide) (fun _ => rfl) (by decide) dX2_init_25 (fun q25 => ?_)
  refine c_putF C' (p0 := p) (ci := 2) (kf := 3) (fs := [qI 0, qI 0, .ref q17, .null, .null, .null, .null, .null, .null]) (fs' := [qI 0, qI 0, .ref q17, .ref q25, .null, .null, .null, .null, .null]) (ty := (.array .int)) (by omega) (by simp [Nat.add_assoc, va_up, ha]) (by simp [Nat.add_assoc, va_up, hE]) rfl q_fX2 tyX2 tyX2_ok nmX2 (by decide) q_fl_RX2_22 rfl rfl (by decide +kernel) rfl rfl (Nat.le_of_ble_eq_true rfl) rfl dX2_init_27 ?_
  refine c_aloadn C dX2_init_30 rfl ?_
  refine c_bipush C dX2_init_31 (by decide) ?_
  refine c_newI C 6 (f := fun _ => 0) rfl (by decide) (fun _ => rfl) (by decide) dX2_init_33 (fun q33 => ?_)
  refine c_putF C' (p0 := p) (ci := 2) (kf := 4) (fs := [qI 0, qI 0, .ref q17, .ref q25, .null, .null, .null, .null, .null]) (fs' := [qI 0, qI 0, .ref q17, .ref q25, .ref q33, .null, .null, .null, .null]) (ty := (.array .int)) (by omega) (by simp [Nat.add_assoc, va_up, ha]) (by simp [Nat.add_assoc, va_up, hE]) rfl q_fX2 tyX2 tyX2_ok nmX2 (by decide) q_fl_RX2_25 rfl rfl (by decide +kernel) rfl rfl (Nat.le_of_ble_eq_true rfl) rfl dX2_init_35 ?_
  refine c_aloadn C dX2_init_38 rfl ?_
  refine c_bipush C dX2_init_39 (by decide) ?_
  refine c_newI C 6 (f := fun _ => 0) rfl (by decide) (fun _ => rfl) (by decide) dX2_init_41 (fun q41 => ?_)
  refine c_putF C' (p0 := p) (ci := 2) (kf := 5) (fs := [qI 0, qI 0, .ref q17, .ref q25, .ref q33, .null, .null, .null, .null]) (fs' := [qI 0, qI 0, .ref q17, .ref q25, .ref q33, .ref q41, .null, .null, .null]) (ty := (.array .int)) (by omega) (by simp [Nat.add_assoc, va_up, ha]) (by simp [Nat.add_assoc, va_up, hE]) rfl q_fX2 tyX2 tyX2_ok nmX2 (by decide) q_fl_RX2_28 rfl rfl (by decide +kernel) rfl rfl (Nat.le_of_ble_eq_true rfl) rfl dX2_init_43 ?_
  refine c_aloadn C dX2_init_46 rfl ?_
  refine c_bipush C dX2_init_47 (by decide) ?_
  refine c_newI C 36 (f := fun _ => 0) rfl (by decide) (fun _ => rfl) (by decide) dX2_init_49 (fun q49 => ?_)
  refine c_putF C' (p0 := p) (ci := 2) (kf := 6) (fs := [qI 0, qI 0, .ref q17, .ref q25, .ref q33, .ref q41, .null, .null, .null]) (fs' := [qI 0, qI 0, .ref q17, .ref q25, .ref q33, .ref q41, .ref q49, .null, .null]) (ty := (.array .int)) (by omega) (by simp [Nat.add_assoc, va_up, ha]) (by simp [Nat.add_assoc, va_up, hE]) rfl q_fX2 tyX2 tyX2_ok nmX2 (by decide) q_fl_RX2_31 rfl rfl (by decide +kernel) rfl rfl (Nat.le_of_ble_eq_true rfl) rfl dX2_init_51 ?_
  refine c_aloadn C dX2_init_54 rfl ?_
  refine c_bipush C dX2_init_55 (by decide) ?_
  refine c_newI C 36 (f := fun _ => 0) rfl (by decide) (fun _ => rfl) (by decide) dX2_init_57 (fun q57 => ?_)
  refine c_putF C' (p0 := p) (ci := 2) (kf := 7) (fs := [qI 0, qI 0, .ref q17, .ref q25, .ref q33, .ref q41, .ref q49, .null, .null]) (fs' := [qI 0, qI 0, .ref q17, .ref q25, .ref q33, .ref q41, .ref q49, .ref q57, .null]) (ty := (.array .int)) (by omega) (by simp [Nat.add_assoc, va_up, ha]) (by simp [Nat.add_assoc, va_up, hE]) rfl q_fX2 tyX2 tyX2_ok nmX2 (by decide) q_fl_RX2_34 rfl rfl (by decide +kernel) rfl rfl (Nat.le_of_ble_eq_true rfl) rfl dX2_init_59 ?_
  refine c_aloadn C dX2_init_62 rfl ?_
  refine c_new C (ci := 4) (fs := [.null, qI 0, qI 0]) (q_mt 147 (by decide +kernel) (by decide +kernel)) (q_mt 148 (by decide +kernel) (by decide +kernel)) q_in_RX4 rfl q_fX4 tyX4 tyX4_ok (fun j hj => by rcases (show j = 0 ∨ j = 1 ∨ j = 2 by omega) with rfl | rfl | rfl <;> rfl) (by decide) dX2_init_63 (fun q63 => ?_)
  refine c_dup C dX2_init_66 rfl ?_
  refine c_callN C (a := q63) (As := []) (rest := [.ref q63, .ref a]) (n := 0) (host := RX11) (List.mem_of_getElem? (i := 2) rfl) q_in_RX4 q_cd_yX4_init ⟨by decide, by decide, by decide +kernel⟩ (by decide) q_im_yX4_init rfl rfl (by decide) (i_X4 l g n0 _ _ (p + 7) q63 (by simp [Nat.add_assoc, va_up]) (by simp [Nat.add_assoc, va_up])) dX2_init_67 (Nat.le_of_ble_eq_true rfl) rfl (by decide) (fun ad67 E67 hp67 => ?_)
  obtain ⟨⟨f1, f2⟩, b0, b1⟩ := hp67
  refine c_putF C' (p0 := p) (ci := 2) (kf := 8) (fs := [qI 0, qI 0, .ref q17, .ref q25, .ref q33, .ref q41, .ref q49, .ref q57, .null]) (fs' := [qI 0, qI 0, .ref q17, .ref q25, .ref q33, .ref q41, .ref q49, .ref q57, .ref q63]) (ty := (.object "GloveSigns$Log")) (by omega) ((f1 _ (by omega)).trans (by simp [Nat.add_assoc, va_up, ha])) ((f2 _ (by omega)).trans (by simp [Nat.add_assoc, va_up, hE])) rfl q_fX2 tyX2 tyX2_ok nmX2 (by decide) q_fl_RX2_40 rfl rfl (by decide +kernel) rfl rfl (Nat.le_of_ble_eq_true rfl) rfl dX2_init_70 ?_
  refine c_vret C' dX2_init_73 (by decide) ?_
  refine ⟨⟨fun k hk => ?_, fun k hk => ?_⟩, ?_⟩
  · rw [f1 k (by omega)]; repeat rw [va_upN (by omega)]
  · rw [va_upN (by omega), f2 k (by omega)]; repeat rw [va_upN (by omega)]
  have a1 : ad67 (p + 1) = q17 := (f1 _ (by omega)).trans (by simp [Nat.add_assoc, va_up])
  have a2 : ad67 (p + 2) = q25 := (f1 _ (by omega)).trans (by simp [Nat.add_assoc, va_up])
  have a3 : ad67 (p + 3) = q33 := (f1 _ (by omega)).trans (by simp [Nat.add_assoc, va_up])
  have a4 : ad67 (p + 4) = q41 := (f1 _ (by omega)).trans (by simp [Nat.add_assoc, va_up])
  have a5 : ad67 (p + 5) = q49 := (f1 _ (by omega)).trans (by simp [Nat.add_assoc, va_up])
  have a6 : ad67 (p + 6) = q57 := (f1 _ (by omega)).trans (by simp [Nat.add_assoc, va_up])
  have a7 : ad67 (p + 7) = q63 := (f1 _ (by omega)).trans (by simp [Nat.add_assoc, va_up])
  unfold cHall
  exact ⟨by rw [va_upO, a1, a2, a3, a4, a5, a6, a7], by rw [va_upN (by omega), f2 _ (by omega)]; simp [Nat.add_assoc, va_up, cRw], by rw [va_upN (by omega), f2 _ (by omega)]; simp [Nat.add_assoc, va_up, cRw], by rw [va_upN (by omega), f2 _ (by omega)]; simp [Nat.add_assoc, va_up, cRw], by rw [va_upN (by omega), f2 _ (by omega)]; simp [Nat.add_assoc, va_up, cRw], by rw [va_upN (by omega), f2 _ (by omega)]; simp [Nat.add_assoc, va_up, cRw], by rw [va_upN (by omega), f2 _ (by omega)]; simp [Nat.add_assoc, va_up, cRw], by rw [va_upN (by omega)]; exact b0, by rw [va_upN (by omega)]; exact b1⟩
def cImg (g : qGm) (ad : Nat → Nat) (E : Nat → va_E) (q : Nat) : Prop := E q = .inr (3, [qI 0, qI 0, .ref (ad (q + 1))]) ∧ cHall g ad E (q + 1)
theorem cImg.mv {g : qGm} {ad ad' : Nat → Nat} {E E' : Nat → va_E} {q : Nat} (h : cImg g ad E q) (ha : ∀ k, q ≤ k → k < q + 10 → ad' k = ad k) (he : ∀ k, q ≤ k → k < q + 10 → E' k = E k) : cImg g ad' E' q := by
  refine ⟨?_, h.2.mv (fun k a b => ha k (by omega) (by omega)) (fun k a b => he k (by omega) (by omega))⟩
  rw [he q (by omega) (by omega), ha (q + 1) (by omega) (by omega)]
  exact h.1
theorem dX3_init_0 : decode cX3_init 0 = .ok (.aload_n 0, 1) := by decide +kernel
theorem dX3_init_1 : decode cX3_init 1 = .ok (.invokespecial 1, 3) := by decide +kernel
theorem dX3_init_4 : decode cX3_init 4 = .ok (.aload_n 0, 1) := by decide +kernel
theorem dX3_init_5 : decode cX3_init 5 = .ok (.iconst 0, 1) := by decide +kernel
theorem dX3_init_6 : decode cX3_init 6 = .ok (.putfield 7, 3) := by decide +kernel
theorem dX3_init_9 : decode cX3_init 9 = .ok (.aload_n 0, 1) := by decide +kernel
theorem dX3_init_10 : decode cX3_init 10 = .ok (.iconst 0, 1) := by decide +kernel
theorem dX3_init_11 : decode cX3_init 11 = .ok (.putfield 13, 3) := by decide +kernel
theorem dX3_init_14 : decode cX3_init 14 = .ok (.aload_n 0, 1) := by decide +kernel
theorem dX3_init_15 : decode cX3_init 15 = .ok (.new 17, 3) := by decide +kernel
theorem dX3_init_18 : decode cX3_init 18 = .ok (.dup, 1) := by decide +kernel
theorem dX3_init_19 : decode cX3_init 19 = .ok (.invokespecial 19, 3) := by decide +kernel
theorem dX3_init_22 : decode cX3_init 22 = .ok (.putfield 20, 3) := by decide +kernel
theorem dX3_init_25 : decode cX3_init 25 = .ok (.return_, 1) := by decide +kernel
set_option maxRecDepth 8000 in
set_option maxHeartbeats 4000000 in
theorem i_X3 (l : Launch) (g : qGm) (n0 : Nat) (ad : Nat → Nat) (E : Nat → va_E) (p a : Nat) (ha : ad p = a) (hE : E p = .inr (3, [qI 0, qI 0, .null])) : cOk l g 3 yX3_init cX3_init 1 [.ref a] n0 ad (p + 1) E (p + 10) 9 208 (fun ad' E' => cFr p ad E ad' E' ∧ cImg g ad' E' p) := by
  refine c_ok (by decide +kernel) (Nat.le_of_ble_eq_true rfl) rfl (fun X C' hn => ?_)
  have C := C'.1
  refine c_aloadn C dX3_init_0 rfl ?_
  refine c_obj C q_ml_RX3_1 (by decide) (Nat.le_of_ble_eq_true rfl) dX3_init_1 ?_
  refine c_aloadn C dX3_init_4 rfl ?_
  refine c_iconst C dX3_init_5 ?_
  refine c_put C (p0 := p) (ci := 3) (kf := 0) (fs := [qI 0, qI 0, .null]) (fs' := [qI 0, qI 0, .null]) (ty := .boolean) (by omega) (by simp [Nat.add_assoc, va_up, ha]) (by simp [Nat.add_assoc, va_up, hE]) rfl q_fX3 tyX3 tyX3_ok nmX3 (by decide) q_fl_RX3_7 rfl (by decide +kernel) rfl rfl (Nat.le_of_ble_eq_true rfl) rfl dX3_init_6 ?_
  refine c_aloadn C dX3_init_9 rfl ?_
  refine c_iconst C dX3_init_10 ?_
  refine c_put C (p0 := p) (ci := 3) (kf := 1) (fs := [qI 0, qI 0, .null]) (fs' := [qI 0, qI 0, .null]) (ty := .int) (by omega) (by simp [Nat.add_assoc, va_up, ha]) (by simp [Nat.add_assoc, va_up, hE]) rfl q_fX3 tyX3 tyX3_ok nmX3 (by decide) q_fl_RX3_13 rfl (by decide +kernel) rfl rfl (Nat.le_of_ble_eq_true rfl) rfl dX3_init_11 ?_
  refine c_aloadn C dX3_init_14 rfl ?_
  refine c_new C (ci := 2) (fs := [qI 0, qI 0, .null, .null, .null, .null, .null, .null, .null]) (q_mt 292 (by decide +kernel) (by decide +kernel)) (q_mt 142 (by decide +kernel) (by decide +kernel)) q_in_RX2 rfl q_fX2 tyX2 tyX2_ok (fun j hj => by rcases (show j = 0 ∨ j = 1 ∨ j = 2 ∨ j = 3 ∨ j = 4 ∨ j = 5 ∨ j = 6 ∨ j = 7 ∨ j = 8 by omega) with rfl | rfl | rfl | rfl | rfl | rfl | rfl | rfl | rfl <;> rfl) (by decide) dX3_init_15 (fun q15 => ?_)
  refine c_dup C dX3_init_18 rfl ?_
  refine c_callN C (a := q15) (As := []) (rest := [.ref q15, .ref a]) (n := 0) (host := RX11) (List.mem_of_getElem? (i := 6) rfl) q_in_RX2 q_cd_yX2_init ⟨by decide, by decide, by decide +kernel⟩ (by decide) q_im_yX2_init rfl rfl (by decide) (i_X2 l g n0 _ _ (p + 1) q15 (by simp [Nat.add_assoc, va_up]) (by simp [Nat.add_assoc, va_up])) dX3_init_19 (Nat.le_of_ble_eq_true rfl) rfl (by decide) (fun ad19 E19 hp19 => ?_)
  obtain ⟨⟨f1, f2⟩, b0⟩ := hp19
  refine c_putF C' (p0 := p) (ci := 3) (kf := 2) (fs := [qI 0, qI 0, .null]) (fs' := [qI 0, qI 0, .ref q15]) (ty := (.object "GloveSigns$Hall")) (by omega) ((f1 _ (by omega)).trans (by simp [Nat.add_assoc, va_up, ha])) ((f2 _ (by omega)).trans (by simp [Nat.add_assoc, va_up, hE])) rfl q_fX3 tyX3 tyX3_ok nmX3 (by decide) q_fl_RX3_20 rfl rfl (by decide +kernel) rfl rfl (Nat.le_of_ble_eq_true rfl) rfl dX3_init_22 ?_
  refine c_vret C' dX3_init_25 (by decide) ?_
  refine ⟨⟨fun k hk => ?_, fun k hk => ?_⟩, ?_, ?_⟩
  · rw [f1 k (by omega)]; repeat rw [va_upN (by omega)]
  · rw [va_upN (by omega), f2 k (by omega)]; repeat rw [va_upN (by omega)]
  · have a1 : ad19 (p + 1) = q15 := (f1 _ (by omega)).trans (by simp [Nat.add_assoc, va_up])
    rw [va_upO, a1]
  · exact b0.mv (fun _ _ _ => rfl) (fun k h1 h2 => va_upN (by omega))
