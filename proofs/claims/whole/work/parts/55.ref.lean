theorem sAm_best {F : Int → Int} {i b : Int} (hi : 0 ≤ i) (hF : -1 ≤ F i) (hb : b = (sAm F (-1) (-1) i).1) : (F i ≠ -1 ∧ (b = -1 ∨ F b < F i) → i = (sAm F (-1) (-1) (i + 1)).1) ∧ (¬ (F i ≠ -1 ∧ (b = -1 ∨ F b < F i)) → b = (sAm F (-1) (-1) (i + 1)).1) ∧ (b = -1 ∨ ((0 ≤ b ∧ b < i) ∧ -1 < F b)) := by
  rw [sAm_s _ _ _ hi]
  rcases sAm_cases F (-1) hi with ⟨e, -⟩ | ⟨e1, e2, e3, e4⟩
  · rw [e] at hb ⊢
    refine ⟨fun q => ?_, fun q => ?_, Or.inl hb⟩
    · rw [if_pos (show (-1 : Int) < F i by omega)]
    · have : F i = -1 := by
        by_cases z : F i = -1
        · exact z
        · exact absurd ⟨z, Or.inl hb⟩ q
      rw [if_neg (show ¬ (-1 : Int) < F i by omega)]; exact hb
  · rw [e4] at e3 ⊢
    rw [← hb] at e1 e2 e3 ⊢
    refine ⟨fun q => ?_, fun q => ?_, Or.inr ⟨⟨e1, e2⟩, e3⟩⟩
    · rw [if_pos (q.2.resolve_left (by omega))]
    · rw [if_neg (fun r => q ⟨by omega, Or.inr r⟩)]; exact hb
/-- the rows of the matching -/
def mMt (M : qMem) (T : sMT) : qMem := qSet (qSet (qSet M 64 0 (T 0)) 62 0 (T 1)) 63 0 (T 2)
theorem mMt_64 (M : qMem) (T : sMT) : mMt M T 64 0 = T 0 := by unfold mMt; simp only [q_rdSR]; rfl
theorem mMt_62 (M : qMem) (T : sMT) : mMt M T 62 0 = T 1 := by unfold mMt; simp only [q_rdSR]; rfl
theorem mMt_63 (M : qMem) (T : sMT) : mMt M T 63 0 = T 2 := by unfold mMt; simp only [q_rdSR]; rfl
theorem mMt_off (M : qMem) (T : sMT) {j u : Nat} (h : ¬ (62 ≤ j ∧ j ≤ 64 ∧ u = 0)) : mMt M T j u = M j u := by
  unfold mMt
  rw [q_setF (by omega), q_setF (by omega), q_setF (by omega)]
theorem mMt_35 (M : qMem) (T : sMT) : mMt M T 35 = M 35 := funext fun u => mMt_off M T (by omega)
theorem mMt_61 (M : qMem) (T : sMT) : mMt M T 61 = M 61 := funext fun u => mMt_off M T (by omega)
theorem mMt_S {M : qMem} {sd : sSD} (T : sMT) (h : mS M sd) : mS (mMt M T) sd := by
  unfold mS at *
  rw [mMt_35, mMt_off M T (by omega), mMt_off M T (by omega), mMt_off M T (by omega)]
  exact h
theorem q_eq3 {M N : qMem} {a b c : Nat} (hab : a ≠ b) (hac : a ≠ c) (hbc : b ≠ c) (ha : M a 0 = N a 0) (hb : M b 0 = N b 0) (hc : M c 0 = N c 0) (ho : ∀ j u, ¬ (j = a ∧ u = 0) → ¬ (j = b ∧ u = 0) → ¬ (j = c ∧ u = 0) → M j u = N j u) : M = N := by
  funext j u
  by_cases ea : j = a ∧ u = 0
  · rw [ea.1, ea.2]; exact ha
  · by_cases eb : j = b ∧ u = 0
    · rw [eb.1, eb.2]; exact hb
    · by_cases ec : j = c ∧ u = 0
      · rw [ec.1, ec.2]; exact hc
      · exact ho j u ea eb ec
theorem mRow3 {N : qMem} {j : Nat} {i z : Int} : qUp N j 0 i z j 0 = fun k => if k = i then z else N j 0 k := by rw [q_rdR, if_pos rfl, if_pos rfl]
theorem mMt_join (M : qMem) (T : sMT) (c h : Int) : qUp (qUp (mMt M T) 62 0 c h) 63 0 h c = mMt M (tJoin T c h) := by
  refine q_eq3 (a := 62) (b := 63) (c := 64) (by decide) (by decide) (by decide) ?_ ?_ ?_ (fun j u a b c => ?_)
  · rw [q_upF (by decide), mRow3, mMt_62, mMt_62]; rfl
  · rw [mRow3, q_upF (by decide), mMt_63, mMt_63]; rfl
  · rw [q_upF (by decide), q_upF (by decide), mMt_64, mMt_64]; rfl
  · rw [q_upF b, q_upF a, mMt_off _ _ (by omega), mMt_off _ _ (by omega)]
theorem mMt_drop (M : qMem) (T : sMT) (o h : Int) : qUp (qUp (mMt M T) 62 0 o (-1)) 64 0 o (qOr (T 0 o) (qShl 1 h)) = mMt M (tDrop T o h) := by
  refine q_eq3 (a := 62) (b := 63) (c := 64) (by decide) (by decide) (by decide) ?_ ?_ ?_ (fun j u a b c => ?_)
  · rw [q_upF (by decide), mRow3, mMt_62, mMt_62]; rfl
  · rw [q_upF (by decide), q_upF (by decide), mMt_63, mMt_63]; rfl
  · rw [mRow3, q_upF (by decide), mMt_64, mMt_64]; rfl
  · rw [q_upF c, q_upF a, mMt_off _ _ (by omega), mMt_off _ _ (by omega)]
theorem mMt_ref (M : qMem) (T : sMT) (c h : Int) : qUp (mMt M T) 64 0 c (qOr (T 0 c) (qShl 1 h)) = mMt M (tRef T c h) := by
  refine q_eq3 (a := 62) (b := 63) (c := 64) (by decide) (by decide) (by decide) ?_ ?_ ?_ (fun j u a b c => ?_)
  · rw [q_upF (by decide), mMt_62, mMt_62]; rfl
  · rw [q_upF (by decide), mMt_63, mMt_63]; rfl
  · rw [mRow3, mMt_64, mMt_64]; rfl
  · rw [q_upF c, mMt_off _ _ (by omega), mMt_off _ _ (by omega)]
def tPre (M : qMem) (k : Int) : sMT := fun a i => if 0 ≤ i ∧ i < k then tInit a i else if a = 0 then M 64 0 i else if a = 1 then M 62 0 i else M 63 0 i
theorem tPre_s {M : qMem} {k : Int} (hk : 0 ≤ k) (a : Nat) (i : Int) : (if i = k then tInit a i else tPre M k a i) = tPre M (k + 1) a i := by
  unfold tPre
  by_cases e : i = k
  · rw [if_pos e, if_pos (by omega)]
  · rw [if_neg e]
    by_cases e2 : 0 ≤ i ∧ i < k
    · rw [if_pos e2, if_pos (by omega)]
    · rw [if_neg e2, if_neg (show ¬ (0 ≤ i ∧ i < k + 1) by omega)]
theorem mMt_pre {M : qMem} {k : Int} (hk : 0 ≤ k) : qUp (qUp (qUp (mMt M (tPre M k)) 62 0 k (-1)) 63 0 k (-1)) 64 0 k 0 = mMt M (tPre M (k + 1)) := by
  refine q_eq3 (a := 62) (b := 63) (c := 64) (by decide) (by decide) (by decide) ?_ ?_ ?_ (fun j u a b c => ?_)
  · rw [q_upF (by decide), q_upF (by decide), mRow3, mMt_62, mMt_62]; funext i; exact tPre_s hk 1 i
  · rw [q_upF (by decide), mRow3, q_upF (by decide), mMt_63, mMt_63]; funext i; exact tPre_s hk 2 i
  · rw [mRow3, q_upF (by decide), q_upF (by decide), mMt_64, mMt_64]; funext i; exact tPre_s hk 0 i
  · rw [q_upF c, q_upF b, q_upF a, mMt_off _ _ (by omega), mMt_off _ _ (by omega)]
theorem mMt_pre0 (M : qMem) : M = mMt M (tPre M 0) := by
  have e : ∀ a, tPre M 0 a = fun i => if a = 0 then M 64 0 i else if a = 1 then M 62 0 i else M 63 0 i := fun a => by
    funext i; unfold tPre; rw [if_neg (by omega)]
  refine q_eq3 (a := 62) (b := 63) (c := 64) (by decide) (by decide) (by decide) ?_ ?_ ?_ (fun j u a b c => ?_)
  · rw [mMt_62, e]; rfl
  · rw [mMt_63, e]; rfl
  · rw [mMt_64, e]; rfl
  · rw [mMt_off _ _ (by omega)]
theorem q_rowTo {l : Launch} {g : qGm} {X : qCt} {M M' : qMem} {pc : Nat} {ls : List (Nat × Value)} {st : List Value} {j u n : Nat} (he : ∀ M, qCell g M j u = qRow g M j u n) (h : ∀ k : Int, 0 ≤ k → k < n → M j u k = M' j u k) (hf : ∀ k, qIn (M' j u k)) (ho : ∀ j' u', ¬ (j' = j ∧ u' = u) → M' j' u' = M j' u') (k : qV l g X M' pc ls st) : qV l g X M pc ls st := by
  have e : M' = qSet M j u (M' j u) := by
    funext j' u'
    by_cases q : j' = j ∧ u' = u
    · rw [q.1, q.2, q_setOn']
    · rw [q_setF q]; exact ho j' u' q
  rw [← q_setId M j u]
  refine q_rowMem he h hf ?_
  rw [← e]
  exact k
theorem mMt_init {l : Launch} {g : qGm} {X : qCt} {M : qMem} {pc : Nat} {ls : List (Nat × Value)} {st : List Value} {T : sMT} (h : ∀ a i, 0 ≤ i → i < 6 → T a i = tInit a i) (k : qV l g X (mMt M tInit) pc ls st) : qV l g X (mMt M T) pc ls st := by
  refine q_rowTo (j := 62) (u := 0) (n := 6) (M' := mMt M (fun a => if a = 1 then tInit 1 else T a)) (fun _ => rfl) (fun i a b => ?_) (fun i => ?_) (fun j u q => ?_) ?_
  · rw [mMt_62, mMt_62]; exact h 1 i a b
  · rw [mMt_62]; show qIn (-1); decide
  · by_cases e : 62 ≤ j ∧ j ≤ 64 ∧ u = 0
    · obtain ⟨e1, e2, rfl⟩ := e
      obtain rfl | rfl : j = 63 ∨ j = 64 := by omega
      · rw [mMt_63, mMt_63]; rfl
      · rw [mMt_64, mMt_64]; rfl
    · rw [mMt_off _ _ e, mMt_off _ _ e]
  refine q_rowTo (j := 63) (u := 0) (n := 6) (M' := mMt M (fun a => if a = 1 then tInit 1 else if a = 2 then tInit 2 else T a)) (fun _ => rfl) (fun i a b => ?_) (fun i => ?_) (fun j u q => ?_) ?_
  · rw [mMt_63, mMt_63]; exact h 2 i a b
  · rw [mMt_63]; show qIn (-1); decide
  · by_cases e : 62 ≤ j ∧ j ≤ 64 ∧ u = 0
    · obtain ⟨e1, e2, rfl⟩ := e
      obtain rfl | rfl : j = 62 ∨ j = 64 := by omega
      · rw [mMt_62, mMt_62]; rfl
      · rw [mMt_64, mMt_64]; rfl
    · rw [mMt_off _ _ e, mMt_off _ _ e]
  refine q_rowTo (j := 64) (u := 0) (n := 6) (M' := mMt M tInit) (fun _ => rfl) (fun i a b => ?_) (fun i => ?_) (fun j u q => ?_) k
  · rw [mMt_64, mMt_64]; exact h 0 i a b
  · rw [mMt_64]; show qIn 0; decide
  · by_cases e : 62 ≤ j ∧ j ≤ 64 ∧ u = 0
    · obtain ⟨e1, e2, rfl⟩ := e
      obtain rfl | rfl : j = 62 ∨ j = 63 := by omega
      · rw [mMt_62, mMt_62]; rfl
      · rw [mMt_63, mMt_63]; rfl
    · rw [mMt_off _ _ e, mMt_off _ _ e]
theorem dX12_bestHouse_0 : decode cX12_bestHouse 0 = .ok (.iconst (-1), 1) := by decide +kernel
theorem dX12_bestHouse_1 : decode cX12_bestHouse 1 = .ok (.istore_n 2, 1) := by decide +kernel
theorem dX12_bestHouse_2 : decode cX12_bestHouse 2 = .ok (.iconst 0, 1) := by decide +kernel
theorem dX12_bestHouse_3 : decode cX12_bestHouse 3 = .ok (.istore_n 3, 1) := by decide +kernel
theorem dX12_bestHouse_4 : decode cX12_bestHouse 4 = .ok (.iload_n 3, 1) := by decide +kernel
theorem dX12_bestHouse_5 : decode cX12_bestHouse 5 = .ok (.aload_n 0, 1) := by decide +kernel
theorem dX12_bestHouse_6 : decode cX12_bestHouse 6 = .ok (.getfield 150, 3) := by decide +kernel
theorem dX12_bestHouse_9 : decode cX12_bestHouse 9 = .ok (.if_icmp .ge 70, 3) := by decide +kernel
theorem dX12_bestHouse_12 : decode cX12_bestHouse 12 = .ok (.aload_n 0, 1) := by decide +kernel
theorem dX12_bestHouse_13 : decode cX12_bestHouse 13 = .ok (.getfield 56, 3) := by decide +kernel
theorem dX12_bestHouse_16 : decode cX12_bestHouse 16 = .ok (.iload_n 1, 1) := by decide +kernel
theorem dX12_bestHouse_17 : decode cX12_bestHouse 17 = .ok (.iaload, 1) := by decide +kernel
theorem dX12_bestHouse_18 : decode cX12_bestHouse 18 = .ok (.iload_n 3, 1) := by decide +kernel
theorem dX12_bestHouse_19 : decode cX12_bestHouse 19 = .ok (.invokestatic 168, 3) := by decide +kernel
theorem dX12_bestHouse_22 : decode cX12_bestHouse 22 = .ok (.ifCond .ne 17, 3) := by decide +kernel
theorem dX12_bestHouse_25 : decode cX12_bestHouse 25 = .ok (.aload_n 0, 1) := by decide +kernel
theorem dX12_bestHouse_26 : decode cX12_bestHouse 26 = .ok (.iload_n 1, 1) := by decide +kernel
theorem dX12_bestHouse_27 : decode cX12_bestHouse 27 = .ok (.iload_n 3, 1) := by decide +kernel
theorem dX12_bestHouse_28 : decode cX12_bestHouse 28 = .ok (.invokevirtual 204, 3) := by decide +kernel
theorem dX12_bestHouse_31 : decode cX12_bestHouse 31 = .ok (.iconst (-1), 1) := by decide +kernel
theorem dX12_bestHouse_32 : decode cX12_bestHouse 32 = .ok (.if_icmp .eq 7, 3) := by decide +kernel
theorem dX12_bestHouse_35 : decode cX12_bestHouse 35 = .ok (.iconst 1, 1) := by decide +kernel
theorem dX12_bestHouse_36 : decode cX12_bestHouse 36 = .ok (.goto 4, 3) := by decide +kernel
theorem dX12_bestHouse_39 : decode cX12_bestHouse 39 = .ok (.iconst 0, 1) := by decide +kernel
theorem dX12_bestHouse_40 : decode cX12_bestHouse 40 = .ok (.istore 4, 2) := by decide +kernel
theorem dX12_bestHouse_42 : decode cX12_bestHouse 42 = .ok (.iload 4, 2) := by decide +kernel
theorem dX12_bestHouse_44 : decode cX12_bestHouse 44 = .ok (.ifCond .eq 27, 3) := by decide +kernel
theorem dX12_bestHouse_47 : decode cX12_bestHouse 47 = .ok (.iload_n 2, 1) := by decide +kernel
theorem dX12_bestHouse_48 : decode cX12_bestHouse 48 = .ok (.iconst (-1), 1) := by decide +kernel
theorem dX12_bestHouse_49 : decode cX12_bestHouse 49 = .ok (.if_icmp .eq 18, 3) := by decide +kernel
theorem dX12_bestHouse_52 : decode cX12_bestHouse 52 = .ok (.aload_n 0, 1) := by decide +kernel
theorem dX12_bestHouse_53 : decode cX12_bestHouse 53 = .ok (.iload_n 1, 1) := by decide +kernel
theorem dX12_bestHouse_54 : decode cX12_bestHouse 54 = .ok (.iload_n 3, 1) := by decide +kernel
theorem dX12_bestHouse_55 : decode cX12_bestHouse 55 = .ok (.invokevirtual 204, 3) := by decide +kernel
theorem dX12_bestHouse_58 : decode cX12_bestHouse 58 = .ok (.aload_n 0, 1) := by decide +kernel
theorem dX12_bestHouse_59 : decode cX12_bestHouse 59 = .ok (.iload_n 1, 1) := by decide +kernel
theorem dX12_bestHouse_60 : decode cX12_bestHouse 60 = .ok (.iload_n 2, 1) := by decide +kernel
theorem dX12_bestHouse_61 : decode cX12_bestHouse 61 = .ok (.invokevirtual 204, 3) := by decide +kernel
theorem dX12_bestHouse_64 : decode cX12_bestHouse 64 = .ok (.if_icmp .le 7, 3) := by decide +kernel
theorem dX12_bestHouse_67 : decode cX12_bestHouse 67 = .ok (.iload_n 3, 1) := by decide +kernel
theorem dX12_bestHouse_68 : decode cX12_bestHouse 68 = .ok (.goto 4, 3) := by decide +kernel
theorem dX12_bestHouse_71 : decode cX12_bestHouse 71 = .ok (.iload_n 2, 1) := by decide +kernel
theorem dX12_bestHouse_72 : decode cX12_bestHouse 72 = .ok (.istore_n 2, 1) := by decide +kernel
theorem dX12_bestHouse_73 : decode cX12_bestHouse 73 = .ok (.iinc 3 1, 3) := by decide +kernel
theorem dX12_bestHouse_76 : decode cX12_bestHouse 76 = .ok (.goto (-72), 3) := by decide +kernel
theorem dX12_bestHouse_79 : decode cX12_bestHouse 79 = .ok (.iload_n 2, 1) := by decide +kernel
theorem dX12_bestHouse_80 : decode cX12_bestHouse 80 = .ok (.ireturn, 1) := by decide +kernel
set_option maxRecDepth 4000 in
set_option maxHeartbeats 4000000 in
theorem m_X12_bestHouse (l : Launch) (g : qGm) (M : qMem) {sd : sSD} (hs : sRS sd) (hS : mS M sd) (hv : sRR (sd 4 0) (sd 5 0) (M 61 0)) {c : Int} (hc : 0 ≤ c ∧ c < sd 4 0) (hr : 0 ≤ M 64 0 c ∧ M 64 0 c < 64) : qOk l g 6 yX12_bestHouse cX12_bestHouse 5 (some .int) [qR g 35 0, qI c] M (qEv (some (tBest (fun c h => sSuit sd (M 61 0) c h) (sd 5 0) (M 64 0 c) c)) M) := by
  refine q_ok (by decide +kernel) (Nat.le_of_ble_eq_true rfl) (fun X C' hn => ?_)
  have C := C'.1
  have km := hs.2.1
  have kn := hs.2.2.1
  have hmn := hs.1
  have w0 := hS.1
  have w1 := hS.2.1
  have w2 := hS.2.2.1
  obtain ⟨F, hF⟩ : ∃ F : Int → Int, F = (fun h => if sHas (M 64 0 c) h then -1 else sSuit sd (M 61 0) c h) := ⟨_, rfl⟩
  have f1 : ∀ h, sHas (M 64 0 c) h → F h = -1 := fun h q => by rw [hF]; exact if_pos q
  have f2 : ∀ h, ¬ sHas (M 64 0 c) h → F h = sSuit sd (M 61 0) c h := fun h q => by rw [hF]; exact if_neg q
  have f3 : ∀ h, 0 ≤ h → h < sd 5 0 → -1 ≤ F h := fun h a b => by
    by_cases q : sHas (M 64 0 c) h
    · rw [f1 h q]; decide
    · rw [f2 h q]; exact (sSuit_in hs hv hc ⟨a, b⟩).1
  refine q_iconst C dX12_bestHouse_0 ?_
  refine q_istoren C dX12_bestHouse_1 hn (by decide) rfl ?_
  refine q_iconst C dX12_bestHouse_2 ?_
  refine q_istoren C dX12_bestHouse_3 hn (by decide) rfl ?_
  have L4 : ∀ (n4 : Nat) (b : Int) (i : Int), sd 5 0 - i < (n4 : Int) → (0 ≤ i) → (i ≤ sd 5 0) → (b = (sAm F (-1) (-1) i).1) → (b = -1 ∨ (0 ≤ b ∧ b < i)) → qV l g X M 4 [(0, qR g 35 0), (1, qI c), (2, qI b), (3, qI i)] [] := by
    intro n4
    induction n4 with
    | zero => intro b i hm4 i0 i1 ie ib; exfalso; first | omega | (simp at *; omega)
    | succ n4 ih4 =>
      intro b i hm4 i0 i1 ie ib
      refine q_iloadn C dX12_bestHouse_4 rfl ?_
      refine q_aloadn C dX12_bestHouse_5 rfl ?_
      refine gf_RX12_150 C dX12_bestHouse_6 (fun r6 => ?_)
      rw [w2] at r6 ⊢
      refine q_icmp_ge C 79 dX12_bestHouse_9 (by decide) (by first | assumption | omega | exact q_tin _ | exact q_bIn _) (by first | assumption | omega | exact q_tin _ | exact q_bIn _) (fun h9 => ?_) (fun h9 => ?_)
      · refine q_iloadn C dX12_bestHouse_79 rfl ?_
        refine q_iret C' dX12_bestHouse_80 (by first | assumption | omega | exact q_tin _ | exact q_bIn _) ?_
        refine ⟨congrArg some ?_, rfl⟩
        rw [ie, show i = sd 5 0 by omega, hF]
        rfl
      · have f3i := f3 i i0 (by omega)
        refine q_aloadn C dX12_bestHouse_12 rfl ?_
        refine gf_RX12_56 C dX12_bestHouse_13 ?_
        refine q_iloadn C dX12_bestHouse_16 rfl ?_
        refine q_iald C (by first | assumption | decide | omega) rfl dX12_bestHouse_17 (by omega) (by omega) (by decide) (fun r17 => ?_)
        refine q_iloadn C dX12_bestHouse_18 rfl ?_
        refine cv_RX12_168 C (by decide) (m_X12_has l g _ hr (by omega)) dX12_bestHouse_19 (Nat.le_of_ble_eq_true rfl) (fun r19 => ?_)
        refine q_ifneB C 39 dX12_bestHouse_22 (by decide) (fun h22 => ?_) (fun h22 => ?_)
        · have fi := f1 i h22
          refine q_iconst C dX12_bestHouse_39 ?_
          refine q_istore C dX12_bestHouse_40 hn (by decide) rfl ?_
          refine q_iload C dX12_bestHouse_42 rfl ?_
          refine q_if_eq C 71 dX12_bestHouse_44 (by decide) (by first | assumption | omega | exact q_tin _ | exact q_bIn _) (fun h44 => ?_) (fun h44 => ?_)
          · refine q_iloadn C dX12_bestHouse_71 rfl ?_
            refine q_istoren C dX12_bestHouse_72 hn (by decide) rfl ?_
            refine q_iinc C dX12_bestHouse_73 rfl hn (by decide) rfl ?_
            refine q_goto C (tgt := 4) dX12_bestHouse_76 (by decide) ?_
            exact q_ls (by exact ⟨rfl, rfl, rfl, rfl, trivial⟩) (ih4 _ _ (by omega) (by omega) (by omega) (by exact (sAm_best i0 f3i ie).2.1 (fun q => q.1 fi)) (by omega))
          · exact absurd rfl h44
        · have fi := f2 i h22
          refine q_aloadn C dX12_bestHouse_25 rfl ?_
          refine q_iloadn C dX12_bestHouse_26 rfl ?_
          refine q_iloadn C dX12_bestHouse_27 rfl ?_
          refine cv_RX12_204 C (by decide) (m_X12_suitsOf l g _ hs hS hv (by omega) (by omega)) dX12_bestHouse_28 (Nat.le_of_ble_eq_true rfl) (fun r28 => ?_)
          refine q_iconst C dX12_bestHouse_31 ?_
          refine q_icmp_eq C 39 dX12_bestHouse_32 (by decide) (by exact r28) (by decide) (fun h32 => ?_) (fun h32 => ?_)
          · refine q_iconst C dX12_bestHouse_39 ?_
            refine q_istore C dX12_bestHouse_40 hn (by decide) rfl ?_
            refine q_iload C dX12_bestHouse_42 rfl ?_
            refine q_if_eq C 71 dX12_bestHouse_44 (by decide) (by first | assumption | omega | exact q_tin _ | exact q_bIn _) (fun h44 => ?_) (fun h44 => ?_)
            · refine q_iloadn C dX12_bestHouse_71 rfl ?_
              refine q_istoren C dX12_bestHouse_72 hn (by decide) rfl ?_
              refine q_iinc C dX12_bestHouse_73 rfl hn (by decide) rfl ?_
              refine q_goto C (tgt := 4) dX12_bestHouse_76 (by decide) ?_
              exact q_ls (by exact ⟨rfl, rfl, rfl, rfl, trivial⟩) (ih4 _ _ (by omega) (by omega) (by omega) (by exact (sAm_best i0 f3i ie).2.1 (fun q => q.1 (fi.trans h32))) (by omega))
            · exact absurd rfl h44
          · refine q_iconst C dX12_bestHouse_35 ?_
            refine q_goto C (tgt := 40) dX12_bestHouse_36 (by decide) ?_
            refine q_istore C dX12_bestHouse_40 hn (by decide) rfl ?_
            refine q_iload C dX12_bestHouse_42 rfl ?_
            refine q_if_eq C 71 dX12_bestHouse_44 (by decide) (by first | assumption | omega | exact q_tin _ | exact q_bIn _) (fun h44 => ?_) (fun h44 => ?_)
            · exact absurd h44 (by decide)
            · refine q_iloadn C dX12_bestHouse_47 rfl ?_
              refine q_iconst C dX12_bestHouse_48 ?_
              refine q_icmp_eq C 67 dX12_bestHouse_49 (by decide) (by first | assumption | omega | exact q_tin _ | exact q_bIn _) (by first | assumption | omega | exact q_tin _ | exact q_bIn _) (fun h49 => ?_) (fun h49 => ?_)
              · refine q_iloadn C dX12_bestHouse_67 rfl ?_
                refine q_goto C (tgt := 72) dX12_bestHouse_68 (by decide) ?_
                refine q_istoren C dX12_bestHouse_72 hn (by decide) rfl ?_
                refine q_iinc C dX12_bestHouse_73 rfl hn (by decide) rfl ?_
                refine q_goto C (tgt := 4) dX12_bestHouse_76 (by decide) ?_
                exact q_ls (by exact ⟨rfl, rfl, rfl, rfl, trivial⟩) (ih4 _ _ (by omega) (by omega) (by omega) (by exact (sAm_best i0 f3i ie).1 ⟨by rw [fi]; exact h32, Or.inl h49⟩) (by omega))
              · have fb : F b = sSuit sd (M 61 0) c b := by
                  have u3 := (sAm_best i0 f3i ie).2.2.resolve_left h49
                  by_cases z : sHas (M 64 0 c) b
                  · have := f1 b z
                    exact absurd u3.2 (by rw [this]; decide)
                  · exact f2 b z
                refine q_aloadn C dX12_bestHouse_52 rfl ?_
                refine q_iloadn C dX12_bestHouse_53 rfl ?_
                refine q_iloadn C dX12_bestHouse_54 rfl ?_
                refine cv_RX12_204 C (by decide) (m_X12_suitsOf l g _ hs hS hv (by omega) (by omega)) dX12_bestHouse_55 (Nat.le_of_ble_eq_true rfl) (fun r55 => ?_)
                refine q_aloadn C dX12_bestHouse_58 rfl ?_
                refine q_iloadn C dX12_bestHouse_59 rfl ?_
                refine q_iloadn C dX12_bestHouse_60 rfl ?_
                refine cv_RX12_204 C (by decide) (m_X12_suitsOf l g _ hs hS hv (by omega) (by omega)) dX12_bestHouse_61 (Nat.le_of_ble_eq_true rfl) (fun r61 => ?_)
                refine q_icmp_le C 71 dX12_bestHouse_64 (by decide) (by exact r55) (by exact r61) (fun h64 => ?_) (fun h64 => ?_)
                · refine q_iloadn C dX12_bestHouse_71 rfl ?_
                  refine q_istoren C dX12_bestHouse_72 hn (by decide) rfl ?_
                  refine q_iinc C dX12_bestHouse_73 rfl hn (by decide) rfl ?_
                  refine q_goto C (tgt := 4) dX12_bestHouse_76 (by decide) ?_
                  exact q_ls (by exact ⟨rfl, rfl, rfl, rfl, trivial⟩) (ih4 _ _ (by omega) (by omega) (by omega) (by exact (sAm_best i0 f3i ie).2.1 (fun q => by have q2 := q.2.resolve_left h49; rw [fi, fb] at q2; omega)) (by omega))
                · refine q_iloadn C dX12_bestHouse_67 rfl ?_
                  refine q_goto C (tgt := 72) dX12_bestHouse_68 (by decide) ?_
                  refine q_istoren C dX12_bestHouse_72 hn (by decide) rfl ?_
                  refine q_iinc C dX12_bestHouse_73 rfl hn (by decide) rfl ?_
                  refine q_goto C (tgt := 4) dX12_bestHouse_76 (by decide) ?_
                  exact q_ls (by exact ⟨rfl, rfl, rfl, rfl, trivial⟩) (ih4 _ _ (by omega) (by omega) (by omega) (by exact (sAm_best i0 f3i ie).1 ⟨by rw [fi]; exact h32, Or.inr (by rw [fi, fb]; omega)⟩) (by omega))
  exact q_ls (by exact ⟨rfl, rfl, rfl, rfl, trivial⟩) (L4 1000 _ _ (by omega) (by omega) (by omega) (by rfl) (by omega))
theorem m_X12_suitsMt (l : Launch) (g : qGm) (M : qMem) (T : sMT) {sd : sSD} (hs : sRS sd) (hS : mS M sd) (hv : sRR (sd 4 0) (sd 5 0) (M 61 0)) {c : Int} (hc : 0 ≤ c ∧ c < sd 4 0) {h : Int} (hh : 0 ≤ h ∧ h < sd 5 0) : qOk l g 5 yX12_suitsOf cX12_suitsOf 6 (some .int) [qR g 35 0, qI c, qI h] (mMt M T) (qEv (some (sSuit sd (M 61 0) c h)) (mMt M T)) := by
  have h := m_X12_suitsOf l g (mMt M T) hs (mMt_S T hS) (by rw [mMt_61]; exact hv) hc hh
  rw [mMt_61] at h
  exact h
theorem m_X12_bestMt (l : Launch) (g : qGm) (M : qMem) (T : sMT) {sd : sSD} (hs : sRS sd) (hS : mS M sd) (hv : sRR (sd 4 0) (sd 5 0) (M 61 0)) {c : Int} (hc : 0 ≤ c ∧ c < sd 4 0) (hr : 0 ≤ T 0 c ∧ T 0 c < 64) : qOk l g 6 yX12_bestHouse cX12_bestHouse 5 (some .int) [qR g 35 0, qI c] (mMt M T) (qEv (some (tBest (fun c h => sSuit sd (M 61 0) c h) (sd 5 0) (T 0 c) c)) (mMt M T)) := by
  have h := m_X12_bestHouse l g (mMt M T) hs (mMt_S T hS) (by rw [mMt_61]; exact hv) hc (by rw [mMt_64]; exact hr)
  rw [mMt_61, mMt_64] at h
  exact h
theorem dX12_asks_0 : decode cX12_asks 0 = .ok (.aload_n 0, 1) := by decide +kernel
theorem dX12_asks_1 : decode cX12_asks 1 = .ok (.getfield 53, 3) := by decide +kernel
theorem dX12_asks_4 : decode cX12_asks 4 = .ok (.iload_n 2, 1) := by decide +kernel
theorem dX12_asks_5 : decode cX12_asks 5 = .ok (.iaload, 1) := by decide +kernel
theorem dX12_asks_6 : decode cX12_asks 6 = .ok (.istore_n 3, 1) := by decide +kernel
theorem dX12_asks_7 : decode cX12_asks 7 = .ok (.iload_n 3, 1) := by decide +kernel
theorem dX12_asks_8 : decode cX12_asks 8 = .ok (.iconst (-1), 1) := by decide +kernel
theorem dX12_asks_9 : decode cX12_asks 9 = .ok (.if_icmp .eq 38, 3) := by decide +kernel
theorem dX12_asks_12 : decode cX12_asks 12 = .ok (.aload_n 0, 1) := by decide +kernel
theorem dX12_asks_13 : decode cX12_asks 13 = .ok (.iload_n 1, 1) := by decide +kernel
theorem dX12_asks_14 : decode cX12_asks 14 = .ok (.iload_n 2, 1) := by decide +kernel
theorem dX12_asks_15 : decode cX12_asks 15 = .ok (.invokevirtual 204, 3) := by decide +kernel
theorem dX12_asks_18 : decode cX12_asks 18 = .ok (.aload_n 0, 1) := by decide +kernel
theorem dX12_asks_19 : decode cX12_asks 19 = .ok (.iload_n 3, 1) := by decide +kernel
theorem dX12_asks_20 : decode cX12_asks 20 = .ok (.iload_n 2, 1) := by decide +kernel
theorem dX12_asks_21 : decode cX12_asks 21 = .ok (.invokevirtual 204, 3) := by decide +kernel
theorem dX12_asks_24 : decode cX12_asks 24 = .ok (.if_icmp .gt 23, 3) := by decide +kernel
theorem dX12_asks_27 : decode cX12_asks 27 = .ok (.aload_n 0, 1) := by decide +kernel
theorem dX12_asks_28 : decode cX12_asks 28 = .ok (.iload_n 1, 1) := by decide +kernel
theorem dX12_asks_29 : decode cX12_asks 29 = .ok (.iload_n 2, 1) := by decide +kernel
theorem dX12_asks_30 : decode cX12_asks 30 = .ok (.invokevirtual 204, 3) := by decide +kernel
theorem dX12_asks_33 : decode cX12_asks 33 = .ok (.aload_n 0, 1) := by decide +kernel
theorem dX12_asks_34 : decode cX12_asks 34 = .ok (.iload_n 3, 1) := by decide +kernel
theorem dX12_asks_35 : decode cX12_asks 35 = .ok (.iload_n 2, 1) := by decide +kernel
theorem dX12_asks_36 : decode cX12_asks 36 = .ok (.invokevirtual 204, 3) := by decide +kernel
theorem dX12_asks_39 : decode cX12_asks 39 = .ok (.if_icmp .ne 12, 3) := by decide +kernel
theorem dX12_asks_42 : decode cX12_asks 42 = .ok (.iload_n 1, 1) := by decide +kernel
theorem dX12_asks_43 : decode cX12_asks 43 = .ok (.iload_n 3, 1) := by decide +kernel
theorem dX12_asks_44 : decode cX12_asks 44 = .ok (.if_icmp .ge 7, 3) := by decide +kernel
theorem dX12_asks_47 : decode cX12_asks 47 = .ok (.iconst 1, 1) := by decide +kernel
theorem dX12_asks_48 : decode cX12_asks 48 = .ok (.goto 4, 3) := by decide +kernel
theorem dX12_asks_51 : decode cX12_asks 51 = .ok (.iconst 0, 1) := by decide +kernel
theorem dX12_asks_52 : decode cX12_asks 52 = .ok (.istore 4, 2) := by decide +kernel
theorem dX12_asks_54 : decode cX12_asks 54 = .ok (.iload 4, 2) := by decide +kernel
theorem dX12_asks_56 : decode cX12_asks 56 = .ok (.ifCond .ne 16, 3) := by decide +kernel
theorem dX12_asks_59 : decode cX12_asks 59 = .ok (.aload_n 0, 1) := by decide +kernel
theorem dX12_asks_60 : decode cX12_asks 60 = .ok (.getfield 56, 3) := by decide +kernel
theorem dX12_asks_63 : decode cX12_asks 63 = .ok (.iload_n 1, 1) := by decide +kernel
theorem dX12_asks_64 : decode cX12_asks 64 = .ok (.dup2, 1) := by decide +kernel
theorem dX12_asks_65 : decode cX12_asks 65 = .ok (.iaload, 1) := by decide +kernel
theorem dX12_asks_66 : decode cX12_asks 66 = .ok (.iconst 1, 1) := by decide +kernel
theorem dX12_asks_67 : decode cX12_asks 67 = .ok (.iload_n 2, 1) := by decide +kernel
theorem dX12_asks_68 : decode cX12_asks 68 = .ok (.ishl, 1) := by decide +kernel
theorem dX12_asks_69 : decode cX12_asks 69 = .ok (.ior, 1) := by decide +kernel
theorem dX12_asks_70 : decode cX12_asks 70 = .ok (.iastore, 1) := by decide +kernel
theorem dX12_asks_71 : decode cX12_asks 71 = .ok (.return_, 1) := by decide +kernel
theorem dX12_asks_72 : decode cX12_asks 72 = .ok (.iload_n 3, 1) := by decide +kernel
theorem dX12_asks_73 : decode cX12_asks 73 = .ok (.iconst (-1), 1) := by decide +kernel
theorem dX12_asks_74 : decode cX12_asks 74 = .ok (.if_icmp .eq 22, 3) := by decide +kernel
theorem dX12_asks_77 : decode cX12_asks 77 = .ok (.aload_n 0, 1) := by decide +kernel
theorem dX12_asks_78 : decode cX12_asks 78 = .ok (.getfield 50, 3) := by decide +kernel
theorem dX12_asks_81 : decode cX12_asks 81 = .ok (.iload_n 3, 1) := by decide +kernel
theorem dX12_asks_82 : decode cX12_asks 82 = .ok (.iconst (-1), 1) := by decide +kernel
theorem dX12_asks_83 : decode cX12_asks 83 = .ok (.iastore, 1) := by decide +kernel
theorem dX12_asks_84 : decode cX12_asks 84 = .ok (.aload_n 0, 1) := by decide +kernel
theorem dX12_asks_85 : decode cX12_asks 85 = .ok (.getfield 56, 3) := by decide +kernel
theorem dX12_asks_88 : decode cX12_asks 88 = .ok (.iload_n 3, 1) := by decide +kernel
theorem dX12_asks_89 : decode cX12_asks 89 = .ok (.dup2, 1) := by decide +kernel
theorem dX12_asks_90 : decode cX12_asks 90 = .ok (.iaload, 1) := by decide +kernel
theorem dX12_asks_91 : decode cX12_asks 91 = .ok (.iconst 1, 1) := by decide +kernel
theorem dX12_asks_92 : decode cX12_asks 92 = .ok (.iload_n 2, 1) := by decide +kernel
theorem dX12_asks_93 : decode cX12_asks 93 = .ok (.ishl, 1) := by decide +kernel
theorem dX12_asks_94 : decode cX12_asks 94 = .ok (.ior, 1) := by decide +kernel
theorem dX12_asks_95 : decode cX12_asks 95 = .ok (.iastore, 1) := by decide +kernel
theorem dX12_asks_96 : decode cX12_asks 96 = .ok (.aload_n 0, 1) := by decide +kernel
theorem dX12_asks_97 : decode cX12_asks 97 = .ok (.getfield 50, 3) := by decide +kernel
theorem dX12_asks_100 : decode cX12_asks 100 = .ok (.iload_n 1, 1) := by decide +kernel
theorem dX12_asks_101 : decode cX12_asks 101 = .ok (.iload_n 2, 1) := by decide +kernel
theorem dX12_asks_102 : decode cX12_asks 102 = .ok (.iastore, 1) := by decide +kernel
theorem dX12_asks_103 : decode cX12_asks 103 = .ok (.aload_n 0, 1) := by decide +kernel
theorem dX12_asks_104 : decode cX12_asks 104 = .ok (.getfield 53, 3) := by decide +kernel
theorem dX12_asks_107 : decode cX12_asks 107 = .ok (.iload_n 2, 1) := by decide +kernel
theorem dX12_asks_108 : decode cX12_asks 108 = .ok (.iload_n 1, 1) := by decide +kernel
theorem dX12_asks_109 : decode cX12_asks 109 = .ok (.iastore, 1) := by decide +kernel
theorem dX12_asks_110 : decode cX12_asks 110 = .ok (.return_, 1) := by decide +kernel
set_option maxRecDepth 4000 in
set_option maxHeartbeats 4000000 in
theorem m_X12_asks (l : Launch) (g : qGm) (M : qMem) {sd : sSD} (hs : sRS sd) (hS : mS M sd) (hv : sRR (sd 4 0) (sd 5 0) (M 61 0)) {T : sMT} (hT : tInv (sd 4 0) (sd 5 0) T) {c h : Int} (hc : 0 ≤ c ∧ c < sd 4 0) (hh : 0 ≤ h ∧ h < sd 5 0) : qOk l g 6 yX12_asks cX12_asks 5 none [qR g 35 0, qI c, qI h] (mMt M T) (qEv none (mMt M (tAsk (fun c h => sSuit sd (M 61 0) c h) T c h))) := by
  refine q_ok (by decide +kernel) (Nat.le_of_ble_eq_true rfl) (fun X C' hn => ?_)
  have C := C'.1
  have km := hs.2.1
  have kn := hs.2.2.1
  have hmn := hs.1
  have w0 := hS.1
  have w1 := hS.2.1
  have w2 := hS.2.2.1
  have ho := hT.2 h hh.1 hh.2
  refine q_aloadn C dX12_asks_0 rfl ?_
  refine gf_RX12_53 C dX12_asks_1 ?_
  refine q_iloadn C dX12_asks_4 rfl ?_
  refine q_iald C (by first | assumption | decide | omega) rfl dX12_asks_5 (by omega) (by omega) (by decide) (fun r5 => ?_)
  try simp only [q_rd, q_rdS, ↓reduceIte, if_true, if_false, eq_self, Nat.reduceEqDiff, Int.reduceEq, Int.reduceNeg, reduceCtorEq, mMt_62, mMt_63, mMt_64] at r5 ⊢
  refine q_istoren C dX12_asks_6 hn (by decide) rfl ?_
  refine q_iloadn C dX12_asks_7 rfl ?_
  refine q_iconst C dX12_asks_8 ?_
  refine q_icmp_eq C 47 dX12_asks_9 (by decide) (by first | assumption | omega | exact q_tin _ | exact q_bIn _) (by first | assumption | omega | exact q_tin _ | exact q_bIn _) (fun h9 => ?_) (fun h9 => ?_)
  · refine q_iconst C dX12_asks_47 ?_
    refine q_goto C (tgt := 52) dX12_asks_48 (by decide) ?_
    refine q_istore C dX12_asks_52 hn (by decide) rfl ?_
    refine q_iload C dX12_asks_54 rfl ?_
    refine q_if_ne C 72 dX12_asks_56 (by decide) (by first | assumption | omega | exact q_tin _ | exact q_bIn _) (fun h56 => ?_) (fun h56 => ?_)
    · refine q_iloadn C dX12_asks_72 rfl ?_
      refine q_iconst C dX12_asks_73 ?_
      refine q_icmp_eq C 96 dX12_asks_74 (by decide) (by first | assumption | omega | exact q_tin _ | exact q_bIn _) (by first | assumption | omega | exact q_tin _ | exact q_bIn _) (fun h74 => ?_) (fun h74 => ?_)
      · refine q_aloadn C dX12_asks_96 rfl ?_
        refine gf_RX12_50 C dX12_asks_97 ?_
        refine q_iloadn C dX12_asks_100 rfl ?_
        refine q_iloadn C dX12_asks_101 rfl ?_
        refine q_iast C (by first | assumption | decide | omega) (fun _ => rfl) dX12_asks_102 (by omega) (by omega) (by decide) (by first | assumption | omega | exact q_tin _ | exact q_bIn _) ?_
        refine q_aloadn C dX12_asks_103 rfl ?_
        refine gf_RX12_53 C dX12_asks_104 ?_
        refine q_iloadn C dX12_asks_107 rfl ?_
        refine q_iloadn C dX12_asks_108 rfl ?_
        refine q_iast C (by first | assumption | decide | omega) (fun _ => rfl) dX12_asks_109 (by omega) (by omega) (by decide) (by first | assumption | omega | exact q_tin _ | exact q_bIn _) ?_
        refine q_vret C' dX12_asks_110 ?_
        refine ⟨rfl, ?_⟩
        unfold tAsk
        first | (exfalso; omega) | (rw [if_pos (by (try dsimp only); omega), mMt_join]; done) | (rw [if_neg (by (try dsimp only); omega), if_pos (by (try dsimp only); omega), mMt_drop, mMt_join])
      · refine q_aloadn C dX12_asks_77 rfl ?_
        refine gf_RX12_50 C dX12_asks_78 ?_
        refine q_iloadn C dX12_asks_81 rfl ?_
        refine q_iconst C dX12_asks_82 ?_
        refine q_iast C (by first | assumption | decide | omega) (fun _ => rfl) dX12_asks_83 (by omega) (by omega) (by decide) (by first | assumption | omega | exact q_tin _ | exact q_bIn _) ?_
        refine q_aloadn C dX12_asks_84 rfl ?_
        refine gf_RX12_56 C dX12_asks_85 ?_
        refine q_iloadn C dX12_asks_88 rfl ?_
        refine q_dup2 C dX12_asks_89 rfl rfl ?_
        refine q_iald C (by first | assumption | decide | omega) rfl dX12_asks_90 (by omega) (by omega) (by decide) (fun r90 => ?_)
        try simp only [q_rd, q_rdS, ↓reduceIte, if_true, if_false, eq_self, Nat.reduceEqDiff, Int.reduceEq, Int.reduceNeg, reduceCtorEq, mMt_62, mMt_63, mMt_64] at r90 ⊢
        refine q_iconst C dX12_asks_91 ?_
        refine q_iloadn C dX12_asks_92 rfl ?_
        refine q_ishl C dX12_asks_93 ?_
        refine q_ior C dX12_asks_94 ?_
        refine q_iast C (by first | assumption | decide | omega) (fun _ => rfl) dX12_asks_95 (by omega) (by omega) (by decide) (by first | assumption | omega | exact q_tin _ | exact q_bIn _) ?_
        refine q_aloadn C dX12_asks_96 rfl ?_
        refine gf_RX12_50 C dX12_asks_97 ?_
        refine q_iloadn C dX12_asks_100 rfl ?_
        refine q_iloadn C dX12_asks_101 rfl ?_
        refine q_iast C (by first | assumption | decide | omega) (fun _ => rfl) dX12_asks_102 (by omega) (by omega) (by decide) (by first | assumption | omega | exact q_tin _ | exact q_bIn _) ?_
        refine q_aloadn C dX12_asks_103 rfl ?_
        refine gf_RX12_53 C dX12_asks_104 ?_
        refine q_iloadn C dX12_asks_107 rfl ?_
        refine q_iloadn C dX12_asks_108 rfl ?_
        refine q_iast C (by first | assumption | decide | omega) (fun _ => rfl) dX12_asks_109 (by omega) (by omega) (by decide) (by first | assumption | omega | exact q_tin _ | exact q_bIn _) ?_
        refine q_vret C' dX12_asks_110 ?_
        refine ⟨rfl, ?_⟩
        unfold tAsk
        first | (exfalso; omega) | (rw [if_pos (by (try dsimp only); omega), mMt_join]; done) | (rw [if_neg (by (try dsimp only); omega), if_pos (by (try dsimp only); omega), mMt_drop, mMt_join])
    · exact absurd h56 (by decide)
  · refine q_aloadn C dX12_asks_12 rfl ?_
    refine q_iloadn C dX12_asks_13 rfl ?_
    refine q_iloadn C dX12_asks_14 rfl ?_
    refine cv_RX12_204 C (by decide) (m_X12_suitsMt l g M T hs hS hv (by omega) (by omega)) dX12_asks_15 (Nat.le_of_ble_eq_true rfl) (fun r15 => ?_)
    refine q_aloadn C dX12_asks_18 rfl ?_
    refine q_iloadn C dX12_asks_19 rfl ?_
    refine q_iloadn C dX12_asks_20 rfl ?_
    refine cv_RX12_204 C (by decide) (m_X12_suitsMt l g M T hs hS hv (by omega) (by omega)) dX12_asks_21 (Nat.le_of_ble_eq_true rfl) (fun r21 => ?_)
    refine q_icmp_gt C 47 dX12_asks_24 (by decide) (by exact r15) (by exact r21) (fun h24 => ?_) (fun h24 => ?_)
    · refine q_iconst C dX12_asks_47 ?_
      refine q_goto C (tgt := 52) dX12_asks_48 (by decide) ?_
      refine q_istore C dX12_asks_52 hn (by decide) rfl ?_
      refine q_iload C dX12_asks_54 rfl ?_
      refine q_if_ne C 72 dX12_asks_56 (by decide) (by first | assumption | omega | exact q_tin _ | exact q_bIn _) (fun h56 => ?_) (fun h56 => ?_)
      · refine q_iloadn C dX12_asks_72 rfl ?_
        refine q_iconst C dX12_asks_73 ?_
        refine q_icmp_eq C 96 dX12_asks_74 (by decide) (by first | assumption | omega | exact q_tin _ | exact q_bIn _) (by first | assumption | omega | exact q_tin _ | exact q_bIn _) (fun h74 => ?_) (fun h74 => ?_)
        · refine q_aloadn C dX12_asks_96 rfl ?_
          refine gf_RX12_50 C dX12_asks_97 ?_
          refine q_iloadn C dX12_asks_100 rfl ?_
          refine q_iloadn C dX12_asks_101 rfl ?_
          refine q_iast C (by first | assumption | decide | omega) (fun _ => rfl) dX12_asks_102 (by omega) (by omega) (by decide) (by first | assumption | omega | exact q_tin _ | exact q_bIn _) ?_
          refine q_aloadn C dX12_asks_103 rfl ?_
          refine gf_RX12_53 C dX12_asks_104 ?_
          refine q_iloadn C dX12_asks_107 rfl ?_
          refine q_iloadn C dX12_asks_108 rfl ?_
          refine q_iast C (by first | assumption | decide | omega) (fun _ => rfl) dX12_asks_109 (by omega) (by omega) (by decide) (by first | assumption | omega | exact q_tin _ | exact q_bIn _) ?_
          refine q_vret C' dX12_asks_110 ?_
          refine ⟨rfl, ?_⟩
          unfold tAsk
          first | (exfalso; omega) | (rw [if_pos (by (try dsimp only); omega), mMt_join]; done) | (rw [if_neg (by (try dsimp only); omega), if_pos (by (try dsimp only); omega), mMt_drop, mMt_join])
        · refine q_aloadn C dX12_asks_77 rfl ?_
          refine gf_RX12_50 C dX12_asks_78 ?_
          refine q_iloadn C dX12_asks_81 rfl ?_
          refine q_iconst C dX12_asks_82 ?_
          refine q_iast C (by first | assumption | decide | omega) (fun _ => rfl) dX12_asks_83 (by omega) (by omega) (by decide) (by first | assumption | omega | exact q_tin _ | exact q_bIn _) ?_
          refine q_aloadn C dX12_asks_84 rfl ?_
          refine gf_RX12_56 C dX12_asks_85 ?_
          refine q_iloadn C dX12_asks_88 rfl ?_
          refine q_dup2 C dX12_asks_89 rfl rfl ?_
          refine q_iald C (by first | assumption | decide | omega) rfl dX12_asks_90 (by omega) (by omega) (by decide) (fun r90 => ?_)
          try simp only [q_rd, q_rdS, ↓reduceIte, if_true, if_false, eq_self, Nat.reduceEqDiff, Int.reduceEq, Int.reduceNeg, reduceCtorEq, mMt_62, mMt_63, mMt_64] at r90 ⊢
          refine q_iconst C dX12_asks_91 ?_
          refine q_iloadn C dX12_asks_92 rfl ?_
          refine q_ishl C dX12_asks_93 ?_
          refine q_ior C dX12_asks_94 ?_
          refine q_iast C (by first | assumption | decide | omega) (fun _ => rfl) dX12_asks_95 (by omega) (by omega) (by decide) (by first | assumption | omega | exact q_tin _ | exact q_bIn _) ?_
          refine q_aloadn C dX12_asks_96 rfl ?_
          refine gf_RX12_50 C dX12_asks_97 ?_
          refine q_iloadn C dX12_asks_100 rfl ?_
          refine q_iloadn C dX12_asks_101 rfl ?_
          refine q_iast C (by first | assumption | decide | omega) (fun _ => rfl) dX12_asks_102 (by omega) (by omega) (by decide) (by first | assumption | omega | exact q_tin _ | exact q_bIn _) ?_
          refine q_aloadn C dX12_asks_103 rfl ?_
          refine gf_RX12_53 C dX12_asks_104 ?_
          refine q_iloadn C dX12_asks_107 rfl ?_
          refine q_iloadn C dX12_asks_108 rfl ?_
          refine q_iast C (by first | assumption | decide | omega) (fun _ => rfl) dX12_asks_109 (by omega) (by omega) (by decide) (by first | assumption | omega | exact q_tin _ | exact q_bIn _) ?_
          refine q_vret C' dX12_asks_110 ?_
          refine ⟨rfl, ?_⟩
          unfold tAsk
          first | (exfalso; omega) | (rw [if_pos (by (try dsimp only); omega), mMt_join]; done) | (rw [if_neg (by (try dsimp only); omega), if_pos (by (try dsimp only); omega), mMt_drop, mMt_join])
      · exact absurd h56 (by decide)
    · refine q_aloadn C dX12_asks_27 rfl ?_
      refine q_iloadn C dX12_asks_28 rfl ?_
      refine q_iloadn C dX12_asks_29 rfl ?_
      refine cv_RX12_204 C (by decide) (m_X12_suitsMt l g M T hs hS hv (by omega) (by omega)) dX12_asks_30 (Nat.le_of_ble_eq_true rfl) (fun r30 => ?_)
      refine q_aloadn C dX12_asks_33 rfl ?_
      refine q_iloadn C dX12_asks_34 rfl ?_
      refine q_iloadn C dX12_asks_35 rfl ?_
      refine cv_RX12_204 C (by decide) (m_X12_suitsMt l g M T hs hS hv (by omega) (by omega)) dX12_asks_36 (Nat.le_of_ble_eq_true rfl) (fun r36 => ?_)
      refine q_icmp_ne C 51 dX12_asks_39 (by decide) (by exact r30) (by exact r36) (fun h39 => ?_) (fun h39 => ?_)
      · refine q_iconst C dX12_asks_51 ?_
        refine q_istore C dX12_asks_52 hn (by decide) rfl ?_
        refine q_iload C dX12_asks_54 rfl ?_
        refine q_if_ne C 72 dX12_asks_56 (by decide) (by first | assumption | omega | exact q_tin _ | exact q_bIn _) (fun h56 => ?_) (fun h56 => ?_)
        · exact absurd rfl h56
        · refine q_aloadn C dX12_asks_59 rfl ?_
          refine gf_RX12_56 C dX12_asks_60 ?_
          refine q_iloadn C dX12_asks_63 rfl ?_
          refine q_dup2 C dX12_asks_64 rfl rfl ?_
          refine q_iald C (by first | assumption | decide | omega) rfl dX12_asks_65 (by omega) (by omega) (by decide) (fun r65 => ?_)
          try simp only [q_rd, q_rdS, ↓reduceIte, if_true, if_false, eq_self, Nat.reduceEqDiff, Int.reduceEq, Int.reduceNeg, reduceCtorEq, mMt_62, mMt_63, mMt_64] at r65 ⊢
          refine q_iconst C dX12_asks_66 ?_
          refine q_iloadn C dX12_asks_67 rfl ?_
          refine q_ishl C dX12_asks_68 ?_
          refine q_ior C dX12_asks_69 ?_
          refine q_iast C (by first | assumption | decide | omega) (fun _ => rfl) dX12_asks_70 (by omega) (by omega) (by decide) (by first | assumption | omega | exact q_tin _ | exact q_bIn _) ?_
          refine q_vret C' dX12_asks_71 ?_
          refine ⟨rfl, ?_⟩
          unfold tAsk
          rw [if_neg (by (try dsimp only); omega), if_neg (by (try dsimp only); omega), mMt_ref]
      · refine q_iloadn C dX12_asks_42 rfl ?_
        refine q_iloadn C dX12_asks_43 rfl ?_
        refine q_icmp_ge C 51 dX12_asks_44 (by decide) (by first | assumption | omega | exact q_tin _ | exact q_bIn _) (by first | assumption | omega | exact q_tin _ | exact q_bIn _) (fun h44 => ?_) (fun h44 => ?_)
        · refine q_iconst C dX12_asks_51 ?_
          refine q_istore C dX12_asks_52 hn (by decide) rfl ?_
          refine q_iload C dX12_asks_54 rfl ?_
          refine q_if_ne C 72 dX12_asks_56 (by decide) (by first | assumption | omega | exact q_tin _ | exact q_bIn _) (fun h56 => ?_) (fun h56 => ?_)
          · exact absurd rfl h56
          · refine q_aloadn C dX12_asks_59 rfl ?_
            refine gf_RX12_56 C dX12_asks_60 ?_
            refine q_iloadn C dX12_asks_63 rfl ?_
            refine q_dup2 C dX12_asks_64 rfl rfl ?_
            refine q_iald C (by first | assumption | decide | omega) rfl dX12_asks_65 (by omega) (by omega) (by decide) (fun r65 => ?_)
            try simp only [q_rd, q_rdS, ↓reduceIte, if_true, if_false, eq_self, Nat.reduceEqDiff, Int.reduceEq, Int.reduceNeg, reduceCtorEq, mMt_62, mMt_63, mMt_64] at r65 ⊢
            refine q_iconst C dX12_asks_66 ?_
            refine q_iloadn C dX12_asks_67 rfl ?_
            refine q_ishl C dX12_asks_68 ?_
            refine q_ior C dX12_asks_69 ?_
            refine q_iast C (by first | assumption | decide | omega) (fun _ => rfl) dX12_asks_70 (by omega) (by omega) (by decide) (by first | assumption | omega | exact q_tin _ | exact q_bIn _) ?_
            refine q_vret C' dX12_asks_71 ?_
            refine ⟨rfl, ?_⟩
            unfold tAsk
            rw [if_neg (by (try dsimp only); omega), if_neg (by (try dsimp only); omega), mMt_ref]
        · refine q_iconst C dX12_asks_47 ?_
          refine q_goto C (tgt := 52) dX12_asks_48 (by decide) ?_
          refine q_istore C dX12_asks_52 hn (by decide) rfl ?_
          refine q_iload C dX12_asks_54 rfl ?_
          refine q_if_ne C 72 dX12_asks_56 (by decide) (by first | assumption | omega | exact q_tin _ | exact q_bIn _) (fun h56 => ?_) (fun h56 => ?_)
          · refine q_iloadn C dX12_asks_72 rfl ?_
            refine q_iconst C dX12_asks_73 ?_
            refine q_icmp_eq C 96 dX12_asks_74 (by decide) (by first | assumption | omega | exact q_tin _ | exact q_bIn _) (by first | assumption | omega | exact q_tin _ | exact q_bIn _) (fun h74 => ?_) (fun h74 => ?_)
            · refine q_aloadn C dX12_asks_96 rfl ?_
              refine gf_RX12_50 C dX12_asks_97 ?_
              refine q_iloadn C dX12_asks_100 rfl ?_
              refine q_iloadn C dX12_asks_101 rfl ?_
              refine q_iast C (by first | assumption | decide | omega) (fun _ => rfl) dX12_asks_102 (by omega) (by omega) (by decide) (by first | assumption | omega | exact q_tin _ | exact q_bIn _) ?_
              refine q_aloadn C dX12_asks_103 rfl ?_
              refine gf_RX12_53 C dX12_asks_104 ?_
              refine q_iloadn C dX12_asks_107 rfl ?_
              refine q_iloadn C dX12_asks_108 rfl ?_
              refine q_iast C (by first | assumption | decide | omega) (fun _ => rfl) dX12_asks_109 (by omega) (by omega) (by decide) (by first | assumption | omega | exact q_tin _ | exact q_bIn _) ?_
              refine q_vret C' dX12_asks_110 ?_
              refine ⟨rfl, ?_⟩
              unfold tAsk
              first | (exfalso; omega) | (rw [if_pos (by (try dsimp only); omega), mMt_join]; done) | (rw [if_neg (by (try dsimp only); omega), if_pos (by (try dsimp only); omega), mMt_drop, mMt_join])
            · refine q_aloadn C dX12_asks_77 rfl ?_
              refine gf_RX12_50 C dX12_asks_78 ?_
              refine q_iloadn C dX12_asks_81 rfl ?_
              refine q_iconst C dX12_asks_82 ?_
              refine q_iast C (by first | assumption | decide | omega) (fun _ => rfl) dX12_asks_83 (by omega) (by omega) (by decide) (by first | assumption | omega | exact q_tin _ | exact q_bIn _) ?_
              refine q_aloadn C dX12_asks_84 rfl ?_
              refine gf_RX12_56 C dX12_asks_85 ?_
              refine q_iloadn C dX12_asks_88 rfl ?_
              refine q_dup2 C dX12_asks_89 rfl rfl ?_
              refine q_iald C (by first | assumption | decide | omega) rfl dX12_asks_90 (by omega) (by omega) (by decide) (fun r90 => ?_)
              try simp only [q_rd, q_rdS, ↓reduceIte, if_true, if_false, eq_self, Nat.reduceEqDiff, Int.reduceEq, Int.reduceNeg, reduceCtorEq, mMt_62, mMt_63, mMt_64] at r90 ⊢
              refine q_iconst C dX12_asks_91 ?_
              refine q_iloadn C dX12_asks_92 rfl ?_
              refine q_ishl C dX12_asks_93 ?_
              refine q_ior C dX12_asks_94 ?_
              refine q_iast C (by first | assumption | decide | omega) (fun _ => rfl) dX12_asks_95 (by omega) (by omega) (by decide) (by first | assumption | omega | exact q_tin _ | exact q_bIn _) ?_
              refine q_aloadn C dX12_asks_96 rfl ?_
              refine gf_RX12_50 C dX12_asks_97 ?_
              refine q_iloadn C dX12_asks_100 rfl ?_
              refine q_iloadn C dX12_asks_101 rfl ?_
              refine q_iast C (by first | assumption | decide | omega) (fun _ => rfl) dX12_asks_102 (by omega) (by omega) (by decide) (by first | assumption | omega | exact q_tin _ | exact q_bIn _) ?_
              refine q_aloadn C dX12_asks_103 rfl ?_
              refine gf_RX12_53 C dX12_asks_104 ?_
              refine q_iloadn C dX12_asks_107 rfl ?_
              refine q_iloadn C dX12_asks_108 rfl ?_
              refine q_iast C (by first | assumption | decide | omega) (fun _ => rfl) dX12_asks_109 (by omega) (by omega) (by decide) (by first | assumption | omega | exact q_tin _ | exact q_bIn _) ?_
              refine q_vret C' dX12_asks_110 ?_
              refine ⟨rfl, ?_⟩
              unfold tAsk
              first | (exfalso; omega) | (rw [if_pos (by (try dsimp only); omega), mMt_join]; done) | (rw [if_neg (by (try dsimp only); omega), if_pos (by (try dsimp only); omega), mMt_drop, mMt_join])
          · exact absurd h56 (by decide)
