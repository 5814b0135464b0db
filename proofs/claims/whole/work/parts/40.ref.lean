theorem sAlike_b (np : Int) (pa va : Int → Int) (mn p v : Int) : 0 ≤ sAlike np pa va mn p v ∧ sAlike np pa va mn p v ≤ 48 := by
  have := sSum_b (f := fun k => qB (sPart k p = v ∧ sFits np pa va mn k = true)) (n := 48) (B := 1) (by omega) (fun k _ _ => by have := q_b01 (sPart k p = v ∧ sFits np pa va mn k = true); omega)
  unfold sAlike
  omega
theorem sAlk_b (np : Int) (pa va : Int → Int) (mn p : Int) : 0 ≤ sAlk np pa va mn p ∧ sAlk np pa va mn p ≤ 48 := sMx_b (by omega) (fun k _ _ => (sAlike_b np pa va mn p k).2)
theorem dX12_alike_0 : decode cX12_alike 0 = .ok (.iconst 0, 1) := by decide +kernel
theorem dX12_alike_1 : decode cX12_alike 1 = .ok (.istore_n 2, 1) := by decide +kernel
theorem dX12_alike_2 : decode cX12_alike 2 = .ok (.iconst 0, 1) := by decide +kernel
theorem dX12_alike_3 : decode cX12_alike 3 = .ok (.istore_n 3, 1) := by decide +kernel
theorem dX12_alike_4 : decode cX12_alike 4 = .ok (.iload_n 3, 1) := by decide +kernel
theorem dX12_alike_5 : decode cX12_alike 5 = .ok (.iconst 3, 1) := by decide +kernel
theorem dX12_alike_6 : decode cX12_alike 6 = .ok (.if_icmp .ge 70, 3) := by decide +kernel
theorem dX12_alike_9 : decode cX12_alike 9 = .ok (.iconst 0, 1) := by decide +kernel
theorem dX12_alike_10 : decode cX12_alike 10 = .ok (.istore 4, 2) := by decide +kernel
theorem dX12_alike_12 : decode cX12_alike 12 = .ok (.iconst 0, 1) := by decide +kernel
theorem dX12_alike_13 : decode cX12_alike 13 = .ok (.istore 5, 2) := by decide +kernel
theorem dX12_alike_15 : decode cX12_alike 15 = .ok (.iload 5, 2) := by decide +kernel
theorem dX12_alike_17 : decode cX12_alike 17 = .ok (.bipush 48, 2) := by decide +kernel
theorem dX12_alike_19 : decode cX12_alike 19 = .ok (.if_icmp .ge 38, 3) := by decide +kernel
theorem dX12_alike_22 : decode cX12_alike 22 = .ok (.iload 4, 2) := by decide +kernel
theorem dX12_alike_24 : decode cX12_alike 24 = .ok (.aload_n 0, 1) := by decide +kernel
theorem dX12_alike_25 : decode cX12_alike 25 = .ok (.iload 5, 2) := by decide +kernel
theorem dX12_alike_27 : decode cX12_alike 27 = .ok (.invokevirtual 288, 3) := by decide +kernel
theorem dX12_alike_30 : decode cX12_alike 30 = .ok (.ifCond .eq 17, 3) := by decide +kernel
theorem dX12_alike_33 : decode cX12_alike 33 = .ok (.iload 5, 2) := by decide +kernel
theorem dX12_alike_35 : decode cX12_alike 35 = .ok (.iload_n 1, 1) := by decide +kernel
theorem dX12_alike_36 : decode cX12_alike 36 = .ok (.invokestatic 285, 3) := by decide +kernel
theorem dX12_alike_39 : decode cX12_alike 39 = .ok (.iload_n 3, 1) := by decide +kernel
theorem dX12_alike_40 : decode cX12_alike 40 = .ok (.if_icmp .ne 7, 3) := by decide +kernel
theorem dX12_alike_43 : decode cX12_alike 43 = .ok (.iconst 1, 1) := by decide +kernel
theorem dX12_alike_44 : decode cX12_alike 44 = .ok (.goto 4, 3) := by decide +kernel
theorem dX12_alike_47 : decode cX12_alike 47 = .ok (.iconst 0, 1) := by decide +kernel
theorem dX12_alike_48 : decode cX12_alike 48 = .ok (.iadd, 1) := by decide +kernel
theorem dX12_alike_49 : decode cX12_alike 49 = .ok (.istore 4, 2) := by decide +kernel
theorem dX12_alike_51 : decode cX12_alike 51 = .ok (.iinc 5 1, 3) := by decide +kernel
theorem dX12_alike_54 : decode cX12_alike 54 = .ok (.goto (-39), 3) := by decide +kernel
theorem dX12_alike_57 : decode cX12_alike 57 = .ok (.iload 4, 2) := by decide +kernel
theorem dX12_alike_59 : decode cX12_alike 59 = .ok (.iload_n 2, 1) := by decide +kernel
theorem dX12_alike_60 : decode cX12_alike 60 = .ok (.if_icmp .le 8, 3) := by decide +kernel
theorem dX12_alike_63 : decode cX12_alike 63 = .ok (.iload 4, 2) := by decide +kernel
theorem dX12_alike_65 : decode cX12_alike 65 = .ok (.goto 4, 3) := by decide +kernel
theorem dX12_alike_68 : decode cX12_alike 68 = .ok (.iload_n 2, 1) := by decide +kernel
theorem dX12_alike_69 : decode cX12_alike 69 = .ok (.istore_n 2, 1) := by decide +kernel
theorem dX12_alike_70 : decode cX12_alike 70 = .ok (.iinc 3 1, 3) := by decide +kernel
theorem dX12_alike_73 : decode cX12_alike 73 = .ok (.goto (-69), 3) := by decide +kernel
theorem dX12_alike_76 : decode cX12_alike 76 = .ok (.iload_n 2, 1) := by decide +kernel
theorem dX12_alike_77 : decode cX12_alike 77 = .ok (.ireturn, 1) := by decide +kernel
set_option maxRecDepth 4000 in
set_option maxHeartbeats 4000000 in
theorem m_X12_alike (l : Launch) (g : qGm) (M : qMem) {sd : sSD} (hs : sRS sd) (hS : mS M sd) (hsn : 0 ≤ M 35 0 29 ∧ M 35 0 29 ≤ 6) (hsb : ∀ i, 0 ≤ i → i < M 35 0 29 → 0 ≤ M 70 0 i ∧ M 70 0 i < 5) (hon : 0 ≤ sd 0 0) {p : Int} (hp : 0 ≤ p ∧ p < 5) : qOk l g 4 yX12_alike cX12_alike 6 (some .int) [qR g 35 0, qI p] M (qEv (some (sAlk (M 35 0 29) (M 70 0) (M 71 0) (sd 0 0) p)) M) := by
  refine q_ok (by decide +kernel) (Nat.le_of_ble_eq_true rfl) (fun X C' hn => ?_)
  have C := C'.1
  have km := hs.2.1
  have kn := hs.2.2.1
  have hmn := hs.1
  have w0 := hS.1
  have w1 := hS.2.1
  have w2 := hS.2.2.1
  refine q_iconst C dX12_alike_0 ?_
  refine q_istoren C dX12_alike_1 hn (by decide) rfl ?_
  refine q_iconst C dX12_alike_2 ?_
  refine q_istoren C dX12_alike_3 hn (by decide) rfl ?_
  have L4 : ∀ (n4 : Nat) (x : Int) (v : Int), 3 - v < (n4 : Int) → (0 ≤ v) → (v ≤ 3) → (x = sMx (fun v => sAlike (M 35 0 29) (M 70 0) (M 71 0) (sd 0 0) p v) 0 v) → (0 ≤ x ∧ x ≤ 48) → qV l g X M 4 [(0, qR g 35 0), (1, qI p), (2, qI x), (3, qI v)] [] := by
    intro n4
    induction n4 with
    | zero => intro x v hm4 v0 v1 ie ib; exfalso; first | omega | (simp at *; omega)
    | succ n4 ih4 =>
      intro x v hm4 v0 v1 ie ib
      have ab := sAlike_b (M 35 0 29) (M 70 0) (M 71 0) (sd 0 0) p v
      refine q_iloadn C dX12_alike_4 rfl ?_
      refine q_iconst C dX12_alike_5 ?_
      refine q_icmp_ge C 76 dX12_alike_6 (by decide) (by first | assumption | omega | exact q_tin _ | exact q_bIn _) (by first | assumption | omega | exact q_tin _ | exact q_bIn _) (fun h6 => ?_) (fun h6 => ?_)
      · refine q_iloadn C dX12_alike_76 rfl ?_
        refine q_iret C' dX12_alike_77 (by first | assumption | omega | exact q_tin _ | exact q_bIn _) ?_
        refine ⟨congrArg some ?_, rfl⟩
        have e9 : v = 3 := (by omega)
        rw [ie, e9]
        rfl
      · refine q_iconst C dX12_alike_9 ?_
        refine q_istore C dX12_alike_10 hn (by decide) rfl ?_
        refine q_iconst C dX12_alike_12 ?_
        refine q_istore C dX12_alike_13 hn (by decide) rfl ?_
        have L15 : ∀ (n15 : Nat) (n : Int) (i : Int), 48 - i < (n15 : Int) → (0 ≤ i) → (i ≤ 48) → (n = sSum (fun k => qB (sPart k p = v ∧ sFits (M 35 0 29) (M 70 0) (M 71 0) (sd 0 0) k = true)) i) → (0 ≤ n ∧ n ≤ i) → qV l g X M 15 [(0, qR g 35 0), (1, qI p), (2, qI x), (3, qI v), (4, qI n), (5, qI i)] [] := by
          intro n15
          induction n15 with
          | zero => intro n i hm15 j0 j1 jn jb; exfalso; first | omega | (simp at *; omega)
          | succ n15 ih15 =>
            intro n i hm15 j0 j1 jn jb
            refine q_iload C dX12_alike_15 rfl ?_
            refine q_bipush C dX12_alike_17 (by decide) ?_
            refine q_icmp_ge C 57 dX12_alike_19 (by decide) (by first | assumption | omega | exact q_tin _ | exact q_bIn _) (by first | assumption | omega | exact q_tin _ | exact q_bIn _) (fun h19 => ?_) (fun h19 => ?_)
            · refine q_iload C dX12_alike_57 rfl ?_
              refine q_iloadn C dX12_alike_59 rfl ?_
              refine q_icmp_le C 68 dX12_alike_60 (by decide) (by first | assumption | omega | exact q_tin _ | exact q_bIn _) (by first | assumption | omega | exact q_tin _ | exact q_bIn _) (fun h60 => ?_) (fun h60 => ?_)
              · refine q_iloadn C dX12_alike_68 rfl ?_
                refine q_istoren C dX12_alike_69 hn (by decide) rfl ?_
                refine q_iinc C dX12_alike_70 rfl hn (by decide) rfl ?_
                refine q_goto C (tgt := 4) dX12_alike_73 (by decide) ?_
                exact q_ls (by exact ⟨rfl, rfl, rfl, rfl, trivial⟩) (ih4 _ _ (by omega) (by omega) (by omega) (by have e9 : i = 48 := (by omega); have e8 : n = sAlike (M 35 0 29) (M 70 0) (M 71 0) (sd 0 0) p v := (by rw [jn, e9]; rfl); rw [sMx_s _ _ v0, ← ie]; unfold sMax; first | (rw [if_pos (show x < sAlike (M 35 0 29) (M 70 0) (M 71 0) (sd 0 0) p v by omega)]; exact e8) | (rw [if_neg (show ¬ x < sAlike (M 35 0 29) (M 70 0) (M 71 0) (sd 0 0) p v by omega)]; done)) (by omega))
              · refine q_iload C dX12_alike_63 rfl ?_
                refine q_goto C (tgt := 69) dX12_alike_65 (by decide) ?_
                refine q_istoren C dX12_alike_69 hn (by decide) rfl ?_
                refine q_iinc C dX12_alike_70 rfl hn (by decide) rfl ?_
                refine q_goto C (tgt := 4) dX12_alike_73 (by decide) ?_
                exact q_ls (by exact ⟨rfl, rfl, rfl, rfl, trivial⟩) (ih4 _ _ (by omega) (by omega) (by omega) (by have e9 : i = 48 := (by omega); have e8 : n = sAlike (M 35 0 29) (M 70 0) (M 71 0) (sd 0 0) p v := (by rw [jn, e9]; rfl); rw [sMx_s _ _ v0, ← ie]; unfold sMax; first | (rw [if_pos (show x < sAlike (M 35 0 29) (M 70 0) (M 71 0) (sd 0 0) p v by omega)]; exact e8) | (rw [if_neg (show ¬ x < sAlike (M 35 0 29) (M 70 0) (M 71 0) (sd 0 0) p v by omega)]; done)) (by omega))
            · refine q_iload C dX12_alike_22 rfl ?_
              refine q_aloadn C dX12_alike_24 rfl ?_
              refine q_iload C dX12_alike_25 rfl ?_
              refine cv_RX12_288 C (by decide) (m_X12_couldBeSo l g _ hs hS hsn hsb (by omega) (by omega)) dX12_alike_27 (Nat.le_of_ble_eq_true rfl) (fun r27 => ?_)
              refine q_ifeqB C 47 dX12_alike_30 (by decide) (fun h30 => ?_) (fun h30 => ?_)
              · refine q_iconst C dX12_alike_47 ?_
                refine q_iadd C dX12_alike_48 ?_
                refine q_istore C dX12_alike_49 hn (by decide) rfl ?_
                refine q_iinc C dX12_alike_51 rfl hn (by decide) rfl ?_
                refine q_goto C (tgt := 15) dX12_alike_54 (by decide) ?_
                exact q_ls (by exact ⟨rfl, rfl, rfl, rfl, rfl, rfl, trivial⟩) (ih15 _ _ (by omega) (by omega) (by omega) (by rw [sSum_s _ j0, ← jn]; first | (rw [q_bT ⟨by omega, h30⟩]; done) | (rw [q_bF (fun z => h30 z.2)]; done) | (rw [q_bF (fun z => absurd z.1 (by omega))]; done)) (by omega))
              · refine q_iload C dX12_alike_33 rfl ?_
                refine q_iloadn C dX12_alike_35 rfl ?_
                refine cv_RX12_285 C (by decide) (m_X12_partOf l g _ (by omega) hp) dX12_alike_36 (Nat.le_of_ble_eq_true rfl) (fun r36 => ?_)
                refine q_iloadn C dX12_alike_39 rfl ?_
                refine q_icmp_ne C 47 dX12_alike_40 (by decide) (by first | assumption | omega | exact q_tin _ | exact q_bIn _) (by first | assumption | omega | exact q_tin _ | exact q_bIn _) (fun h40 => ?_) (fun h40 => ?_)
                · refine q_iconst C dX12_alike_47 ?_
                  refine q_iadd C dX12_alike_48 ?_
                  refine q_istore C dX12_alike_49 hn (by decide) rfl ?_
                  refine q_iinc C dX12_alike_51 rfl hn (by decide) rfl ?_
                  refine q_goto C (tgt := 15) dX12_alike_54 (by decide) ?_
                  exact q_ls (by exact ⟨rfl, rfl, rfl, rfl, rfl, rfl, trivial⟩) (ih15 _ _ (by omega) (by omega) (by omega) (by rw [sSum_s _ j0, ← jn]; first | (rw [q_bT ⟨by omega, h30⟩]; done) | (rw [q_bF (fun z => h30 z.2)]; done) | (rw [q_bF (fun z => absurd z.1 (by omega))]; done)) (by omega))
                · refine q_iconst C dX12_alike_43 ?_
                  refine q_goto C (tgt := 48) dX12_alike_44 (by decide) ?_
                  refine q_iadd C dX12_alike_48 ?_
                  refine q_istore C dX12_alike_49 hn (by decide) rfl ?_
                  refine q_iinc C dX12_alike_51 rfl hn (by decide) rfl ?_
                  refine q_goto C (tgt := 15) dX12_alike_54 (by decide) ?_
                  exact q_ls (by exact ⟨rfl, rfl, rfl, rfl, rfl, rfl, trivial⟩) (ih15 _ _ (by omega) (by omega) (by omega) (by rw [sSum_s _ j0, ← jn]; first | (rw [q_bT ⟨by omega, h30⟩]; done) | (rw [q_bF (fun z => h30 z.2)]; done) | (rw [q_bF (fun z => absurd z.1 (by omega))]; done)) (by omega))
        exact q_ls (by exact ⟨rfl, rfl, rfl, rfl, rfl, rfl, trivial⟩) (L15 1000 _ _ (by omega) (by omega) (by omega) (by rfl) (by omega))
  exact q_ls (by exact ⟨rfl, rfl, rfl, rfl, trivial⟩) (L4 1000 _ _ (by omega) (by omega) (by omega) (by rfl) (by omega))
theorem dX12_part_0 : decode cX12_part 0 = .ok (.aload_n 0, 1) := by decide +kernel
theorem dX12_part_1 : decode cX12_part 1 = .ok (.invokevirtual 189, 3) := by decide +kernel
theorem dX12_part_4 : decode cX12_part 4 = .ok (.ifCond .ne 6, 3) := by decide +kernel
theorem dX12_part_7 : decode cX12_part 7 = .ok (.ldc 224, 2) := by decide +kernel
theorem dX12_part_9 : decode cX12_part 9 = .ok (.ireturn, 1) := by decide +kernel
theorem dX12_part_10 : decode cX12_part 10 = .ok (.iconst (-1), 1) := by decide +kernel
theorem dX12_part_11 : decode cX12_part 11 = .ok (.istore_n 1, 1) := by decide +kernel
theorem dX12_part_12 : decode cX12_part 12 = .ok (.aload_n 0, 1) := by decide +kernel
theorem dX12_part_13 : decode cX12_part 13 = .ok (.iconst 0, 1) := by decide +kernel
theorem dX12_part_14 : decode cX12_part 14 = .ok (.invokevirtual 291, 3) := by decide +kernel
theorem dX12_part_17 : decode cX12_part 17 = .ok (.istore_n 2, 1) := by decide +kernel
theorem dX12_part_18 : decode cX12_part 18 = .ok (.iconst 0, 1) := by decide +kernel
theorem dX12_part_19 : decode cX12_part 19 = .ok (.istore_n 3, 1) := by decide +kernel
theorem dX12_part_20 : decode cX12_part 20 = .ok (.iload_n 3, 1) := by decide +kernel
theorem dX12_part_21 : decode cX12_part 21 = .ok (.iconst 5, 1) := by decide +kernel
theorem dX12_part_22 : decode cX12_part 22 = .ok (.if_icmp .ge 41, 3) := by decide +kernel
theorem dX12_part_25 : decode cX12_part 25 = .ok (.aload_n 0, 1) := by decide +kernel
theorem dX12_part_26 : decode cX12_part 26 = .ok (.iload_n 3, 1) := by decide +kernel
theorem dX12_part_27 : decode cX12_part 27 = .ok (.invokevirtual 294, 3) := by decide +kernel
theorem dX12_part_30 : decode cX12_part 30 = .ok (.istore 4, 2) := by decide +kernel
theorem dX12_part_32 : decode cX12_part 32 = .ok (.iload 4, 2) := by decide +kernel
theorem dX12_part_34 : decode cX12_part 34 = .ok (.iload_n 2, 1) := by decide +kernel
theorem dX12_part_35 : decode cX12_part 35 = .ok (.if_icmp .ge 7, 3) := by decide +kernel
theorem dX12_part_38 : decode cX12_part 38 = .ok (.iload_n 3, 1) := by decide +kernel
theorem dX12_part_39 : decode cX12_part 39 = .ok (.goto 4, 3) := by decide +kernel
theorem dX12_part_42 : decode cX12_part 42 = .ok (.iload_n 1, 1) := by decide +kernel
theorem dX12_part_43 : decode cX12_part 43 = .ok (.istore_n 1, 1) := by decide +kernel
theorem dX12_part_44 : decode cX12_part 44 = .ok (.iload 4, 2) := by decide +kernel
theorem dX12_part_46 : decode cX12_part 46 = .ok (.iload_n 2, 1) := by decide +kernel
theorem dX12_part_47 : decode cX12_part 47 = .ok (.if_icmp .ge 8, 3) := by decide +kernel
theorem dX12_part_50 : decode cX12_part 50 = .ok (.iload 4, 2) := by decide +kernel
theorem dX12_part_52 : decode cX12_part 52 = .ok (.goto 4, 3) := by decide +kernel
theorem dX12_part_55 : decode cX12_part 55 = .ok (.iload_n 2, 1) := by decide +kernel
theorem dX12_part_56 : decode cX12_part 56 = .ok (.istore_n 2, 1) := by decide +kernel
theorem dX12_part_57 : decode cX12_part 57 = .ok (.iinc 3 1, 3) := by decide +kernel
theorem dX12_part_60 : decode cX12_part 60 = .ok (.goto (-40), 3) := by decide +kernel
theorem dX12_part_63 : decode cX12_part 63 = .ok (.iload_n 1, 1) := by decide +kernel
theorem dX12_part_64 : decode cX12_part 64 = .ok (.ireturn, 1) := by decide +kernel
set_option maxRecDepth 4000 in
set_option maxHeartbeats 4000000 in
theorem m_X12_part (l : Launch) (g : qGm) (M : qMem) {sd : sSD} (hs : sRS sd) (hS : mS M sd) (hsn : 0 ≤ M 35 0 29 ∧ M 35 0 29 ≤ 6) (hsb : ∀ i, 0 ≤ i → i < M 35 0 29 → 0 ≤ M 70 0 i ∧ M 70 0 i < 5) : qOk l g 5 yX12_part cX12_part 5 (some .int) [qR g 35 0] M (qEv (some (sPartQ (sd 0 0) (M 35 0 29) (M 70 0) (M 71 0))) M) := by
  refine q_ok (by decide +kernel) (Nat.le_of_ble_eq_true rfl) (fun X C' hn => ?_)
  have C := C'.1
  have km := hs.2.1
  have kn := hs.2.2.1
  have hmn := hs.1
  have w0 := hS.1
  have w1 := hS.2.1
  have w2 := hS.2.2.1
  have hc0 : sd 0 0 ≠ -1 → sCould (sd 0 0) (M 35 0 29) (M 70 0) (M 71 0) 0 = sSum (fun k => qB (sFits (M 35 0 29) (M 70 0) (M 71 0) (sd 0 0) k = true)) 48 := fun z => by unfold sCould; rw [if_pos (by omega), if_neg z, if_pos rfl]
  have hcb := sSum_b (f := fun k => qB (sFits (M 35 0 29) (M 70 0) (M 71 0) (sd 0 0) k = true)) (n := 48) (B := 1) (by omega) (fun k _ _ => by have := q_b01 (sFits (M 35 0 29) (M 70 0) (M 71 0) (sd 0 0) k = true); omega)
  refine q_aloadn C dX12_part_0 rfl ?_
  refine cv_RX12_189 C (by decide) (m_X12_isSeason l g _ hs hS) dX12_part_1 (Nat.le_of_ble_eq_true rfl) (fun r1 => ?_)
  refine q_ifneB C 10 dX12_part_4 (by decide) (fun h4 => ?_) (fun h4 => ?_)
  · refine q_iconst C dX12_part_10 ?_
    refine q_istoren C dX12_part_11 hn (by decide) rfl ?_
    refine q_aloadn C dX12_part_12 rfl ?_
    refine q_iconst C dX12_part_13 ?_
    refine cv_RX12_291 C (by decide) (m_X12_couldBe l g _ hs hS hsn hsb (by omega)) dX12_part_14 (Nat.le_of_ble_eq_true rfl) (fun r14 => ?_)
    refine q_istoren C dX12_part_17 hn (by decide) rfl ?_
    refine q_iconst C dX12_part_18 ?_
    refine q_istoren C dX12_part_19 hn (by decide) rfl ?_
    have L20 : ∀ (n20 : Nat) (b : Int) (x : Int) (i : Int), 5 - i < (n20 : Int) → (0 ≤ i) → (i ≤ 5) → (sAm (fun p => - sAlk (M 35 0 29) (M 70 0) (M 71 0) (sd 0 0) p) (-1) (- sSum (fun k => qB (sFits (M 35 0 29) (M 70 0) (M 71 0) (sd 0 0) k = true)) 48) i = (b, -x)) → (-1 ≤ b ∧ b ≤ 4) → (0 ≤ sd 0 0) → (-1000 ≤ x ∧ x ≤ 1000) → qV l g X M 20 [(0, qR g 35 0), (1, qI b), (2, qI x), (3, qI i)] [] := by
      intro n20
      induction n20 with
      | zero => intro b x i hm20 i0 i1 ie ib on xb; exfalso; first | omega | (simp at *; omega)
      | succ n20 ih20 =>
        intro b x i hm20 i0 i1 ie ib on xb
        have kb := sAlk_b (M 35 0 29) (M 70 0) (M 71 0) (sd 0 0) i
        refine q_iloadn C dX12_part_20 rfl ?_
        refine q_iconst C dX12_part_21 ?_
        refine q_icmp_ge C 63 dX12_part_22 (by decide) (by first | assumption | omega | exact q_tin _ | exact q_bIn _) (by first | assumption | omega | exact q_tin _ | exact q_bIn _) (fun h22 => ?_) (fun h22 => ?_)
        · refine q_iloadn C dX12_part_63 rfl ?_
          refine q_iret C' dX12_part_64 (by first | assumption | omega | exact q_tin _ | exact q_bIn _) ?_
          have e9 : i = 5 := (by omega)
          rw [e9] at ie
          refine ⟨congrArg some ?_, rfl⟩
          unfold sPartQ
          rw [if_neg (by omega), ie]
        · refine q_aloadn C dX12_part_25 rfl ?_
          refine q_iloadn C dX12_part_26 rfl ?_
          refine cv_RX12_294 C (by decide) (m_X12_alike l g _ hs hS hsn hsb (by omega) (by omega)) dX12_part_27 (Nat.le_of_ble_eq_true rfl) (fun r27 => ?_)
          refine q_istore C dX12_part_30 hn (by decide) rfl ?_
          refine q_iload C dX12_part_32 rfl ?_
          refine q_iloadn C dX12_part_34 rfl ?_
          refine q_icmp_ge C 42 dX12_part_35 (by decide) (by first | assumption | omega | exact q_tin _ | exact q_bIn _) (by first | assumption | omega | exact q_tin _ | exact q_bIn _) (fun h35 => ?_) (fun h35 => ?_)
          · refine q_iloadn C dX12_part_42 rfl ?_
            refine q_istoren C dX12_part_43 hn (by decide) rfl ?_
            refine q_iload C dX12_part_44 rfl ?_
            refine q_iloadn C dX12_part_46 rfl ?_
            refine q_icmp_ge C 55 dX12_part_47 (by decide) (by first | assumption | omega | exact q_tin _ | exact q_bIn _) (by first | assumption | omega | exact q_tin _ | exact q_bIn _) (fun h47 => ?_) (fun h47 => ?_)
            · refine q_iloadn C dX12_part_55 rfl ?_
              refine q_istoren C dX12_part_56 hn (by decide) rfl ?_
              refine q_iinc C dX12_part_57 rfl hn (by decide) rfl ?_
              refine q_goto C (tgt := 20) dX12_part_60 (by decide) ?_
              exact q_ls (by exact ⟨rfl, rfl, rfl, rfl, trivial⟩) (ih20 _ _ _ (by omega) (by omega) (by omega) (by first | exact (sAm_st i0 ie).1 (by omega) | exact (sAm_st i0 ie).2 (by omega) | (exfalso; omega)) (by omega) (by omega) (by omega))
            · refine q_iload C dX12_part_50 rfl ?_
              refine q_goto C (tgt := 56) dX12_part_52 (by decide) ?_
              refine q_istoren C dX12_part_56 hn (by decide) rfl ?_
              refine q_iinc C dX12_part_57 rfl hn (by decide) rfl ?_
              refine q_goto C (tgt := 20) dX12_part_60 (by decide) ?_
              exact q_ls (by exact ⟨rfl, rfl, rfl, rfl, trivial⟩) (ih20 _ _ _ (by omega) (by omega) (by omega) (by first | exact (sAm_st i0 ie).1 (by omega) | exact (sAm_st i0 ie).2 (by omega) | (exfalso; omega)) (by omega) (by omega) (by omega))
          · refine q_iloadn C dX12_part_38 rfl ?_
            refine q_goto C (tgt := 43) dX12_part_39 (by decide) ?_
            refine q_istoren C dX12_part_43 hn (by decide) rfl ?_
            refine q_iload C dX12_part_44 rfl ?_
            refine q_iloadn C dX12_part_46 rfl ?_
            refine q_icmp_ge C 55 dX12_part_47 (by decide) (by first | assumption | omega | exact q_tin _ | exact q_bIn _) (by first | assumption | omega | exact q_tin _ | exact q_bIn _) (fun h47 => ?_) (fun h47 => ?_)
            · refine q_iloadn C dX12_part_55 rfl ?_
              refine q_istoren C dX12_part_56 hn (by decide) rfl ?_
              refine q_iinc C dX12_part_57 rfl hn (by decide) rfl ?_
              refine q_goto C (tgt := 20) dX12_part_60 (by decide) ?_
              exact q_ls (by exact ⟨rfl, rfl, rfl, rfl, trivial⟩) (ih20 _ _ _ (by omega) (by omega) (by omega) (by first | exact (sAm_st i0 ie).1 (by omega) | exact (sAm_st i0 ie).2 (by omega) | (exfalso; omega)) (by omega) (by omega) (by omega))
            · refine q_iload C dX12_part_50 rfl ?_
              refine q_goto C (tgt := 56) dX12_part_52 (by decide) ?_
              refine q_istoren C dX12_part_56 hn (by decide) rfl ?_
              refine q_iinc C dX12_part_57 rfl hn (by decide) rfl ?_
              refine q_goto C (tgt := 20) dX12_part_60 (by decide) ?_
              exact q_ls (by exact ⟨rfl, rfl, rfl, rfl, trivial⟩) (ih20 _ _ _ (by omega) (by omega) (by omega) (by first | exact (sAm_st i0 ie).1 (by omega) | exact (sAm_st i0 ie).2 (by omega) | (exfalso; omega)) (by omega) (by omega) (by omega))
    exact q_ls (by exact ⟨rfl, rfl, rfl, rfl, trivial⟩) (L20 1000 _ _ _ (by omega) (by omega) (by omega) (by rw [hc0 (by omega)]; rfl) (by omega) (by omega) (by rw [hc0 (by omega)]; omega))
  · refine q_ldc C (z := -1000000003) q_ci_RX12_224 (by decide) dX12_part_7 ?_
    refine q_iret C' dX12_part_9 (by first | assumption | omega | exact q_tin _ | exact q_bIn _) ?_
    refine ⟨congrArg some ?_, rfl⟩
    unfold sPartQ
    rw [if_pos (by omega)]
theorem dX12_judge_0 : decode cX12_judge 0 = .ok (.iconst 0, 1) := by decide +kernel
theorem dX12_judge_1 : decode cX12_judge 1 = .ok (.istore_n 1, 1) := by decide +kernel
theorem dX12_judge_2 : decode cX12_judge 2 = .ok (.iload_n 1, 1) := by decide +kernel
theorem dX12_judge_3 : decode cX12_judge 3 = .ok (.aload_n 0, 1) := by decide +kernel
theorem dX12_judge_4 : decode cX12_judge 4 = .ok (.getfield 159, 3) := by decide +kernel
theorem dX12_judge_7 : decode cX12_judge 7 = .ok (.if_icmp .ge 33, 3) := by decide +kernel
theorem dX12_judge_10 : decode cX12_judge 10 = .ok (.aload_n 0, 1) := by decide +kernel
theorem dX12_judge_11 : decode cX12_judge 11 = .ok (.getfield 47, 3) := by decide +kernel
theorem dX12_judge_14 : decode cX12_judge 14 = .ok (.iconst 2, 1) := by decide +kernel
theorem dX12_judge_15 : decode cX12_judge 15 = .ok (.aload_n 0, 1) := by decide +kernel
theorem dX12_judge_16 : decode cX12_judge 16 = .ok (.getfield 68, 3) := by decide +kernel
theorem dX12_judge_19 : decode cX12_judge 19 = .ok (.iload_n 1, 1) := by decide +kernel
theorem dX12_judge_20 : decode cX12_judge 20 = .ok (.iaload, 1) := by decide +kernel
theorem dX12_judge_21 : decode cX12_judge 21 = .ok (.iadd, 1) := by decide +kernel
theorem dX12_judge_22 : decode cX12_judge 22 = .ok (.iaload, 1) := by decide +kernel
theorem dX12_judge_23 : decode cX12_judge 23 = .ok (.aload_n 0, 1) := by decide +kernel
theorem dX12_judge_24 : decode cX12_judge 24 = .ok (.getfield 71, 3) := by decide +kernel
theorem dX12_judge_27 : decode cX12_judge 27 = .ok (.iload_n 1, 1) := by decide +kernel
theorem dX12_judge_28 : decode cX12_judge 28 = .ok (.iaload, 1) := by decide +kernel
theorem dX12_judge_29 : decode cX12_judge 29 = .ok (.if_icmp .eq 5, 3) := by decide +kernel
theorem dX12_judge_32 : decode cX12_judge 32 = .ok (.iload_n 1, 1) := by decide +kernel
theorem dX12_judge_33 : decode cX12_judge 33 = .ok (.ireturn, 1) := by decide +kernel
theorem dX12_judge_34 : decode cX12_judge 34 = .ok (.iinc 1 1, 3) := by decide +kernel
theorem dX12_judge_37 : decode cX12_judge 37 = .ok (.goto (-35), 3) := by decide +kernel
theorem dX12_judge_40 : decode cX12_judge 40 = .ok (.iconst (-1), 1) := by decide +kernel
theorem dX12_judge_41 : decode cX12_judge 41 = .ok (.ireturn, 1) := by decide +kernel
set_option maxRecDepth 4000 in
set_option maxHeartbeats 4000000 in
theorem m_X12_judge (l : Launch) (g : qGm) (M : qMem) (hbn : 0 ≤ M 35 0 32 ∧ M 35 0 32 ≤ 20) (hbb : ∀ i, 0 ≤ i → i < M 35 0 32 → 0 ≤ M 73 0 i ∧ M 73 0 i < 6) : qOk l g 1 yX12_judge cX12_judge 2 (some .int) [qR g 35 0] M (qEv (some (sFr (fun i => decide (M 61 0 (2 + M 73 0 i) ≠ M 74 0 i)) (M 35 0 32) 0)) M) := by
  refine q_ok (by decide +kernel) (Nat.le_of_ble_eq_true rfl) (fun X C' hn => ?_)
  have C := C'.1
  refine q_iconst C dX12_judge_0 ?_
  refine q_istoren C dX12_judge_1 hn (by decide) rfl ?_
  have L2 : ∀ (n2 : Nat) (i : Int), M 35 0 32 - i < (n2 : Int) → (0 ≤ i) → (i ≤ M 35 0 32) → (sFr (fun i => decide (M 61 0 (2 + M 73 0 i) ≠ M 74 0 i)) (M 35 0 32) 0 = sFr (fun i => decide (M 61 0 (2 + M 73 0 i) ≠ M 74 0 i)) (M 35 0 32) i) → qV l g X M 2 [(0, qR g 35 0), (1, qI i)] [] := by
    intro n2
    induction n2 with
    | zero => intro i hm2 i0 i1 ie; exfalso; first | omega | (simp at *; omega)
    | succ n2 ih2 =>
      intro i hm2 i0 i1 ie
      have hbi := hbb i i0
      refine q_iloadn C dX12_judge_2 rfl ?_
      refine q_aloadn C dX12_judge_3 rfl ?_
      refine gf_RX12_159 C dX12_judge_4 (fun r4 => ?_)
      refine q_icmp_ge C 40 dX12_judge_7 (by decide) (by first | assumption | omega | exact q_tin _ | exact q_bIn _) (by first | assumption | omega | exact q_tin _ | exact q_bIn _) (fun h7 => ?_) (fun h7 => ?_)
      · refine q_iconst C dX12_judge_40 ?_
        refine q_iret C' dX12_judge_41 (by first | assumption | omega | exact q_tin _ | exact q_bIn _) ?_
        refine ⟨congrArg some ?_, rfl⟩
        rw [ie]
        first | (rw [sFr_s _ (by omega), if_pos (by simp; omega)]; done) | (have e9 : i = M 35 0 32 := (by omega); rw [e9, sFr_e])
      · refine q_aloadn C dX12_judge_10 rfl ?_
        refine gf_RX12_47 C dX12_judge_11 ?_
        refine q_iconst C dX12_judge_14 ?_
        refine q_aloadn C dX12_judge_15 rfl ?_
        refine gf_RX12_68 C dX12_judge_16 ?_
        refine q_iloadn C dX12_judge_19 rfl ?_
        refine q_iald C (by first | assumption | decide | omega) rfl dX12_judge_20 (by omega) (by omega) (by decide) (fun r20 => ?_)
        refine q_iadd C dX12_judge_21 ?_
        refine q_iald C (by first | assumption | decide | omega) rfl dX12_judge_22 (by omega) (by omega) (by decide) (fun r22 => ?_)
        refine q_aloadn C dX12_judge_23 rfl ?_
        refine gf_RX12_71 C dX12_judge_24 ?_
        refine q_iloadn C dX12_judge_27 rfl ?_
        refine q_iald C (by first | assumption | decide | omega) rfl dX12_judge_28 (by omega) (by omega) (by decide) (fun r28 => ?_)
        refine q_icmp_eq C 34 dX12_judge_29 (by decide) (by first | assumption | omega | exact q_tin _ | exact q_bIn _) (by first | assumption | omega | exact q_tin _ | exact q_bIn _) (fun h29 => ?_) (fun h29 => ?_)
        · refine q_iinc C dX12_judge_34 rfl hn (by decide) rfl ?_
          refine q_goto C (tgt := 2) dX12_judge_37 (by decide) ?_
          exact q_ls (by exact ⟨rfl, rfl, trivial⟩) (ih2 _ (by omega) (by omega) (by omega) (by rw [ie, sFr_s _ (by omega), if_neg (by simp; omega)]))
        · refine q_iloadn C dX12_judge_32 rfl ?_
          refine q_iret C' dX12_judge_33 (by first | assumption | omega | exact q_tin _ | exact q_bIn _) ?_
          refine ⟨congrArg some ?_, rfl⟩
          rw [ie]
          first | (rw [sFr_s _ (by omega), if_pos (by simp; omega)]; done) | (have e9 : i = M 35 0 32 := (by omega); rw [e9, sFr_e])
  exact q_ls (by exact ⟨rfl, rfl, trivial⟩) (L2 1000 _ (by omega) (by omega) (by omega) (by rfl))
def mFeed (M : qMem) (x : Int) : qMem := if (0 ≤ x ∧ x ≤ 255) ∧ M 35 0 0 < 240 then qUp (qUp M 41 0 (M 35 0 0) x) 35 0 0 (M 35 0 0 + 1) else M
def mMeant (M : qMem) (p x : Int) : qMem := if ((0 ≤ p ∧ p ≤ 4) ∧ (0 ≤ x ∧ x ≤ (if p = 4 then 2 else 1))) ∧ M 35 0 29 < 6 then qUp (qUp (qUp M 70 0 (M 35 0 29) p) 71 0 (M 35 0 29) x) 35 0 29 (M 35 0 29 + 1) else M
def mWrite (n : Int) (M : qMem) (h x : Int) : qMem := if ((0 ≤ h ∧ h < n) ∧ (0 ≤ x ∧ x ≤ 40)) ∧ M 35 0 32 < 20 then qUp (qUp (qUp M 73 0 (M 35 0 32) h) 74 0 (M 35 0 32) x) 35 0 32 (M 35 0 32 + 1) else M
theorem dX12_feed_0 : decode cX12_feed 0 = .ok (.iload_n 1, 1) := by decide +kernel
theorem dX12_feed_1 : decode cX12_feed 1 = .ok (.iconst 0, 1) := by decide +kernel
theorem dX12_feed_2 : decode cX12_feed 2 = .ok (.sipush 255, 3) := by decide +kernel
theorem dX12_feed_5 : decode cX12_feed 5 = .ok (.invokestatic 85, 3) := by decide +kernel
theorem dX12_feed_8 : decode cX12_feed 8 = .ok (.ifCond .ne 6, 3) := by decide +kernel
theorem dX12_feed_11 : decode cX12_feed 11 = .ok (.ldc 89, 2) := by decide +kernel
theorem dX12_feed_13 : decode cX12_feed 13 = .ok (.ireturn, 1) := by decide +kernel
theorem dX12_feed_14 : decode cX12_feed 14 = .ok (.aload_n 0, 1) := by decide +kernel
theorem dX12_feed_15 : decode cX12_feed 15 = .ok (.getfield 90, 3) := by decide +kernel
theorem dX12_feed_18 : decode cX12_feed 18 = .ok (.sipush 240, 3) := by decide +kernel
theorem dX12_feed_21 : decode cX12_feed 21 = .ok (.if_icmp .ne 6, 3) := by decide +kernel
theorem dX12_feed_24 : decode cX12_feed 24 = .ok (.ldc 93, 2) := by decide +kernel
theorem dX12_feed_26 : decode cX12_feed 26 = .ok (.ireturn, 1) := by decide +kernel
theorem dX12_feed_27 : decode cX12_feed 27 = .ok (.aload_n 0, 1) := by decide +kernel
theorem dX12_feed_28 : decode cX12_feed 28 = .ok (.getfield 7, 3) := by decide +kernel
theorem dX12_feed_31 : decode cX12_feed 31 = .ok (.aload_n 0, 1) := by decide +kernel
theorem dX12_feed_32 : decode cX12_feed 32 = .ok (.getfield 90, 3) := by decide +kernel
theorem dX12_feed_35 : decode cX12_feed 35 = .ok (.iload_n 1, 1) := by decide +kernel
theorem dX12_feed_36 : decode cX12_feed 36 = .ok (.iastore, 1) := by decide +kernel
theorem dX12_feed_37 : decode cX12_feed 37 = .ok (.aload_n 0, 1) := by decide +kernel
theorem dX12_feed_38 : decode cX12_feed 38 = .ok (.dup, 1) := by decide +kernel
theorem dX12_feed_39 : decode cX12_feed 39 = .ok (.getfield 90, 3) := by decide +kernel
theorem dX12_feed_42 : decode cX12_feed 42 = .ok (.iconst 1, 1) := by decide +kernel
theorem dX12_feed_43 : decode cX12_feed 43 = .ok (.iadd, 1) := by decide +kernel
theorem dX12_feed_44 : decode cX12_feed 44 = .ok (.putfield 90, 3) := by decide +kernel
theorem dX12_feed_47 : decode cX12_feed 47 = .ok (.aload_n 0, 1) := by decide +kernel
theorem dX12_feed_48 : decode cX12_feed 48 = .ok (.getfield 90, 3) := by decide +kernel
theorem dX12_feed_51 : decode cX12_feed 51 = .ok (.ireturn, 1) := by decide +kernel
set_option maxRecDepth 4000 in
set_option maxHeartbeats 4000000 in
theorem m_X12_feed (l : Launch) (g : qGm) (M : qMem) (hL : 0 ≤ M 35 0 0 ∧ M 35 0 0 ≤ 240) {x : Int} (hxq : qIn x) : qOk l g 2 yX12_feed cX12_feed 2 (some .int) [qR g 35 0, qI x] M (qEv (some (dFeed (M 35 0 0) x)) (mFeed M x)) := by
  refine q_ok (by decide +kernel) (Nat.le_of_ble_eq_true rfl) (fun X C' hn => ?_)
  have C := C'.1
  refine q_iloadn C dX12_feed_0 rfl ?_
  refine q_iconst C dX12_feed_1 ?_
  refine q_sipush C dX12_feed_2 (by decide) ?_
  refine cv_RX12_85 C (by decide) (m_X12_in l g _ (by omega) (by omega) (by omega)) dX12_feed_5 (Nat.le_of_ble_eq_true rfl) (fun r5 => ?_)
  refine q_ifneB C 14 dX12_feed_8 (by decide) (fun h8 => ?_) (fun h8 => ?_)
  · refine q_aloadn C dX12_feed_14 rfl ?_
    refine gf_RX12_90 C dX12_feed_15 (fun r15 => ?_)
    refine q_sipush C dX12_feed_18 (by decide) ?_
    refine q_icmp_ne C 27 dX12_feed_21 (by decide) (by first | assumption | omega | exact q_tin _ | exact q_bIn _) (by first | assumption | omega | exact q_tin _ | exact q_bIn _) (fun h21 => ?_) (fun h21 => ?_)
    · refine q_aloadn C dX12_feed_27 rfl ?_
      refine gf_RX12_7 C dX12_feed_28 ?_
      refine q_aloadn C dX12_feed_31 rfl ?_
      refine gf_RX12_90 C dX12_feed_32 (fun r32 => ?_)
      refine q_iloadn C dX12_feed_35 rfl ?_
      refine q_iast C (by first | assumption | decide | omega) (fun _ => rfl) dX12_feed_36 (by omega) (by omega) (by decide) (by first | assumption | omega | exact q_tin _ | exact q_bIn _) ?_
      refine q_aloadn C dX12_feed_37 rfl ?_
      refine q_dup C dX12_feed_38 rfl ?_
      refine gf_RX12_90 C dX12_feed_39 (fun r39 => ?_)
      try simp only [q_rd, q_rdS, ↓reduceIte, if_true, if_false, eq_self, Nat.reduceEqDiff, Int.reduceEq, Int.reduceNeg, reduceCtorEq] at r39 ⊢
      refine q_iconst C dX12_feed_42 ?_
      refine q_iadd C dX12_feed_43 ?_
      refine pf_RX12_90 C (by first | assumption | omega | exact q_tin _ | exact q_bIn _) dX12_feed_44 ?_
      refine q_aloadn C dX12_feed_47 rfl ?_
      refine gf_RX12_90 C dX12_feed_48 (fun r48 => ?_)
      try simp only [q_rd, q_rdS, ↓reduceIte, if_true, if_false, eq_self, Nat.reduceEqDiff, Int.reduceEq, Int.reduceNeg, reduceCtorEq] at r48 ⊢
      refine q_iret C' dX12_feed_51 (by first | assumption | omega | exact q_tin _ | exact q_bIn _) ?_
      refine ⟨congrArg some ?_, ?_⟩
      · unfold dFeed
        first | (rw [if_neg (by omega)]; done) | (rw [if_pos (by omega), if_neg (by omega)]; done) | (rw [if_pos (by omega), if_pos (by omega)]; done) | (rw [if_pos (by omega), if_pos (by omega), if_pos (by omega)]; done) | (rw [if_pos (by omega), if_pos (by omega), if_neg (by omega)]; done)
      · unfold mFeed
        first | (rw [if_pos (by omega)]; done) | (rw [if_neg (by omega)]; done)
    · refine q_ldc C (z := -1000000004) q_ci_RX12_93 (by decide) dX12_feed_24 ?_
      refine q_iret C' dX12_feed_26 (by first | assumption | omega | exact q_tin _ | exact q_bIn _) ?_
      refine ⟨congrArg some ?_, ?_⟩
      · unfold dFeed
        first | (rw [if_neg (by omega)]; done) | (rw [if_pos (by omega), if_neg (by omega)]; done) | (rw [if_pos (by omega), if_pos (by omega)]; done) | (rw [if_pos (by omega), if_pos (by omega), if_pos (by omega)]; done) | (rw [if_pos (by omega), if_pos (by omega), if_neg (by omega)]; done)
      · unfold mFeed
        first | (rw [if_pos (by omega)]; done) | (rw [if_neg (by omega)]; done)
  · refine q_ldc C (z := -1000000002) q_ci_RX12_89 (by decide) dX12_feed_11 ?_
    refine q_iret C' dX12_feed_13 (by first | assumption | omega | exact q_tin _ | exact q_bIn _) ?_
    refine ⟨congrArg some ?_, ?_⟩
    · unfold dFeed
      first | (rw [if_neg (by omega)]; done) | (rw [if_pos (by omega), if_neg (by omega)]; done) | (rw [if_pos (by omega), if_pos (by omega)]; done) | (rw [if_pos (by omega), if_pos (by omega), if_pos (by omega)]; done) | (rw [if_pos (by omega), if_pos (by omega), if_neg (by omega)]; done)
    · unfold mFeed
      first | (rw [if_pos (by omega)]; done) | (rw [if_neg (by omega)]; done)
theorem dX12_meant_0 : decode cX12_meant 0 = .ok (.iload_n 1, 1) := by decide +kernel
theorem dX12_meant_1 : decode cX12_meant 1 = .ok (.iconst 0, 1) := by decide +kernel
theorem dX12_meant_2 : decode cX12_meant 2 = .ok (.iconst 4, 1) := by decide +kernel
theorem dX12_meant_3 : decode cX12_meant 3 = .ok (.invokestatic 85, 3) := by decide +kernel
theorem dX12_meant_6 : decode cX12_meant 6 = .ok (.ifCond .eq 21, 3) := by decide +kernel
theorem dX12_meant_9 : decode cX12_meant 9 = .ok (.iload_n 2, 1) := by decide +kernel
theorem dX12_meant_10 : decode cX12_meant 10 = .ok (.iconst 0, 1) := by decide +kernel
theorem dX12_meant_11 : decode cX12_meant 11 = .ok (.iload_n 1, 1) := by decide +kernel
theorem dX12_meant_12 : decode cX12_meant 12 = .ok (.iconst 4, 1) := by decide +kernel
theorem dX12_meant_13 : decode cX12_meant 13 = .ok (.if_icmp .ne 7, 3) := by decide +kernel
theorem dX12_meant_16 : decode cX12_meant 16 = .ok (.iconst 2, 1) := by decide +kernel
theorem dX12_meant_17 : decode cX12_meant 17 = .ok (.goto 4, 3) := by decide +kernel
theorem dX12_meant_20 : decode cX12_meant 20 = .ok (.iconst 1, 1) := by decide +kernel
theorem dX12_meant_21 : decode cX12_meant 21 = .ok (.invokestatic 85, 3) := by decide +kernel
theorem dX12_meant_24 : decode cX12_meant 24 = .ok (.ifCond .ne 6, 3) := by decide +kernel
theorem dX12_meant_27 : decode cX12_meant 27 = .ok (.ldc 89, 2) := by decide +kernel
theorem dX12_meant_29 : decode cX12_meant 29 = .ok (.ireturn, 1) := by decide +kernel
theorem dX12_meant_30 : decode cX12_meant 30 = .ok (.aload_n 0, 1) := by decide +kernel
theorem dX12_meant_31 : decode cX12_meant 31 = .ok (.getfield 156, 3) := by decide +kernel
theorem dX12_meant_34 : decode cX12_meant 34 = .ok (.bipush 6, 2) := by decide +kernel
theorem dX12_meant_36 : decode cX12_meant 36 = .ok (.if_icmp .ne 6, 3) := by decide +kernel
theorem dX12_meant_39 : decode cX12_meant 39 = .ok (.ldc 93, 2) := by decide +kernel
theorem dX12_meant_41 : decode cX12_meant 41 = .ok (.ireturn, 1) := by decide +kernel
theorem dX12_meant_42 : decode cX12_meant 42 = .ok (.aload_n 0, 1) := by decide +kernel
theorem dX12_meant_43 : decode cX12_meant 43 = .ok (.getfield 62, 3) := by decide +kernel
theorem dX12_meant_46 : decode cX12_meant 46 = .ok (.aload_n 0, 1) := by decide +kernel
theorem dX12_meant_47 : decode cX12_meant 47 = .ok (.getfield 156, 3) := by decide +kernel
theorem dX12_meant_50 : decode cX12_meant 50 = .ok (.iload_n 1, 1) := by decide +kernel
theorem dX12_meant_51 : decode cX12_meant 51 = .ok (.iastore, 1) := by decide +kernel
theorem dX12_meant_52 : decode cX12_meant 52 = .ok (.aload_n 0, 1) := by decide +kernel
theorem dX12_meant_53 : decode cX12_meant 53 = .ok (.getfield 65, 3) := by decide +kernel
theorem dX12_meant_56 : decode cX12_meant 56 = .ok (.aload_n 0, 1) := by decide +kernel
theorem dX12_meant_57 : decode cX12_meant 57 = .ok (.getfield 156, 3) := by decide +kernel
theorem dX12_meant_60 : decode cX12_meant 60 = .ok (.iload_n 2, 1) := by decide +kernel
theorem dX12_meant_61 : decode cX12_meant 61 = .ok (.iastore, 1) := by decide +kernel
theorem dX12_meant_62 : decode cX12_meant 62 = .ok (.aload_n 0, 1) := by decide +kernel
theorem dX12_meant_63 : decode cX12_meant 63 = .ok (.dup, 1) := by decide +kernel
theorem dX12_meant_64 : decode cX12_meant 64 = .ok (.getfield 156, 3) := by decide +kernel
theorem dX12_meant_67 : decode cX12_meant 67 = .ok (.iconst 1, 1) := by decide +kernel
theorem dX12_meant_68 : decode cX12_meant 68 = .ok (.iadd, 1) := by decide +kernel
theorem dX12_meant_69 : decode cX12_meant 69 = .ok (.putfield 156, 3) := by decide +kernel
theorem dX12_meant_72 : decode cX12_meant 72 = .ok (.aload_n 0, 1) := by decide +kernel
theorem dX12_meant_73 : decode cX12_meant 73 = .ok (.getfield 156, 3) := by decide +kernel
theorem dX12_meant_76 : decode cX12_meant 76 = .ok (.ireturn, 1) := by decide +kernel
set_option maxRecDepth 4000 in
set_option maxHeartbeats 4000000 in
theorem m_X12_meant (l : Launch) (g : qGm) (M : qMem) (hL : 0 ≤ M 35 0 29 ∧ M 35 0 29 ≤ 6) {p : Int} (hpq : qIn p) {x : Int} (hxq : qIn x) : qOk l g 2 yX12_meant cX12_meant 3 (some .int) [qR g 35 0, qI p, qI x] M (qEv (some (dMeant (M 35 0 29) p x)) (mMeant M p x)) := by
  refine q_ok (by decide +kernel) (Nat.le_of_ble_eq_true rfl) (fun X C' hn => ?_)
  have C := C'.1
  have hpq4 : (if p = 4 then (2 : Int) else 1) = 2 ∧ p = 4 ∨ (if p = 4 then (2 : Int) else 1) = 1 ∧ p ≠ 4 := by by_cases e : p = 4 <;> simp [e]
  refine q_iloadn C dX12_meant_0 rfl ?_
  refine q_iconst C dX12_meant_1 ?_
  refine q_iconst C dX12_meant_2 ?_
  refine cv_RX12_85 C (by decide) (m_X12_in l g _ (by omega) (by omega) (by omega)) dX12_meant_3 (Nat.le_of_ble_eq_true rfl) (fun r3 => ?_)
  refine q_ifeqB C 27 dX12_meant_6 (by decide) (fun h6 => ?_) (fun h6 => ?_)
  · refine q_ldc C (z := -1000000002) q_ci_RX12_89 (by decide) dX12_meant_27 ?_
    refine q_iret C' dX12_meant_29 (by first | assumption | omega | exact q_tin _ | exact q_bIn _) ?_
    refine ⟨congrArg some ?_, ?_⟩
    · unfold dMeant
      first | (rw [if_neg (by omega)]; done) | (rw [if_pos (by omega), if_neg (by omega)]; done) | (rw [if_pos (by omega), if_pos (by omega)]; done) | (rw [if_pos (by omega), if_pos (by omega), if_pos (by omega)]; done) | (rw [if_pos (by omega), if_pos (by omega), if_neg (by omega)]; done)
    · unfold mMeant
      first | (rw [if_pos (by omega)]; done) | (rw [if_neg (by omega)]; done)
  · refine q_iloadn C dX12_meant_9 rfl ?_
    refine q_iconst C dX12_meant_10 ?_
    refine q_iloadn C dX12_meant_11 rfl ?_
    refine q_iconst C dX12_meant_12 ?_
    refine q_icmp_ne C 20 dX12_meant_13 (by decide) (by first | assumption | omega | exact q_tin _ | exact q_bIn _) (by first | assumption | omega | exact q_tin _ | exact q_bIn _) (fun h13 => ?_) (fun h13 => ?_)
    · refine q_iconst C dX12_meant_20 ?_
      refine cv_RX12_85 C (by decide) (m_X12_in l g _ (by omega) (by omega) (by omega)) dX12_meant_21 (Nat.le_of_ble_eq_true rfl) (fun r21 => ?_)
      refine q_ifneB C 30 dX12_meant_24 (by decide) (fun h24 => ?_) (fun h24 => ?_)
      · refine q_aloadn C dX12_meant_30 rfl ?_
        refine gf_RX12_156 C dX12_meant_31 (fun r31 => ?_)
        refine q_bipush C dX12_meant_34 (by decide) ?_
        refine q_icmp_ne C 42 dX12_meant_36 (by decide) (by first | assumption | omega | exact q_tin _ | exact q_bIn _) (by first | assumption | omega | exact q_tin _ | exact q_bIn _) (fun h36 => ?_) (fun h36 => ?_)
        · refine q_aloadn C dX12_meant_42 rfl ?_
          refine gf_RX12_62 C dX12_meant_43 ?_
          refine q_aloadn C dX12_meant_46 rfl ?_
          refine gf_RX12_156 C dX12_meant_47 (fun r47 => ?_)
          refine q_iloadn C dX12_meant_50 rfl ?_
          refine q_iast C (by first | assumption | decide | omega) (fun _ => rfl) dX12_meant_51 (by omega) (by omega) (by decide) (by first | assumption | omega | exact q_tin _ | exact q_bIn _) ?_
          refine q_aloadn C dX12_meant_52 rfl ?_
          refine gf_RX12_65 C dX12_meant_53 ?_
          refine q_aloadn C dX12_meant_56 rfl ?_
          refine gf_RX12_156 C dX12_meant_57 (fun r57 => ?_)
          try simp only [q_rd, q_rdS, ↓reduceIte, if_true, if_false, eq_self, Nat.reduceEqDiff, Int.reduceEq, Int.reduceNeg, reduceCtorEq] at r57 ⊢
          refine q_iloadn C dX12_meant_60 rfl ?_
          refine q_iast C (by first | assumption | decide | omega) (fun _ => rfl) dX12_meant_61 (by omega) (by omega) (by decide) (by first | assumption | omega | exact q_tin _ | exact q_bIn _) ?_
          refine q_aloadn C dX12_meant_62 rfl ?_
          refine q_dup C dX12_meant_63 rfl ?_
          refine gf_RX12_156 C dX12_meant_64 (fun r64 => ?_)
          try simp only [q_rd, q_rdS, ↓reduceIte, if_true, if_false, eq_self, Nat.reduceEqDiff, Int.reduceEq, Int.reduceNeg, reduceCtorEq] at r64 ⊢
          refine q_iconst C dX12_meant_67 ?_
          refine q_iadd C dX12_meant_68 ?_
          refine pf_RX12_156 C (by first | assumption | omega | exact q_tin _ | exact q_bIn _) dX12_meant_69 ?_
          refine q_aloadn C dX12_meant_72 rfl ?_
          refine gf_RX12_156 C dX12_meant_73 (fun r73 => ?_)
          try simp only [q_rd, q_rdS, ↓reduceIte, if_true, if_false, eq_self, Nat.reduceEqDiff, Int.reduceEq, Int.reduceNeg, reduceCtorEq] at r73 ⊢
          refine q_iret C' dX12_meant_76 (by first | assumption | omega | exact q_tin _ | exact q_bIn _) ?_
          refine ⟨congrArg some ?_, ?_⟩
          · unfold dMeant
            first | (rw [if_neg (by omega)]; done) | (rw [if_pos (by omega), if_neg (by omega)]; done) | (rw [if_pos (by omega), if_pos (by omega)]; done) | (rw [if_pos (by omega), if_pos (by omega), if_pos (by omega)]; done) | (rw [if_pos (by omega), if_pos (by omega), if_neg (by omega)]; done)
          · unfold mMeant
            first | (rw [if_pos (by omega)]; done) | (rw [if_neg (by omega)]; done)
        · refine q_ldc C (z := -1000000004) q_ci_RX12_93 (by decide) dX12_meant_39 ?_
          refine q_iret C' dX12_meant_41 (by first | assumption | omega | exact q_tin _ | exact q_bIn _) ?_
          refine ⟨congrArg some ?_, ?_⟩
          · unfold dMeant
            first | (rw [if_neg (by omega)]; done) | (rw [if_pos (by omega), if_neg (by omega)]; done) | (rw [if_pos (by omega), if_pos (by omega)]; done) | (rw [if_pos (by omega), if_pos (by omega), if_pos (by omega)]; done) | (rw [if_pos (by omega), if_pos (by omega), if_neg (by omega)]; done)
          · unfold mMeant
            first | (rw [if_pos (by omega)]; done) | (rw [if_neg (by omega)]; done)
      · refine q_ldc C (z := -1000000002) q_ci_RX12_89 (by decide) dX12_meant_27 ?_
        refine q_iret C' dX12_meant_29 (by first | assumption | omega | exact q_tin _ | exact q_bIn _) ?_
        refine ⟨congrArg some ?_, ?_⟩
        · unfold dMeant
          first | (rw [if_neg (by omega)]; done) | (rw [if_pos (by omega), if_neg (by omega)]; done) | (rw [if_pos (by omega), if_pos (by omega)]; done) | (rw [if_pos (by omega), if_pos (by omega), if_pos (by omega)]; done) | (rw [if_pos (by omega), if_pos (by omega), if_neg (by omega)]; done)
        · unfold mMeant
          first | (rw [if_pos (by omega)]; done) | (rw [if_neg (by omega)]; done)
    · refine q_iconst C dX12_meant_16 ?_
      refine q_goto C (tgt := 21) dX12_meant_17 (by decide) ?_
      refine cv_RX12_85 C (by decide) (m_X12_in l g _ (by omega) (by omega) (by omega)) dX12_meant_21 (Nat.le_of_ble_eq_true rfl) (fun r21 => ?_)
      refine q_ifneB C 30 dX12_meant_24 (by decide) (fun h24 => ?_) (fun h24 => ?_)
      · refine q_aloadn C dX12_meant_30 rfl ?_
        refine gf_RX12_156 C dX12_meant_31 (fun r31 => ?_)
        refine q_bipush C dX12_meant_34 (by decide) ?_
        refine q_icmp_ne C 42 dX12_meant_36 (by decide) (by first | assumption | omega | exact q_tin _ | exact q_bIn _) (by first | assumption | omega | exact q_tin _ | exact q_bIn _) (fun h36 => ?_) (fun h36 => ?_)
        · refine q_aloadn C dX12_meant_42 rfl ?_
          refine gf_RX12_62 C dX12_meant_43 ?_
          refine q_aloadn C dX12_meant_46 rfl ?_
          refine gf_RX12_156 C dX12_meant_47 (fun r47 => ?_)
          refine q_iloadn C dX12_meant_50 rfl ?_
          refine q_iast C (by first | assumption | decide | omega) (fun _ => rfl) dX12_meant_51 (by omega) (by omega) (by decide) (by first | assumption | omega | exact q_tin _ | exact q_bIn _) ?_
          refine q_aloadn C dX12_meant_52 rfl ?_
          refine gf_RX12_65 C dX12_meant_53 ?_
          refine q_aloadn C dX12_meant_56 rfl ?_
          refine gf_RX12_156 C dX12_meant_57 (fun r57 => ?_)
          try simp only [q_rd, q_rdS, ↓reduceIte, if_true, if_false, eq_self, Nat.reduceEqDiff, Int.reduceEq, Int.reduceNeg, reduceCtorEq] at r57 ⊢
          refine q_iloadn C dX12_meant_60 rfl ?_
          refine q_iast C (by first | assumption | decide | omega) (fun _ => rfl) dX12_meant_61 (by omega) (by omega) (by decide) (by first | assumption | omega | exact q_tin _ | exact q_bIn _) ?_
          refine q_aloadn C dX12_meant_62 rfl ?_
          refine q_dup C dX12_meant_63 rfl ?_
          refine gf_RX12_156 C dX12_meant_64 (fun r64 => ?_)
          try simp only [q_rd, q_rdS, ↓reduceIte, if_true, if_false, eq_self, Nat.reduceEqDiff, Int.reduceEq, Int.reduceNeg, reduceCtorEq] at r64 ⊢
          refine q_iconst C dX12_meant_67 ?_
          refine q_iadd C dX12_meant_68 ?_
          refine pf_RX12_156 C (by first | assumption | omega | exact q_tin _ | exact q_bIn _) dX12_meant_69 ?_
          refine q_aloadn C dX12_meant_72 rfl ?_
          refine gf_RX12_156 C dX12_meant_73 (fun r73 => ?_)
          try simp only [q_rd, q_rdS, ↓reduceIte, if_true, if_false, eq_self, Nat.reduceEqDiff, Int.reduceEq, Int.reduceNeg, reduceCtorEq] at r73 ⊢
          refine q_iret C' dX12_meant_76 (by first | assumption | omega | exact q_tin _ | exact q_bIn _) ?_
          refine ⟨congrArg some ?_, ?_⟩
          · unfold dMeant
            first | (rw [if_neg (by omega)]; done) | (rw [if_pos (by omega), if_neg (by omega)]; done) | (rw [if_pos (by omega), if_pos (by omega)]; done) | (rw [if_pos (by omega), if_pos (by omega), if_pos (by omega)]; done) | (rw [if_pos (by omega), if_pos (by omega), if_neg (by omega)]; done)
          · unfold mMeant
            first | (rw [if_pos (by omega)]; done) | (rw [if_neg (by omega)]; done)
        · refine q_ldc C (z := -1000000004) q_ci_RX12_93 (by decide) dX12_meant_39 ?_
          refine q_iret C' dX12_meant_41 (by first | assumption | omega | exact q_tin _ | exact q_bIn _) ?_
          refine ⟨congrArg some ?_, ?_⟩
          · unfold dMeant
            first | (rw [if_neg (by omega)]; done) | (rw [if_pos (by omega), if_neg (by omega)]; done) | (rw [if_pos (by omega), if_pos (by omega)]; done) | (rw [if_pos (by omega), if_pos (by omega), if_pos (by omega)]; done) | (rw [if_pos (by omega), if_pos (by omega), if_neg (by omega)]; done)
          · unfold mMeant
            first | (rw [if_pos (by omega)]; done) | (rw [if_neg (by omega)]; done)
      · refine q_ldc C (z := -1000000002) q_ci_RX12_89 (by decide) dX12_meant_27 ?_
        refine q_iret C' dX12_meant_29 (by first | assumption | omega | exact q_tin _ | exact q_bIn _) ?_
        refine ⟨congrArg some ?_, ?_⟩
        · unfold dMeant
          first | (rw [if_neg (by omega)]; done) | (rw [if_pos (by omega), if_neg (by omega)]; done) | (rw [if_pos (by omega), if_pos (by omega)]; done) | (rw [if_pos (by omega), if_pos (by omega), if_pos (by omega)]; done) | (rw [if_pos (by omega), if_pos (by omega), if_neg (by omega)]; done)
        · unfold mMeant
          first | (rw [if_pos (by omega)]; done) | (rw [if_neg (by omega)]; done)
theorem dX12_write_0 : decode cX12_write 0 = .ok (.aload_n 0, 1) := by decide +kernel
theorem dX12_write_1 : decode cX12_write 1 = .ok (.iload_n 1, 1) := by decide +kernel
theorem dX12_write_2 : decode cX12_write 2 = .ok (.invokevirtual 165, 3) := by decide +kernel
theorem dX12_write_5 : decode cX12_write 5 = .ok (.ifCond .ne 6, 3) := by decide +kernel
theorem dX12_write_8 : decode cX12_write 8 = .ok (.ldc 214, 2) := by decide +kernel
theorem dX12_write_10 : decode cX12_write 10 = .ok (.ireturn, 1) := by decide +kernel
theorem dX12_write_11 : decode cX12_write 11 = .ok (.iload_n 2, 1) := by decide +kernel
theorem dX12_write_12 : decode cX12_write 12 = .ok (.iconst 0, 1) := by decide +kernel
theorem dX12_write_13 : decode cX12_write 13 = .ok (.bipush 40, 2) := by decide +kernel
theorem dX12_write_15 : decode cX12_write 15 = .ok (.invokestatic 85, 3) := by decide +kernel
theorem dX12_write_18 : decode cX12_write 18 = .ok (.ifCond .ne 6, 3) := by decide +kernel
theorem dX12_write_21 : decode cX12_write 21 = .ok (.ldc 89, 2) := by decide +kernel
theorem dX12_write_23 : decode cX12_write 23 = .ok (.ireturn, 1) := by decide +kernel
theorem dX12_write_24 : decode cX12_write 24 = .ok (.aload_n 0, 1) := by decide +kernel
theorem dX12_write_25 : decode cX12_write 25 = .ok (.getfield 159, 3) := by decide +kernel
theorem dX12_write_28 : decode cX12_write 28 = .ok (.bipush 20, 2) := by decide +kernel
theorem dX12_write_30 : decode cX12_write 30 = .ok (.if_icmp .ne 6, 3) := by decide +kernel
theorem dX12_write_33 : decode cX12_write 33 = .ok (.ldc 93, 2) := by decide +kernel
theorem dX12_write_35 : decode cX12_write 35 = .ok (.ireturn, 1) := by decide +kernel
theorem dX12_write_36 : decode cX12_write 36 = .ok (.aload_n 0, 1) := by decide +kernel
theorem dX12_write_37 : decode cX12_write 37 = .ok (.getfield 68, 3) := by decide +kernel
theorem dX12_write_40 : decode cX12_write 40 = .ok (.aload_n 0, 1) := by decide +kernel
theorem dX12_write_41 : decode cX12_write 41 = .ok (.getfield 159, 3) := by decide +kernel
theorem dX12_write_44 : decode cX12_write 44 = .ok (.iload_n 1, 1) := by decide +kernel
theorem dX12_write_45 : decode cX12_write 45 = .ok (.iastore, 1) := by decide +kernel
theorem dX12_write_46 : decode cX12_write 46 = .ok (.aload_n 0, 1) := by decide +kernel
theorem dX12_write_47 : decode cX12_write 47 = .ok (.getfield 71, 3) := by decide +kernel
theorem dX12_write_50 : decode cX12_write 50 = .ok (.aload_n 0, 1) := by decide +kernel
theorem dX12_write_51 : decode cX12_write 51 = .ok (.getfield 159, 3) := by decide +kernel
theorem dX12_write_54 : decode cX12_write 54 = .ok (.iload_n 2, 1) := by decide +kernel
theorem dX12_write_55 : decode cX12_write 55 = .ok (.iastore, 1) := by decide +kernel
theorem dX12_write_56 : decode cX12_write 56 = .ok (.aload_n 0, 1) := by decide +kernel
theorem dX12_write_57 : decode cX12_write 57 = .ok (.dup, 1) := by decide +kernel
theorem dX12_write_58 : decode cX12_write 58 = .ok (.getfield 159, 3) := by decide +kernel
theorem dX12_write_61 : decode cX12_write 61 = .ok (.iconst 1, 1) := by decide +kernel
theorem dX12_write_62 : decode cX12_write 62 = .ok (.iadd, 1) := by decide +kernel
theorem dX12_write_63 : decode cX12_write 63 = .ok (.putfield 159, 3) := by decide +kernel
theorem dX12_write_66 : decode cX12_write 66 = .ok (.aload_n 0, 1) := by decide +kernel
theorem dX12_write_67 : decode cX12_write 67 = .ok (.getfield 159, 3) := by decide +kernel
theorem dX12_write_70 : decode cX12_write 70 = .ok (.ireturn, 1) := by decide +kernel
set_option maxRecDepth 4000 in
set_option maxHeartbeats 4000000 in
theorem m_X12_write (l : Launch) (g : qGm) (M : qMem) {sd : sSD} (hs : sRS sd) (hS : mS M sd) (hL : 0 ≤ M 35 0 32 ∧ M 35 0 32 ≤ 20) {h : Int} (hhq : qIn h) {x : Int} (hxq : qIn x) : qOk l g 3 yX12_write cX12_write 3 (some .int) [qR g 35 0, qI h, qI x] M (qEv (some (dWrite (sd 5 0) (M 35 0 32) h x)) (mWrite (sd 5 0) M h x)) := by
  refine q_ok (by decide +kernel) (Nat.le_of_ble_eq_true rfl) (fun X C' hn => ?_)
  have C := C'.1
  have km := hs.2.1
  have kn := hs.2.2.1
  have hmn := hs.1
  have w0 := hS.1
  have w1 := hS.2.1
  have w2 := hS.2.2.1
  refine q_aloadn C dX12_write_0 rfl ?_
  refine q_iloadn C dX12_write_1 rfl ?_
  refine cv_RX12_165 C (by decide) (m_X12_isHouse l g _ hs hS hhq) dX12_write_2 (Nat.le_of_ble_eq_true rfl) (fun r2 => ?_)
  refine q_ifneB C 11 dX12_write_5 (by decide) (fun h5 => ?_) (fun h5 => ?_)
  · refine q_iloadn C dX12_write_11 rfl ?_
    refine q_iconst C dX12_write_12 ?_
    refine q_bipush C dX12_write_13 (by decide) ?_
    refine cv_RX12_85 C (by decide) (m_X12_in l g _ (by omega) (by omega) (by omega)) dX12_write_15 (Nat.le_of_ble_eq_true rfl) (fun r15 => ?_)
    refine q_ifneB C 24 dX12_write_18 (by decide) (fun h18 => ?_) (fun h18 => ?_)
    · refine q_aloadn C dX12_write_24 rfl ?_
      refine gf_RX12_159 C dX12_write_25 (fun r25 => ?_)
      refine q_bipush C dX12_write_28 (by decide) ?_
      refine q_icmp_ne C 36 dX12_write_30 (by decide) (by first | assumption | omega | exact q_tin _ | exact q_bIn _) (by first | assumption | omega | exact q_tin _ | exact q_bIn _) (fun h30 => ?_) (fun h30 => ?_)
      · refine q_aloadn C dX12_write_36 rfl ?_
        refine gf_RX12_68 C dX12_write_37 ?_
        refine q_aloadn C dX12_write_40 rfl ?_
        refine gf_RX12_159 C dX12_write_41 (fun r41 => ?_)
        refine q_iloadn C dX12_write_44 rfl ?_
        refine q_iast C (by first | assumption | decide | omega) (fun _ => rfl) dX12_write_45 (by omega) (by omega) (by decide) (by first | assumption | omega | exact q_tin _ | exact q_bIn _) ?_
        refine q_aloadn C dX12_write_46 rfl ?_
        refine gf_RX12_71 C dX12_write_47 ?_
        refine q_aloadn C dX12_write_50 rfl ?_
        refine gf_RX12_159 C dX12_write_51 (fun r51 => ?_)
        try simp only [q_rd, q_rdS, ↓reduceIte, if_true, if_false, eq_self, Nat.reduceEqDiff, Int.reduceEq, Int.reduceNeg, reduceCtorEq] at r51 ⊢
        refine q_iloadn C dX12_write_54 rfl ?_
        refine q_iast C (by first | assumption | decide | omega) (fun _ => rfl) dX12_write_55 (by omega) (by omega) (by decide) (by first | assumption | omega | exact q_tin _ | exact q_bIn _) ?_
        refine q_aloadn C dX12_write_56 rfl ?_
        refine q_dup C dX12_write_57 rfl ?_
        refine gf_RX12_159 C dX12_write_58 (fun r58 => ?_)
        try simp only [q_rd, q_rdS, ↓reduceIte, if_true, if_false, eq_self, Nat.reduceEqDiff, Int.reduceEq, Int.reduceNeg, reduceCtorEq] at r58 ⊢
        refine q_iconst C dX12_write_61 ?_
        refine q_iadd C dX12_write_62 ?_
        refine pf_RX12_159 C (by first | assumption | omega | exact q_tin _ | exact q_bIn _) dX12_write_63 ?_
        refine q_aloadn C dX12_write_66 rfl ?_
        refine gf_RX12_159 C dX12_write_67 (fun r67 => ?_)
        try simp only [q_rd, q_rdS, ↓reduceIte, if_true, if_false, eq_self, Nat.reduceEqDiff, Int.reduceEq, Int.reduceNeg, reduceCtorEq] at r67 ⊢
        refine q_iret C' dX12_write_70 (by first | assumption | omega | exact q_tin _ | exact q_bIn _) ?_
        refine ⟨congrArg some ?_, ?_⟩
        · unfold dWrite
          first | (rw [if_neg (by omega)]; done) | (rw [if_pos (by omega), if_neg (by omega)]; done) | (rw [if_pos (by omega), if_pos (by omega)]; done) | (rw [if_pos (by omega), if_pos (by omega), if_pos (by omega)]; done) | (rw [if_pos (by omega), if_pos (by omega), if_neg (by omega)]; done)
        · unfold mWrite
          first | (rw [if_pos (by omega)]; done) | (rw [if_neg (by omega)]; done)
      · refine q_ldc C (z := -1000000004) q_ci_RX12_93 (by decide) dX12_write_33 ?_
        refine q_iret C' dX12_write_35 (by first | assumption | omega | exact q_tin _ | exact q_bIn _) ?_
        refine ⟨congrArg some ?_, ?_⟩
        · unfold dWrite
          first | (rw [if_neg (by omega)]; done) | (rw [if_pos (by omega), if_neg (by omega)]; done) | (rw [if_pos (by omega), if_pos (by omega)]; done) | (rw [if_pos (by omega), if_pos (by omega), if_pos (by omega)]; done) | (rw [if_pos (by omega), if_pos (by omega), if_neg (by omega)]; done)
        · unfold mWrite
          first | (rw [if_pos (by omega)]; done) | (rw [if_neg (by omega)]; done)
    · refine q_ldc C (z := -1000000002) q_ci_RX12_89 (by decide) dX12_write_21 ?_
      refine q_iret C' dX12_write_23 (by first | assumption | omega | exact q_tin _ | exact q_bIn _) ?_
      refine ⟨congrArg some ?_, ?_⟩
      · unfold dWrite
        first | (rw [if_neg (by omega)]; done) | (rw [if_pos (by omega), if_neg (by omega)]; done) | (rw [if_pos (by omega), if_pos (by omega)]; done) | (rw [if_pos (by omega), if_pos (by omega), if_pos (by omega)]; done) | (rw [if_pos (by omega), if_pos (by omega), if_neg (by omega)]; done)
      · unfold mWrite
        first | (rw [if_pos (by omega)]; done) | (rw [if_neg (by omega)]; done)
  · refine q_ldc C (z := -1000000001) q_ci_RX12_214 (by decide) dX12_write_8 ?_
    refine q_iret C' dX12_write_10 (by first | assumption | omega | exact q_tin _ | exact q_bIn _) ?_
    refine ⟨congrArg some ?_, ?_⟩
    · unfold dWrite
      first | (rw [if_neg (by omega)]; done) | (rw [if_pos (by omega), if_neg (by omega)]; done) | (rw [if_pos (by omega), if_pos (by omega)]; done) | (rw [if_pos (by omega), if_pos (by omega), if_pos (by omega)]; done) | (rw [if_pos (by omega), if_pos (by omega), if_neg (by omega)]; done)
    · unfold mWrite
      first | (rw [if_pos (by omega)]; done) | (rw [if_neg (by omega)]; done)
theorem dX12_tear_0 : decode cX12_tear 0 = .ok (.aload_n 0, 1) := by decide +kernel
theorem dX12_tear_1 : decode cX12_tear 1 = .ok (.getfield 156, 3) := by decide +kernel
theorem dX12_tear_4 : decode cX12_tear 4 = .ok (.aload_n 0, 1) := by decide +kernel
theorem dX12_tear_5 : decode cX12_tear 5 = .ok (.getfield 159, 3) := by decide +kernel
theorem dX12_tear_8 : decode cX12_tear 8 = .ok (.iadd, 1) := by decide +kernel
theorem dX12_tear_9 : decode cX12_tear 9 = .ok (.istore_n 1, 1) := by decide +kernel
theorem dX12_tear_10 : decode cX12_tear 10 = .ok (.aload_n 0, 1) := by decide +kernel
theorem dX12_tear_11 : decode cX12_tear 11 = .ok (.iconst 0, 1) := by decide +kernel
theorem dX12_tear_12 : decode cX12_tear 12 = .ok (.putfield 156, 3) := by decide +kernel
theorem dX12_tear_15 : decode cX12_tear 15 = .ok (.aload_n 0, 1) := by decide +kernel
theorem dX12_tear_16 : decode cX12_tear 16 = .ok (.iconst 0, 1) := by decide +kernel
theorem dX12_tear_17 : decode cX12_tear 17 = .ok (.putfield 159, 3) := by decide +kernel
theorem dX12_tear_20 : decode cX12_tear 20 = .ok (.iload_n 1, 1) := by decide +kernel
theorem dX12_tear_21 : decode cX12_tear 21 = .ok (.ireturn, 1) := by decide +kernel
set_option maxRecDepth 4000 in
set_option maxHeartbeats 4000000 in
theorem m_X12_tear (l : Launch) (g : qGm) (M : qMem) (hL : 0 ≤ M 35 0 29 ∧ M 35 0 29 ≤ 6) (hK : 0 ≤ M 35 0 32 ∧ M 35 0 32 ≤ 20) : qOk l g 1 yX12_tear cX12_tear 2 (some .int) [qR g 35 0] M (qEv (some (M 35 0 29 + M 35 0 32)) (qUp (qUp M 35 0 29 0) 35 0 32 0)) := by
  refine q_ok (by decide +kernel) (Nat.le_of_ble_eq_true rfl) (fun X C' hn => ?_)
  have C := C'.1
  refine q_aloadn C dX12_tear_0 rfl ?_
  refine gf_RX12_156 C dX12_tear_1 (fun r1 => ?_)
  refine q_aloadn C dX12_tear_4 rfl ?_
  refine gf_RX12_159 C dX12_tear_5 (fun r5 => ?_)
  refine q_iadd C dX12_tear_8 ?_
  refine q_istoren C dX12_tear_9 hn (by decide) rfl ?_
  refine q_aloadn C dX12_tear_10 rfl ?_
  refine q_iconst C dX12_tear_11 ?_
  refine pf_RX12_156 C (by first | assumption | omega | exact q_tin _ | exact q_bIn _) dX12_tear_12 ?_
  refine q_aloadn C dX12_tear_15 rfl ?_
  refine q_iconst C dX12_tear_16 ?_
  refine pf_RX12_159 C (by first | assumption | omega | exact q_tin _ | exact q_bIn _) dX12_tear_17 ?_
  refine q_iloadn C dX12_tear_20 rfl ?_
  refine q_iret C' dX12_tear_21 (by first | assumption | omega | exact q_tin _ | exact q_bIn _) ?_
  exact ⟨rfl, rfl⟩
