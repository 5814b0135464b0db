theorem dX1_isSaid_0 : decode cX1_isSaid 0 = .ok (.iload_n 1, 1) := by decide +kernel
theorem dX1_isSaid_1 : decode cX1_isSaid 1 = .ok (.bipush 16, 2) := by decide +kernel
theorem dX1_isSaid_3 : decode cX1_isSaid 3 = .ok (.idiv, 1) := by decide +kernel
theorem dX1_isSaid_4 : decode cX1_isSaid 4 = .ok (.istore_n 2, 1) := by decide +kernel
theorem dX1_isSaid_5 : decode cX1_isSaid 5 = .ok (.iload_n 1, 1) := by decide +kernel
theorem dX1_isSaid_6 : decode cX1_isSaid 6 = .ok (.bipush 8, 2) := by decide +kernel
theorem dX1_isSaid_8 : decode cX1_isSaid 8 = .ok (.iand, 1) := by decide +kernel
theorem dX1_isSaid_9 : decode cX1_isSaid 9 = .ok (.ifCond .eq 12, 3) := by decide +kernel
theorem dX1_isSaid_12 : decode cX1_isSaid 12 = .ok (.iload_n 2, 1) := by decide +kernel
theorem dX1_isSaid_13 : decode cX1_isSaid 13 = .ok (.iconst 2, 1) := by decide +kernel
theorem dX1_isSaid_14 : decode cX1_isSaid 14 = .ok (.if_icmp .ne 7, 3) := by decide +kernel
theorem dX1_isSaid_17 : decode cX1_isSaid 17 = .ok (.iconst 1, 1) := by decide +kernel
theorem dX1_isSaid_18 : decode cX1_isSaid 18 = .ok (.goto 4, 3) := by decide +kernel
theorem dX1_isSaid_21 : decode cX1_isSaid 21 = .ok (.iconst 0, 1) := by decide +kernel
theorem dX1_isSaid_22 : decode cX1_isSaid 22 = .ok (.istore_n 3, 1) := by decide +kernel
theorem dX1_isSaid_23 : decode cX1_isSaid 23 = .ok (.iload_n 1, 1) := by decide +kernel
theorem dX1_isSaid_24 : decode cX1_isSaid 24 = .ok (.iconst 1, 1) := by decide +kernel
theorem dX1_isSaid_25 : decode cX1_isSaid 25 = .ok (.iand, 1) := by decide +kernel
theorem dX1_isSaid_26 : decode cX1_isSaid 26 = .ok (.ifCond .eq 13, 3) := by decide +kernel
theorem dX1_isSaid_29 : decode cX1_isSaid 29 = .ok (.iload_n 1, 1) := by decide +kernel
theorem dX1_isSaid_30 : decode cX1_isSaid 30 = .ok (.iconst 2, 1) := by decide +kernel
theorem dX1_isSaid_31 : decode cX1_isSaid 31 = .ok (.iand, 1) := by decide +kernel
theorem dX1_isSaid_32 : decode cX1_isSaid 32 = .ok (.ifCond .eq 7, 3) := by decide +kernel
theorem dX1_isSaid_35 : decode cX1_isSaid 35 = .ok (.iconst 1, 1) := by decide +kernel
theorem dX1_isSaid_36 : decode cX1_isSaid 36 = .ok (.goto 4, 3) := by decide +kernel
theorem dX1_isSaid_39 : decode cX1_isSaid 39 = .ok (.iconst 0, 1) := by decide +kernel
theorem dX1_isSaid_40 : decode cX1_isSaid 40 = .ok (.istore 4, 2) := by decide +kernel
theorem dX1_isSaid_42 : decode cX1_isSaid 42 = .ok (.iload_n 0, 1) := by decide +kernel
theorem dX1_isSaid_43 : decode cX1_isSaid 43 = .ok (.tableswitch 59 0 2 #[25, 27, 44], 25) := by decide +kernel
theorem dX1_isSaid_68 : decode cX1_isSaid 68 = .ok (.iconst 1, 1) := by decide +kernel
theorem dX1_isSaid_69 : decode cX1_isSaid 69 = .ok (.ireturn, 1) := by decide +kernel
theorem dX1_isSaid_70 : decode cX1_isSaid 70 = .ok (.iload_n 1, 1) := by decide +kernel
theorem dX1_isSaid_71 : decode cX1_isSaid 71 = .ok (.iconst 4, 1) := by decide +kernel
theorem dX1_isSaid_72 : decode cX1_isSaid 72 = .ok (.iand, 1) := by decide +kernel
theorem dX1_isSaid_73 : decode cX1_isSaid 73 = .ok (.ifCond .eq 8, 3) := by decide +kernel
theorem dX1_isSaid_76 : decode cX1_isSaid 76 = .ok (.iload_n 2, 1) := by decide +kernel
theorem dX1_isSaid_77 : decode cX1_isSaid 77 = .ok (.iconst 1, 1) := by decide +kernel
theorem dX1_isSaid_78 : decode cX1_isSaid 78 = .ok (.if_icmp .ne 7, 3) := by decide +kernel
theorem dX1_isSaid_81 : decode cX1_isSaid 81 = .ok (.iconst 1, 1) := by decide +kernel
theorem dX1_isSaid_82 : decode cX1_isSaid 82 = .ok (.goto 4, 3) := by decide +kernel
theorem dX1_isSaid_85 : decode cX1_isSaid 85 = .ok (.iconst 0, 1) := by decide +kernel
theorem dX1_isSaid_86 : decode cX1_isSaid 86 = .ok (.ireturn, 1) := by decide +kernel
theorem dX1_isSaid_87 : decode cX1_isSaid 87 = .ok (.iload 4, 2) := by decide +kernel
theorem dX1_isSaid_89 : decode cX1_isSaid 89 = .ok (.ifCond .ne 11, 3) := by decide +kernel
theorem dX1_isSaid_92 : decode cX1_isSaid 92 = .ok (.iload_n 3, 1) := by decide +kernel
theorem dX1_isSaid_93 : decode cX1_isSaid 93 = .ok (.ifCond .ne 7, 3) := by decide +kernel
theorem dX1_isSaid_96 : decode cX1_isSaid 96 = .ok (.iconst 1, 1) := by decide +kernel
theorem dX1_isSaid_97 : decode cX1_isSaid 97 = .ok (.goto 4, 3) := by decide +kernel
theorem dX1_isSaid_100 : decode cX1_isSaid 100 = .ok (.iconst 0, 1) := by decide +kernel
theorem dX1_isSaid_101 : decode cX1_isSaid 101 = .ok (.ireturn, 1) := by decide +kernel
theorem dX1_isSaid_102 : decode cX1_isSaid 102 = .ok (.iconst 0, 1) := by decide +kernel
theorem dX1_isSaid_103 : decode cX1_isSaid 103 = .ok (.ireturn, 1) := by decide +kernel
set_option maxRecDepth 4000 in
set_option maxHeartbeats 4000000 in
theorem m_X1_isSaid (l : Launch) (g : qGm) (M : qMem) {mn : Int} (hmn : qIn mn) {a : Int} (ha : 0 ≤ a ∧ a < 48) : qOk l g 1 yX1_isSaid cX1_isSaid 5 (some .boolean) [qI mn, qI a] M (qEv (some (qB (sSaid mn a))) M) := by
  refine q_ok (by decide +kernel) (Nat.le_of_ble_eq_true rfl) (fun X C' hn => ?_)
  have C := C'.1
  have e1 := q_and1 ha.1 ha.2
  have e2 := q_and2 ha.1 ha.2
  have e4 := q_and4 ha.1 ha.2
  have e8 := q_and8 ha.1 ha.2
  refine q_iloadn C dX1_isSaid_0 rfl ?_
  refine q_bipush C dX1_isSaid_1 (by decide) ?_
  refine q_idiv C dX1_isSaid_3 (by omega) (by omega) (by omega) (by omega) ?_
  refine q_istoren C dX1_isSaid_4 hn (by decide) rfl ?_
  refine q_iloadn C dX1_isSaid_5 rfl ?_
  refine q_bipush C dX1_isSaid_6 (by decide) ?_
  refine q_iand C dX1_isSaid_8 ?_
  refine q_if_eq C 21 dX1_isSaid_9 (by decide) (by first | assumption | omega | exact q_tin _ | exact q_bIn _) (fun h9 => ?_) (fun h9 => ?_)
  · refine q_iconst C dX1_isSaid_21 ?_
    refine q_istoren C dX1_isSaid_22 hn (by decide) rfl ?_
    refine q_iloadn C dX1_isSaid_23 rfl ?_
    refine q_iconst C dX1_isSaid_24 ?_
    refine q_iand C dX1_isSaid_25 ?_
    refine q_if_eq C 39 dX1_isSaid_26 (by decide) (by first | assumption | omega | exact q_tin _ | exact q_bIn _) (fun h26 => ?_) (fun h26 => ?_)
    · refine q_iconst C dX1_isSaid_39 ?_
      refine q_istore C dX1_isSaid_40 hn (by decide) rfl ?_
      refine q_iloadn C dX1_isSaid_42 rfl ?_
      by_cases ht43 : mn < 0 ∨ 2 < mn
      · refine q_tsOut C 102 dX1_isSaid_43 (by first | assumption | omega | exact q_tin _ | exact q_bIn _) ht43 (by decide) ?_
        refine q_iconst C dX1_isSaid_102 ?_
        refine q_zret C' dX1_isSaid_103 (by first | omega | exact q_b01 _ | simp) ?_
        refine ⟨congrArg some ?_, rfl⟩
        unfold qB
        split <;> first | rfl | (exfalso; omega)
      obtain rfl | rfl | rfl : mn = 0 ∨ mn = 1 ∨ mn = 2 := by omega
      · refine q_tsIn C (off := 25) 68 dX1_isSaid_43 (by decide) (by decide) (by decide) (by decide) (by decide) ?_
        refine q_iconst C dX1_isSaid_68 ?_
        refine q_zret C' dX1_isSaid_69 (by first | omega | exact q_b01 _ | simp) ?_
        refine ⟨congrArg some ?_, rfl⟩
        unfold qB
        split <;> first | rfl | (exfalso; omega)
      · refine q_tsIn C (off := 27) 70 dX1_isSaid_43 (by decide) (by decide) (by decide) (by decide) (by decide) ?_
        refine q_iloadn C dX1_isSaid_70 rfl ?_
        refine q_iconst C dX1_isSaid_71 ?_
        refine q_iand C dX1_isSaid_72 ?_
        refine q_if_eq C 81 dX1_isSaid_73 (by decide) (by first | assumption | omega | exact q_tin _ | exact q_bIn _) (fun h73 => ?_) (fun h73 => ?_)
        · refine q_iconst C dX1_isSaid_81 ?_
          refine q_goto C (tgt := 86) dX1_isSaid_82 (by decide) ?_
          refine q_zret C' dX1_isSaid_86 (by first | omega | exact q_b01 _ | simp) ?_
          refine ⟨congrArg some ?_, rfl⟩
          unfold qB
          split <;> first | rfl | (exfalso; omega)
        · refine q_iloadn C dX1_isSaid_76 rfl ?_
          refine q_iconst C dX1_isSaid_77 ?_
          refine q_icmp_ne C 85 dX1_isSaid_78 (by decide) (by first | assumption | omega | exact q_tin _ | exact q_bIn _) (by first | assumption | omega | exact q_tin _ | exact q_bIn _) (fun h78 => ?_) (fun h78 => ?_)
          · refine q_iconst C dX1_isSaid_85 ?_
            refine q_zret C' dX1_isSaid_86 (by first | omega | exact q_b01 _ | simp) ?_
            refine ⟨congrArg some ?_, rfl⟩
            unfold qB
            split <;> first | rfl | (exfalso; omega)
          · refine q_iconst C dX1_isSaid_81 ?_
            refine q_goto C (tgt := 86) dX1_isSaid_82 (by decide) ?_
            refine q_zret C' dX1_isSaid_86 (by first | omega | exact q_b01 _ | simp) ?_
            refine ⟨congrArg some ?_, rfl⟩
            unfold qB
            split <;> first | rfl | (exfalso; omega)
      · refine q_tsIn C (off := 44) 87 dX1_isSaid_43 (by decide) (by decide) (by decide) (by decide) (by decide) ?_
        refine q_iload C dX1_isSaid_87 rfl ?_
        refine q_if_ne C 100 dX1_isSaid_89 (by decide) (by first | assumption | omega | exact q_tin _ | exact q_bIn _) (fun h89 => ?_) (fun h89 => ?_)
        · refine q_iconst C dX1_isSaid_100 ?_
          refine q_zret C' dX1_isSaid_101 (by first | omega | exact q_b01 _ | simp) ?_
          refine ⟨congrArg some ?_, rfl⟩
          unfold qB
          split <;> first | rfl | (exfalso; omega)
        · refine q_iloadn C dX1_isSaid_92 rfl ?_
          refine q_if_ne C 100 dX1_isSaid_93 (by decide) (by first | assumption | omega | exact q_tin _ | exact q_bIn _) (fun h93 => ?_) (fun h93 => ?_)
          · refine q_iconst C dX1_isSaid_100 ?_
            refine q_zret C' dX1_isSaid_101 (by first | omega | exact q_b01 _ | simp) ?_
            refine ⟨congrArg some ?_, rfl⟩
            unfold qB
            split <;> first | rfl | (exfalso; omega)
          · refine q_iconst C dX1_isSaid_96 ?_
            refine q_goto C (tgt := 101) dX1_isSaid_97 (by decide) ?_
            refine q_zret C' dX1_isSaid_101 (by first | omega | exact q_b01 _ | simp) ?_
            refine ⟨congrArg some ?_, rfl⟩
            unfold qB
            split <;> first | rfl | (exfalso; omega)
    · refine q_iloadn C dX1_isSaid_29 rfl ?_
      refine q_iconst C dX1_isSaid_30 ?_
      refine q_iand C dX1_isSaid_31 ?_
      refine q_if_eq C 39 dX1_isSaid_32 (by decide) (by first | assumption | omega | exact q_tin _ | exact q_bIn _) (fun h32 => ?_) (fun h32 => ?_)
      · refine q_iconst C dX1_isSaid_39 ?_
        refine q_istore C dX1_isSaid_40 hn (by decide) rfl ?_
        refine q_iloadn C dX1_isSaid_42 rfl ?_
        by_cases ht43 : mn < 0 ∨ 2 < mn
        · refine q_tsOut C 102 dX1_isSaid_43 (by first | assumption | omega | exact q_tin _ | exact q_bIn _) ht43 (by decide) ?_
          refine q_iconst C dX1_isSaid_102 ?_
          refine q_zret C' dX1_isSaid_103 (by first | omega | exact q_b01 _ | simp) ?_
          refine ⟨congrArg some ?_, rfl⟩
          unfold qB
          split <;> first | rfl | (exfalso; omega)
        obtain rfl | rfl | rfl : mn = 0 ∨ mn = 1 ∨ mn = 2 := by omega
        · refine q_tsIn C (off := 25) 68 dX1_isSaid_43 (by decide) (by decide) (by decide) (by decide) (by decide) ?_
          refine q_iconst C dX1_isSaid_68 ?_
          refine q_zret C' dX1_isSaid_69 (by first | omega | exact q_b01 _ | simp) ?_
          refine ⟨congrArg some ?_, rfl⟩
          unfold qB
          split <;> first | rfl | (exfalso; omega)
        · refine q_tsIn C (off := 27) 70 dX1_isSaid_43 (by decide) (by decide) (by decide) (by decide) (by decide) ?_
          refine q_iloadn C dX1_isSaid_70 rfl ?_
          refine q_iconst C dX1_isSaid_71 ?_
          refine q_iand C dX1_isSaid_72 ?_
          refine q_if_eq C 81 dX1_isSaid_73 (by decide) (by first | assumption | omega | exact q_tin _ | exact q_bIn _) (fun h73 => ?_) (fun h73 => ?_)
          · refine q_iconst C dX1_isSaid_81 ?_
            refine q_goto C (tgt := 86) dX1_isSaid_82 (by decide) ?_
            refine q_zret C' dX1_isSaid_86 (by first | omega | exact q_b01 _ | simp) ?_
            refine ⟨congrArg some ?_, rfl⟩
            unfold qB
            split <;> first | rfl | (exfalso; omega)
          · refine q_iloadn C dX1_isSaid_76 rfl ?_
            refine q_iconst C dX1_isSaid_77 ?_
            refine q_icmp_ne C 85 dX1_isSaid_78 (by decide) (by first | assumption | omega | exact q_tin _ | exact q_bIn _) (by first | assumption | omega | exact q_tin _ | exact q_bIn _) (fun h78 => ?_) (fun h78 => ?_)
            · refine q_iconst C dX1_isSaid_85 ?_
              refine q_zret C' dX1_isSaid_86 (by first | omega | exact q_b01 _ | simp) ?_
              refine ⟨congrArg some ?_, rfl⟩
              unfold qB
              split <;> first | rfl | (exfalso; omega)
            · refine q_iconst C dX1_isSaid_81 ?_
              refine q_goto C (tgt := 86) dX1_isSaid_82 (by decide) ?_
              refine q_zret C' dX1_isSaid_86 (by first | omega | exact q_b01 _ | simp) ?_
              refine ⟨congrArg some ?_, rfl⟩
              unfold qB
              split <;> first | rfl | (exfalso; omega)
        · refine q_tsIn C (off := 44) 87 dX1_isSaid_43 (by decide) (by decide) (by decide) (by decide) (by decide) ?_
          refine q_iload C dX1_isSaid_87 rfl ?_
          refine q_if_ne C 100 dX1_isSaid_89 (by decide) (by first | assumption | omega | exact q_tin _ | exact q_bIn _) (fun h89 => ?_) (fun h89 => ?_)
          · refine q_iconst C dX1_isSaid_100 ?_
            refine q_zret C' dX1_isSaid_101 (by first | omega | exact q_b01 _ | simp) ?_
            refine ⟨congrArg some ?_, rfl⟩
            unfold qB
            split <;> first | rfl | (exfalso; omega)
          · refine q_iloadn C dX1_isSaid_92 rfl ?_
            refine q_if_ne C 100 dX1_isSaid_93 (by decide) (by first | assumption | omega | exact q_tin _ | exact q_bIn _) (fun h93 => ?_) (fun h93 => ?_)
            · refine q_iconst C dX1_isSaid_100 ?_
              refine q_zret C' dX1_isSaid_101 (by first | omega | exact q_b01 _ | simp) ?_
              refine ⟨congrArg some ?_, rfl⟩
              unfold qB
              split <;> first | rfl | (exfalso; omega)
            · refine q_iconst C dX1_isSaid_96 ?_
              refine q_goto C (tgt := 101) dX1_isSaid_97 (by decide) ?_
              refine q_zret C' dX1_isSaid_101 (by first | omega | exact q_b01 _ | simp) ?_
              refine ⟨congrArg some ?_, rfl⟩
              unfold qB
              split <;> first | rfl | (exfalso; omega)
      · refine q_iconst C dX1_isSaid_35 ?_
        refine q_goto C (tgt := 40) dX1_isSaid_36 (by decide) ?_
        refine q_istore C dX1_isSaid_40 hn (by decide) rfl ?_
        refine q_iloadn C dX1_isSaid_42 rfl ?_
        by_cases ht43 : mn < 0 ∨ 2 < mn
        · refine q_tsOut C 102 dX1_isSaid_43 (by first | assumption | omega | exact q_tin _ | exact q_bIn _) ht43 (by decide) ?_
          refine q_iconst C dX1_isSaid_102 ?_
          refine q_zret C' dX1_isSaid_103 (by first | omega | exact q_b01 _ | simp) ?_
          refine ⟨congrArg some ?_, rfl⟩
          unfold qB
          split <;> first | rfl | (exfalso; omega)
        obtain rfl | rfl | rfl : mn = 0 ∨ mn = 1 ∨ mn = 2 := by omega
        · refine q_tsIn C (off := 25) 68 dX1_isSaid_43 (by decide) (by decide) (by decide) (by decide) (by decide) ?_
          refine q_iconst C dX1_isSaid_68 ?_
          refine q_zret C' dX1_isSaid_69 (by first | omega | exact q_b01 _ | simp) ?_
          refine ⟨congrArg some ?_, rfl⟩
          unfold qB
          split <;> first | rfl | (exfalso; omega)
        · refine q_tsIn C (off := 27) 70 dX1_isSaid_43 (by decide) (by decide) (by decide) (by decide) (by decide) ?_
          refine q_iloadn C dX1_isSaid_70 rfl ?_
          refine q_iconst C dX1_isSaid_71 ?_
          refine q_iand C dX1_isSaid_72 ?_
          refine q_if_eq C 81 dX1_isSaid_73 (by decide) (by first | assumption | omega | exact q_tin _ | exact q_bIn _) (fun h73 => ?_) (fun h73 => ?_)
          · refine q_iconst C dX1_isSaid_81 ?_
            refine q_goto C (tgt := 86) dX1_isSaid_82 (by decide) ?_
            refine q_zret C' dX1_isSaid_86 (by first | omega | exact q_b01 _ | simp) ?_
            refine ⟨congrArg some ?_, rfl⟩
            unfold qB
            split <;> first | rfl | (exfalso; omega)
          · refine q_iloadn C dX1_isSaid_76 rfl ?_
            refine q_iconst C dX1_isSaid_77 ?_
            refine q_icmp_ne C 85 dX1_isSaid_78 (by decide) (by first | assumption | omega | exact q_tin _ | exact q_bIn _) (by first | assumption | omega | exact q_tin _ | exact q_bIn _) (fun h78 => ?_) (fun h78 => ?_)
            · refine q_iconst C dX1_isSaid_85 ?_
              refine q_zret C' dX1_isSaid_86 (by first | omega | exact q_b01 _ | simp) ?_
              refine ⟨congrArg some ?_, rfl⟩
              unfold qB
              split <;> first | rfl | (exfalso; omega)
            · refine q_iconst C dX1_isSaid_81 ?_
              refine q_goto C (tgt := 86) dX1_isSaid_82 (by decide) ?_
              refine q_zret C' dX1_isSaid_86 (by first | omega | exact q_b01 _ | simp) ?_
              refine ⟨congrArg some ?_, rfl⟩
              unfold qB
              split <;> first | rfl | (exfalso; omega)
        · refine q_tsIn C (off := 44) 87 dX1_isSaid_43 (by decide) (by decide) (by decide) (by decide) (by decide) ?_
          refine q_iload C dX1_isSaid_87 rfl ?_
          refine q_if_ne C 100 dX1_isSaid_89 (by decide) (by first | assumption | omega | exact q_tin _ | exact q_bIn _) (fun h89 => ?_) (fun h89 => ?_)
          · refine q_iconst C dX1_isSaid_100 ?_
            refine q_zret C' dX1_isSaid_101 (by first | omega | exact q_b01 _ | simp) ?_
            refine ⟨congrArg some ?_, rfl⟩
            unfold qB
            split <;> first | rfl | (exfalso; omega)
          · refine q_iloadn C dX1_isSaid_92 rfl ?_
            refine q_if_ne C 100 dX1_isSaid_93 (by decide) (by first | assumption | omega | exact q_tin _ | exact q_bIn _) (fun h93 => ?_) (fun h93 => ?_)
            · refine q_iconst C dX1_isSaid_100 ?_
              refine q_zret C' dX1_isSaid_101 (by first | omega | exact q_b01 _ | simp) ?_
              refine ⟨congrArg some ?_, rfl⟩
              unfold qB
              split <;> first | rfl | (exfalso; omega)
            · refine q_iconst C dX1_isSaid_96 ?_
              refine q_goto C (tgt := 101) dX1_isSaid_97 (by decide) ?_
              refine q_zret C' dX1_isSaid_101 (by first | omega | exact q_b01 _ | simp) ?_
              refine ⟨congrArg some ?_, rfl⟩
              unfold qB
              split <;> first | rfl | (exfalso; omega)
  · refine q_iloadn C dX1_isSaid_12 rfl ?_
    refine q_iconst C dX1_isSaid_13 ?_
    refine q_icmp_ne C 21 dX1_isSaid_14 (by decide) (by first | assumption | omega | exact q_tin _ | exact q_bIn _) (by first | assumption | omega | exact q_tin _ | exact q_bIn _) (fun h14 => ?_) (fun h14 => ?_)
    · refine q_iconst C dX1_isSaid_21 ?_
      refine q_istoren C dX1_isSaid_22 hn (by decide) rfl ?_
      refine q_iloadn C dX1_isSaid_23 rfl ?_
      refine q_iconst C dX1_isSaid_24 ?_
      refine q_iand C dX1_isSaid_25 ?_
      refine q_if_eq C 39 dX1_isSaid_26 (by decide) (by first | assumption | omega | exact q_tin _ | exact q_bIn _) (fun h26 => ?_) (fun h26 => ?_)
      · refine q_iconst C dX1_isSaid_39 ?_
        refine q_istore C dX1_isSaid_40 hn (by decide) rfl ?_
        refine q_iloadn C dX1_isSaid_42 rfl ?_
        by_cases ht43 : mn < 0 ∨ 2 < mn
        · refine q_tsOut C 102 dX1_isSaid_43 (by first | assumption | omega | exact q_tin _ | exact q_bIn _) ht43 (by decide) ?_
          refine q_iconst C dX1_isSaid_102 ?_
          refine q_zret C' dX1_isSaid_103 (by first | omega | exact q_b01 _ | simp) ?_
          refine ⟨congrArg some ?_, rfl⟩
          unfold qB
          split <;> first | rfl | (exfalso; omega)
        obtain rfl | rfl | rfl : mn = 0 ∨ mn = 1 ∨ mn = 2 := by omega
        · refine q_tsIn C (off := 25) 68 dX1_isSaid_43 (by decide) (by decide) (by decide) (by decide) (by decide) ?_
          refine q_iconst C dX1_isSaid_68 ?_
          refine q_zret C' dX1_isSaid_69 (by first | omega | exact q_b01 _ | simp) ?_
          refine ⟨congrArg some ?_, rfl⟩
          unfold qB
          split <;> first | rfl | (exfalso; omega)
        · refine q_tsIn C (off := 27) 70 dX1_isSaid_43 (by decide) (by decide) (by decide) (by decide) (by decide) ?_
          refine q_iloadn C dX1_isSaid_70 rfl ?_
          refine q_iconst C dX1_isSaid_71 ?_
          refine q_iand C dX1_isSaid_72 ?_
          refine q_if_eq C 81 dX1_isSaid_73 (by decide) (by first | assumption | omega | exact q_tin _ | exact q_bIn _) (fun h73 => ?_) (fun h73 => ?_)
          · refine q_iconst C dX1_isSaid_81 ?_
            refine q_goto C (tgt := 86) dX1_isSaid_82 (by decide) ?_
            refine q_zret C' dX1_isSaid_86 (by first | omega | exact q_b01 _ | simp) ?_
            refine ⟨congrArg some ?_, rfl⟩
            unfold qB
            split <;> first | rfl | (exfalso; omega)
          · refine q_iloadn C dX1_isSaid_76 rfl ?_
            refine q_iconst C dX1_isSaid_77 ?_
            refine q_icmp_ne C 85 dX1_isSaid_78 (by decide) (by first | assumption | omega | exact q_tin _ | exact q_bIn _) (by first | assumption | omega | exact q_tin _ | exact q_bIn _) (fun h78 => ?_) (fun h78 => ?_)
            · refine q_iconst C dX1_isSaid_85 ?_
              refine q_zret C' dX1_isSaid_86 (by first | omega | exact q_b01 _ | simp) ?_
              refine ⟨congrArg some ?_, rfl⟩
              unfold qB
              split <;> first | rfl | (exfalso; omega)
            · refine q_iconst C dX1_isSaid_81 ?_
              refine q_goto C (tgt := 86) dX1_isSaid_82 (by decide) ?_
              refine q_zret C' dX1_isSaid_86 (by first | omega | exact q_b01 _ | simp) ?_
              refine ⟨congrArg some ?_, rfl⟩
              unfold qB
              split <;> first | rfl | (exfalso; omega)
        · refine q_tsIn C (off := 44) 87 dX1_isSaid_43 (by decide) (by decide) (by decide) (by decide) (by decide) ?_
          refine q_iload C dX1_isSaid_87 rfl ?_
          refine q_if_ne C 100 dX1_isSaid_89 (by decide) (by first | assumption | omega | exact q_tin _ | exact q_bIn _) (fun h89 => ?_) (fun h89 => ?_)
          · refine q_iconst C dX1_isSaid_100 ?_
            refine q_zret C' dX1_isSaid_101 (by first | omega | exact q_b01 _ | simp) ?_
            refine ⟨congrArg some ?_, rfl⟩
            unfold qB
            split <;> first | rfl | (exfalso; omega)
          · refine q_iloadn C dX1_isSaid_92 rfl ?_
            refine q_if_ne C 100 dX1_isSaid_93 (by decide) (by first | assumption | omega | exact q_tin _ | exact q_bIn _) (fun h93 => ?_) (fun h93 => ?_)
            · refine q_iconst C dX1_isSaid_100 ?_
              refine q_zret C' dX1_isSaid_101 (by first | omega | exact q_b01 _ | simp) ?_
              refine ⟨congrArg some ?_, rfl⟩
              unfold qB
              split <;> first | rfl | (exfalso; omega)
            · refine q_iconst C dX1_isSaid_96 ?_
              refine q_goto C (tgt := 101) dX1_isSaid_97 (by decide) ?_
              refine q_zret C' dX1_isSaid_101 (by first | omega | exact q_b01 _ | simp) ?_
              refine ⟨congrArg some ?_, rfl⟩
              unfold qB
              split <;> first | rfl | (exfalso; omega)
      · refine q_iloadn C dX1_isSaid_29 rfl ?_
        refine q_iconst C dX1_isSaid_30 ?_
        refine q_iand C dX1_isSaid_31 ?_
        refine q_if_eq C 39 dX1_isSaid_32 (by decide) (by first | assumption | omega | exact q_tin _ | exact q_bIn _) (fun h32 => ?_) (fun h32 => ?_)
        · refine q_iconst C dX1_isSaid_39 ?_
          refine q_istore C dX1_isSaid_40 hn (by decide) rfl ?_
          refine q_iloadn C dX1_isSaid_42 rfl ?_
          by_cases ht43 : mn < 0 ∨ 2 < mn
          · refine q_tsOut C 102 dX1_isSaid_43 (by first | assumption | omega | exact q_tin _ | exact q_bIn _) ht43 (by decide) ?_
            refine q_iconst C dX1_isSaid_102 ?_
            refine q_zret C' dX1_isSaid_103 (by first | omega | exact q_b01 _ | simp) ?_
            refine ⟨congrArg some ?_, rfl⟩
            unfold qB
            split <;> first | rfl | (exfalso; omega)
          obtain rfl | rfl | rfl : mn = 0 ∨ mn = 1 ∨ mn = 2 := by omega
          · refine q_tsIn C (off := 25) 68 dX1_isSaid_43 (by decide) (by decide) (by decide) (by decide) (by decide) ?_
            refine q_iconst C dX1_isSaid_68 ?_
            refine q_zret C' dX1_isSaid_69 (by first | omega | exact q_b01 _ | simp) ?_
            refine ⟨congrArg some ?_, rfl⟩
            unfold qB
            split <;> first | rfl | (exfalso; omega)
          · refine q_tsIn C (off := 27) 70 dX1_isSaid_43 (by decide) (by decide) (by decide) (by decide) (by decide) ?_
            refine q_iloadn C dX1_isSaid_70 rfl ?_
            refine q_iconst C dX1_isSaid_71 ?_
            refine q_iand C dX1_isSaid_72 ?_
            refine q_if_eq C 81 dX1_isSaid_73 (by decide) (by first | assumption | omega | exact q_tin _ | exact q_bIn _) (fun h73 => ?_) (fun h73 => ?_)
            · refine q_iconst C dX1_isSaid_81 ?_
              refine q_goto C (tgt := 86) dX1_isSaid_82 (by decide) ?_
              refine q_zret C' dX1_isSaid_86 (by first | omega | exact q_b01 _ | simp) ?_
              refine ⟨congrArg some ?_, rfl⟩
              unfold qB
              split <;> first | rfl | (exfalso; omega)
            · refine q_iloadn C dX1_isSaid_76 rfl ?_
              refine q_iconst C dX1_isSaid_77 ?_
              refine q_icmp_ne C 85 dX1_isSaid_78 (by decide) (by first | assumption | omega | exact q_tin _ | exact q_bIn _) (by first | assumption | omega | exact q_tin _ | exact q_bIn _) (fun h78 => ?_) (fun h78 => ?_)
              · refine q_iconst C dX1_isSaid_85 ?_
                refine q_zret C' dX1_isSaid_86 (by first | omega | exact q_b01 _ | simp) ?_
                refine ⟨congrArg some ?_, rfl⟩
                unfold qB
                split <;> first | rfl | (exfalso; omega)
              · refine q_iconst C dX1_isSaid_81 ?_
                refine q_goto C (tgt := 86) dX1_isSaid_82 (by decide) ?_
                refine q_zret C' dX1_isSaid_86 (by first | omega | exact q_b01 _ | simp) ?_
                refine ⟨congrArg some ?_, rfl⟩
                unfold qB
                split <;> first | rfl | (exfalso; omega)
          · refine q_tsIn C (off := 44) 87 dX1_isSaid_43 (by decide) (by decide) (by decide) (by decide) (by decide) ?_
            refine q_iload C dX1_isSaid_87 rfl ?_
            refine q_if_ne C 100 dX1_isSaid_89 (by decide) (by first | assumption | omega | exact q_tin _ | exact q_bIn _) (fun h89 => ?_) (fun h89 => ?_)
            · refine q_iconst C dX1_isSaid_100 ?_
              refine q_zret C' dX1_isSaid_101 (by first | omega | exact q_b01 _ | simp) ?_
              refine ⟨congrArg some ?_, rfl⟩
              unfold qB
              split <;> first | rfl | (exfalso; omega)
            · refine q_iloadn C dX1_isSaid_92 rfl ?_
              refine q_if_ne C 100 dX1_isSaid_93 (by decide) (by first | assumption | omega | exact q_tin _ | exact q_bIn _) (fun h93 => ?_) (fun h93 => ?_)
              · refine q_iconst C dX1_isSaid_100 ?_
                refine q_zret C' dX1_isSaid_101 (by first | omega | exact q_b01 _ | simp) ?_
                refine ⟨congrArg some ?_, rfl⟩
                unfold qB
                split <;> first | rfl | (exfalso; omega)
              · refine q_iconst C dX1_isSaid_96 ?_
                refine q_goto C (tgt := 101) dX1_isSaid_97 (by decide) ?_
                refine q_zret C' dX1_isSaid_101 (by first | omega | exact q_b01 _ | simp) ?_
                refine ⟨congrArg some ?_, rfl⟩
                unfold qB
                split <;> first | rfl | (exfalso; omega)
        · refine q_iconst C dX1_isSaid_35 ?_
          refine q_goto C (tgt := 40) dX1_isSaid_36 (by decide) ?_
          refine q_istore C dX1_isSaid_40 hn (by decide) rfl ?_
          refine q_iloadn C dX1_isSaid_42 rfl ?_
          by_cases ht43 : mn < 0 ∨ 2 < mn
          · refine q_tsOut C 102 dX1_isSaid_43 (by first | assumption | omega | exact q_tin _ | exact q_bIn _) ht43 (by decide) ?_
            refine q_iconst C dX1_isSaid_102 ?_
            refine q_zret C' dX1_isSaid_103 (by first | omega | exact q_b01 _ | simp) ?_
            refine ⟨congrArg some ?_, rfl⟩
            unfold qB
            split <;> first | rfl | (exfalso; omega)
          obtain rfl | rfl | rfl : mn = 0 ∨ mn = 1 ∨ mn = 2 := by omega
          · refine q_tsIn C (off := 25) 68 dX1_isSaid_43 (by decide) (by decide) (by decide) (by decide) (by decide) ?_
            refine q_iconst C dX1_isSaid_68 ?_
            refine q_zret C' dX1_isSaid_69 (by first | omega | exact q_b01 _ | simp) ?_
            refine ⟨congrArg some ?_, rfl⟩
            unfold qB
            split <;> first | rfl | (exfalso; omega)
          · refine q_tsIn C (off := 27) 70 dX1_isSaid_43 (by decide) (by decide) (by decide) (by decide) (by decide) ?_
            refine q_iloadn C dX1_isSaid_70 rfl ?_
            refine q_iconst C dX1_isSaid_71 ?_
            refine q_iand C dX1_isSaid_72 ?_
            refine q_if_eq C 81 dX1_isSaid_73 (by decide) (by first | assumption | omega | exact q_tin _ | exact q_bIn _) (fun h73 => ?_) (fun h73 => ?_)
            · refine q_iconst C dX1_isSaid_81 ?_
              refine q_goto C (tgt := 86) dX1_isSaid_82 (by decide) ?_
              refine q_zret C' dX1_isSaid_86 (by first | omega | exact q_b01 _ | simp) ?_
              refine ⟨congrArg some ?_, rfl⟩
              unfold qB
              split <;> first | rfl | (exfalso; omega)
            · refine q_iloadn C dX1_isSaid_76 rfl ?_
              refine q_iconst C dX1_isSaid_77 ?_
              refine q_icmp_ne C 85 dX1_isSaid_78 (by decide) (by first | assumption | omega | exact q_tin _ | exact q_bIn _) (by first | assumption | omega | exact q_tin _ | exact q_bIn _) (fun h78 => ?_) (fun h78 => ?_)
              · refine q_iconst C dX1_isSaid_85 ?_
                refine q_zret C' dX1_isSaid_86 (by first | omega | exact q_b01 _ | simp) ?_
                refine ⟨congrArg some ?_, rfl⟩
                unfold qB
                split <;> first | rfl | (exfalso; omega)
              · refine q_iconst C dX1_isSaid_81 ?_
                refine q_goto C (tgt := 86) dX1_isSaid_82 (by decide) ?_
                refine q_zret C' dX1_isSaid_86 (by first | omega | exact q_b01 _ | simp) ?_
                refine ⟨congrArg some ?_, rfl⟩
                unfold qB
                split <;> first | rfl | (exfalso; omega)
          · refine q_tsIn C (off := 44) 87 dX1_isSaid_43 (by decide) (by decide) (by decide) (by decide) (by decide) ?_
            refine q_iload C dX1_isSaid_87 rfl ?_
            refine q_if_ne C 100 dX1_isSaid_89 (by decide) (by first | assumption | omega | exact q_tin _ | exact q_bIn _) (fun h89 => ?_) (fun h89 => ?_)
            · refine q_iconst C dX1_isSaid_100 ?_
              refine q_zret C' dX1_isSaid_101 (by first | omega | exact q_b01 _ | simp) ?_
              refine ⟨congrArg some ?_, rfl⟩
              unfold qB
              split <;> first | rfl | (exfalso; omega)
            · refine q_iloadn C dX1_isSaid_92 rfl ?_
              refine q_if_ne C 100 dX1_isSaid_93 (by decide) (by first | assumption | omega | exact q_tin _ | exact q_bIn _) (fun h93 => ?_) (fun h93 => ?_)
              · refine q_iconst C dX1_isSaid_100 ?_
                refine q_zret C' dX1_isSaid_101 (by first | omega | exact q_b01 _ | simp) ?_
                refine ⟨congrArg some ?_, rfl⟩
                unfold qB
                split <;> first | rfl | (exfalso; omega)
              · refine q_iconst C dX1_isSaid_96 ?_
                refine q_goto C (tgt := 101) dX1_isSaid_97 (by decide) ?_
                refine q_zret C' dX1_isSaid_101 (by first | omega | exact q_b01 _ | simp) ?_
                refine ⟨congrArg some ?_, rfl⟩
                unfold qB
                split <;> first | rfl | (exfalso; omega)
    · refine q_iconst C dX1_isSaid_17 ?_
      refine q_goto C (tgt := 22) dX1_isSaid_18 (by decide) ?_
      refine q_istoren C dX1_isSaid_22 hn (by decide) rfl ?_
      refine q_iloadn C dX1_isSaid_23 rfl ?_
      refine q_iconst C dX1_isSaid_24 ?_
      refine q_iand C dX1_isSaid_25 ?_
      refine q_if_eq C 39 dX1_isSaid_26 (by decide) (by first | assumption | omega | exact q_tin _ | exact q_bIn _) (fun h26 => ?_) (fun h26 => ?_)
      · refine q_iconst C dX1_isSaid_39 ?_
        refine q_istore C dX1_isSaid_40 hn (by decide) rfl ?_
        refine q_iloadn C dX1_isSaid_42 rfl ?_
        by_cases ht43 : mn < 0 ∨ 2 < mn
        · refine q_tsOut C 102 dX1_isSaid_43 (by first | assumption | omega | exact q_tin _ | exact q_bIn _) ht43 (by decide) ?_
          refine q_iconst C dX1_isSaid_102 ?_
          refine q_zret C' dX1_isSaid_103 (by first | omega | exact q_b01 _ | simp) ?_
          refine ⟨congrArg some ?_, rfl⟩
          unfold qB
          split <;> first | rfl | (exfalso; omega)
        obtain rfl | rfl | rfl : mn = 0 ∨ mn = 1 ∨ mn = 2 := by omega
        · refine q_tsIn C (off := 25) 68 dX1_isSaid_43 (by decide) (by decide) (by decide) (by decide) (by decide) ?_
          refine q_iconst C dX1_isSaid_68 ?_
          refine q_zret C' dX1_isSaid_69 (by first | omega | exact q_b01 _ | simp) ?_
          refine ⟨congrArg some ?_, rfl⟩
          unfold qB
          split <;> first | rfl | (exfalso; omega)
        · refine q_tsIn C (off := 27) 70 dX1_isSaid_43 (by decide) (by decide) (by decide) (by decide) (by decide) ?_
          refine q_iloadn C dX1_isSaid_70 rfl ?_
          refine q_iconst C dX1_isSaid_71 ?_
          refine q_iand C dX1_isSaid_72 ?_
          refine q_if_eq C 81 dX1_isSaid_73 (by decide) (by first | assumption | omega | exact q_tin _ | exact q_bIn _) (fun h73 => ?_) (fun h73 => ?_)
          · refine q_iconst C dX1_isSaid_81 ?_
            refine q_goto C (tgt := 86) dX1_isSaid_82 (by decide) ?_
            refine q_zret C' dX1_isSaid_86 (by first | omega | exact q_b01 _ | simp) ?_
            refine ⟨congrArg some ?_, rfl⟩
            unfold qB
            split <;> first | rfl | (exfalso; omega)
          · refine q_iloadn C dX1_isSaid_76 rfl ?_
            refine q_iconst C dX1_isSaid_77 ?_
            refine q_icmp_ne C 85 dX1_isSaid_78 (by decide) (by first | assumption | omega | exact q_tin _ | exact q_bIn _) (by first | assumption | omega | exact q_tin _ | exact q_bIn _) (fun h78 => ?_) (fun h78 => ?_)
            · refine q_iconst C dX1_isSaid_85 ?_
              refine q_zret C' dX1_isSaid_86 (by first | omega | exact q_b01 _ | simp) ?_
              refine ⟨congrArg some ?_, rfl⟩
              unfold qB
              split <;> first | rfl | (exfalso; omega)
            · refine q_iconst C dX1_isSaid_81 ?_
              refine q_goto C (tgt := 86) dX1_isSaid_82 (by decide) ?_
              refine q_zret C' dX1_isSaid_86 (by first | omega | exact q_b01 _ | simp) ?_
              refine ⟨congrArg some ?_, rfl⟩
              unfold qB
              split <;> first | rfl | (exfalso; omega)
        · refine q_tsIn C (off := 44) 87 dX1_isSaid_43 (by decide) (by decide) (by decide) (by decide) (by decide) ?_
          refine q_iload C dX1_isSaid_87 rfl ?_
          refine q_if_ne C 100 dX1_isSaid_89 (by decide) (by first | assumption | omega | exact q_tin _ | exact q_bIn _) (fun h89 => ?_) (fun h89 => ?_)
          · refine q_iconst C dX1_isSaid_100 ?_
            refine q_zret C' dX1_isSaid_101 (by first | omega | exact q_b01 _ | simp) ?_
            refine ⟨congrArg some ?_, rfl⟩
            unfold qB
            split <;> first | rfl | (exfalso; omega)
          · refine q_iloadn C dX1_isSaid_92 rfl ?_
            refine q_if_ne C 100 dX1_isSaid_93 (by decide) (by first | assumption | omega | exact q_tin _ | exact q_bIn _) (fun h93 => ?_) (fun h93 => ?_)
            · refine q_iconst C dX1_isSaid_100 ?_
              refine q_zret C' dX1_isSaid_101 (by first | omega | exact q_b01 _ | simp) ?_
              refine ⟨congrArg some ?_, rfl⟩
              unfold qB
              split <;> first | rfl | (exfalso; omega)
            · refine q_iconst C dX1_isSaid_96 ?_
              refine q_goto C (tgt := 101) dX1_isSaid_97 (by decide) ?_
              refine q_zret C' dX1_isSaid_101 (by first | omega | exact q_b01 _ | simp) ?_
              refine ⟨congrArg some ?_, rfl⟩
              unfold qB
              split <;> first | rfl | (exfalso; omega)
      · refine q_iloadn C dX1_isSaid_29 rfl ?_
        refine q_iconst C dX1_isSaid_30 ?_
        refine q_iand C dX1_isSaid_31 ?_
        refine q_if_eq C 39 dX1_isSaid_32 (by decide) (by first | assumption | omega | exact q_tin _ | exact q_bIn _) (fun h32 => ?_) (fun h32 => ?_)
        · refine q_iconst C dX1_isSaid_39 ?_
          refine q_istore C dX1_isSaid_40 hn (by decide) rfl ?_
          refine q_iloadn C dX1_isSaid_42 rfl ?_
          by_cases ht43 : mn < 0 ∨ 2 < mn
          · refine q_tsOut C 102 dX1_isSaid_43 (by first | assumption | omega | exact q_tin _ | exact q_bIn _) ht43 (by decide) ?_
            refine q_iconst C dX1_isSaid_102 ?_
            refine q_zret C' dX1_isSaid_103 (by first | omega | exact q_b01 _ | simp) ?_
            refine ⟨congrArg some ?_, rfl⟩
            unfold qB
            split <;> first | rfl | (exfalso; omega)
          obtain rfl | rfl | rfl : mn = 0 ∨ mn = 1 ∨ mn = 2 := by omega
          · refine q_tsIn C (off := 25) 68 dX1_isSaid_43 (by decide) (by decide) (by decide) (by decide) (by decide) ?_
            refine q_iconst C dX1_isSaid_68 ?_
            refine q_zret C' dX1_isSaid_69 (by first | omega | exact q_b01 _ | simp) ?_
            refine ⟨congrArg some ?_, rfl⟩
            unfold qB
            split <;> first | rfl | (exfalso; omega)
          · refine q_tsIn C (off := 27) 70 dX1_isSaid_43 (by decide) (by decide) (by decide) (by decide) (by decide) ?_
            refine q_iloadn C dX1_isSaid_70 rfl ?_
            refine q_iconst C dX1_isSaid_71 ?_
            refine q_iand C dX1_isSaid_72 ?_
            refine q_if_eq C 81 dX1_isSaid_73 (by decide) (by first | assumption | omega | exact q_tin _ | exact q_bIn _) (fun h73 => ?_) (fun h73 => ?_)
            · refine q_iconst C dX1_isSaid_81 ?_
              refine q_goto C (tgt := 86) dX1_isSaid_82 (by decide) ?_
              refine q_zret C' dX1_isSaid_86 (by first | omega | exact q_b01 _ | simp) ?_
              refine ⟨congrArg some ?_, rfl⟩
              unfold qB
              split <;> first | rfl | (exfalso; omega)
            · refine q_iloadn C dX1_isSaid_76 rfl ?_
              refine q_iconst C dX1_isSaid_77 ?_
              refine q_icmp_ne C 85 dX1_isSaid_78 (by decide) (by first | assumption | omega | exact q_tin _ | exact q_bIn _) (by first | assumption | omega | exact q_tin _ | exact q_bIn _) (fun h78 => ?_) (fun h78 => ?_)
              · refine q_iconst C dX1_isSaid_85 ?_
                refine q_zret C' dX1_isSaid_86 (by first | omega | exact q_b01 _ | simp) ?_
                refine ⟨congrArg some ?_, rfl⟩
                unfold qB
                split <;> first | rfl | (exfalso; omega)
              · refine q_iconst C dX1_isSaid_81 ?_
                refine q_goto C (tgt := 86) dX1_isSaid_82 (by decide) ?_
                refine q_zret C' dX1_isSaid_86 (by first | omega | exact q_b01 _ | simp) ?_
                refine ⟨congrArg some ?_, rfl⟩
                unfold qB
                split <;> first | rfl | (exfalso; omega)
          · refine q_tsIn C (off := 44) 87 dX1_isSaid_43 (by decide) (by decide) (by decide) (by decide) (by decide) ?_
            refine q_iload C dX1_isSaid_87 rfl ?_
            refine q_if_ne C 100 dX1_isSaid_89 (by decide) (by first | assumption | omega | exact q_tin _ | exact q_bIn _) (fun h89 => ?_) (fun h89 => ?_)
            · refine q_iconst C dX1_isSaid_100 ?_
              refine q_zret C' dX1_isSaid_101 (by first | omega | exact q_b01 _ | simp) ?_
              refine ⟨congrArg some ?_, rfl⟩
              unfold qB
              split <;> first | rfl | (exfalso; omega)
            · refine q_iloadn C dX1_isSaid_92 rfl ?_
              refine q_if_ne C 100 dX1_isSaid_93 (by decide) (by first | assumption | omega | exact q_tin _ | exact q_bIn _) (fun h93 => ?_) (fun h93 => ?_)
              · refine q_iconst C dX1_isSaid_100 ?_
                refine q_zret C' dX1_isSaid_101 (by first | omega | exact q_b01 _ | simp) ?_
                refine ⟨congrArg some ?_, rfl⟩
                unfold qB
                split <;> first | rfl | (exfalso; omega)
              · refine q_iconst C dX1_isSaid_96 ?_
                refine q_goto C (tgt := 101) dX1_isSaid_97 (by decide) ?_
                refine q_zret C' dX1_isSaid_101 (by first | omega | exact q_b01 _ | simp) ?_
                refine ⟨congrArg some ?_, rfl⟩
                unfold qB
                split <;> first | rfl | (exfalso; omega)
        · refine q_iconst C dX1_isSaid_35 ?_
          refine q_goto C (tgt := 40) dX1_isSaid_36 (by decide) ?_
          refine q_istore C dX1_isSaid_40 hn (by decide) rfl ?_
          refine q_iloadn C dX1_isSaid_42 rfl ?_
          by_cases ht43 : mn < 0 ∨ 2 < mn
          · refine q_tsOut C 102 dX1_isSaid_43 (by first | assumption | omega | exact q_tin _ | exact q_bIn _) ht43 (by decide) ?_
            refine q_iconst C dX1_isSaid_102 ?_
            refine q_zret C' dX1_isSaid_103 (by first | omega | exact q_b01 _ | simp) ?_
            refine ⟨congrArg some ?_, rfl⟩
            unfold qB
            split <;> first | rfl | (exfalso; omega)
          obtain rfl | rfl | rfl : mn = 0 ∨ mn = 1 ∨ mn = 2 := by omega
          · refine q_tsIn C (off := 25) 68 dX1_isSaid_43 (by decide) (by decide) (by decide) (by decide) (by decide) ?_
            refine q_iconst C dX1_isSaid_68 ?_
            refine q_zret C' dX1_isSaid_69 (by first | omega | exact q_b01 _ | simp) ?_
            refine ⟨congrArg some ?_, rfl⟩
            unfold qB
            split <;> first | rfl | (exfalso; omega)
          · refine q_tsIn C (off := 27) 70 dX1_isSaid_43 (by decide) (by decide) (by decide) (by decide) (by decide) ?_
            refine q_iloadn C dX1_isSaid_70 rfl ?_
            refine q_iconst C dX1_isSaid_71 ?_
            refine q_iand C dX1_isSaid_72 ?_
            refine q_if_eq C 81 dX1_isSaid_73 (by decide) (by first | assumption | omega | exact q_tin _ | exact q_bIn _) (fun h73 => ?_) (fun h73 => ?_)
            · refine q_iconst C dX1_isSaid_81 ?_
              refine q_goto C (tgt := 86) dX1_isSaid_82 (by decide) ?_
              refine q_zret C' dX1_isSaid_86 (by first | omega | exact q_b01 _ | simp) ?_
              refine ⟨congrArg some ?_, rfl⟩
              unfold qB
              split <;> first | rfl | (exfalso; omega)
            · refine q_iloadn C dX1_isSaid_76 rfl ?_
              refine q_iconst C dX1_isSaid_77 ?_
              refine q_icmp_ne C 85 dX1_isSaid_78 (by decide) (by first | assumption | omega | exact q_tin _ | exact q_bIn _) (by first | assumption | omega | exact q_tin _ | exact q_bIn _) (fun h78 => ?_) (fun h78 => ?_)
              · refine q_iconst C dX1_isSaid_85 ?_
                refine q_zret C' dX1_isSaid_86 (by first | omega | exact q_b01 _ | simp) ?_
                refine ⟨congrArg some ?_, rfl⟩
                unfold qB
                split <;> first | rfl | (exfalso; omega)
              · refine q_iconst C dX1_isSaid_81 ?_
                refine q_goto C (tgt := 86) dX1_isSaid_82 (by decide) ?_
                refine q_zret C' dX1_isSaid_86 (by first | omega | exact q_b01 _ | simp) ?_
                refine ⟨congrArg some ?_, rfl⟩
                unfold qB
                split <;> first | rfl | (exfalso; omega)
          · refine q_tsIn C (off := 44) 87 dX1_isSaid_43 (by decide) (by decide) (by decide) (by decide) (by decide) ?_
            refine q_iload C dX1_isSaid_87 rfl ?_
            refine q_if_ne C 100 dX1_isSaid_89 (by decide) (by first | assumption | omega | exact q_tin _ | exact q_bIn _) (fun h89 => ?_) (fun h89 => ?_)
            · refine q_iconst C dX1_isSaid_100 ?_
              refine q_zret C' dX1_isSaid_101 (by first | omega | exact q_b01 _ | simp) ?_
              refine ⟨congrArg some ?_, rfl⟩
              unfold qB
              split <;> first | rfl | (exfalso; omega)
            · refine q_iloadn C dX1_isSaid_92 rfl ?_
              refine q_if_ne C 100 dX1_isSaid_93 (by decide) (by first | assumption | omega | exact q_tin _ | exact q_bIn _) (fun h93 => ?_) (fun h93 => ?_)
              · refine q_iconst C dX1_isSaid_100 ?_
                refine q_zret C' dX1_isSaid_101 (by first | omega | exact q_b01 _ | simp) ?_
                refine ⟨congrArg some ?_, rfl⟩
                unfold qB
                split <;> first | rfl | (exfalso; omega)
              · refine q_iconst C dX1_isSaid_96 ?_
                refine q_goto C (tgt := 101) dX1_isSaid_97 (by decide) ?_
                refine q_zret C' dX1_isSaid_101 (by first | omega | exact q_b01 _ | simp) ?_
                refine ⟨congrArg some ?_, rfl⟩
                unfold qB
                split <;> first | rfl | (exfalso; omega)
theorem dX1_countSaid_0 : decode cX1_countSaid 0 = .ok (.iconst 0, 1) := by decide +kernel
theorem dX1_countSaid_1 : decode cX1_countSaid 1 = .ok (.istore_n 1, 1) := by decide +kernel
theorem dX1_countSaid_2 : decode cX1_countSaid 2 = .ok (.iconst 0, 1) := by decide +kernel
theorem dX1_countSaid_3 : decode cX1_countSaid 3 = .ok (.istore_n 2, 1) := by decide +kernel
theorem dX1_countSaid_4 : decode cX1_countSaid 4 = .ok (.iload_n 2, 1) := by decide +kernel
theorem dX1_countSaid_5 : decode cX1_countSaid 5 = .ok (.bipush 48, 2) := by decide +kernel
theorem dX1_countSaid_7 : decode cX1_countSaid 7 = .ok (.if_icmp .ge 20, 3) := by decide +kernel
theorem dX1_countSaid_10 : decode cX1_countSaid 10 = .ok (.iload_n 0, 1) := by decide +kernel
theorem dX1_countSaid_11 : decode cX1_countSaid 11 = .ok (.iload_n 2, 1) := by decide +kernel
theorem dX1_countSaid_12 : decode cX1_countSaid 12 = .ok (.invokestatic 9, 3) := by decide +kernel
theorem dX1_countSaid_15 : decode cX1_countSaid 15 = .ok (.ifCond .eq 6, 3) := by decide +kernel
theorem dX1_countSaid_18 : decode cX1_countSaid 18 = .ok (.iinc 1 1, 3) := by decide +kernel
theorem dX1_countSaid_21 : decode cX1_countSaid 21 = .ok (.iinc 2 1, 3) := by decide +kernel
theorem dX1_countSaid_24 : decode cX1_countSaid 24 = .ok (.goto (-20), 3) := by decide +kernel
theorem dX1_countSaid_27 : decode cX1_countSaid 27 = .ok (.iload_n 1, 1) := by decide +kernel
theorem dX1_countSaid_28 : decode cX1_countSaid 28 = .ok (.ireturn, 1) := by decide +kernel
set_option maxRecDepth 4000 in
set_option maxHeartbeats 4000000 in
theorem m_X1_countSaid (l : Launch) (g : qGm) (M : qMem) {mn : Int} (hmn : qIn mn) : qOk l g 2 yX1_countSaid cX1_countSaid 3 (some .int) [qI mn] M (qEv (some (sSum (fun k => qB (sSaid mn k)) 48)) M) := by
  refine q_ok (by decide +kernel) (Nat.le_of_ble_eq_true rfl) (fun X C' hn => ?_)
  have C := C'.1
  refine q_iconst C dX1_countSaid_0 ?_
  refine q_istoren C dX1_countSaid_1 hn (by decide) rfl ?_
  refine q_iconst C dX1_countSaid_2 ?_
  refine q_istoren C dX1_countSaid_3 hn (by decide) rfl ?_
  have L4 : ∀ (n4 : Nat) (s : Int) (i : Int), 48 - i < (n4 : Int) → (0 ≤ i) → (i ≤ 48) → (s = sSum (fun k => qB (sSaid mn k)) i) → (0 ≤ s ∧ s ≤ i) → qV l g X M 4 [(0, qI mn), (1, qI s), (2, qI i)] [] := by
    intro n4
    induction n4 with
    | zero => intro s i hm4 h0 h1 hs hb; exfalso; first | omega | (simp at *; omega)
    | succ n4 ih4 =>
      intro s i hm4 h0 h1 hs hb
      refine q_iloadn C dX1_countSaid_4 rfl ?_
      refine q_bipush C dX1_countSaid_5 (by decide) ?_
      refine q_icmp_ge C 27 dX1_countSaid_7 (by decide) (by first | assumption | omega | exact q_tin _ | exact q_bIn _) (by first | assumption | omega | exact q_tin _ | exact q_bIn _) (fun h7 => ?_) (fun h7 => ?_)
      · refine q_iloadn C dX1_countSaid_27 rfl ?_
        refine q_iret C' dX1_countSaid_28 (by first | assumption | omega | exact q_tin _ | exact q_bIn _) ?_
        have : i = 48 := by omega
        subst this
        exact ⟨congrArg some hs, rfl⟩
      · refine q_iloadn C dX1_countSaid_10 rfl ?_
        refine q_iloadn C dX1_countSaid_11 rfl ?_
        refine cv_RX1_9 C (by decide) (m_X1_isSaid l g _ hmn (by omega)) dX1_countSaid_12 (Nat.le_of_ble_eq_true rfl) (fun r12 => ?_)
        refine q_ifeqB C 21 dX1_countSaid_15 (by decide) (fun h15 => ?_) (fun h15 => ?_)
        · refine q_iinc C dX1_countSaid_21 rfl hn (by decide) rfl ?_
          refine q_goto C (tgt := 4) dX1_countSaid_24 (by decide) ?_
          exact q_ls (by exact ⟨rfl, rfl, rfl, trivial⟩) (ih4 _ _ (by omega) (by omega) (by omega) (by rw [sSum_s _ (by omega)]; first | (rw [q_bT h15]; omega) | (rw [q_bF h15]; omega)) (by omega))
        · refine q_iinc C dX1_countSaid_18 rfl hn (by decide) rfl ?_
          refine q_iinc C dX1_countSaid_21 rfl hn (by decide) rfl ?_
          refine q_goto C (tgt := 4) dX1_countSaid_24 (by decide) ?_
          exact q_ls (by exact ⟨rfl, rfl, rfl, trivial⟩) (ih4 _ _ (by omega) (by omega) (by omega) (by rw [sSum_s _ (by omega)]; first | (rw [q_bT h15]; omega) | (rw [q_bF h15]; omega)) (by omega))
  exact q_ls (by exact ⟨rfl, rfl, rfl, trivial⟩) (L4 1000 _ _ (by omega) (by omega) (by omega) (by rfl) (by omega))
theorem dX1_partsLaid_0 : decode cX1_partsLaid 0 = .ok (.iconst 0, 1) := by decide +kernel
theorem dX1_partsLaid_1 : decode cX1_partsLaid 1 = .ok (.istore_n 1, 1) := by decide +kernel
theorem dX1_partsLaid_2 : decode cX1_partsLaid 2 = .ok (.iconst 0, 1) := by decide +kernel
theorem dX1_partsLaid_3 : decode cX1_partsLaid 3 = .ok (.istore_n 2, 1) := by decide +kernel
theorem dX1_partsLaid_4 : decode cX1_partsLaid 4 = .ok (.iload_n 2, 1) := by decide +kernel
theorem dX1_partsLaid_5 : decode cX1_partsLaid 5 = .ok (.iconst 5, 1) := by decide +kernel
theorem dX1_partsLaid_6 : decode cX1_partsLaid 6 = .ok (.if_icmp .ge 20, 3) := by decide +kernel
theorem dX1_partsLaid_9 : decode cX1_partsLaid 9 = .ok (.iload_n 0, 1) := by decide +kernel
theorem dX1_partsLaid_10 : decode cX1_partsLaid 10 = .ok (.iload_n 2, 1) := by decide +kernel
theorem dX1_partsLaid_11 : decode cX1_partsLaid 11 = .ok (.invokestatic 15, 3) := by decide +kernel
theorem dX1_partsLaid_14 : decode cX1_partsLaid 14 = .ok (.ifCond .eq 6, 3) := by decide +kernel
theorem dX1_partsLaid_17 : decode cX1_partsLaid 17 = .ok (.iinc 1 1, 3) := by decide +kernel
theorem dX1_partsLaid_20 : decode cX1_partsLaid 20 = .ok (.iinc 2 1, 3) := by decide +kernel
theorem dX1_partsLaid_23 : decode cX1_partsLaid 23 = .ok (.goto (-19), 3) := by decide +kernel
theorem dX1_partsLaid_26 : decode cX1_partsLaid 26 = .ok (.iload_n 1, 1) := by decide +kernel
theorem dX1_partsLaid_27 : decode cX1_partsLaid 27 = .ok (.ireturn, 1) := by decide +kernel
set_option maxRecDepth 4000 in
set_option maxHeartbeats 4000000 in
theorem m_X1_partsLaid (l : Launch) (g : qGm) (M : qMem) {a : Int} (ha : 0 ≤ a ∧ a < 48) : qOk l g 2 yX1_partsLaid cX1_partsLaid 3 (some .int) [qI a] M (qEv (some (sSum (fun k => qB (sPart a k ≠ 0)) 5)) M) := by
  refine q_ok (by decide +kernel) (Nat.le_of_ble_eq_true rfl) (fun X C' hn => ?_)
  have C := C'.1
  refine q_iconst C dX1_partsLaid_0 ?_
  refine q_istoren C dX1_partsLaid_1 hn (by decide) rfl ?_
  refine q_iconst C dX1_partsLaid_2 ?_
  refine q_istoren C dX1_partsLaid_3 hn (by decide) rfl ?_
  have L4 : ∀ (n4 : Nat) (s : Int) (i : Int), 5 - i < (n4 : Int) → (0 ≤ i) → (i ≤ 5) → (s = sSum (fun k => qB (sPart a k ≠ 0)) i) → (0 ≤ s ∧ s ≤ i) → qV l g X M 4 [(0, qI a), (1, qI s), (2, qI i)] [] := by
    intro n4
    induction n4 with
    | zero => intro s i hm4 h0 h1 hs hb; exfalso; first | omega | (simp at *; omega)
    | succ n4 ih4 =>
      intro s i hm4 h0 h1 hs hb
      refine q_iloadn C dX1_partsLaid_4 rfl ?_
      refine q_iconst C dX1_partsLaid_5 ?_
      refine q_icmp_ge C 26 dX1_partsLaid_6 (by decide) (by first | assumption | omega | exact q_tin _ | exact q_bIn _) (by first | assumption | omega | exact q_tin _ | exact q_bIn _) (fun h6 => ?_) (fun h6 => ?_)
      · refine q_iloadn C dX1_partsLaid_26 rfl ?_
        refine q_iret C' dX1_partsLaid_27 (by first | assumption | omega | exact q_tin _ | exact q_bIn _) ?_
        have : i = 5 := by omega
        subst this
        exact ⟨congrArg some hs, rfl⟩
      · refine q_iloadn C dX1_partsLaid_9 rfl ?_
        refine q_iloadn C dX1_partsLaid_10 rfl ?_
        refine cv_RX1_15 C (by decide) (m_X1_partOf l g _ ha (by omega)) dX1_partsLaid_11 (Nat.le_of_ble_eq_true rfl) (fun r11 => ?_)
        refine q_if_eq C 20 dX1_partsLaid_14 (by decide) (by first | assumption | omega | exact q_tin _ | exact q_bIn _) (fun h14 => ?_) (fun h14 => ?_)
        · refine q_iinc C dX1_partsLaid_20 rfl hn (by decide) rfl ?_
          refine q_goto C (tgt := 4) dX1_partsLaid_23 (by decide) ?_
          exact q_ls (by exact ⟨rfl, rfl, rfl, trivial⟩) (ih4 _ _ (by omega) (by omega) (by omega) (by rw [sSum_s _ (by omega)]; first | (rw [q_bT h14]; omega) | (rw [q_bF (by omega)]; omega)) (by omega))
        · refine q_iinc C dX1_partsLaid_17 rfl hn (by decide) rfl ?_
          refine q_iinc C dX1_partsLaid_20 rfl hn (by decide) rfl ?_
          refine q_goto C (tgt := 4) dX1_partsLaid_23 (by decide) ?_
          exact q_ls (by exact ⟨rfl, rfl, rfl, trivial⟩) (ih4 _ _ (by omega) (by omega) (by omega) (by rw [sSum_s _ (by omega)]; first | (rw [q_bT h14]; omega) | (rw [q_bF (by omega)]; omega)) (by omega))
  exact q_ls (by exact ⟨rfl, rfl, rfl, trivial⟩) (L4 1000 _ _ (by omega) (by omega) (by omega) (by rfl) (by omega))
theorem dX4_empty_0 : decode cX4_empty 0 = .ok (.aload_n 0, 1) := by decide +kernel
theorem dX4_empty_1 : decode cX4_empty 1 = .ok (.iconst 0, 1) := by decide +kernel
theorem dX4_empty_2 : decode cX4_empty 2 = .ok (.putfield 15, 3) := by decide +kernel
theorem dX4_empty_5 : decode cX4_empty 5 = .ok (.aload_n 0, 1) := by decide +kernel
theorem dX4_empty_6 : decode cX4_empty 6 = .ok (.iconst 0, 1) := by decide +kernel
theorem dX4_empty_7 : decode cX4_empty 7 = .ok (.putfield 19, 3) := by decide +kernel
theorem dX4_empty_10 : decode cX4_empty 10 = .ok (.return_, 1) := by decide +kernel
set_option maxRecDepth 4000 in
set_option maxHeartbeats 4000000 in
theorem m_X4_empty (l : Launch) (g : qGm) (M : qMem) {u : Nat} (hu : u < 33) : qOk l g 1 yX4_empty cX4_empty 1 none [qR g 17 u] M (qEv none (qUp (qUp M 17 u 1 0) 17 u 2 0)) := by
  refine q_ok (by decide +kernel) (Nat.le_of_ble_eq_true rfl) (fun X C' hn => ?_)
  have C := C'.1
  refine q_aloadn C dX4_empty_0 rfl ?_
  refine q_iconst C dX4_empty_1 ?_
  refine pf_RX4_15 C (by first | assumption | decide | omega) (by first | assumption | omega | exact q_tin _ | exact q_bIn _) dX4_empty_2 ?_
  refine q_aloadn C dX4_empty_5 rfl ?_
  refine q_iconst C dX4_empty_6 ?_
  refine pf_RX4_19 C (by first | assumption | decide | omega) (by first | assumption | omega | exact q_tin _ | exact q_bIn _) dX4_empty_7 ?_
  refine q_vret C' dX4_empty_10 ?_
  exact ⟨rfl, rfl⟩
theorem dX4_become_0 : decode cX4_become 0 = .ok (.aload_n 0, 1) := by decide +kernel
theorem dX4_become_1 : decode cX4_become 1 = .ok (.aload_n 1, 1) := by decide +kernel
theorem dX4_become_2 : decode cX4_become 2 = .ok (.getfield 15, 3) := by decide +kernel
theorem dX4_become_5 : decode cX4_become 5 = .ok (.putfield 15, 3) := by decide +kernel
theorem dX4_become_8 : decode cX4_become 8 = .ok (.aload_n 0, 1) := by decide +kernel
theorem dX4_become_9 : decode cX4_become 9 = .ok (.aload_n 1, 1) := by decide +kernel
theorem dX4_become_10 : decode cX4_become 10 = .ok (.getfield 19, 3) := by decide +kernel
theorem dX4_become_13 : decode cX4_become 13 = .ok (.putfield 19, 3) := by decide +kernel
theorem dX4_become_16 : decode cX4_become 16 = .ok (.aload_n 1, 1) := by decide +kernel
theorem dX4_become_17 : decode cX4_become 17 = .ok (.getfield 11, 3) := by decide +kernel
theorem dX4_become_20 : decode cX4_become 20 = .ok (.iconst 0, 1) := by decide +kernel
theorem dX4_become_21 : decode cX4_become 21 = .ok (.aload_n 0, 1) := by decide +kernel
theorem dX4_become_22 : decode cX4_become 22 = .ok (.getfield 11, 3) := by decide +kernel
theorem dX4_become_25 : decode cX4_become 25 = .ok (.iconst 0, 1) := by decide +kernel
theorem dX4_become_26 : decode cX4_become 26 = .ok (.bipush 100, 2) := by decide +kernel
theorem dX4_become_28 : decode cX4_become 28 = .ok (.invokestatic 28, 3) := by decide +kernel
theorem dX4_become_31 : decode cX4_become 31 = .ok (.return_, 1) := by decide +kernel
set_option maxRecDepth 4000 in
set_option maxHeartbeats 4000000 in
theorem m_X4_become (l : Launch) (g : qGm) (M : qMem) {u : Nat} (hu : u < 33) {w : Nat} (hw : w < 33) (hne : ¬ w = u) : qOk l g 1 yX4_become cX4_become 2 none [qR g 17 u, qR g 17 w] M (qEv none (qSet (qUp (qUp M 17 u 1 (M 17 w 1)) 17 u 2 (M 17 w 2)) 18 u (M 18 w))) := by
  refine q_ok (by decide +kernel) (Nat.le_of_ble_eq_true rfl) (fun X C' hn => ?_)
  have C := C'.1
  refine q_aloadn C dX4_become_0 rfl ?_
  refine q_aloadn C dX4_become_1 rfl ?_
  refine gf_RX4_15 C (by first | assumption | decide | omega) dX4_become_2 (fun r2 => ?_)
  refine pf_RX4_15 C (by first | assumption | decide | omega) (by first | assumption | omega | exact q_tin _ | exact q_bIn _) dX4_become_5 ?_
  refine q_aloadn C dX4_become_8 rfl ?_
  refine q_aloadn C dX4_become_9 rfl ?_
  refine gf_RX4_19 C (by first | assumption | decide | omega) dX4_become_10 (fun r10 => ?_)
  try simp only [q_rd, q_rdS, ↓reduceIte, if_true, if_false, eq_self, Nat.reduceEqDiff, Int.reduceEq, Int.reduceNeg, reduceCtorEq, if_neg hne] at r10 ⊢
  refine pf_RX4_19 C (by first | assumption | decide | omega) (by first | assumption | omega | exact q_tin _ | exact q_bIn _) dX4_become_13 ?_
  refine q_aloadn C dX4_become_16 rfl ?_
  refine gf_RX4_11 C (by first | assumption | decide | omega) dX4_become_17 ?_
  refine q_iconst C dX4_become_20 ?_
  refine q_aloadn C dX4_become_21 rfl ?_
  refine gf_RX4_11 C (by first | assumption | decide | omega) dX4_become_22 ?_
  refine q_iconst C dX4_become_25 ?_
  refine q_bipush C dX4_become_26 (by decide) ?_
  refine q_copy C (by first | assumption | decide) (by first | assumption | decide) rfl (fun _ => rfl) (by decide) q_ml_RX4_28 q_nat q_sta q_sin (by decide) (Nat.le_of_ble_eq_true rfl) dX4_become_28 ?_
  simp only [q_rdR, q_rdSR, q_rd, q_rdS, ↓reduceIte, if_true, if_false, eq_self, Nat.reduceEqDiff, Int.reduceEq, Int.reduceNeg, reduceCtorEq, if_neg hne]
  refine q_vret C' dX4_become_31 ?_
  exact ⟨rfl, rfl⟩
theorem dX4_look_0 : decode cX4_look 0 = .ok (.iload_n 1, 1) := by decide +kernel
theorem dX4_look_1 : decode cX4_look 1 = .ok (.ifCond .lt 11, 3) := by decide +kernel
theorem dX4_look_4 : decode cX4_look 4 = .ok (.iload_n 1, 1) := by decide +kernel
theorem dX4_look_5 : decode cX4_look 5 = .ok (.aload_n 0, 1) := by decide +kernel
theorem dX4_look_6 : decode cX4_look 6 = .ok (.getfield 19, 3) := by decide +kernel
theorem dX4_look_9 : decode cX4_look 9 = .ok (.if_icmp .lt 5, 3) := by decide +kernel
theorem dX4_look_12 : decode cX4_look 12 = .ok (.iconst (-1), 1) := by decide +kernel
theorem dX4_look_13 : decode cX4_look 13 = .ok (.ireturn, 1) := by decide +kernel
theorem dX4_look_14 : decode cX4_look 14 = .ok (.aload_n 0, 1) := by decide +kernel
theorem dX4_look_15 : decode cX4_look 15 = .ok (.getfield 15, 3) := by decide +kernel
theorem dX4_look_18 : decode cX4_look 18 = .ok (.iload_n 1, 1) := by decide +kernel
theorem dX4_look_19 : decode cX4_look 19 = .ok (.if_icmp .lt 12, 3) := by decide +kernel
theorem dX4_look_22 : decode cX4_look 22 = .ok (.aload_n 0, 1) := by decide +kernel
theorem dX4_look_23 : decode cX4_look 23 = .ok (.getfield 15, 3) := by decide +kernel
theorem dX4_look_26 : decode cX4_look 26 = .ok (.iload_n 1, 1) := by decide +kernel
theorem dX4_look_27 : decode cX4_look 27 = .ok (.isub, 1) := by decide +kernel
theorem dX4_look_28 : decode cX4_look 28 = .ok (.goto 12, 3) := by decide +kernel
theorem dX4_look_31 : decode cX4_look 31 = .ok (.aload_n 0, 1) := by decide +kernel
theorem dX4_look_32 : decode cX4_look 32 = .ok (.getfield 15, 3) := by decide +kernel
theorem dX4_look_35 : decode cX4_look 35 = .ok (.iload_n 1, 1) := by decide +kernel
theorem dX4_look_36 : decode cX4_look 36 = .ok (.isub, 1) := by decide +kernel
theorem dX4_look_37 : decode cX4_look 37 = .ok (.bipush 20, 2) := by decide +kernel
theorem dX4_look_39 : decode cX4_look 39 = .ok (.iadd, 1) := by decide +kernel
theorem dX4_look_40 : decode cX4_look 40 = .ok (.istore_n 3, 1) := by decide +kernel
theorem dX4_look_41 : decode cX4_look 41 = .ok (.aload_n 0, 1) := by decide +kernel
theorem dX4_look_42 : decode cX4_look 42 = .ok (.getfield 11, 3) := by decide +kernel
theorem dX4_look_45 : decode cX4_look 45 = .ok (.iload_n 3, 1) := by decide +kernel
theorem dX4_look_46 : decode cX4_look 46 = .ok (.iconst 5, 1) := by decide +kernel
theorem dX4_look_47 : decode cX4_look 47 = .ok (.imul, 1) := by decide +kernel
theorem dX4_look_48 : decode cX4_look 48 = .ok (.iload_n 2, 1) := by decide +kernel
theorem dX4_look_49 : decode cX4_look 49 = .ok (.iadd, 1) := by decide +kernel
theorem dX4_look_50 : decode cX4_look 50 = .ok (.iaload, 1) := by decide +kernel
theorem dX4_look_51 : decode cX4_look 51 = .ok (.ireturn, 1) := by decide +kernel
set_option maxRecDepth 4000 in
set_option maxHeartbeats 4000000 in
theorem m_X4_look (l : Launch) (g : qGm) (M : qMem) {u : Nat} (hu : u < 33) {i k : Int} (hi : qIn i) (hk : 0 ≤ k ∧ k < 5) (hs : 0 ≤ M 17 u 2 ∧ M 17 u 2 ≤ 20) (hnw : 0 ≤ M 17 u 1 ∧ M 17 u 1 < 20) : qOk l g 1 yX4_look cX4_look 4 (some .int) [qR g 17 u, qI i, qI k] M (qEv (some (if 0 ≤ i ∧ i < M 17 u 2 then M 18 u ((if i ≤ M 17 u 1 then M 17 u 1 - i else M 17 u 1 - i + 20) * 5 + k) else -1)) M) := by
  refine q_ok (by decide +kernel) (Nat.le_of_ble_eq_true rfl) (fun X C' hn => ?_)
  have C := C'.1
  refine q_iloadn C dX4_look_0 rfl ?_
  refine q_if_lt C 12 dX4_look_1 (by decide) (by first | assumption | omega | exact q_tin _ | exact q_bIn _) (fun h1 => ?_) (fun h1 => ?_)
  · refine q_iconst C dX4_look_12 ?_
    refine q_iret C' dX4_look_13 (by first | assumption | omega | exact q_tin _ | exact q_bIn _) ?_
    refine ⟨congrArg some ?_, rfl⟩
    first | (rw [if_pos (by omega)]; first | rw [if_pos (by omega)] | rw [if_neg (by omega)]) | (rw [if_neg (by omega)])
  · refine q_iloadn C dX4_look_4 rfl ?_
    refine q_aloadn C dX4_look_5 rfl ?_
    refine gf_RX4_19 C (by first | assumption | decide | omega) dX4_look_6 (fun r6 => ?_)
    refine q_icmp_lt C 14 dX4_look_9 (by decide) (by first | assumption | omega | exact q_tin _ | exact q_bIn _) (by first | assumption | omega | exact q_tin _ | exact q_bIn _) (fun h9 => ?_) (fun h9 => ?_)
    · refine q_aloadn C dX4_look_14 rfl ?_
      refine gf_RX4_15 C (by first | assumption | decide | omega) dX4_look_15 (fun r15 => ?_)
      refine q_iloadn C dX4_look_18 rfl ?_
      refine q_icmp_lt C 31 dX4_look_19 (by decide) (by first | assumption | omega | exact q_tin _ | exact q_bIn _) (by first | assumption | omega | exact q_tin _ | exact q_bIn _) (fun h19 => ?_) (fun h19 => ?_)
      · refine q_aloadn C dX4_look_31 rfl ?_
        refine gf_RX4_15 C (by first | assumption | decide | omega) dX4_look_32 (fun r32 => ?_)
        refine q_iloadn C dX4_look_35 rfl ?_
        refine q_isub C dX4_look_36 ?_
        refine q_bipush C dX4_look_37 (by decide) ?_
        refine q_iadd C dX4_look_39 ?_
        refine q_istoren C dX4_look_40 hn (by decide) rfl ?_
        refine q_aloadn C dX4_look_41 rfl ?_
        refine gf_RX4_11 C (by first | assumption | decide | omega) dX4_look_42 ?_
        refine q_iloadn C dX4_look_45 rfl ?_
        refine q_iconst C dX4_look_46 ?_
        refine q_imul C dX4_look_47 ?_
        refine q_iloadn C dX4_look_48 rfl ?_
        refine q_iadd C dX4_look_49 ?_
        refine q_iald C (by first | assumption | decide | omega) rfl dX4_look_50 (by omega) (by omega) (by decide) (fun r50 => ?_)
        refine q_iret C' dX4_look_51 (by first | assumption | omega | exact q_tin _ | exact q_bIn _) ?_
        refine ⟨congrArg some ?_, rfl⟩
        first | (rw [if_pos (by omega)]; first | rw [if_pos (by omega)] | rw [if_neg (by omega)]) | (rw [if_neg (by omega)])
      · refine q_aloadn C dX4_look_22 rfl ?_
        refine gf_RX4_15 C (by first | assumption | decide | omega) dX4_look_23 (fun r23 => ?_)
        refine q_iloadn C dX4_look_26 rfl ?_
        refine q_isub C dX4_look_27 ?_
        refine q_goto C (tgt := 40) dX4_look_28 (by decide) ?_
        refine q_istoren C dX4_look_40 hn (by decide) rfl ?_
        refine q_aloadn C dX4_look_41 rfl ?_
        refine gf_RX4_11 C (by first | assumption | decide | omega) dX4_look_42 ?_
        refine q_iloadn C dX4_look_45 rfl ?_
        refine q_iconst C dX4_look_46 ?_
        refine q_imul C dX4_look_47 ?_
        refine q_iloadn C dX4_look_48 rfl ?_
        refine q_iadd C dX4_look_49 ?_
        refine q_iald C (by first | assumption | decide | omega) rfl dX4_look_50 (by omega) (by omega) (by decide) (fun r50 => ?_)
        refine q_iret C' dX4_look_51 (by first | assumption | omega | exact q_tin _ | exact q_bIn _) ?_
        refine ⟨congrArg some ?_, rfl⟩
        first | (rw [if_pos (by omega)]; first | rw [if_pos (by omega)] | rw [if_neg (by omega)]) | (rw [if_neg (by omega)])
    · refine q_iconst C dX4_look_12 ?_
      refine q_iret C' dX4_look_13 (by first | assumption | omega | exact q_tin _ | exact q_bIn _) ?_
      refine ⟨congrArg some ?_, rfl⟩
      first | (rw [if_pos (by omega)]; first | rw [if_pos (by omega)] | rw [if_neg (by omega)]) | (rw [if_neg (by omega)])
/-- the log behind one more visit -/
def xLog (M : qMem) (u : Nat) (dy c h a r : Int) : qMem :=
  let n := if M 17 u 1 < 19 then M 17 u 1 + 1 else 0
  qUp (qUp (qUp (qUp (qUp (qUp (qUp M 17 u 1 n) 17 u 2 (sMin (M 17 u 2 + 1) 20)) 18 u (n * 5) dy) 18 u (n * 5 + 1) c) 18 u (n * 5 + 2) h) 18 u (n * 5 + 3) a) 18 u (n * 5 + 4) r
theorem dX4_append_0 : decode cX4_append 0 = .ok (.aload_n 0, 1) := by decide +kernel
theorem dX4_append_1 : decode cX4_append 1 = .ok (.aload_n 0, 1) := by decide +kernel
theorem dX4_append_2 : decode cX4_append 2 = .ok (.getfield 15, 3) := by decide +kernel
theorem dX4_append_5 : decode cX4_append 5 = .ok (.bipush 19, 2) := by decide +kernel
theorem dX4_append_7 : decode cX4_append 7 = .ok (.if_icmp .ge 12, 3) := by decide +kernel
theorem dX4_append_10 : decode cX4_append 10 = .ok (.aload_n 0, 1) := by decide +kernel
theorem dX4_append_11 : decode cX4_append 11 = .ok (.getfield 15, 3) := by decide +kernel
theorem dX4_append_14 : decode cX4_append 14 = .ok (.iconst 1, 1) := by decide +kernel
theorem dX4_append_15 : decode cX4_append 15 = .ok (.iadd, 1) := by decide +kernel
theorem dX4_append_16 : decode cX4_append 16 = .ok (.goto 4, 3) := by decide +kernel
theorem dX4_append_19 : decode cX4_append 19 = .ok (.iconst 0, 1) := by decide +kernel
theorem dX4_append_20 : decode cX4_append 20 = .ok (.putfield 15, 3) := by decide +kernel
theorem dX4_append_23 : decode cX4_append 23 = .ok (.aload_n 0, 1) := by decide +kernel
theorem dX4_append_24 : decode cX4_append 24 = .ok (.aload_n 0, 1) := by decide +kernel
theorem dX4_append_25 : decode cX4_append 25 = .ok (.getfield 19, 3) := by decide +kernel
theorem dX4_append_28 : decode cX4_append 28 = .ok (.iconst 1, 1) := by decide +kernel
theorem dX4_append_29 : decode cX4_append 29 = .ok (.iadd, 1) := by decide +kernel
theorem dX4_append_30 : decode cX4_append 30 = .ok (.bipush 20, 2) := by decide +kernel
theorem dX4_append_32 : decode cX4_append 32 = .ok (.invokestatic 22, 3) := by decide +kernel
theorem dX4_append_35 : decode cX4_append 35 = .ok (.putfield 19, 3) := by decide +kernel
theorem dX4_append_38 : decode cX4_append 38 = .ok (.aload_n 0, 1) := by decide +kernel
theorem dX4_append_39 : decode cX4_append 39 = .ok (.getfield 15, 3) := by decide +kernel
theorem dX4_append_42 : decode cX4_append 42 = .ok (.iconst 5, 1) := by decide +kernel
theorem dX4_append_43 : decode cX4_append 43 = .ok (.imul, 1) := by decide +kernel
theorem dX4_append_44 : decode cX4_append 44 = .ok (.istore 6, 2) := by decide +kernel
theorem dX4_append_46 : decode cX4_append 46 = .ok (.aload_n 0, 1) := by decide +kernel
theorem dX4_append_47 : decode cX4_append 47 = .ok (.getfield 11, 3) := by decide +kernel
theorem dX4_append_50 : decode cX4_append 50 = .ok (.iload 6, 2) := by decide +kernel
theorem dX4_append_52 : decode cX4_append 52 = .ok (.iload_n 1, 1) := by decide +kernel
theorem dX4_append_53 : decode cX4_append 53 = .ok (.iastore, 1) := by decide +kernel
theorem dX4_append_54 : decode cX4_append 54 = .ok (.aload_n 0, 1) := by decide +kernel
theorem dX4_append_55 : decode cX4_append 55 = .ok (.getfield 11, 3) := by decide +kernel
theorem dX4_append_58 : decode cX4_append 58 = .ok (.iload 6, 2) := by decide +kernel
theorem dX4_append_60 : decode cX4_append 60 = .ok (.iconst 1, 1) := by decide +kernel
theorem dX4_append_61 : decode cX4_append 61 = .ok (.iadd, 1) := by decide +kernel
theorem dX4_append_62 : decode cX4_append 62 = .ok (.iload_n 2, 1) := by decide +kernel
theorem dX4_append_63 : decode cX4_append 63 = .ok (.iastore, 1) := by decide +kernel
theorem dX4_append_64 : decode cX4_append 64 = .ok (.aload_n 0, 1) := by decide +kernel
theorem dX4_append_65 : decode cX4_append 65 = .ok (.getfield 11, 3) := by decide +kernel
theorem dX4_append_68 : decode cX4_append 68 = .ok (.iload 6, 2) := by decide +kernel
theorem dX4_append_70 : decode cX4_append 70 = .ok (.iconst 2, 1) := by decide +kernel
theorem dX4_append_71 : decode cX4_append 71 = .ok (.iadd, 1) := by decide +kernel
theorem dX4_append_72 : decode cX4_append 72 = .ok (.iload_n 3, 1) := by decide +kernel
theorem dX4_append_73 : decode cX4_append 73 = .ok (.iastore, 1) := by decide +kernel
theorem dX4_append_74 : decode cX4_append 74 = .ok (.aload_n 0, 1) := by decide +kernel
theorem dX4_append_75 : decode cX4_append 75 = .ok (.getfield 11, 3) := by decide +kernel
theorem dX4_append_78 : decode cX4_append 78 = .ok (.iload 6, 2) := by decide +kernel
theorem dX4_append_80 : decode cX4_append 80 = .ok (.iconst 3, 1) := by decide +kernel
theorem dX4_append_81 : decode cX4_append 81 = .ok (.iadd, 1) := by decide +kernel
theorem dX4_append_82 : decode cX4_append 82 = .ok (.iload 4, 2) := by decide +kernel
theorem dX4_append_84 : decode cX4_append 84 = .ok (.iastore, 1) := by decide +kernel
theorem dX4_append_85 : decode cX4_append 85 = .ok (.aload_n 0, 1) := by decide +kernel
theorem dX4_append_86 : decode cX4_append 86 = .ok (.getfield 11, 3) := by decide +kernel
theorem dX4_append_89 : decode cX4_append 89 = .ok (.iload 6, 2) := by decide +kernel
theorem dX4_append_91 : decode cX4_append 91 = .ok (.iconst 4, 1) := by decide +kernel
theorem dX4_append_92 : decode cX4_append 92 = .ok (.iadd, 1) := by decide +kernel
theorem dX4_append_93 : decode cX4_append 93 = .ok (.iload 5, 2) := by decide +kernel
theorem dX4_append_95 : decode cX4_append 95 = .ok (.iastore, 1) := by decide +kernel
theorem dX4_append_96 : decode cX4_append 96 = .ok (.return_, 1) := by decide +kernel
set_option maxRecDepth 4000 in
set_option maxHeartbeats 4000000 in
theorem m_X4_append (l : Launch) (g : qGm) (M : qMem) {u : Nat} (hu : u < 33) {dy c h a r : Int} (hdy : qIn dy) (hc : qIn c) (hh : qIn h) (ha : qIn a) (hr : qIn r) (hs : 0 ≤ M 17 u 2 ∧ M 17 u 2 ≤ 20) (hnw : 0 ≤ M 17 u 1 ∧ M 17 u 1 < 20) : qOk l g 2 yX4_append cX4_append 7 none [qR g 17 u, qI dy, qI c, qI h, qI a, qI r] M (qEv none (xLog M u dy c h a r)) := by
  refine q_ok (by decide +kernel) (Nat.le_of_ble_eq_true rfl) (fun X C' hn => ?_)
  have C := C'.1
  refine q_aloadn C dX4_append_0 rfl ?_
  refine q_aloadn C dX4_append_1 rfl ?_
  refine gf_RX4_15 C (by first | assumption | decide | omega) dX4_append_2 (fun r2 => ?_)
  refine q_bipush C dX4_append_5 (by decide) ?_
  refine q_icmp_ge C 19 dX4_append_7 (by decide) (by first | assumption | omega | exact q_tin _ | exact q_bIn _) (by first | assumption | omega | exact q_tin _ | exact q_bIn _) (fun h7 => ?_) (fun h7 => ?_)
  · refine q_iconst C dX4_append_19 ?_
    refine pf_RX4_15 C (by first | assumption | decide | omega) (by first | assumption | omega | exact q_tin _ | exact q_bIn _) dX4_append_20 ?_
    refine q_aloadn C dX4_append_23 rfl ?_
    refine q_aloadn C dX4_append_24 rfl ?_
    refine gf_RX4_19 C (by first | assumption | decide | omega) dX4_append_25 (fun r25 => ?_)
    try simp only [q_rd, q_rdS, ↓reduceIte, if_true, if_false, eq_self, Nat.reduceEqDiff, Int.reduceEq, Int.reduceNeg, reduceCtorEq] at r25 ⊢
    refine q_iconst C dX4_append_28 ?_
    refine q_iadd C dX4_append_29 ?_
    refine q_bipush C dX4_append_30 (by decide) ?_
    refine q_mmin C q_ml_RX4_22 (by first | assumption | omega | exact q_tin _ | exact q_bIn _) (by first | assumption | omega | exact q_tin _ | exact q_bIn _) (by decide) (Nat.le_of_ble_eq_true rfl) dX4_append_32 (fun r32 => ?_)
    refine pf_RX4_19 C (by first | assumption | decide | omega) (by first | assumption | omega | exact q_tin _ | exact q_bIn _) dX4_append_35 ?_
    refine q_aloadn C dX4_append_38 rfl ?_
    refine gf_RX4_15 C (by first | assumption | decide | omega) dX4_append_39 (fun r39 => ?_)
    try simp only [q_rd, q_rdS, ↓reduceIte, if_true, if_false, eq_self, Nat.reduceEqDiff, Int.reduceEq, Int.reduceNeg, reduceCtorEq] at r39 ⊢
    refine q_iconst C dX4_append_42 ?_
    refine q_imul C dX4_append_43 ?_
    refine q_istore C dX4_append_44 hn (by decide) rfl ?_
    refine q_aloadn C dX4_append_46 rfl ?_
    refine gf_RX4_11 C (by first | assumption | decide | omega) dX4_append_47 ?_
    refine q_iload C dX4_append_50 rfl ?_
    refine q_iloadn C dX4_append_52 rfl ?_
    refine q_iast C (by first | assumption | decide | omega) (fun _ => rfl) dX4_append_53 (by omega) (by omega) (by decide) (by first | assumption | omega | exact q_tin _ | exact q_bIn _) ?_
    refine q_aloadn C dX4_append_54 rfl ?_
    refine gf_RX4_11 C (by first | assumption | decide | omega) dX4_append_55 ?_
    refine q_iload C dX4_append_58 rfl ?_
    refine q_iconst C dX4_append_60 ?_
    refine q_iadd C dX4_append_61 ?_
    refine q_iloadn C dX4_append_62 rfl ?_
    refine q_iast C (by first | assumption | decide | omega) (fun _ => rfl) dX4_append_63 (by omega) (by omega) (by decide) (by first | assumption | omega | exact q_tin _ | exact q_bIn _) ?_
    refine q_aloadn C dX4_append_64 rfl ?_
    refine gf_RX4_11 C (by first | assumption | decide | omega) dX4_append_65 ?_
    refine q_iload C dX4_append_68 rfl ?_
    refine q_iconst C dX4_append_70 ?_
    refine q_iadd C dX4_append_71 ?_
    refine q_iloadn C dX4_append_72 rfl ?_
    refine q_iast C (by first | assumption | decide | omega) (fun _ => rfl) dX4_append_73 (by omega) (by omega) (by decide) (by first | assumption | omega | exact q_tin _ | exact q_bIn _) ?_
    refine q_aloadn C dX4_append_74 rfl ?_
    refine gf_RX4_11 C (by first | assumption | decide | omega) dX4_append_75 ?_
    refine q_iload C dX4_append_78 rfl ?_
    refine q_iconst C dX4_append_80 ?_
    refine q_iadd C dX4_append_81 ?_
    refine q_iload C dX4_append_82 rfl ?_
    refine q_iast C (by first | assumption | decide | omega) (fun _ => rfl) dX4_append_84 (by omega) (by omega) (by decide) (by first | assumption | omega | exact q_tin _ | exact q_bIn _) ?_
    refine q_aloadn C dX4_append_85 rfl ?_
    refine gf_RX4_11 C (by first | assumption | decide | omega) dX4_append_86 ?_
    refine q_iload C dX4_append_89 rfl ?_
    refine q_iconst C dX4_append_91 ?_
    refine q_iadd C dX4_append_92 ?_
    refine q_iload C dX4_append_93 rfl ?_
    refine q_iast C (by first | assumption | decide | omega) (fun _ => rfl) dX4_append_95 (by omega) (by omega) (by decide) (by first | assumption | omega | exact q_tin _ | exact q_bIn _) ?_
    refine q_vret C' dX4_append_96 ?_
    refine ⟨rfl, ?_⟩
    unfold xLog
    first | rw [if_pos (by omega)] | rw [if_neg (by omega)]
  · refine q_aloadn C dX4_append_10 rfl ?_
    refine gf_RX4_15 C (by first | assumption | decide | omega) dX4_append_11 (fun r11 => ?_)
    refine q_iconst C dX4_append_14 ?_
    refine q_iadd C dX4_append_15 ?_
    refine q_goto C (tgt := 20) dX4_append_16 (by decide) ?_
    refine pf_RX4_15 C (by first | assumption | decide | omega) (by first | assumption | omega | exact q_tin _ | exact q_bIn _) dX4_append_20 ?_
    refine q_aloadn C dX4_append_23 rfl ?_
    refine q_aloadn C dX4_append_24 rfl ?_
    refine gf_RX4_19 C (by first | assumption | decide | omega) dX4_append_25 (fun r25 => ?_)
    try simp only [q_rd, q_rdS, ↓reduceIte, if_true, if_false, eq_self, Nat.reduceEqDiff, Int.reduceEq, Int.reduceNeg, reduceCtorEq] at r25 ⊢
    refine q_iconst C dX4_append_28 ?_
    refine q_iadd C dX4_append_29 ?_
    refine q_bipush C dX4_append_30 (by decide) ?_
    refine q_mmin C q_ml_RX4_22 (by first | assumption | omega | exact q_tin _ | exact q_bIn _) (by first | assumption | omega | exact q_tin _ | exact q_bIn _) (by decide) (Nat.le_of_ble_eq_true rfl) dX4_append_32 (fun r32 => ?_)
    refine pf_RX4_19 C (by first | assumption | decide | omega) (by first | assumption | omega | exact q_tin _ | exact q_bIn _) dX4_append_35 ?_
    refine q_aloadn C dX4_append_38 rfl ?_
    refine gf_RX4_15 C (by first | assumption | decide | omega) dX4_append_39 (fun r39 => ?_)
    try simp only [q_rd, q_rdS, ↓reduceIte, if_true, if_false, eq_self, Nat.reduceEqDiff, Int.reduceEq, Int.reduceNeg, reduceCtorEq] at r39 ⊢
    refine q_iconst C dX4_append_42 ?_
    refine q_imul C dX4_append_43 ?_
    refine q_istore C dX4_append_44 hn (by decide) rfl ?_
    refine q_aloadn C dX4_append_46 rfl ?_
    refine gf_RX4_11 C (by first | assumption | decide | omega) dX4_append_47 ?_
    refine q_iload C dX4_append_50 rfl ?_
    refine q_iloadn C dX4_append_52 rfl ?_
    refine q_iast C (by first | assumption | decide | omega) (fun _ => rfl) dX4_append_53 (by omega) (by omega) (by decide) (by first | assumption | omega | exact q_tin _ | exact q_bIn _) ?_
    refine q_aloadn C dX4_append_54 rfl ?_
    refine gf_RX4_11 C (by first | assumption | decide | omega) dX4_append_55 ?_
    refine q_iload C dX4_append_58 rfl ?_
    refine q_iconst C dX4_append_60 ?_
    refine q_iadd C dX4_append_61 ?_
    refine q_iloadn C dX4_append_62 rfl ?_
    refine q_iast C (by first | assumption | decide | omega) (fun _ => rfl) dX4_append_63 (by omega) (by omega) (by decide) (by first | assumption | omega | exact q_tin _ | exact q_bIn _) ?_
    refine q_aloadn C dX4_append_64 rfl ?_
    refine gf_RX4_11 C (by first | assumption | decide | omega) dX4_append_65 ?_
    refine q_iload C dX4_append_68 rfl ?_
    refine q_iconst C dX4_append_70 ?_
    refine q_iadd C dX4_append_71 ?_
    refine q_iloadn C dX4_append_72 rfl ?_
    refine q_iast C (by first | assumption | decide | omega) (fun _ => rfl) dX4_append_73 (by omega) (by omega) (by decide) (by first | assumption | omega | exact q_tin _ | exact q_bIn _) ?_
    refine q_aloadn C dX4_append_74 rfl ?_
    refine gf_RX4_11 C (by first | assumption | decide | omega) dX4_append_75 ?_
    refine q_iload C dX4_append_78 rfl ?_
    refine q_iconst C dX4_append_80 ?_
    refine q_iadd C dX4_append_81 ?_
    refine q_iload C dX4_append_82 rfl ?_
    refine q_iast C (by first | assumption | decide | omega) (fun _ => rfl) dX4_append_84 (by omega) (by omega) (by decide) (by first | assumption | omega | exact q_tin _ | exact q_bIn _) ?_
    refine q_aloadn C dX4_append_85 rfl ?_
    refine gf_RX4_11 C (by first | assumption | decide | omega) dX4_append_86 ?_
    refine q_iload C dX4_append_89 rfl ?_
    refine q_iconst C dX4_append_91 ?_
    refine q_iadd C dX4_append_92 ?_
    refine q_iload C dX4_append_93 rfl ?_
    refine q_iast C (by first | assumption | decide | omega) (fun _ => rfl) dX4_append_95 (by omega) (by omega) (by decide) (by first | assumption | omega | exact q_tin _ | exact q_bIn _) ?_
    refine q_vret C' dX4_append_96 ?_
    refine ⟨rfl, ?_⟩
    unfold xLog
    first | rw [if_pos (by omega)] | rw [if_neg (by omega)]
