theorem dL_619 : decode code 619 = .ok (.aload_n 1, 1) := by decide +kernel
theorem dL_620 : decode code 620 = .ok (.aload_n 0, 1) := by decide +kernel
theorem dL_621 : decode code 621 = .ok (.iload_n 3, 1) := by decide +kernel
theorem dL_622 : decode code 622 = .ok (.iconst 1, 1) := by decide +kernel
theorem dL_623 : decode code 623 = .ok (.iadd, 1) := by decide +kernel
theorem dL_624 : decode code 624 = .ok (.iaload, 1) := by decide +kernel
theorem dL_625 : decode code 625 = .ok (.invokevirtual 77, 3) := by decide +kernel
theorem dL_628 : decode code 628 = .ok (.aload_n 2, 1) := by decide +kernel
theorem dL_629 : decode code 629 = .ok (.aload_n 0, 1) := by decide +kernel
theorem dL_630 : decode code 630 = .ok (.iload_n 3, 1) := by decide +kernel
theorem dL_631 : decode code 631 = .ok (.iconst 1, 1) := by decide +kernel
theorem dL_632 : decode code 632 = .ok (.iadd, 1) := by decide +kernel
theorem dL_633 : decode code 633 = .ok (.iaload, 1) := by decide +kernel
theorem dL_634 : decode code 634 = .ok (.invokevirtual 80, 3) := by decide +kernel
theorem dL_637 : decode code 637 = .ok (.if_icmp .eq 519, 3) := by decide +kernel
set_option maxRecDepth 8000 in
set_option maxHeartbeats 4000000 in
theorem lw_c15 {l : Launch} {g : qGm} {X : qCt} {M : qMem} {b L : Nat} {xs : Nat → Int32} {i : Int} {sd : sSD} (C : qCx l g X code RL 9) (D : lCx X b L xs) (hi : 0 ≤ i ∧ i + 5 ≤ (L : Int)) (hL : L ≤ 320) (h : qInv M sd) (k : ∀ M' sd', qInv M' sd' → qV l g X M' 1156 (lwL g b i) []) : qV l g X M 619 (lwL g b i) [] := by
  have hI := h
  obtain ⟨hT, hSt, hSn, hBk⟩ := h
  have hs := hSt.1
  have hxS := hSt.2.1
  have hmS := hSt.2.2.1
  have hZ := hSt.2.2.2.1
  have hI0 := hSt.2.2.2.2.1
  have hI1 := hSt.2.2.2.2.2
  have hv := hSt.v
  have hH := hSt.h
  have hk := hSt.k
  refine q_aloadn C dL_619 rfl ?_
  refine q_aloadn C dL_620 rfl ?_
  refine q_iloadn C dL_621 rfl ?_
  refine q_iconst C dL_622 ?_
  refine q_iadd C dL_623 ?_
  refine q_sld C D (by omega) (by omega) hL dL_624 ?_
  refine cw_RL_77 C (by decide) (m_X11_drift l g M hs hxS hZ (lSc_in _ _)) dL_625 (Nat.le_of_ble_eq_true rfl) (fun r1 N hz1 hp1 => ?_)
  have hx := xD.e (Z := zM M) hp1 (zIm_dr sd _ _) hI0 hI1
  have ez := hx.2.2.z
  obtain ⟨nS, nK, nV⟩ := hx.2.2.st hSt
  obtain ⟨e1, -⟩ := id hx
  subst e1
  show qV l g X _ _ _ (qI _ :: [])
  refine q_aloadn C dL_628 rfl ?_
  refine q_aloadn C dL_629 rfl ?_
  refine q_iloadn C dL_630 rfl ?_
  refine q_iconst C dL_631 ?_
  refine q_iadd C dL_632 ?_
  refine q_sld C D (by omega) (by omega) hL dL_633 ?_
  refine cw_RL_80 C (by decide) (m_X12_drift l g N hs nS nV nK (lSc_in _ _)) dL_634 (Nat.le_of_ble_eq_true rfl) (fun r2 K hz2 hp2 => ?_)
  rw [ez] at hp2
  have hm := mD.e hp2
  obtain ⟨hq, he⟩ := qInv_deed hI hx hm
  subst he
  show qV l g X _ _ _ (qI _ :: qI _ :: [])
  exact q_icmp_eq C 1156 dL_637 (by decide) (hz1 _ rfl) (hz1 _ rfl) (fun _ => k _ _ (hq)) (fun hne => absurd (rfl) hne)
theorem dL_642 : decode code 642 = .ok (.aload_n 1, 1) := by decide +kernel
theorem dL_643 : decode code 643 = .ok (.aload_n 0, 1) := by decide +kernel
theorem dL_644 : decode code 644 = .ok (.iload_n 3, 1) := by decide +kernel
theorem dL_645 : decode code 645 = .ok (.iconst 1, 1) := by decide +kernel
theorem dL_646 : decode code 646 = .ok (.iadd, 1) := by decide +kernel
theorem dL_647 : decode code 647 = .ok (.iaload, 1) := by decide +kernel
theorem dL_648 : decode code 648 = .ok (.invokevirtual 81, 3) := by decide +kernel
theorem dL_651 : decode code 651 = .ok (.aload_n 2, 1) := by decide +kernel
theorem dL_652 : decode code 652 = .ok (.aload_n 0, 1) := by decide +kernel
theorem dL_653 : decode code 653 = .ok (.iload_n 3, 1) := by decide +kernel
theorem dL_654 : decode code 654 = .ok (.iconst 1, 1) := by decide +kernel
theorem dL_655 : decode code 655 = .ok (.iadd, 1) := by decide +kernel
theorem dL_656 : decode code 656 = .ok (.iaload, 1) := by decide +kernel
theorem dL_657 : decode code 657 = .ok (.invokevirtual 84, 3) := by decide +kernel
theorem dL_660 : decode code 660 = .ok (.if_icmp .eq 496, 3) := by decide +kernel
set_option maxRecDepth 8000 in
set_option maxHeartbeats 4000000 in
theorem lw_c16 {l : Launch} {g : qGm} {X : qCt} {M : qMem} {b L : Nat} {xs : Nat → Int32} {i : Int} {sd : sSD} (C : qCx l g X code RL 9) (D : lCx X b L xs) (hi : 0 ≤ i ∧ i + 5 ≤ (L : Int)) (hL : L ≤ 320) (h : qInv M sd) (k : ∀ M' sd', qInv M' sd' → qV l g X M' 1156 (lwL g b i) []) : qV l g X M 642 (lwL g b i) [] := by
  have hI := h
  obtain ⟨hT, hSt, hSn, hBk⟩ := h
  have hs := hSt.1
  have hxS := hSt.2.1
  have hmS := hSt.2.2.1
  have hZ := hSt.2.2.2.1
  have hI0 := hSt.2.2.2.2.1
  have hI1 := hSt.2.2.2.2.2
  have hv := hSt.v
  have hH := hSt.h
  have hk := hSt.k
  refine q_aloadn C dL_642 rfl ?_
  refine q_aloadn C dL_643 rfl ?_
  refine q_iloadn C dL_644 rfl ?_
  refine q_iconst C dL_645 ?_
  refine q_iadd C dL_646 ?_
  refine q_sld C D (by omega) (by omega) hL dL_647 ?_
  refine cw_RL_81 C (by decide) (m_X11_undo l g M (sd := sd) hZ (lSc_in _ _)) dL_648 (Nat.le_of_ble_eq_true rfl) (fun r1 N hz1 hp1 => ?_)
  have hx := xD.e (Z := zM M) hp1 (zIm_undo _ _) hI0 hI1
  have ez := hx.2.2.z
  obtain ⟨nS, nK, nV⟩ := hx.2.2.st hSt
  obtain ⟨e1, -⟩ := id hx
  subst e1
  show qV l g X _ _ _ (qI _ :: [])
  refine q_aloadn C dL_651 rfl ?_
  refine q_aloadn C dL_652 rfl ?_
  refine q_iloadn C dL_653 rfl ?_
  refine q_iconst C dL_654 ?_
  refine q_iadd C dL_655 ?_
  refine q_sld C D (by omega) (by omega) hL dL_656 ?_
  refine cw_RL_84 C (by decide) (m_X12_undo l g N nK (lSc_in _ _)) dL_657 (Nat.le_of_ble_eq_true rfl) (fun r2 K hz2 hp2 => ?_)
  rw [ez] at hp2
  have hm := hp2
  obtain ⟨hq, he⟩ := qInv_deed hI hx hm
  subst he
  show qV l g X _ _ _ (qI _ :: qI _ :: [])
  exact q_icmp_eq C 1156 dL_660 (by decide) (hz1 _ rfl) (hz1 _ rfl) (fun _ => k _ _ (hq)) (fun hne => absurd (rfl) hne)
theorem dL_665 : decode code 665 = .ok (.aload_n 1, 1) := by decide +kernel
theorem dL_666 : decode code 666 = .ok (.aload_n 0, 1) := by decide +kernel
theorem dL_667 : decode code 667 = .ok (.iload_n 3, 1) := by decide +kernel
theorem dL_668 : decode code 668 = .ok (.iconst 1, 1) := by decide +kernel
theorem dL_669 : decode code 669 = .ok (.iadd, 1) := by decide +kernel
theorem dL_670 : decode code 670 = .ok (.iaload, 1) := by decide +kernel
theorem dL_671 : decode code 671 = .ok (.aload_n 0, 1) := by decide +kernel
theorem dL_672 : decode code 672 = .ok (.iload_n 3, 1) := by decide +kernel
theorem dL_673 : decode code 673 = .ok (.iconst 2, 1) := by decide +kernel
theorem dL_674 : decode code 674 = .ok (.iadd, 1) := by decide +kernel
theorem dL_675 : decode code 675 = .ok (.iaload, 1) := by decide +kernel
theorem dL_676 : decode code 676 = .ok (.aload_n 0, 1) := by decide +kernel
theorem dL_677 : decode code 677 = .ok (.iload_n 3, 1) := by decide +kernel
theorem dL_678 : decode code 678 = .ok (.iconst 3, 1) := by decide +kernel
theorem dL_679 : decode code 679 = .ok (.iadd, 1) := by decide +kernel
theorem dL_680 : decode code 680 = .ok (.iaload, 1) := by decide +kernel
theorem dL_681 : decode code 681 = .ok (.aload_n 0, 1) := by decide +kernel
theorem dL_682 : decode code 682 = .ok (.iload_n 3, 1) := by decide +kernel
theorem dL_683 : decode code 683 = .ok (.iconst 4, 1) := by decide +kernel
theorem dL_684 : decode code 684 = .ok (.iadd, 1) := by decide +kernel
theorem dL_685 : decode code 685 = .ok (.iaload, 1) := by decide +kernel
theorem dL_686 : decode code 686 = .ok (.invokevirtual 85, 3) := by decide +kernel
theorem dL_689 : decode code 689 = .ok (.aload_n 2, 1) := by decide +kernel
theorem dL_690 : decode code 690 = .ok (.aload_n 0, 1) := by decide +kernel
theorem dL_691 : decode code 691 = .ok (.iload_n 3, 1) := by decide +kernel
theorem dL_692 : decode code 692 = .ok (.iconst 1, 1) := by decide +kernel
theorem dL_693 : decode code 693 = .ok (.iadd, 1) := by decide +kernel
theorem dL_694 : decode code 694 = .ok (.iaload, 1) := by decide +kernel
theorem dL_695 : decode code 695 = .ok (.aload_n 0, 1) := by decide +kernel
theorem dL_696 : decode code 696 = .ok (.iload_n 3, 1) := by decide +kernel
theorem dL_697 : decode code 697 = .ok (.iconst 2, 1) := by decide +kernel
theorem dL_698 : decode code 698 = .ok (.iadd, 1) := by decide +kernel
theorem dL_699 : decode code 699 = .ok (.iaload, 1) := by decide +kernel
theorem dL_700 : decode code 700 = .ok (.aload_n 0, 1) := by decide +kernel
theorem dL_701 : decode code 701 = .ok (.iload_n 3, 1) := by decide +kernel
theorem dL_702 : decode code 702 = .ok (.iconst 3, 1) := by decide +kernel
theorem dL_703 : decode code 703 = .ok (.iadd, 1) := by decide +kernel
theorem dL_704 : decode code 704 = .ok (.iaload, 1) := by decide +kernel
theorem dL_705 : decode code 705 = .ok (.aload_n 0, 1) := by decide +kernel
theorem dL_706 : decode code 706 = .ok (.iload_n 3, 1) := by decide +kernel
theorem dL_707 : decode code 707 = .ok (.iconst 4, 1) := by decide +kernel
theorem dL_708 : decode code 708 = .ok (.iadd, 1) := by decide +kernel
theorem dL_709 : decode code 709 = .ok (.iaload, 1) := by decide +kernel
theorem dL_710 : decode code 710 = .ok (.invokevirtual 89, 3) := by decide +kernel
theorem dL_713 : decode code 713 = .ok (.if_icmp .eq 443, 3) := by decide +kernel
set_option maxRecDepth 8000 in
set_option maxHeartbeats 4000000 in
theorem lw_c17 {l : Launch} {g : qGm} {X : qCt} {M : qMem} {b L : Nat} {xs : Nat → Int32} {i : Int} {sd : sSD} (C : qCx l g X code RL 9) (D : lCx X b L xs) (hi : 0 ≤ i ∧ i + 5 ≤ (L : Int)) (hL : L ≤ 320) (h : qInv M sd) (k : ∀ M' sd', qInv M' sd' → qV l g X M' 1156 (lwL g b i) []) : qV l g X M 665 (lwL g b i) [] := by
  have hI := h
  obtain ⟨hT, hSt, hSn, hBk⟩ := h
  have hs := hSt.1
  have hxS := hSt.2.1
  have hmS := hSt.2.2.1
  have hZ := hSt.2.2.2.1
  have hI0 := hSt.2.2.2.2.1
  have hI1 := hSt.2.2.2.2.2
  have hv := hSt.v
  have hH := hSt.h
  have hk := hSt.k
  refine q_aloadn C dL_665 rfl ?_
  refine q_aloadn C dL_666 rfl ?_
  refine q_iloadn C dL_667 rfl ?_
  refine q_iconst C dL_668 ?_
  refine q_iadd C dL_669 ?_
  refine q_sld C D (by omega) (by omega) hL dL_670 ?_
  refine q_aloadn C dL_671 rfl ?_
  refine q_iloadn C dL_672 rfl ?_
  refine q_iconst C dL_673 ?_
  refine q_iadd C dL_674 ?_
  refine q_sld C D (by omega) (by omega) hL dL_675 ?_
  refine q_aloadn C dL_676 rfl ?_
  refine q_iloadn C dL_677 rfl ?_
  refine q_iconst C dL_678 ?_
  refine q_iadd C dL_679 ?_
  refine q_sld C D (by omega) (by omega) hL dL_680 ?_
  refine q_aloadn C dL_681 rfl ?_
  refine q_iloadn C dL_682 rfl ?_
  refine q_iconst C dL_683 ?_
  refine q_iadd C dL_684 ?_
  refine q_sld C D (by omega) (by omega) hL dL_685 ?_
  refine cv_RL_85 C (by decide) (m_X11_says l g M hs hxS hv hH (lSc_in _ _) (lSc_in _ _) (lSc_in _ _) (lSc_in _ _)) dL_686 (Nat.le_of_ble_eq_true rfl) (fun r1 => ?_)
  refine q_aloadn C dL_689 rfl ?_
  refine q_aloadn C dL_690 rfl ?_
  refine q_iloadn C dL_691 rfl ?_
  refine q_iconst C dL_692 ?_
  refine q_iadd C dL_693 ?_
  refine q_sld C D (by omega) (by omega) hL dL_694 ?_
  refine q_aloadn C dL_695 rfl ?_
  refine q_iloadn C dL_696 rfl ?_
  refine q_iconst C dL_697 ?_
  refine q_iadd C dL_698 ?_
  refine q_sld C D (by omega) (by omega) hL dL_699 ?_
  refine q_aloadn C dL_700 rfl ?_
  refine q_iloadn C dL_701 rfl ?_
  refine q_iconst C dL_702 ?_
  refine q_iadd C dL_703 ?_
  refine q_sld C D (by omega) (by omega) hL dL_704 ?_
  refine q_aloadn C dL_705 rfl ?_
  refine q_iloadn C dL_706 rfl ?_
  refine q_iconst C dL_707 ?_
  refine q_iadd C dL_708 ?_
  refine q_sld C D (by omega) (by omega) hL dL_709 ?_
  refine cv_RL_89 C (by decide) (m_X12_says l g M hs hmS hv (lSc_in _ _) (lSc_in _ _) (lSc_in _ _) (lSc_in _ _)) dL_710 (Nat.le_of_ble_eq_true rfl) (fun r2 => ?_)
  exact q_icmp_eq C 1156 dL_713 (by decide) (r1) (r2) (fun _ => k _ _ (hI)) (fun hne => absurd (rfl) hne)
theorem dL_718 : decode code 718 = .ok (.aload_n 1, 1) := by decide +kernel
theorem dL_719 : decode code 719 = .ok (.aload_n 0, 1) := by decide +kernel
theorem dL_720 : decode code 720 = .ok (.iload_n 3, 1) := by decide +kernel
theorem dL_721 : decode code 721 = .ok (.iconst 1, 1) := by decide +kernel
theorem dL_722 : decode code 722 = .ok (.iadd, 1) := by decide +kernel
theorem dL_723 : decode code 723 = .ok (.iaload, 1) := by decide +kernel
theorem dL_724 : decode code 724 = .ok (.aload_n 0, 1) := by decide +kernel
theorem dL_725 : decode code 725 = .ok (.iload_n 3, 1) := by decide +kernel
theorem dL_726 : decode code 726 = .ok (.iconst 2, 1) := by decide +kernel
theorem dL_727 : decode code 727 = .ok (.iadd, 1) := by decide +kernel
theorem dL_728 : decode code 728 = .ok (.iaload, 1) := by decide +kernel
theorem dL_729 : decode code 729 = .ok (.aload_n 0, 1) := by decide +kernel
theorem dL_730 : decode code 730 = .ok (.iload_n 3, 1) := by decide +kernel
theorem dL_731 : decode code 731 = .ok (.iconst 3, 1) := by decide +kernel
theorem dL_732 : decode code 732 = .ok (.iadd, 1) := by decide +kernel
theorem dL_733 : decode code 733 = .ok (.iaload, 1) := by decide +kernel
theorem dL_734 : decode code 734 = .ok (.invokevirtual 90, 3) := by decide +kernel
theorem dL_737 : decode code 737 = .ok (.aload_n 2, 1) := by decide +kernel
theorem dL_738 : decode code 738 = .ok (.aload_n 0, 1) := by decide +kernel
theorem dL_739 : decode code 739 = .ok (.iload_n 3, 1) := by decide +kernel
theorem dL_740 : decode code 740 = .ok (.iconst 1, 1) := by decide +kernel
theorem dL_741 : decode code 741 = .ok (.iadd, 1) := by decide +kernel
theorem dL_742 : decode code 742 = .ok (.iaload, 1) := by decide +kernel
theorem dL_743 : decode code 743 = .ok (.aload_n 0, 1) := by decide +kernel
theorem dL_744 : decode code 744 = .ok (.iload_n 3, 1) := by decide +kernel
theorem dL_745 : decode code 745 = .ok (.iconst 2, 1) := by decide +kernel
theorem dL_746 : decode code 746 = .ok (.iadd, 1) := by decide +kernel
theorem dL_747 : decode code 747 = .ok (.iaload, 1) := by decide +kernel
theorem dL_748 : decode code 748 = .ok (.aload_n 0, 1) := by decide +kernel
theorem dL_749 : decode code 749 = .ok (.iload_n 3, 1) := by decide +kernel
theorem dL_750 : decode code 750 = .ok (.iconst 3, 1) := by decide +kernel
theorem dL_751 : decode code 751 = .ok (.iadd, 1) := by decide +kernel
theorem dL_752 : decode code 752 = .ok (.iaload, 1) := by decide +kernel
theorem dL_753 : decode code 753 = .ok (.invokevirtual 93, 3) := by decide +kernel
theorem dL_756 : decode code 756 = .ok (.if_icmp .eq 400, 3) := by decide +kernel
set_option maxRecDepth 8000 in
set_option maxHeartbeats 4000000 in
theorem lw_c18 {l : Launch} {g : qGm} {X : qCt} {M : qMem} {b L : Nat} {xs : Nat → Int32} {i : Int} {sd : sSD} (C : qCx l g X code RL 9) (D : lCx X b L xs) (hi : 0 ≤ i ∧ i + 5 ≤ (L : Int)) (hL : L ≤ 320) (h : qInv M sd) (k : ∀ M' sd', qInv M' sd' → qV l g X M' 1156 (lwL g b i) []) : qV l g X M 718 (lwL g b i) [] := by
  have hI := h
  obtain ⟨hT, hSt, hSn, hBk⟩ := h
  have hs := hSt.1
  have hxS := hSt.2.1
  have hmS := hSt.2.2.1
  have hZ := hSt.2.2.2.1
  have hI0 := hSt.2.2.2.2.1
  have hI1 := hSt.2.2.2.2.2
  have hv := hSt.v
  have hH := hSt.h
  have hk := hSt.k
  refine q_aloadn C dL_718 rfl ?_
  refine q_aloadn C dL_719 rfl ?_
  refine q_iloadn C dL_720 rfl ?_
  refine q_iconst C dL_721 ?_
  refine q_iadd C dL_722 ?_
  refine q_sld C D (by omega) (by omega) hL dL_723 ?_
  refine q_aloadn C dL_724 rfl ?_
  refine q_iloadn C dL_725 rfl ?_
  refine q_iconst C dL_726 ?_
  refine q_iadd C dL_727 ?_
  refine q_sld C D (by omega) (by omega) hL dL_728 ?_
  refine q_aloadn C dL_729 rfl ?_
  refine q_iloadn C dL_730 rfl ?_
  refine q_iconst C dL_731 ?_
  refine q_iadd C dL_732 ?_
  refine q_sld C D (by omega) (by omega) hL dL_733 ?_
  refine cv_RL_90 C (by decide) (m_X11_signs l g M hs hxS hv hH (lSc_in _ _) (lSc_in _ _) (lSc_in _ _)) dL_734 (Nat.le_of_ble_eq_true rfl) (fun r1 => ?_)
  refine q_aloadn C dL_737 rfl ?_
  refine q_aloadn C dL_738 rfl ?_
  refine q_iloadn C dL_739 rfl ?_
  refine q_iconst C dL_740 ?_
  refine q_iadd C dL_741 ?_
  refine q_sld C D (by omega) (by omega) hL dL_742 ?_
  refine q_aloadn C dL_743 rfl ?_
  refine q_iloadn C dL_744 rfl ?_
  refine q_iconst C dL_745 ?_
  refine q_iadd C dL_746 ?_
  refine q_sld C D (by omega) (by omega) hL dL_747 ?_
  refine q_aloadn C dL_748 rfl ?_
  refine q_iloadn C dL_749 rfl ?_
  refine q_iconst C dL_750 ?_
  refine q_iadd C dL_751 ?_
  refine q_sld C D (by omega) (by omega) hL dL_752 ?_
  refine cv_RL_93 C (by decide) (m_X12_signs l g M hs hmS hv (lSc_in _ _) (lSc_in _ _) (lSc_in _ _)) dL_753 (Nat.le_of_ble_eq_true rfl) (fun r2 => ?_)
  exact q_icmp_eq C 1156 dL_756 (by decide) (r1) (r2) (fun _ => k _ _ (hI)) (fun hne => absurd (rfl) hne)
theorem dL_761 : decode code 761 = .ok (.aload_n 1, 1) := by decide +kernel
theorem dL_762 : decode code 762 = .ok (.aload_n 0, 1) := by decide +kernel
theorem dL_763 : decode code 763 = .ok (.iload_n 3, 1) := by decide +kernel
theorem dL_764 : decode code 764 = .ok (.iconst 1, 1) := by decide +kernel
theorem dL_765 : decode code 765 = .ok (.iadd, 1) := by decide +kernel
theorem dL_766 : decode code 766 = .ok (.iaload, 1) := by decide +kernel
theorem dL_767 : decode code 767 = .ok (.aload_n 0, 1) := by decide +kernel
theorem dL_768 : decode code 768 = .ok (.iload_n 3, 1) := by decide +kernel
theorem dL_769 : decode code 769 = .ok (.iconst 2, 1) := by decide +kernel
theorem dL_770 : decode code 770 = .ok (.iadd, 1) := by decide +kernel
theorem dL_771 : decode code 771 = .ok (.iaload, 1) := by decide +kernel
theorem dL_772 : decode code 772 = .ok (.invokevirtual 94, 3) := by decide +kernel
theorem dL_775 : decode code 775 = .ok (.aload_n 2, 1) := by decide +kernel
theorem dL_776 : decode code 776 = .ok (.aload_n 0, 1) := by decide +kernel
theorem dL_777 : decode code 777 = .ok (.iload_n 3, 1) := by decide +kernel
theorem dL_778 : decode code 778 = .ok (.iconst 1, 1) := by decide +kernel
theorem dL_779 : decode code 779 = .ok (.iadd, 1) := by decide +kernel
theorem dL_780 : decode code 780 = .ok (.iaload, 1) := by decide +kernel
theorem dL_781 : decode code 781 = .ok (.aload_n 0, 1) := by decide +kernel
theorem dL_782 : decode code 782 = .ok (.iload_n 3, 1) := by decide +kernel
theorem dL_783 : decode code 783 = .ok (.iconst 2, 1) := by decide +kernel
theorem dL_784 : decode code 784 = .ok (.iadd, 1) := by decide +kernel
theorem dL_785 : decode code 785 = .ok (.iaload, 1) := by decide +kernel
theorem dL_786 : decode code 786 = .ok (.invokevirtual 97, 3) := by decide +kernel
theorem dL_789 : decode code 789 = .ok (.if_icmp .eq 367, 3) := by decide +kernel
set_option maxRecDepth 8000 in
set_option maxHeartbeats 4000000 in
theorem lw_c19 {l : Launch} {g : qGm} {X : qCt} {M : qMem} {b L : Nat} {xs : Nat → Int32} {i : Int} {sd : sSD} (C : qCx l g X code RL 9) (D : lCx X b L xs) (hi : 0 ≤ i ∧ i + 5 ≤ (L : Int)) (hL : L ≤ 320) (h : qInv M sd) (k : ∀ M' sd', qInv M' sd' → qV l g X M' 1156 (lwL g b i) []) : qV l g X M 761 (lwL g b i) [] := by
  have hI := h
  obtain ⟨hT, hSt, hSn, hBk⟩ := h
  have hs := hSt.1
  have hxS := hSt.2.1
  have hmS := hSt.2.2.1
  have hZ := hSt.2.2.2.1
  have hI0 := hSt.2.2.2.2.1
  have hI1 := hSt.2.2.2.2.2
  have hv := hSt.v
  have hH := hSt.h
  have hk := hSt.k
  refine q_aloadn C dL_761 rfl ?_
  refine q_aloadn C dL_762 rfl ?_
  refine q_iloadn C dL_763 rfl ?_
  refine q_iconst C dL_764 ?_
  refine q_iadd C dL_765 ?_
  refine q_sld C D (by omega) (by omega) hL dL_766 ?_
  refine q_aloadn C dL_767 rfl ?_
  refine q_iloadn C dL_768 rfl ?_
  refine q_iconst C dL_769 ?_
  refine q_iadd C dL_770 ?_
  refine q_sld C D (by omega) (by omega) hL dL_771 ?_
  refine cv_RL_94 C (by decide) (m_X11_gains l g M hs hxS hv hH (lSc_in _ _) (lSc_in _ _)) dL_772 (Nat.le_of_ble_eq_true rfl) (fun r1 => ?_)
  refine q_aloadn C dL_775 rfl ?_
  refine q_aloadn C dL_776 rfl ?_
  refine q_iloadn C dL_777 rfl ?_
  refine q_iconst C dL_778 ?_
  refine q_iadd C dL_779 ?_
  refine q_sld C D (by omega) (by omega) hL dL_780 ?_
  refine q_aloadn C dL_781 rfl ?_
  refine q_iloadn C dL_782 rfl ?_
  refine q_iconst C dL_783 ?_
  refine q_iadd C dL_784 ?_
  refine q_sld C D (by omega) (by omega) hL dL_785 ?_
  refine cv_RL_97 C (by decide) (m_X12_gains l g M hs hmS hv (lSc_in _ _) (lSc_in _ _)) dL_786 (Nat.le_of_ble_eq_true rfl) (fun r2 => ?_)
  exact q_icmp_eq C 1156 dL_789 (by decide) (r1) (r2) (fun _ => k _ _ (hI)) (fun hne => absurd (rfl) hne)
