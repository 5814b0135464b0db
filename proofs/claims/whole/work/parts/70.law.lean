theorem dL_794 : decode code 794 = .ok (.aload_n 1, 1) := by decide +kernel
theorem dL_795 : decode code 795 = .ok (.aload_n 0, 1) := by decide +kernel
theorem dL_796 : decode code 796 = .ok (.iload_n 3, 1) := by decide +kernel
theorem dL_797 : decode code 797 = .ok (.iconst 1, 1) := by decide +kernel
theorem dL_798 : decode code 798 = .ok (.iadd, 1) := by decide +kernel
theorem dL_799 : decode code 799 = .ok (.iaload, 1) := by decide +kernel
theorem dL_800 : decode code 800 = .ok (.aload_n 0, 1) := by decide +kernel
theorem dL_801 : decode code 801 = .ok (.iload_n 3, 1) := by decide +kernel
theorem dL_802 : decode code 802 = .ok (.iconst 2, 1) := by decide +kernel
theorem dL_803 : decode code 803 = .ok (.iadd, 1) := by decide +kernel
theorem dL_804 : decode code 804 = .ok (.iaload, 1) := by decide +kernel
theorem dL_805 : decode code 805 = .ok (.invokevirtual 98, 3) := by decide +kernel
theorem dL_808 : decode code 808 = .ok (.aload_n 2, 1) := by decide +kernel
theorem dL_809 : decode code 809 = .ok (.aload_n 0, 1) := by decide +kernel
theorem dL_810 : decode code 810 = .ok (.iload_n 3, 1) := by decide +kernel
theorem dL_811 : decode code 811 = .ok (.iconst 1, 1) := by decide +kernel
theorem dL_812 : decode code 812 = .ok (.iadd, 1) := by decide +kernel
theorem dL_813 : decode code 813 = .ok (.iaload, 1) := by decide +kernel
theorem dL_814 : decode code 814 = .ok (.aload_n 0, 1) := by decide +kernel
theorem dL_815 : decode code 815 = .ok (.iload_n 3, 1) := by decide +kernel
theorem dL_816 : decode code 816 = .ok (.iconst 2, 1) := by decide +kernel
theorem dL_817 : decode code 817 = .ok (.iadd, 1) := by decide +kernel
theorem dL_818 : decode code 818 = .ok (.iaload, 1) := by decide +kernel
theorem dL_819 : decode code 819 = .ok (.invokevirtual 101, 3) := by decide +kernel
theorem dL_822 : decode code 822 = .ok (.if_icmp .eq 334, 3) := by decide +kernel
set_option maxRecDepth 8000 in
set_option maxHeartbeats 4000000 in
theorem lw_c20 {l : Launch} {g : qGm} {X : qCt} {M : qMem} {b L : Nat} {xs : Nat → Int32} {i : Int} {sd : sSD} (C : qCx l g X code RL 9) (D : lCx X b L xs) (hi : 0 ≤ i ∧ i + 5 ≤ (L : Int)) (hL : L ≤ 320) (h : qInv M sd) (k : ∀ M' sd', qInv M' sd' → qV l g X M' 1156 (lwL g b i) []) : qV l g X M 794 (lwL g b i) [] := by
  have hI := h
  obtain ⟨hT, hSt, hSn, hBk⟩ := h
  have hs := hSt.1
  have hxS := hSt.2.1
  have hmS := hSt.2.2.1
  have hZ := hSt.2.2.2.1
  have hI0 := hSt.2.2.2.2.1
  have hI1 := hSt.2.2.2.2.2
  have hv := hSt.v
  have hH := hSt.h
  have hk := hSt.k
  refine q_aloadn C dL_794 rfl ?_
  refine q_aloadn C dL_795 rfl ?_
  refine q_iloadn C dL_796 rfl ?_
  refine q_iconst C dL_797 ?_
  refine q_iadd C dL_798 ?_
  refine q_sld C D (by omega) (by omega) hL dL_799 ?_
  refine q_aloadn C dL_800 rfl ?_
  refine q_iloadn C dL_801 rfl ?_
  refine q_iconst C dL_802 ?_
  refine q_iadd C dL_803 ?_
  refine q_sld C D (by omega) (by omega) hL dL_804 ?_
  refine cv_RL_98 C (by decide) (m_X11_clear l g M hs hxS (lSc_in _ _) (lSc_in _ _)) dL_805 (Nat.le_of_ble_eq_true rfl) (fun r1 => ?_)
  refine q_aloadn C dL_808 rfl ?_
  refine q_aloadn C dL_809 rfl ?_
  refine q_iloadn C dL_810 rfl ?_
  refine q_iconst C dL_811 ?_
  refine q_iadd C dL_812 ?_
  refine q_sld C D (by omega) (by omega) hL dL_813 ?_
  refine q_aloadn C dL_814 rfl ?_
  refine q_iloadn C dL_815 rfl ?_
  refine q_iconst C dL_816 ?_
  refine q_iadd C dL_817 ?_
  refine q_sld C D (by omega) (by omega) hL dL_818 ?_
  refine cv_RL_101 C (by decide) (m_X12_clear l g M hs hmS (lSc_in _ _) (lSc_in _ _)) dL_819 (Nat.le_of_ble_eq_true rfl) (fun r2 => ?_)
  exact q_icmp_eq C 1156 dL_822 (by decide) (r1) (r2) (fun _ => k _ _ (hI)) (fun hne => absurd (rfl) hne)
theorem dL_827 : decode code 827 = .ok (.aload_n 1, 1) := by decide +kernel
theorem dL_828 : decode code 828 = .ok (.aload_n 0, 1) := by decide +kernel
theorem dL_829 : decode code 829 = .ok (.iload_n 3, 1) := by decide +kernel
theorem dL_830 : decode code 830 = .ok (.iconst 1, 1) := by decide +kernel
theorem dL_831 : decode code 831 = .ok (.iadd, 1) := by decide +kernel
theorem dL_832 : decode code 832 = .ok (.iaload, 1) := by decide +kernel
theorem dL_833 : decode code 833 = .ok (.aload_n 0, 1) := by decide +kernel
theorem dL_834 : decode code 834 = .ok (.iload_n 3, 1) := by decide +kernel
theorem dL_835 : decode code 835 = .ok (.iconst 2, 1) := by decide +kernel
theorem dL_836 : decode code 836 = .ok (.iadd, 1) := by decide +kernel
theorem dL_837 : decode code 837 = .ok (.iaload, 1) := by decide +kernel
theorem dL_838 : decode code 838 = .ok (.invokevirtual 102, 3) := by decide +kernel
theorem dL_841 : decode code 841 = .ok (.aload_n 2, 1) := by decide +kernel
theorem dL_842 : decode code 842 = .ok (.aload_n 0, 1) := by decide +kernel
theorem dL_843 : decode code 843 = .ok (.iload_n 3, 1) := by decide +kernel
theorem dL_844 : decode code 844 = .ok (.iconst 1, 1) := by decide +kernel
theorem dL_845 : decode code 845 = .ok (.iadd, 1) := by decide +kernel
theorem dL_846 : decode code 846 = .ok (.iaload, 1) := by decide +kernel
theorem dL_847 : decode code 847 = .ok (.aload_n 0, 1) := by decide +kernel
theorem dL_848 : decode code 848 = .ok (.iload_n 3, 1) := by decide +kernel
theorem dL_849 : decode code 849 = .ok (.iconst 2, 1) := by decide +kernel
theorem dL_850 : decode code 850 = .ok (.iadd, 1) := by decide +kernel
theorem dL_851 : decode code 851 = .ok (.iaload, 1) := by decide +kernel
theorem dL_852 : decode code 852 = .ok (.invokevirtual 105, 3) := by decide +kernel
theorem dL_855 : decode code 855 = .ok (.if_icmp .eq 301, 3) := by decide +kernel
set_option maxRecDepth 8000 in
set_option maxHeartbeats 4000000 in
theorem lw_c21 {l : Launch} {g : qGm} {X : qCt} {M : qMem} {b L : Nat} {xs : Nat → Int32} {i : Int} {sd : sSD} (C : qCx l g X code RL 9) (D : lCx X b L xs) (hi : 0 ≤ i ∧ i + 5 ≤ (L : Int)) (hL : L ≤ 320) (h : qInv M sd) (k : ∀ M' sd', qInv M' sd' → qV l g X M' 1156 (lwL g b i) []) : qV l g X M 827 (lwL g b i) [] := by
  have hI := h
  obtain ⟨hT, hSt, hSn, hBk⟩ := h
  have hs := hSt.1
  have hxS := hSt.2.1
  have hmS := hSt.2.2.1
  have hZ := hSt.2.2.2.1
  have hI0 := hSt.2.2.2.2.1
  have hI1 := hSt.2.2.2.2.2
  have hv := hSt.v
  have hH := hSt.h
  have hk := hSt.k
  refine q_aloadn C dL_827 rfl ?_
  refine q_aloadn C dL_828 rfl ?_
  refine q_iloadn C dL_829 rfl ?_
  refine q_iconst C dL_830 ?_
  refine q_iadd C dL_831 ?_
  refine q_sld C D (by omega) (by omega) hL dL_832 ?_
  refine q_aloadn C dL_833 rfl ?_
  refine q_iloadn C dL_834 rfl ?_
  refine q_iconst C dL_835 ?_
  refine q_iadd C dL_836 ?_
  refine q_sld C D (by omega) (by omega) hL dL_837 ?_
  refine cv_RL_102 C (by decide) (m_X11_letIn l g M hs hxS hv hH (lSc_in _ _) (lSc_in _ _)) dL_838 (Nat.le_of_ble_eq_true rfl) (fun r1 => ?_)
  refine q_aloadn C dL_841 rfl ?_
  refine q_aloadn C dL_842 rfl ?_
  refine q_iloadn C dL_843 rfl ?_
  refine q_iconst C dL_844 ?_
  refine q_iadd C dL_845 ?_
  refine q_sld C D (by omega) (by omega) hL dL_846 ?_
  refine q_aloadn C dL_847 rfl ?_
  refine q_iloadn C dL_848 rfl ?_
  refine q_iconst C dL_849 ?_
  refine q_iadd C dL_850 ?_
  refine q_sld C D (by omega) (by omega) hL dL_851 ?_
  refine cv_RL_105 C (by decide) (m_X12_letIn l g M hs hmS hv (lSc_in _ _) (lSc_in _ _)) dL_852 (Nat.le_of_ble_eq_true rfl) (fun r2 => ?_)
  exact q_icmp_eq C 1156 dL_855 (by decide) (r1) (r2) (fun _ => k _ _ (hI)) (fun hne => absurd (rfl) hne)
theorem dL_860 : decode code 860 = .ok (.aload_n 1, 1) := by decide +kernel
theorem dL_861 : decode code 861 = .ok (.aload_n 0, 1) := by decide +kernel
theorem dL_862 : decode code 862 = .ok (.iload_n 3, 1) := by decide +kernel
theorem dL_863 : decode code 863 = .ok (.iconst 1, 1) := by decide +kernel
theorem dL_864 : decode code 864 = .ok (.iadd, 1) := by decide +kernel
theorem dL_865 : decode code 865 = .ok (.iaload, 1) := by decide +kernel
theorem dL_866 : decode code 866 = .ok (.aload_n 0, 1) := by decide +kernel
theorem dL_867 : decode code 867 = .ok (.iload_n 3, 1) := by decide +kernel
theorem dL_868 : decode code 868 = .ok (.iconst 2, 1) := by decide +kernel
theorem dL_869 : decode code 869 = .ok (.iadd, 1) := by decide +kernel
theorem dL_870 : decode code 870 = .ok (.iaload, 1) := by decide +kernel
theorem dL_871 : decode code 871 = .ok (.invokevirtual 106, 3) := by decide +kernel
theorem dL_874 : decode code 874 = .ok (.aload_n 2, 1) := by decide +kernel
theorem dL_875 : decode code 875 = .ok (.aload_n 0, 1) := by decide +kernel
theorem dL_876 : decode code 876 = .ok (.iload_n 3, 1) := by decide +kernel
theorem dL_877 : decode code 877 = .ok (.iconst 1, 1) := by decide +kernel
theorem dL_878 : decode code 878 = .ok (.iadd, 1) := by decide +kernel
theorem dL_879 : decode code 879 = .ok (.iaload, 1) := by decide +kernel
theorem dL_880 : decode code 880 = .ok (.aload_n 0, 1) := by decide +kernel
theorem dL_881 : decode code 881 = .ok (.iload_n 3, 1) := by decide +kernel
theorem dL_882 : decode code 882 = .ok (.iconst 2, 1) := by decide +kernel
theorem dL_883 : decode code 883 = .ok (.iadd, 1) := by decide +kernel
theorem dL_884 : decode code 884 = .ok (.iaload, 1) := by decide +kernel
theorem dL_885 : decode code 885 = .ok (.invokevirtual 109, 3) := by decide +kernel
theorem dL_888 : decode code 888 = .ok (.if_icmp .eq 268, 3) := by decide +kernel
set_option maxRecDepth 8000 in
set_option maxHeartbeats 4000000 in
theorem lw_c22 {l : Launch} {g : qGm} {X : qCt} {M : qMem} {b L : Nat} {xs : Nat → Int32} {i : Int} {sd : sSD} (C : qCx l g X code RL 9) (D : lCx X b L xs) (hi : 0 ≤ i ∧ i + 5 ≤ (L : Int)) (hL : L ≤ 320) (h : qInv M sd) (k : ∀ M' sd', qInv M' sd' → qV l g X M' 1156 (lwL g b i) []) : qV l g X M 860 (lwL g b i) [] := by
  have hI := h
  obtain ⟨hT, hSt, hSn, hBk⟩ := h
  have hs := hSt.1
  have hxS := hSt.2.1
  have hmS := hSt.2.2.1
  have hZ := hSt.2.2.2.1
  have hI0 := hSt.2.2.2.2.1
  have hI1 := hSt.2.2.2.2.2
  have hv := hSt.v
  have hH := hSt.h
  have hk := hSt.k
  refine q_aloadn C dL_860 rfl ?_
  refine q_aloadn C dL_861 rfl ?_
  refine q_iloadn C dL_862 rfl ?_
  refine q_iconst C dL_863 ?_
  refine q_iadd C dL_864 ?_
  refine q_sld C D (by omega) (by omega) hL dL_865 ?_
  refine q_aloadn C dL_866 rfl ?_
  refine q_iloadn C dL_867 rfl ?_
  refine q_iconst C dL_868 ?_
  refine q_iadd C dL_869 ?_
  refine q_sld C D (by omega) (by omega) hL dL_870 ?_
  refine cv_RL_106 C (by decide) (m_X11_round l g M hs hxS hv hH (lSc_in _ _) (lSc_in _ _)) dL_871 (Nat.le_of_ble_eq_true rfl) (fun r1 => ?_)
  refine q_aloadn C dL_874 rfl ?_
  refine q_aloadn C dL_875 rfl ?_
  refine q_iloadn C dL_876 rfl ?_
  refine q_iconst C dL_877 ?_
  refine q_iadd C dL_878 ?_
  refine q_sld C D (by omega) (by omega) hL dL_879 ?_
  refine q_aloadn C dL_880 rfl ?_
  refine q_iloadn C dL_881 rfl ?_
  refine q_iconst C dL_882 ?_
  refine q_iadd C dL_883 ?_
  refine q_sld C D (by omega) (by omega) hL dL_884 ?_
  refine cv_RL_109 C (by decide) (m_X12_round l g M hs hmS hv (lSc_in _ _) (lSc_in _ _)) dL_885 (Nat.le_of_ble_eq_true rfl) (fun r2 => ?_)
  exact q_icmp_eq C 1156 dL_888 (by decide) (r1) (r2) (fun _ => k _ _ (hI)) (fun hne => absurd (rfl) hne)
theorem dL_893 : decode code 893 = .ok (.aload_n 1, 1) := by decide +kernel
theorem dL_894 : decode code 894 = .ok (.aload_n 0, 1) := by decide +kernel
theorem dL_895 : decode code 895 = .ok (.iload_n 3, 1) := by decide +kernel
theorem dL_896 : decode code 896 = .ok (.iconst 1, 1) := by decide +kernel
theorem dL_897 : decode code 897 = .ok (.iadd, 1) := by decide +kernel
theorem dL_898 : decode code 898 = .ok (.iaload, 1) := by decide +kernel
theorem dL_899 : decode code 899 = .ok (.aload_n 0, 1) := by decide +kernel
theorem dL_900 : decode code 900 = .ok (.iload_n 3, 1) := by decide +kernel
theorem dL_901 : decode code 901 = .ok (.iconst 2, 1) := by decide +kernel
theorem dL_902 : decode code 902 = .ok (.iadd, 1) := by decide +kernel
theorem dL_903 : decode code 903 = .ok (.iaload, 1) := by decide +kernel
theorem dL_904 : decode code 904 = .ok (.invokevirtual 110, 3) := by decide +kernel
theorem dL_907 : decode code 907 = .ok (.aload_n 2, 1) := by decide +kernel
theorem dL_908 : decode code 908 = .ok (.aload_n 0, 1) := by decide +kernel
theorem dL_909 : decode code 909 = .ok (.iload_n 3, 1) := by decide +kernel
theorem dL_910 : decode code 910 = .ok (.iconst 1, 1) := by decide +kernel
theorem dL_911 : decode code 911 = .ok (.iadd, 1) := by decide +kernel
theorem dL_912 : decode code 912 = .ok (.iaload, 1) := by decide +kernel
theorem dL_913 : decode code 913 = .ok (.aload_n 0, 1) := by decide +kernel
theorem dL_914 : decode code 914 = .ok (.iload_n 3, 1) := by decide +kernel
theorem dL_915 : decode code 915 = .ok (.iconst 2, 1) := by decide +kernel
theorem dL_916 : decode code 916 = .ok (.iadd, 1) := by decide +kernel
theorem dL_917 : decode code 917 = .ok (.iaload, 1) := by decide +kernel
theorem dL_918 : decode code 918 = .ok (.invokevirtual 113, 3) := by decide +kernel
theorem dL_921 : decode code 921 = .ok (.if_icmp .eq 235, 3) := by decide +kernel
set_option maxRecDepth 8000 in
set_option maxHeartbeats 4000000 in
theorem lw_c23 {l : Launch} {g : qGm} {X : qCt} {M : qMem} {b L : Nat} {xs : Nat → Int32} {i : Int} {sd : sSD} (C : qCx l g X code RL 9) (D : lCx X b L xs) (hi : 0 ≤ i ∧ i + 5 ≤ (L : Int)) (hL : L ≤ 320) (h : qInv M sd) (k : ∀ M' sd', qInv M' sd' → qV l g X M' 1156 (lwL g b i) []) : qV l g X M 893 (lwL g b i) [] := by
  have hI := h
  obtain ⟨hT, hSt, hSn, hBk⟩ := h
  have hs := hSt.1
  have hxS := hSt.2.1
  have hmS := hSt.2.2.1
  have hZ := hSt.2.2.2.1
  have hI0 := hSt.2.2.2.2.1
  have hI1 := hSt.2.2.2.2.2
  have hv := hSt.v
  have hH := hSt.h
  have hk := hSt.k
  refine q_aloadn C dL_893 rfl ?_
  refine q_aloadn C dL_894 rfl ?_
  refine q_iloadn C dL_895 rfl ?_
  refine q_iconst C dL_896 ?_
  refine q_iadd C dL_897 ?_
  refine q_sld C D (by omega) (by omega) hL dL_898 ?_
  refine q_aloadn C dL_899 rfl ?_
  refine q_iloadn C dL_900 rfl ?_
  refine q_iconst C dL_901 ?_
  refine q_iadd C dL_902 ?_
  refine q_sld C D (by omega) (by omega) hL dL_903 ?_
  refine cv_RL_110 C (by decide) (m_X11_suits l g M hs hxS hv hH (lSc_in _ _) (lSc_in _ _)) dL_904 (Nat.le_of_ble_eq_true rfl) (fun r1 => ?_)
  refine q_aloadn C dL_907 rfl ?_
  refine q_aloadn C dL_908 rfl ?_
  refine q_iloadn C dL_909 rfl ?_
  refine q_iconst C dL_910 ?_
  refine q_iadd C dL_911 ?_
  refine q_sld C D (by omega) (by omega) hL dL_912 ?_
  refine q_aloadn C dL_913 rfl ?_
  refine q_iloadn C dL_914 rfl ?_
  refine q_iconst C dL_915 ?_
  refine q_iadd C dL_916 ?_
  refine q_sld C D (by omega) (by omega) hL dL_917 ?_
  refine cv_RL_113 C (by decide) (m_X12_suits l g M hs hmS hv (lSc_in _ _) (lSc_in _ _)) dL_918 (Nat.le_of_ble_eq_true rfl) (fun r2 => ?_)
  exact q_icmp_eq C 1156 dL_921 (by decide) (r1) (r2) (fun _ => k _ _ (hI)) (fun hne => absurd (rfl) hne)
theorem dL_926 : decode code 926 = .ok (.aload_n 1, 1) := by decide +kernel
theorem dL_927 : decode code 927 = .ok (.aload_n 0, 1) := by decide +kernel
theorem dL_928 : decode code 928 = .ok (.iload_n 3, 1) := by decide +kernel
theorem dL_929 : decode code 929 = .ok (.iconst 1, 1) := by decide +kernel
theorem dL_930 : decode code 930 = .ok (.iadd, 1) := by decide +kernel
theorem dL_931 : decode code 931 = .ok (.iaload, 1) := by decide +kernel
theorem dL_932 : decode code 932 = .ok (.aload_n 0, 1) := by decide +kernel
theorem dL_933 : decode code 933 = .ok (.iload_n 3, 1) := by decide +kernel
theorem dL_934 : decode code 934 = .ok (.iconst 2, 1) := by decide +kernel
theorem dL_935 : decode code 935 = .ok (.iadd, 1) := by decide +kernel
theorem dL_936 : decode code 936 = .ok (.iaload, 1) := by decide +kernel
theorem dL_937 : decode code 937 = .ok (.invokevirtual 114, 3) := by decide +kernel
theorem dL_940 : decode code 940 = .ok (.aload_n 2, 1) := by decide +kernel
theorem dL_941 : decode code 941 = .ok (.aload_n 0, 1) := by decide +kernel
theorem dL_942 : decode code 942 = .ok (.iload_n 3, 1) := by decide +kernel
theorem dL_943 : decode code 943 = .ok (.iconst 1, 1) := by decide +kernel
theorem dL_944 : decode code 944 = .ok (.iadd, 1) := by decide +kernel
theorem dL_945 : decode code 945 = .ok (.iaload, 1) := by decide +kernel
theorem dL_946 : decode code 946 = .ok (.aload_n 0, 1) := by decide +kernel
theorem dL_947 : decode code 947 = .ok (.iload_n 3, 1) := by decide +kernel
theorem dL_948 : decode code 948 = .ok (.iconst 2, 1) := by decide +kernel
theorem dL_949 : decode code 949 = .ok (.iadd, 1) := by decide +kernel
theorem dL_950 : decode code 950 = .ok (.iaload, 1) := by decide +kernel
theorem dL_951 : decode code 951 = .ok (.invokevirtual 117, 3) := by decide +kernel
theorem dL_954 : decode code 954 = .ok (.if_icmp .eq 202, 3) := by decide +kernel
set_option maxRecDepth 8000 in
set_option maxHeartbeats 4000000 in
theorem lw_c24 {l : Launch} {g : qGm} {X : qCt} {M : qMem} {b L : Nat} {xs : Nat → Int32} {i : Int} {sd : sSD} (C : qCx l g X code RL 9) (D : lCx X b L xs) (hi : 0 ≤ i ∧ i + 5 ≤ (L : Int)) (hL : L ≤ 320) (h : qInv M sd) (k : ∀ M' sd', qInv M' sd' → qV l g X M' 1156 (lwL g b i) []) : qV l g X M 926 (lwL g b i) [] := by
  have hI := h
  obtain ⟨hT, hSt, hSn, hBk⟩ := h
  have hs := hSt.1
  have hxS := hSt.2.1
  have hmS := hSt.2.2.1
  have hZ := hSt.2.2.2.1
  have hI0 := hSt.2.2.2.2.1
  have hI1 := hSt.2.2.2.2.2
  have hv := hSt.v
  have hH := hSt.h
  have hk := hSt.k
  refine q_aloadn C dL_926 rfl ?_
  refine q_aloadn C dL_927 rfl ?_
  refine q_iloadn C dL_928 rfl ?_
  refine q_iconst C dL_929 ?_
  refine q_iadd C dL_930 ?_
  refine q_sld C D (by omega) (by omega) hL dL_931 ?_
  refine q_aloadn C dL_932 rfl ?_
  refine q_iloadn C dL_933 rfl ?_
  refine q_iconst C dL_934 ?_
  refine q_iadd C dL_935 ?_
  refine q_sld C D (by omega) (by omega) hL dL_936 ?_
  refine cv_RL_114 C (by decide) (m_X11_dry l g M  (lSc_in _ _) (lSc_in _ _)) dL_937 (Nat.le_of_ble_eq_true rfl) (fun r1 => ?_)
  refine q_aloadn C dL_940 rfl ?_
  refine q_aloadn C dL_941 rfl ?_
  refine q_iloadn C dL_942 rfl ?_
  refine q_iconst C dL_943 ?_
  refine q_iadd C dL_944 ?_
  refine q_sld C D (by omega) (by omega) hL dL_945 ?_
  refine q_aloadn C dL_946 rfl ?_
  refine q_iloadn C dL_947 rfl ?_
  refine q_iconst C dL_948 ?_
  refine q_iadd C dL_949 ?_
  refine q_sld C D (by omega) (by omega) hL dL_950 ?_
  refine cv_RL_117 C (by decide) (m_X12_dry l g M  (lSc_in _ _) (lSc_in _ _)) dL_951 (Nat.le_of_ble_eq_true rfl) (fun r2 => ?_)
  exact q_icmp_eq C 1156 dL_954 (by decide) (r1) (r2) (fun _ => k _ _ (hI)) (fun hne => absurd (rfl) hne)
