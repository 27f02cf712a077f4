/-! THE LAW: its cases 20 to 28 -/
theorem dL_law_804 : decode cL_law 804 = .ok (.aload_n 1, 1) := by decide +kernel
theorem dL_law_805 : decode cL_law 805 = .ok (.aload_n 0, 1) := by decide +kernel
theorem dL_law_806 : decode cL_law 806 = .ok (.iload_n 3, 1) := by decide +kernel
theorem dL_law_807 : decode cL_law 807 = .ok (.iconst 1, 1) := by decide +kernel
theorem dL_law_808 : decode cL_law 808 = .ok (.iadd, 1) := by decide +kernel
theorem dL_law_809 : decode cL_law 809 = .ok (.iaload, 1) := by decide +kernel
theorem dL_law_810 : decode cL_law 810 = .ok (.aload_n 0, 1) := by decide +kernel
theorem dL_law_811 : decode cL_law 811 = .ok (.iload_n 3, 1) := by decide +kernel
theorem dL_law_812 : decode cL_law 812 = .ok (.iconst 2, 1) := by decide +kernel
theorem dL_law_813 : decode cL_law 813 = .ok (.iadd, 1) := by decide +kernel
theorem dL_law_814 : decode cL_law 814 = .ok (.iaload, 1) := by decide +kernel
theorem dL_law_815 : decode cL_law 815 = .ok (.invokevirtual 101, 3) := by decide +kernel
theorem dL_law_818 : decode cL_law 818 = .ok (.aload_n 2, 1) := by decide +kernel
theorem dL_law_819 : decode cL_law 819 = .ok (.aload_n 0, 1) := by decide +kernel
theorem dL_law_820 : decode cL_law 820 = .ok (.iload_n 3, 1) := by decide +kernel
theorem dL_law_821 : decode cL_law 821 = .ok (.iconst 1, 1) := by decide +kernel
theorem dL_law_822 : decode cL_law 822 = .ok (.iadd, 1) := by decide +kernel
theorem dL_law_823 : decode cL_law 823 = .ok (.iaload, 1) := by decide +kernel
theorem dL_law_824 : decode cL_law 824 = .ok (.aload_n 0, 1) := by decide +kernel
theorem dL_law_825 : decode cL_law 825 = .ok (.iload_n 3, 1) := by decide +kernel
theorem dL_law_826 : decode cL_law 826 = .ok (.iconst 2, 1) := by decide +kernel
theorem dL_law_827 : decode cL_law 827 = .ok (.iadd, 1) := by decide +kernel
theorem dL_law_828 : decode cL_law 828 = .ok (.iaload, 1) := by decide +kernel
theorem dL_law_829 : decode cL_law 829 = .ok (.invokevirtual 104, 3) := by decide +kernel
theorem dL_law_832 : decode cL_law 832 = .ok (.if_icmp .eq 199, 3) := by decide +kernel
theorem dL_law_835 : decode cL_law 835 = .ok (.iconst 0, 1) := by decide +kernel
theorem dL_law_836 : decode cL_law 836 = .ok (.ireturn, 1) := by decide +kernel
theorem dL_law_837 : decode cL_law 837 = .ok (.aload_n 1, 1) := by decide +kernel
theorem dL_law_838 : decode cL_law 838 = .ok (.aload_n 0, 1) := by decide +kernel
theorem dL_law_839 : decode cL_law 839 = .ok (.iload_n 3, 1) := by decide +kernel
theorem dL_law_840 : decode cL_law 840 = .ok (.iconst 1, 1) := by decide +kernel
theorem dL_law_841 : decode cL_law 841 = .ok (.iadd, 1) := by decide +kernel
theorem dL_law_842 : decode cL_law 842 = .ok (.iaload, 1) := by decide +kernel
theorem dL_law_843 : decode cL_law 843 = .ok (.invokevirtual 105, 3) := by decide +kernel
theorem dL_law_846 : decode cL_law 846 = .ok (.aload_n 2, 1) := by decide +kernel
theorem dL_law_847 : decode cL_law 847 = .ok (.aload_n 0, 1) := by decide +kernel
theorem dL_law_848 : decode cL_law 848 = .ok (.iload_n 3, 1) := by decide +kernel
theorem dL_law_849 : decode cL_law 849 = .ok (.iconst 1, 1) := by decide +kernel
theorem dL_law_850 : decode cL_law 850 = .ok (.iadd, 1) := by decide +kernel
theorem dL_law_851 : decode cL_law 851 = .ok (.iaload, 1) := by decide +kernel
theorem dL_law_852 : decode cL_law 852 = .ok (.invokevirtual 108, 3) := by decide +kernel
theorem dL_law_855 : decode cL_law 855 = .ok (.if_icmp .eq 176, 3) := by decide +kernel
theorem dL_law_858 : decode cL_law 858 = .ok (.iconst 0, 1) := by decide +kernel
theorem dL_law_859 : decode cL_law 859 = .ok (.ireturn, 1) := by decide +kernel
theorem dL_law_860 : decode cL_law 860 = .ok (.aload_n 1, 1) := by decide +kernel
theorem dL_law_861 : decode cL_law 861 = .ok (.aload_n 0, 1) := by decide +kernel
theorem dL_law_862 : decode cL_law 862 = .ok (.iload_n 3, 1) := by decide +kernel
theorem dL_law_863 : decode cL_law 863 = .ok (.iconst 1, 1) := by decide +kernel
theorem dL_law_864 : decode cL_law 864 = .ok (.iadd, 1) := by decide +kernel
theorem dL_law_865 : decode cL_law 865 = .ok (.iaload, 1) := by decide +kernel
theorem dL_law_866 : decode cL_law 866 = .ok (.invokevirtual 109, 3) := by decide +kernel
theorem dL_law_869 : decode cL_law 869 = .ok (.aload_n 2, 1) := by decide +kernel
theorem dL_law_870 : decode cL_law 870 = .ok (.aload_n 0, 1) := by decide +kernel
theorem dL_law_871 : decode cL_law 871 = .ok (.iload_n 3, 1) := by decide +kernel
theorem dL_law_872 : decode cL_law 872 = .ok (.iconst 1, 1) := by decide +kernel
theorem dL_law_873 : decode cL_law 873 = .ok (.iadd, 1) := by decide +kernel
theorem dL_law_874 : decode cL_law 874 = .ok (.iaload, 1) := by decide +kernel
theorem dL_law_875 : decode cL_law 875 = .ok (.invokevirtual 112, 3) := by decide +kernel
theorem dL_law_878 : decode cL_law 878 = .ok (.if_icmp .eq 153, 3) := by decide +kernel
theorem dL_law_881 : decode cL_law 881 = .ok (.iconst 0, 1) := by decide +kernel
theorem dL_law_882 : decode cL_law 882 = .ok (.ireturn, 1) := by decide +kernel
theorem dL_law_883 : decode cL_law 883 = .ok (.aload_n 1, 1) := by decide +kernel
theorem dL_law_884 : decode cL_law 884 = .ok (.aload_n 0, 1) := by decide +kernel
theorem dL_law_885 : decode cL_law 885 = .ok (.iload_n 3, 1) := by decide +kernel
theorem dL_law_886 : decode cL_law 886 = .ok (.iconst 1, 1) := by decide +kernel
theorem dL_law_887 : decode cL_law 887 = .ok (.iadd, 1) := by decide +kernel
theorem dL_law_888 : decode cL_law 888 = .ok (.iaload, 1) := by decide +kernel
theorem dL_law_889 : decode cL_law 889 = .ok (.invokevirtual 113, 3) := by decide +kernel
theorem dL_law_892 : decode cL_law 892 = .ok (.aload_n 2, 1) := by decide +kernel
theorem dL_law_893 : decode cL_law 893 = .ok (.aload_n 0, 1) := by decide +kernel
theorem dL_law_894 : decode cL_law 894 = .ok (.iload_n 3, 1) := by decide +kernel
theorem dL_law_895 : decode cL_law 895 = .ok (.iconst 1, 1) := by decide +kernel
theorem dL_law_896 : decode cL_law 896 = .ok (.iadd, 1) := by decide +kernel
theorem dL_law_897 : decode cL_law 897 = .ok (.iaload, 1) := by decide +kernel
theorem dL_law_898 : decode cL_law 898 = .ok (.invokevirtual 116, 3) := by decide +kernel
theorem dL_law_901 : decode cL_law 901 = .ok (.if_icmp .eq 130, 3) := by decide +kernel
theorem dL_law_904 : decode cL_law 904 = .ok (.iconst 0, 1) := by decide +kernel
theorem dL_law_905 : decode cL_law 905 = .ok (.ireturn, 1) := by decide +kernel
theorem dL_law_906 : decode cL_law 906 = .ok (.aload_n 1, 1) := by decide +kernel
theorem dL_law_907 : decode cL_law 907 = .ok (.aload_n 0, 1) := by decide +kernel
theorem dL_law_908 : decode cL_law 908 = .ok (.iload_n 3, 1) := by decide +kernel
theorem dL_law_909 : decode cL_law 909 = .ok (.iconst 1, 1) := by decide +kernel
theorem dL_law_910 : decode cL_law 910 = .ok (.iadd, 1) := by decide +kernel
theorem dL_law_911 : decode cL_law 911 = .ok (.iaload, 1) := by decide +kernel
theorem dL_law_912 : decode cL_law 912 = .ok (.aload_n 0, 1) := by decide +kernel
theorem dL_law_913 : decode cL_law 913 = .ok (.iload_n 3, 1) := by decide +kernel
theorem dL_law_914 : decode cL_law 914 = .ok (.iconst 2, 1) := by decide +kernel
theorem dL_law_915 : decode cL_law 915 = .ok (.iadd, 1) := by decide +kernel
theorem dL_law_916 : decode cL_law 916 = .ok (.iaload, 1) := by decide +kernel
theorem dL_law_917 : decode cL_law 917 = .ok (.invokevirtual 117, 3) := by decide +kernel
theorem dL_law_920 : decode cL_law 920 = .ok (.aload_n 2, 1) := by decide +kernel
theorem dL_law_921 : decode cL_law 921 = .ok (.aload_n 0, 1) := by decide +kernel
theorem dL_law_922 : decode cL_law 922 = .ok (.iload_n 3, 1) := by decide +kernel
theorem dL_law_923 : decode cL_law 923 = .ok (.iconst 1, 1) := by decide +kernel
theorem dL_law_924 : decode cL_law 924 = .ok (.iadd, 1) := by decide +kernel
theorem dL_law_925 : decode cL_law 925 = .ok (.iaload, 1) := by decide +kernel
theorem dL_law_926 : decode cL_law 926 = .ok (.aload_n 0, 1) := by decide +kernel
theorem dL_law_927 : decode cL_law 927 = .ok (.iload_n 3, 1) := by decide +kernel
theorem dL_law_928 : decode cL_law 928 = .ok (.iconst 2, 1) := by decide +kernel
theorem dL_law_929 : decode cL_law 929 = .ok (.iadd, 1) := by decide +kernel
theorem dL_law_930 : decode cL_law 930 = .ok (.iaload, 1) := by decide +kernel
theorem dL_law_931 : decode cL_law 931 = .ok (.invokevirtual 120, 3) := by decide +kernel
theorem dL_law_934 : decode cL_law 934 = .ok (.if_icmp .eq 97, 3) := by decide +kernel
theorem dL_law_937 : decode cL_law 937 = .ok (.iconst 0, 1) := by decide +kernel
theorem dL_law_938 : decode cL_law 938 = .ok (.ireturn, 1) := by decide +kernel
theorem dL_law_939 : decode cL_law 939 = .ok (.aload_n 1, 1) := by decide +kernel
theorem dL_law_940 : decode cL_law 940 = .ok (.aload_n 0, 1) := by decide +kernel
theorem dL_law_941 : decode cL_law 941 = .ok (.iload_n 3, 1) := by decide +kernel
theorem dL_law_942 : decode cL_law 942 = .ok (.iconst 1, 1) := by decide +kernel
theorem dL_law_943 : decode cL_law 943 = .ok (.iadd, 1) := by decide +kernel
theorem dL_law_944 : decode cL_law 944 = .ok (.iaload, 1) := by decide +kernel
theorem dL_law_945 : decode cL_law 945 = .ok (.aload_n 0, 1) := by decide +kernel
theorem dL_law_946 : decode cL_law 946 = .ok (.iload_n 3, 1) := by decide +kernel
theorem dL_law_947 : decode cL_law 947 = .ok (.iconst 2, 1) := by decide +kernel
theorem dL_law_948 : decode cL_law 948 = .ok (.iadd, 1) := by decide +kernel
theorem dL_law_949 : decode cL_law 949 = .ok (.iaload, 1) := by decide +kernel
theorem dL_law_950 : decode cL_law 950 = .ok (.invokevirtual 121, 3) := by decide +kernel
theorem dL_law_953 : decode cL_law 953 = .ok (.aload_n 2, 1) := by decide +kernel
theorem dL_law_954 : decode cL_law 954 = .ok (.aload_n 0, 1) := by decide +kernel
theorem dL_law_955 : decode cL_law 955 = .ok (.iload_n 3, 1) := by decide +kernel
theorem dL_law_956 : decode cL_law 956 = .ok (.iconst 1, 1) := by decide +kernel
theorem dL_law_957 : decode cL_law 957 = .ok (.iadd, 1) := by decide +kernel
theorem dL_law_958 : decode cL_law 958 = .ok (.iaload, 1) := by decide +kernel
theorem dL_law_959 : decode cL_law 959 = .ok (.aload_n 0, 1) := by decide +kernel
theorem dL_law_960 : decode cL_law 960 = .ok (.iload_n 3, 1) := by decide +kernel
theorem dL_law_961 : decode cL_law 961 = .ok (.iconst 2, 1) := by decide +kernel
theorem dL_law_962 : decode cL_law 962 = .ok (.iadd, 1) := by decide +kernel
theorem dL_law_963 : decode cL_law 963 = .ok (.iaload, 1) := by decide +kernel
theorem dL_law_964 : decode cL_law 964 = .ok (.invokevirtual 124, 3) := by decide +kernel
theorem dL_law_967 : decode cL_law 967 = .ok (.if_icmp .eq 64, 3) := by decide +kernel
theorem dL_law_970 : decode cL_law 970 = .ok (.iconst 0, 1) := by decide +kernel
theorem dL_law_971 : decode cL_law 971 = .ok (.ireturn, 1) := by decide +kernel
theorem dL_law_972 : decode cL_law 972 = .ok (.aload_n 1, 1) := by decide +kernel
theorem dL_law_973 : decode cL_law 973 = .ok (.aload_n 0, 1) := by decide +kernel
theorem dL_law_974 : decode cL_law 974 = .ok (.iload_n 3, 1) := by decide +kernel
theorem dL_law_975 : decode cL_law 975 = .ok (.iconst 1, 1) := by decide +kernel
theorem dL_law_976 : decode cL_law 976 = .ok (.iadd, 1) := by decide +kernel
theorem dL_law_977 : decode cL_law 977 = .ok (.iaload, 1) := by decide +kernel
theorem dL_law_978 : decode cL_law 978 = .ok (.invokevirtual 125, 3) := by decide +kernel
theorem dL_law_981 : decode cL_law 981 = .ok (.aload_n 2, 1) := by decide +kernel
theorem dL_law_982 : decode cL_law 982 = .ok (.aload_n 0, 1) := by decide +kernel
theorem dL_law_983 : decode cL_law 983 = .ok (.iload_n 3, 1) := by decide +kernel
theorem dL_law_984 : decode cL_law 984 = .ok (.iconst 1, 1) := by decide +kernel
theorem dL_law_985 : decode cL_law 985 = .ok (.iadd, 1) := by decide +kernel
theorem dL_law_986 : decode cL_law 986 = .ok (.iaload, 1) := by decide +kernel
theorem dL_law_987 : decode cL_law 987 = .ok (.invokevirtual 128, 3) := by decide +kernel
theorem dL_law_990 : decode cL_law 990 = .ok (.if_icmp .eq 41, 3) := by decide +kernel
theorem dL_law_993 : decode cL_law 993 = .ok (.iconst 0, 1) := by decide +kernel
theorem dL_law_994 : decode cL_law 994 = .ok (.ireturn, 1) := by decide +kernel
theorem dL_law_995 : decode cL_law 995 = .ok (.aload_n 1, 1) := by decide +kernel
theorem dL_law_996 : decode cL_law 996 = .ok (.aload_n 0, 1) := by decide +kernel
theorem dL_law_997 : decode cL_law 997 = .ok (.iload_n 3, 1) := by decide +kernel
theorem dL_law_998 : decode cL_law 998 = .ok (.iconst 1, 1) := by decide +kernel
theorem dL_law_999 : decode cL_law 999 = .ok (.iadd, 1) := by decide +kernel
theorem dL_law_1000 : decode cL_law 1000 = .ok (.iaload, 1) := by decide +kernel
theorem dL_law_1001 : decode cL_law 1001 = .ok (.invokevirtual 129, 3) := by decide +kernel
theorem dL_law_1004 : decode cL_law 1004 = .ok (.aload_n 2, 1) := by decide +kernel
theorem dL_law_1005 : decode cL_law 1005 = .ok (.aload_n 0, 1) := by decide +kernel
theorem dL_law_1006 : decode cL_law 1006 = .ok (.iload_n 3, 1) := by decide +kernel
theorem dL_law_1007 : decode cL_law 1007 = .ok (.iconst 1, 1) := by decide +kernel
theorem dL_law_1008 : decode cL_law 1008 = .ok (.iadd, 1) := by decide +kernel
theorem dL_law_1009 : decode cL_law 1009 = .ok (.iaload, 1) := by decide +kernel
theorem dL_law_1010 : decode cL_law 1010 = .ok (.invokevirtual 132, 3) := by decide +kernel
theorem dL_law_1013 : decode cL_law 1013 = .ok (.if_icmp .eq 18, 3) := by decide +kernel
theorem dL_law_1016 : decode cL_law 1016 = .ok (.iconst 0, 1) := by decide +kernel
theorem dL_law_1017 : decode cL_law 1017 = .ok (.ireturn, 1) := by decide +kernel
theorem dL_law_1018 : decode cL_law 1018 = .ok (.aload_n 1, 1) := by decide +kernel
theorem dL_law_1019 : decode cL_law 1019 = .ok (.invokevirtual 133, 3) := by decide +kernel
theorem dL_law_1022 : decode cL_law 1022 = .ok (.aload_n 2, 1) := by decide +kernel
theorem dL_law_1023 : decode cL_law 1023 = .ok (.invokevirtual 136, 3) := by decide +kernel
theorem dL_law_1026 : decode cL_law 1026 = .ok (.if_icmp .eq 5, 3) := by decide +kernel
theorem dL_law_1029 : decode cL_law 1029 = .ok (.iconst 0, 1) := by decide +kernel
theorem dL_law_1030 : decode cL_law 1030 = .ok (.ireturn, 1) := by decide +kernel
section LC
variable {G : GG} {b L i : Nat} {xs : Nat → Int32} {σ : AH}
theorem lc_walk (hL : L ≤ 3072) (hi : i + 6 ≤ L) (H : IV σ) (hn : ∀ σ2, IV σ2 → J G RL cL_law 4 ret (TL G b L xs) 184 σ2 184 6624 1031 [some (.ref (EXT + 400)), some (.ref 0), some (.ref 171), some (.int (nI i))] []) : J G RL cL_law 4 ret (TL G b L xs) 184 σ 184 6624 804 [some (.ref (EXT + 400)), some (.ref 0), some (.ref 171), some (.int (nI i))] [] := by
  obtain ⟨v, σ1, σ2, h5, h6, H2, fs, ho⟩ := IV_walk (G := G) (z := 184) H (xs (i + 1)) (xs (i + 2))
  obtain ⟨fs0, ho0⟩ := IV_0 H
  refine j_aload_n dL_law_804 rfl rfl ?_
  refine j_aload_n dL_law_805 rfl rfl ?_
  refine j_iload_n dL_law_806 rfl rfl ?_
  refine j_iconst (nI 1) dL_law_807 rfl ?_
  first | refine j_iaddN dL_law_808 ?_ | refine j_iadd dL_law_808 ?_
  refine j_sld dL_law_809 (by omega) hL ?_
  refine j_aload_n dL_law_810 rfl rfl ?_
  refine j_iload_n dL_law_811 rfl rfl ?_
  refine j_iconst (nI 2) dL_law_812 rfl ?_
  first | refine j_iaddN dL_law_813 ?_ | refine j_iadd dL_law_813 ?_
  refine j_sld dL_law_814 (by omega) hL ?_
  refine j_callV h5 dL_law_815 rfl mv_L_101 ho0 rfl ⟨(Nat.le_of_ble_eq_true rfl), (Nat.le_of_ble_eq_true rfl)⟩ ⟨(Nat.le_of_ble_eq_true rfl), (Nat.le_of_ble_eq_true rfl)⟩ (Nat.le_of_ble_eq_true rfl) ?_
  refine j_aload_n dL_law_818 rfl rfl ?_
  refine j_aload_n dL_law_819 rfl rfl ?_
  refine j_iload_n dL_law_820 rfl rfl ?_
  refine j_iconst (nI 1) dL_law_821 rfl ?_
  first | refine j_iaddN dL_law_822 ?_ | refine j_iadd dL_law_822 ?_
  refine j_sld dL_law_823 (by omega) hL ?_
  refine j_aload_n dL_law_824 rfl rfl ?_
  refine j_iload_n dL_law_825 rfl rfl ?_
  refine j_iconst (nI 2) dL_law_826 rfl ?_
  first | refine j_iaddN dL_law_827 ?_ | refine j_iadd dL_law_827 ?_
  refine j_sld dL_law_828 (by omega) hL ?_
  refine j_callV h6 dL_law_829 rfl mv_L_104 ho rfl ⟨(Nat.le_of_ble_eq_true rfl), (Nat.le_of_ble_eq_true rfl)⟩ ⟨(Nat.le_of_ble_eq_true rfl), (Nat.le_of_ble_eq_true rfl)⟩ (Nat.le_of_ble_eq_true rfl) ?_
  refine j_icmp_eq 1031 dL_law_832 (by decide) (fun b832 => ?_) (fun b832 => by exact absurd rfl b832)
  exact hn σ2 H2
theorem lc_image (hL : L ≤ 3072) (hi : i + 6 ≤ L) (H : IV σ) (hn : ∀ σ2, IV σ2 → J G RL cL_law 4 ret (TL G b L xs) 184 σ2 184 6624 1031 [some (.ref (EXT + 400)), some (.ref 0), some (.ref 171), some (.int (nI i))] []) : J G RL cL_law 4 ret (TL G b L xs) 184 σ 184 6624 837 [some (.ref (EXT + 400)), some (.ref 0), some (.ref 171), some (.int (nI i))] [] := by
  obtain ⟨v, σ1, σ2, h5, h6, H2, fs, ho⟩ := IV_image (G := G) (z := 184) H (xs (i + 1))
  obtain ⟨fs0, ho0⟩ := IV_0 H
  refine j_aload_n dL_law_837 rfl rfl ?_
  refine j_aload_n dL_law_838 rfl rfl ?_
  refine j_iload_n dL_law_839 rfl rfl ?_
  refine j_iconst (nI 1) dL_law_840 rfl ?_
  first | refine j_iaddN dL_law_841 ?_ | refine j_iadd dL_law_841 ?_
  refine j_sld dL_law_842 (by omega) hL ?_
  refine j_callV h5 dL_law_843 rfl mv_L_105 ho0 rfl ⟨(Nat.le_of_ble_eq_true rfl), (Nat.le_of_ble_eq_true rfl)⟩ ⟨(Nat.le_of_ble_eq_true rfl), (Nat.le_of_ble_eq_true rfl)⟩ (Nat.le_of_ble_eq_true rfl) ?_
  refine j_aload_n dL_law_846 rfl rfl ?_
  refine j_aload_n dL_law_847 rfl rfl ?_
  refine j_iload_n dL_law_848 rfl rfl ?_
  refine j_iconst (nI 1) dL_law_849 rfl ?_
  first | refine j_iaddN dL_law_850 ?_ | refine j_iadd dL_law_850 ?_
  refine j_sld dL_law_851 (by omega) hL ?_
  refine j_callV h6 dL_law_852 rfl mv_L_108 ho rfl ⟨(Nat.le_of_ble_eq_true rfl), (Nat.le_of_ble_eq_true rfl)⟩ ⟨(Nat.le_of_ble_eq_true rfl), (Nat.le_of_ble_eq_true rfl)⟩ (Nat.le_of_ble_eq_true rfl) ?_
  refine j_icmp_eq 1031 dL_law_855 (by decide) (fun b855 => ?_) (fun b855 => by exact absurd rfl b855)
  exact hn σ2 H2
theorem lc_restore (hL : L ≤ 3072) (hi : i + 6 ≤ L) (H : IV σ) (hn : ∀ σ2, IV σ2 → J G RL cL_law 4 ret (TL G b L xs) 184 σ2 184 6624 1031 [some (.ref (EXT + 400)), some (.ref 0), some (.ref 171), some (.int (nI i))] []) : J G RL cL_law 4 ret (TL G b L xs) 184 σ 184 6624 860 [some (.ref (EXT + 400)), some (.ref 0), some (.ref 171), some (.int (nI i))] [] := by
  obtain ⟨v, σ1, σ2, h5, h6, H2, fs, ho⟩ := IV_restore (G := G) (z := 184) H (xs (i + 1))
  obtain ⟨fs0, ho0⟩ := IV_0 H
  refine j_aload_n dL_law_860 rfl rfl ?_
  refine j_aload_n dL_law_861 rfl rfl ?_
  refine j_iload_n dL_law_862 rfl rfl ?_
  refine j_iconst (nI 1) dL_law_863 rfl ?_
  first | refine j_iaddN dL_law_864 ?_ | refine j_iadd dL_law_864 ?_
  refine j_sld dL_law_865 (by omega) hL ?_
  refine j_callV h5 dL_law_866 rfl mv_L_109 ho0 rfl ⟨(Nat.le_of_ble_eq_true rfl), (Nat.le_of_ble_eq_true rfl)⟩ ⟨(Nat.le_of_ble_eq_true rfl), (Nat.le_of_ble_eq_true rfl)⟩ (Nat.le_of_ble_eq_true rfl) ?_
  refine j_aload_n dL_law_869 rfl rfl ?_
  refine j_aload_n dL_law_870 rfl rfl ?_
  refine j_iload_n dL_law_871 rfl rfl ?_
  refine j_iconst (nI 1) dL_law_872 rfl ?_
  first | refine j_iaddN dL_law_873 ?_ | refine j_iadd dL_law_873 ?_
  refine j_sld dL_law_874 (by omega) hL ?_
  refine j_callV h6 dL_law_875 rfl mv_L_112 ho rfl ⟨(Nat.le_of_ble_eq_true rfl), (Nat.le_of_ble_eq_true rfl)⟩ ⟨(Nat.le_of_ble_eq_true rfl), (Nat.le_of_ble_eq_true rfl)⟩ (Nat.le_of_ble_eq_true rfl) ?_
  refine j_icmp_eq 1031 dL_law_878 (by decide) (fun b878 => ?_) (fun b878 => by exact absurd rfl b878)
  exact hn σ2 H2
theorem lc_kind (hL : L ≤ 3072) (hi : i + 6 ≤ L) (H : IV σ) (hn : ∀ σ2, IV σ2 → J G RL cL_law 4 ret (TL G b L xs) 184 σ2 184 6624 1031 [some (.ref (EXT + 400)), some (.ref 0), some (.ref 171), some (.int (nI i))] []) : J G RL cL_law 4 ret (TL G b L xs) 184 σ 184 6624 883 [some (.ref (EXT + 400)), some (.ref 0), some (.ref 171), some (.int (nI i))] [] := by
  obtain ⟨v, σ1, σ2, h5, h6, H2, fs, ho⟩ := IV_kind (G := G) (z := 184) H (xs (i + 1))
  obtain ⟨fs0, ho0⟩ := IV_0 H
  refine j_aload_n dL_law_883 rfl rfl ?_
  refine j_aload_n dL_law_884 rfl rfl ?_
  refine j_iload_n dL_law_885 rfl rfl ?_
  refine j_iconst (nI 1) dL_law_886 rfl ?_
  first | refine j_iaddN dL_law_887 ?_ | refine j_iadd dL_law_887 ?_
  refine j_sld dL_law_888 (by omega) hL ?_
  refine j_callV h5 dL_law_889 rfl mv_L_113 ho0 rfl ⟨(Nat.le_of_ble_eq_true rfl), (Nat.le_of_ble_eq_true rfl)⟩ ⟨(Nat.le_of_ble_eq_true rfl), (Nat.le_of_ble_eq_true rfl)⟩ (Nat.le_of_ble_eq_true rfl) ?_
  refine j_aload_n dL_law_892 rfl rfl ?_
  refine j_aload_n dL_law_893 rfl rfl ?_
  refine j_iload_n dL_law_894 rfl rfl ?_
  refine j_iconst (nI 1) dL_law_895 rfl ?_
  first | refine j_iaddN dL_law_896 ?_ | refine j_iadd dL_law_896 ?_
  refine j_sld dL_law_897 (by omega) hL ?_
  refine j_callV h6 dL_law_898 rfl mv_L_116 ho rfl ⟨(Nat.le_of_ble_eq_true rfl), (Nat.le_of_ble_eq_true rfl)⟩ ⟨(Nat.le_of_ble_eq_true rfl), (Nat.le_of_ble_eq_true rfl)⟩ (Nat.le_of_ble_eq_true rfl) ?_
  refine j_icmp_eq 1031 dL_law_901 (by decide) (fun b901 => ?_) (fun b901 => by exact absurd rfl b901)
  exact hn σ2 H2
theorem lc_as (hL : L ≤ 3072) (hi : i + 6 ≤ L) (H : IV σ) (hn : ∀ σ2, IV σ2 → J G RL cL_law 4 ret (TL G b L xs) 184 σ2 184 6624 1031 [some (.ref (EXT + 400)), some (.ref 0), some (.ref 171), some (.int (nI i))] []) : J G RL cL_law 4 ret (TL G b L xs) 184 σ 184 6624 906 [some (.ref (EXT + 400)), some (.ref 0), some (.ref 171), some (.int (nI i))] [] := by
  obtain ⟨v, σ1, σ2, h5, h6, H2, fs, ho⟩ := IV_as (G := G) (z := 184) H (xs (i + 1)) (xs (i + 2))
  obtain ⟨fs0, ho0⟩ := IV_0 H
  refine j_aload_n dL_law_906 rfl rfl ?_
  refine j_aload_n dL_law_907 rfl rfl ?_
  refine j_iload_n dL_law_908 rfl rfl ?_
  refine j_iconst (nI 1) dL_law_909 rfl ?_
  first | refine j_iaddN dL_law_910 ?_ | refine j_iadd dL_law_910 ?_
  refine j_sld dL_law_911 (by omega) hL ?_
  refine j_aload_n dL_law_912 rfl rfl ?_
  refine j_iload_n dL_law_913 rfl rfl ?_
  refine j_iconst (nI 2) dL_law_914 rfl ?_
  first | refine j_iaddN dL_law_915 ?_ | refine j_iadd dL_law_915 ?_
  refine j_sld dL_law_916 (by omega) hL ?_
  refine j_callV h5 dL_law_917 rfl mv_L_117 ho0 rfl ⟨(Nat.le_of_ble_eq_true rfl), (Nat.le_of_ble_eq_true rfl)⟩ ⟨(Nat.le_of_ble_eq_true rfl), (Nat.le_of_ble_eq_true rfl)⟩ (Nat.le_of_ble_eq_true rfl) ?_
  refine j_aload_n dL_law_920 rfl rfl ?_
  refine j_aload_n dL_law_921 rfl rfl ?_
  refine j_iload_n dL_law_922 rfl rfl ?_
  refine j_iconst (nI 1) dL_law_923 rfl ?_
  first | refine j_iaddN dL_law_924 ?_ | refine j_iadd dL_law_924 ?_
  refine j_sld dL_law_925 (by omega) hL ?_
  refine j_aload_n dL_law_926 rfl rfl ?_
  refine j_iload_n dL_law_927 rfl rfl ?_
  refine j_iconst (nI 2) dL_law_928 rfl ?_
  first | refine j_iaddN dL_law_929 ?_ | refine j_iadd dL_law_929 ?_
  refine j_sld dL_law_930 (by omega) hL ?_
  refine j_callV h6 dL_law_931 rfl mv_L_120 ho rfl ⟨(Nat.le_of_ble_eq_true rfl), (Nat.le_of_ble_eq_true rfl)⟩ ⟨(Nat.le_of_ble_eq_true rfl), (Nat.le_of_ble_eq_true rfl)⟩ (Nat.le_of_ble_eq_true rfl) ?_
  refine j_icmp_eq 1031 dL_law_934 (by decide) (fun b934 => ?_) (fun b934 => by exact absurd rfl b934)
  exact hn σ2 H2
theorem lc_ask (hL : L ≤ 3072) (hi : i + 6 ≤ L) (H : IV σ) (hn : ∀ σ2, IV σ2 → J G RL cL_law 4 ret (TL G b L xs) 184 σ2 184 6624 1031 [some (.ref (EXT + 400)), some (.ref 0), some (.ref 171), some (.int (nI i))] []) : J G RL cL_law 4 ret (TL G b L xs) 184 σ 184 6624 939 [some (.ref (EXT + 400)), some (.ref 0), some (.ref 171), some (.int (nI i))] [] := by
  obtain ⟨v, σ1, σ2, h5, h6, H2, fs, ho⟩ := IV_ask (G := G) (z := 184) H (xs (i + 1)) (xs (i + 2))
  obtain ⟨fs0, ho0⟩ := IV_0 H
  refine j_aload_n dL_law_939 rfl rfl ?_
  refine j_aload_n dL_law_940 rfl rfl ?_
  refine j_iload_n dL_law_941 rfl rfl ?_
  refine j_iconst (nI 1) dL_law_942 rfl ?_
  first | refine j_iaddN dL_law_943 ?_ | refine j_iadd dL_law_943 ?_
  refine j_sld dL_law_944 (by omega) hL ?_
  refine j_aload_n dL_law_945 rfl rfl ?_
  refine j_iload_n dL_law_946 rfl rfl ?_
  refine j_iconst (nI 2) dL_law_947 rfl ?_
  first | refine j_iaddN dL_law_948 ?_ | refine j_iadd dL_law_948 ?_
  refine j_sld dL_law_949 (by omega) hL ?_
  refine j_callV h5 dL_law_950 rfl mv_L_121 ho0 rfl ⟨(Nat.le_of_ble_eq_true rfl), (Nat.le_of_ble_eq_true rfl)⟩ ⟨(Nat.le_of_ble_eq_true rfl), (Nat.le_of_ble_eq_true rfl)⟩ (Nat.le_of_ble_eq_true rfl) ?_
  refine j_aload_n dL_law_953 rfl rfl ?_
  refine j_aload_n dL_law_954 rfl rfl ?_
  refine j_iload_n dL_law_955 rfl rfl ?_
  refine j_iconst (nI 1) dL_law_956 rfl ?_
  first | refine j_iaddN dL_law_957 ?_ | refine j_iadd dL_law_957 ?_
  refine j_sld dL_law_958 (by omega) hL ?_
  refine j_aload_n dL_law_959 rfl rfl ?_
  refine j_iload_n dL_law_960 rfl rfl ?_
  refine j_iconst (nI 2) dL_law_961 rfl ?_
  first | refine j_iaddN dL_law_962 ?_ | refine j_iadd dL_law_962 ?_
  refine j_sld dL_law_963 (by omega) hL ?_
  refine j_callV h6 dL_law_964 rfl mv_L_124 ho rfl ⟨(Nat.le_of_ble_eq_true rfl), (Nat.le_of_ble_eq_true rfl)⟩ ⟨(Nat.le_of_ble_eq_true rfl), (Nat.le_of_ble_eq_true rfl)⟩ (Nat.le_of_ble_eq_true rfl) ?_
  refine j_icmp_eq 1031 dL_law_967 (by decide) (fun b967 => ?_) (fun b967 => by exact absurd rfl b967)
  exact hn σ2 H2
theorem lc_trace (hL : L ≤ 3072) (hi : i + 6 ≤ L) (H : IV σ) (hn : ∀ σ2, IV σ2 → J G RL cL_law 4 ret (TL G b L xs) 184 σ2 184 6624 1031 [some (.ref (EXT + 400)), some (.ref 0), some (.ref 171), some (.int (nI i))] []) : J G RL cL_law 4 ret (TL G b L xs) 184 σ 184 6624 972 [some (.ref (EXT + 400)), some (.ref 0), some (.ref 171), some (.int (nI i))] [] := by
  obtain ⟨v, σ1, σ2, h5, h6, H2, fs, ho⟩ := IV_trace (G := G) (z := 184) H (xs (i + 1))
  obtain ⟨fs0, ho0⟩ := IV_0 H
  refine j_aload_n dL_law_972 rfl rfl ?_
  refine j_aload_n dL_law_973 rfl rfl ?_
  refine j_iload_n dL_law_974 rfl rfl ?_
  refine j_iconst (nI 1) dL_law_975 rfl ?_
  first | refine j_iaddN dL_law_976 ?_ | refine j_iadd dL_law_976 ?_
  refine j_sld dL_law_977 (by omega) hL ?_
  refine j_callV h5 dL_law_978 rfl mv_L_125 ho0 rfl ⟨(Nat.le_of_ble_eq_true rfl), (Nat.le_of_ble_eq_true rfl)⟩ ⟨(Nat.le_of_ble_eq_true rfl), (Nat.le_of_ble_eq_true rfl)⟩ (Nat.le_of_ble_eq_true rfl) ?_
  refine j_aload_n dL_law_981 rfl rfl ?_
  refine j_aload_n dL_law_982 rfl rfl ?_
  refine j_iload_n dL_law_983 rfl rfl ?_
  refine j_iconst (nI 1) dL_law_984 rfl ?_
  first | refine j_iaddN dL_law_985 ?_ | refine j_iadd dL_law_985 ?_
  refine j_sld dL_law_986 (by omega) hL ?_
  refine j_callV h6 dL_law_987 rfl mv_L_128 ho rfl ⟨(Nat.le_of_ble_eq_true rfl), (Nat.le_of_ble_eq_true rfl)⟩ ⟨(Nat.le_of_ble_eq_true rfl), (Nat.le_of_ble_eq_true rfl)⟩ (Nat.le_of_ble_eq_true rfl) ?_
  refine j_icmp_eq 1031 dL_law_990 (by decide) (fun b990 => ?_) (fun b990 => by exact absurd rfl b990)
  exact hn σ2 H2
theorem lc_count (hL : L ≤ 3072) (hi : i + 6 ≤ L) (H : IV σ) (hn : ∀ σ2, IV σ2 → J G RL cL_law 4 ret (TL G b L xs) 184 σ2 184 6624 1031 [some (.ref (EXT + 400)), some (.ref 0), some (.ref 171), some (.int (nI i))] []) : J G RL cL_law 4 ret (TL G b L xs) 184 σ 184 6624 995 [some (.ref (EXT + 400)), some (.ref 0), some (.ref 171), some (.int (nI i))] [] := by
  obtain ⟨v, σ1, σ2, h5, h6, H2, fs, ho⟩ := IV_count (G := G) (z := 184) H (xs (i + 1))
  obtain ⟨fs0, ho0⟩ := IV_0 H
  refine j_aload_n dL_law_995 rfl rfl ?_
  refine j_aload_n dL_law_996 rfl rfl ?_
  refine j_iload_n dL_law_997 rfl rfl ?_
  refine j_iconst (nI 1) dL_law_998 rfl ?_
  first | refine j_iaddN dL_law_999 ?_ | refine j_iadd dL_law_999 ?_
  refine j_sld dL_law_1000 (by omega) hL ?_
  refine j_callV h5 dL_law_1001 rfl mv_L_129 ho0 rfl ⟨(Nat.le_of_ble_eq_true rfl), (Nat.le_of_ble_eq_true rfl)⟩ ⟨(Nat.le_of_ble_eq_true rfl), (Nat.le_of_ble_eq_true rfl)⟩ (Nat.le_of_ble_eq_true rfl) ?_
  refine j_aload_n dL_law_1004 rfl rfl ?_
  refine j_aload_n dL_law_1005 rfl rfl ?_
  refine j_iload_n dL_law_1006 rfl rfl ?_
  refine j_iconst (nI 1) dL_law_1007 rfl ?_
  first | refine j_iaddN dL_law_1008 ?_ | refine j_iadd dL_law_1008 ?_
  refine j_sld dL_law_1009 (by omega) hL ?_
  refine j_callV h6 dL_law_1010 rfl mv_L_132 ho rfl ⟨(Nat.le_of_ble_eq_true rfl), (Nat.le_of_ble_eq_true rfl)⟩ ⟨(Nat.le_of_ble_eq_true rfl), (Nat.le_of_ble_eq_true rfl)⟩ (Nat.le_of_ble_eq_true rfl) ?_
  refine j_icmp_eq 1031 dL_law_1013 (by decide) (fun b1013 => ?_) (fun b1013 => by exact absurd rfl b1013)
  exact hn σ2 H2
theorem lc_status (hL : L ≤ 3072) (hi : i + 6 ≤ L) (H : IV σ) (hn : ∀ σ2, IV σ2 → J G RL cL_law 4 ret (TL G b L xs) 184 σ2 184 6624 1031 [some (.ref (EXT + 400)), some (.ref 0), some (.ref 171), some (.int (nI i))] []) : J G RL cL_law 4 ret (TL G b L xs) 184 σ 184 6624 1018 [some (.ref (EXT + 400)), some (.ref 0), some (.ref 171), some (.int (nI i))] [] := by
  obtain ⟨v, σ1, σ2, h5, h6, H2, fs, ho⟩ := IV_status (G := G) (z := 184) H
  obtain ⟨fs0, ho0⟩ := IV_0 H
  refine j_aload_n dL_law_1018 rfl rfl ?_
  refine j_callV h5 dL_law_1019 rfl mv_L_133 ho0 rfl ⟨(Nat.le_of_ble_eq_true rfl), (Nat.le_of_ble_eq_true rfl)⟩ ⟨(Nat.le_of_ble_eq_true rfl), (Nat.le_of_ble_eq_true rfl)⟩ (Nat.le_of_ble_eq_true rfl) ?_
  refine j_aload_n dL_law_1022 rfl rfl ?_
  refine j_callV h6 dL_law_1023 rfl mv_L_136 ho rfl ⟨(Nat.le_of_ble_eq_true rfl), (Nat.le_of_ble_eq_true rfl)⟩ ⟨(Nat.le_of_ble_eq_true rfl), (Nat.le_of_ble_eq_true rfl)⟩ (Nat.le_of_ble_eq_true rfl) ?_
  refine j_icmp_eq 1031 dL_law_1026 (by decide) (fun b1026 => ?_) (fun b1026 => by exact absurd rfl b1026)
  exact hn σ2 H2
end LC
