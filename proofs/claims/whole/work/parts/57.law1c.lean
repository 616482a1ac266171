theorem w_law_never {X : Nat × (Nat → Int32)} {M : ng_M} {i : Int32} (h : ng_inv M) (h6 : ng_six X i) (kk : ∀ M2 : ng_M, ng_inv M2 → ng_Go X mi_L_law 61 1407 [some (.ref 1007), some (.ref 0), some (.ref 73), some (.int i)] [] M2 ng_F1) : ng_Go X mi_L_law 61 827 [some (.ref 1007), some (.ref 0), some (.ref 73), some (.int i)] [] M ng_F1 := by
  obtain ⟨g0, g1, g2, g3, g4, g5⟩ := h6
  refine ng_aload_1 dL_law_827 ?_
  refine ng_aload_0 dL_law_828 ?_
  refine ng_iload_3 dL_law_829 ?_
  refine ng_iconst_1 dL_law_830 ?_
  refine ng_iadd dL_law_831 ?_
  refine ng_kld (k := 7) dL_law_832 rfl (by assumption) ?_
  refine ng_aload_0 dL_law_833 ?_
  refine ng_iload_3 dL_law_834 ?_
  refine ng_iconst_2 dL_law_835 ?_
  refine ng_iadd dL_law_836 ?_
  refine ng_kld (k := 7) dL_law_837 rfl (by assumption) ?_
  refine ng_callV_2i (y2 := mi_X8_never) dL_law_838 lk_L_89 ms_X8_never my_X8_never (by first | exact ⟨_, rfl⟩ | assumption | exact ng_fld_obj (f := 0) (by assumption)) mc_X8 (by first | decide | exact Nat.le_of_ble_eq_true rfl) (pr_never h) (by decide) (fun v M1 h1 => ?_)
  refine ng_aload_2 dL_law_841 ?_
  refine ng_aload_0 dL_law_842 ?_
  refine ng_iload_3 dL_law_843 ?_
  refine ng_iconst_1 dL_law_844 ?_
  refine ng_iadd dL_law_845 ?_
  refine ng_kld (k := 7) dL_law_846 rfl (by assumption) ?_
  refine ng_aload_0 dL_law_847 ?_
  refine ng_iload_3 dL_law_848 ?_
  refine ng_iconst_2 dL_law_849 ?_
  refine ng_iadd dL_law_850 ?_
  refine ng_kld (k := 7) dL_law_851 rfl (by assumption) ?_
  refine ng_callV_2i (y2 := mi_X9_never) dL_law_852 lk_L_92 ms_X9_never my_X9_never (by first | exact ⟨_, rfl⟩ | assumption | exact ng_fld_obj (f := 0) (by assumption)) mc_X9 (by first | decide | exact Nat.le_of_ble_eq_true rfl) (h1) (by decide) (fun v2 M2 h2 => ?_)
  refine ng_icmp_eq 1407 dL_law_855 (by decide +kernel) (fun h855 => ?_) (fun h855 => ?_)
  · exact kk M2 h2.2
  · exact absurd h2.1.symm h855
theorem w_law_costs {X : Nat × (Nat → Int32)} {M : ng_M} {i : Int32} (h : ng_inv M) (h6 : ng_six X i) (kk : ∀ M2 : ng_M, ng_inv M2 → ng_Go X mi_L_law 61 1407 [some (.ref 1007), some (.ref 0), some (.ref 73), some (.int i)] [] M2 ng_F1) : ng_Go X mi_L_law 61 860 [some (.ref 1007), some (.ref 0), some (.ref 73), some (.int i)] [] M ng_F1 := by
  obtain ⟨g0, g1, g2, g3, g4, g5⟩ := h6
  refine ng_aload_1 dL_law_860 ?_
  refine ng_aload_0 dL_law_861 ?_
  refine ng_iload_3 dL_law_862 ?_
  refine ng_iconst_1 dL_law_863 ?_
  refine ng_iadd dL_law_864 ?_
  refine ng_kld (k := 7) dL_law_865 rfl (by assumption) ?_
  refine ng_callV_1i (y2 := mi_X8_costs) dL_law_866 lk_L_93 ms_X8_costs my_X8_costs (by first | exact ⟨_, rfl⟩ | assumption | exact ng_fld_obj (f := 0) (by assumption)) mc_X8 (by first | decide | exact Nat.le_of_ble_eq_true rfl) (pr_costs h) (by decide) (fun v M1 h1 => ?_)
  refine ng_aload_2 dL_law_869 ?_
  refine ng_aload_0 dL_law_870 ?_
  refine ng_iload_3 dL_law_871 ?_
  refine ng_iconst_1 dL_law_872 ?_
  refine ng_iadd dL_law_873 ?_
  refine ng_kld (k := 7) dL_law_874 rfl (by assumption) ?_
  refine ng_callV_1i (y2 := mi_X9_costs) dL_law_875 lk_L_96 ms_X9_costs my_X9_costs (by first | exact ⟨_, rfl⟩ | assumption | exact ng_fld_obj (f := 0) (by assumption)) mc_X9 (by first | decide | exact Nat.le_of_ble_eq_true rfl) (h1) (by decide) (fun v2 M2 h2 => ?_)
  refine ng_icmp_eq 1407 dL_law_878 (by decide +kernel) (fun h878 => ?_) (fun h878 => ?_)
  · exact kk M2 h2.2
  · exact absurd h2.1.symm h878
theorem w_law_raise {X : Nat × (Nat → Int32)} {M : ng_M} {i : Int32} (h : ng_inv M) (h6 : ng_six X i) (kk : ∀ M2 : ng_M, ng_inv M2 → ng_Go X mi_L_law 61 1407 [some (.ref 1007), some (.ref 0), some (.ref 73), some (.int i)] [] M2 ng_F1) : ng_Go X mi_L_law 61 883 [some (.ref 1007), some (.ref 0), some (.ref 73), some (.int i)] [] M ng_F1 := by
  obtain ⟨g0, g1, g2, g3, g4, g5⟩ := h6
  refine ng_aload_1 dL_law_883 ?_
  refine ng_aload_0 dL_law_884 ?_
  refine ng_iload_3 dL_law_885 ?_
  refine ng_iconst_1 dL_law_886 ?_
  refine ng_iadd dL_law_887 ?_
  refine ng_kld (k := 7) dL_law_888 rfl (by assumption) ?_
  refine ng_callV_1i (y2 := mi_X8_raise) dL_law_889 lk_L_97 ms_X8_raise my_X8_raise (by first | exact ⟨_, rfl⟩ | assumption | exact ng_fld_obj (f := 0) (by assumption)) mc_X8 (by first | decide | exact Nat.le_of_ble_eq_true rfl) (pr_raise h) (by decide) (fun v M1 h1 => ?_)
  refine ng_aload_2 dL_law_892 ?_
  refine ng_aload_0 dL_law_893 ?_
  refine ng_iload_3 dL_law_894 ?_
  refine ng_iconst_1 dL_law_895 ?_
  refine ng_iadd dL_law_896 ?_
  refine ng_kld (k := 7) dL_law_897 rfl (by assumption) ?_
  refine ng_callV_1i (y2 := mi_X9_raise) dL_law_898 lk_L_100 ms_X9_raise my_X9_raise (by first | exact ⟨_, rfl⟩ | assumption | exact ng_fld_obj (f := 0) (by assumption)) mc_X9 (by first | decide | exact Nat.le_of_ble_eq_true rfl) (h1) (by decide) (fun v2 M2 h2 => ?_)
  refine ng_icmp_eq 1407 dL_law_901 (by decide +kernel) (fun h901 => ?_) (fun h901 => ?_)
  · exact kk M2 h2.2
  · exact absurd h2.1.symm h901
theorem w_law_back {X : Nat × (Nat → Int32)} {M : ng_M} {i : Int32} (h : ng_inv M) (h6 : ng_six X i) (kk : ∀ M2 : ng_M, ng_inv M2 → ng_Go X mi_L_law 61 1407 [some (.ref 1007), some (.ref 0), some (.ref 73), some (.int i)] [] M2 ng_F1) : ng_Go X mi_L_law 61 906 [some (.ref 1007), some (.ref 0), some (.ref 73), some (.int i)] [] M ng_F1 := by
  obtain ⟨g0, g1, g2, g3, g4, g5⟩ := h6
  refine ng_aload_1 dL_law_906 ?_
  refine ng_aload_0 dL_law_907 ?_
  refine ng_iload_3 dL_law_908 ?_
  refine ng_iconst_1 dL_law_909 ?_
  refine ng_iadd dL_law_910 ?_
  refine ng_kld (k := 7) dL_law_911 rfl (by assumption) ?_
  refine ng_aload_0 dL_law_912 ?_
  refine ng_iload_3 dL_law_913 ?_
  refine ng_iconst_2 dL_law_914 ?_
  refine ng_iadd dL_law_915 ?_
  refine ng_kld (k := 7) dL_law_916 rfl (by assumption) ?_
  refine ng_callV_2i (y2 := mi_X8_back) dL_law_917 lk_L_101 ms_X8_back my_X8_back (by first | exact ⟨_, rfl⟩ | assumption | exact ng_fld_obj (f := 0) (by assumption)) mc_X8 (by first | decide | exact Nat.le_of_ble_eq_true rfl) (pr_back h) (by decide) (fun v M1 h1 => ?_)
  refine ng_aload_2 dL_law_920 ?_
  refine ng_aload_0 dL_law_921 ?_
  refine ng_iload_3 dL_law_922 ?_
  refine ng_iconst_1 dL_law_923 ?_
  refine ng_iadd dL_law_924 ?_
  refine ng_kld (k := 7) dL_law_925 rfl (by assumption) ?_
  refine ng_aload_0 dL_law_926 ?_
  refine ng_iload_3 dL_law_927 ?_
  refine ng_iconst_2 dL_law_928 ?_
  refine ng_iadd dL_law_929 ?_
  refine ng_kld (k := 7) dL_law_930 rfl (by assumption) ?_
  refine ng_callV_2i (y2 := mi_X9_back) dL_law_931 lk_L_104 ms_X9_back my_X9_back (by first | exact ⟨_, rfl⟩ | assumption | exact ng_fld_obj (f := 0) (by assumption)) mc_X9 (by first | decide | exact Nat.le_of_ble_eq_true rfl) (h1) (by decide) (fun v2 M2 h2 => ?_)
  refine ng_icmp_eq 1407 dL_law_934 (by decide +kernel) (fun h934 => ?_) (fun h934 => ?_)
  · exact kk M2 h2.2
  · exact absurd h2.1.symm h934
theorem w_law_whom {X : Nat × (Nat → Int32)} {M : ng_M} {i : Int32} (h : ng_inv M) (h6 : ng_six X i) (kk : ∀ M2 : ng_M, ng_inv M2 → ng_Go X mi_L_law 61 1407 [some (.ref 1007), some (.ref 0), some (.ref 73), some (.int i)] [] M2 ng_F1) : ng_Go X mi_L_law 61 939 [some (.ref 1007), some (.ref 0), some (.ref 73), some (.int i)] [] M ng_F1 := by
  obtain ⟨g0, g1, g2, g3, g4, g5⟩ := h6
  refine ng_aload_1 dL_law_939 ?_
  refine ng_aload_0 dL_law_940 ?_
  refine ng_iload_3 dL_law_941 ?_
  refine ng_iconst_1 dL_law_942 ?_
  refine ng_iadd dL_law_943 ?_
  refine ng_kld (k := 7) dL_law_944 rfl (by assumption) ?_
  refine ng_aload_0 dL_law_945 ?_
  refine ng_iload_3 dL_law_946 ?_
  refine ng_iconst_2 dL_law_947 ?_
  refine ng_iadd dL_law_948 ?_
  refine ng_kld (k := 7) dL_law_949 rfl (by assumption) ?_
  refine ng_callV_2i (y2 := mi_X8_whom) dL_law_950 lk_L_105 ms_X8_whom my_X8_whom (by first | exact ⟨_, rfl⟩ | assumption | exact ng_fld_obj (f := 0) (by assumption)) mc_X8 (by first | decide | exact Nat.le_of_ble_eq_true rfl) (pr_whom h) (by decide) (fun v M1 h1 => ?_)
  refine ng_aload_2 dL_law_953 ?_
  refine ng_aload_0 dL_law_954 ?_
  refine ng_iload_3 dL_law_955 ?_
  refine ng_iconst_1 dL_law_956 ?_
  refine ng_iadd dL_law_957 ?_
  refine ng_kld (k := 7) dL_law_958 rfl (by assumption) ?_
  refine ng_aload_0 dL_law_959 ?_
  refine ng_iload_3 dL_law_960 ?_
  refine ng_iconst_2 dL_law_961 ?_
  refine ng_iadd dL_law_962 ?_
  refine ng_kld (k := 7) dL_law_963 rfl (by assumption) ?_
  refine ng_callV_2i (y2 := mi_X9_whom) dL_law_964 lk_L_108 ms_X9_whom my_X9_whom (by first | exact ⟨_, rfl⟩ | assumption | exact ng_fld_obj (f := 0) (by assumption)) mc_X9 (by first | decide | exact Nat.le_of_ble_eq_true rfl) (h1) (by decide) (fun v2 M2 h2 => ?_)
  refine ng_icmp_eq 1407 dL_law_967 (by decide +kernel) (fun h967 => ?_) (fun h967 => ?_)
  · exact kk M2 h2.2
  · exact absurd h2.1.symm h967
theorem w_law_more {X : Nat × (Nat → Int32)} {M : ng_M} {i : Int32} (h : ng_inv M) (h6 : ng_six X i) (kk : ∀ M2 : ng_M, ng_inv M2 → ng_Go X mi_L_law 61 1407 [some (.ref 1007), some (.ref 0), some (.ref 73), some (.int i)] [] M2 ng_F1) : ng_Go X mi_L_law 61 972 [some (.ref 1007), some (.ref 0), some (.ref 73), some (.int i)] [] M ng_F1 := by
  obtain ⟨g0, g1, g2, g3, g4, g5⟩ := h6
  refine ng_aload_1 dL_law_972 ?_
  refine ng_aload_0 dL_law_973 ?_
  refine ng_iload_3 dL_law_974 ?_
  refine ng_iconst_1 dL_law_975 ?_
  refine ng_iadd dL_law_976 ?_
  refine ng_kld (k := 7) dL_law_977 rfl (by assumption) ?_
  refine ng_aload_0 dL_law_978 ?_
  refine ng_iload_3 dL_law_979 ?_
  refine ng_iconst_2 dL_law_980 ?_
  refine ng_iadd dL_law_981 ?_
  refine ng_kld (k := 7) dL_law_982 rfl (by assumption) ?_
  refine ng_aload_0 dL_law_983 ?_
  refine ng_iload_3 dL_law_984 ?_
  refine ng_iconst_3 dL_law_985 ?_
  refine ng_iadd dL_law_986 ?_
  refine ng_kld (k := 7) dL_law_987 rfl (by assumption) ?_
  refine ng_callV_3i (y2 := mi_X8_more) dL_law_988 lk_L_109 ms_X8_more my_X8_more (by first | exact ⟨_, rfl⟩ | assumption | exact ng_fld_obj (f := 0) (by assumption)) mc_X8 (by first | decide | exact Nat.le_of_ble_eq_true rfl) (pr_more h) (by decide) (fun v M1 h1 => ?_)
  refine ng_aload_2 dL_law_991 ?_
  refine ng_aload_0 dL_law_992 ?_
  refine ng_iload_3 dL_law_993 ?_
  refine ng_iconst_1 dL_law_994 ?_
  refine ng_iadd dL_law_995 ?_
  refine ng_kld (k := 7) dL_law_996 rfl (by assumption) ?_
  refine ng_aload_0 dL_law_997 ?_
  refine ng_iload_3 dL_law_998 ?_
  refine ng_iconst_2 dL_law_999 ?_
  refine ng_iadd dL_law_1000 ?_
  refine ng_kld (k := 7) dL_law_1001 rfl (by assumption) ?_
  refine ng_aload_0 dL_law_1002 ?_
  refine ng_iload_3 dL_law_1003 ?_
  refine ng_iconst_3 dL_law_1004 ?_
  refine ng_iadd dL_law_1005 ?_
  refine ng_kld (k := 7) dL_law_1006 rfl (by assumption) ?_
  refine ng_callV_3i (y2 := mi_X9_more) dL_law_1007 lk_L_112 ms_X9_more my_X9_more (by first | exact ⟨_, rfl⟩ | assumption | exact ng_fld_obj (f := 0) (by assumption)) mc_X9 (by first | decide | exact Nat.le_of_ble_eq_true rfl) (h1) (by decide) (fun v2 M2 h2 => ?_)
  refine ng_icmp_eq 1407 dL_law_1010 (by decide +kernel) (fun h1010 => ?_) (fun h1010 => ?_)
  · exact kk M2 h2.2
  · exact absurd h2.1.symm h1010
theorem w_law_rests {X : Nat × (Nat → Int32)} {M : ng_M} {i : Int32} (h : ng_inv M) (h6 : ng_six X i) (kk : ∀ M2 : ng_M, ng_inv M2 → ng_Go X mi_L_law 61 1407 [some (.ref 1007), some (.ref 0), some (.ref 73), some (.int i)] [] M2 ng_F1) : ng_Go X mi_L_law 61 1015 [some (.ref 1007), some (.ref 0), some (.ref 73), some (.int i)] [] M ng_F1 := by
  obtain ⟨g0, g1, g2, g3, g4, g5⟩ := h6
  refine ng_aload_1 dL_law_1015 ?_
  refine ng_aload_0 dL_law_1016 ?_
  refine ng_iload_3 dL_law_1017 ?_
  refine ng_iconst_1 dL_law_1018 ?_
  refine ng_iadd dL_law_1019 ?_
  refine ng_kld (k := 7) dL_law_1020 rfl (by assumption) ?_
  refine ng_callV_1i (y2 := mi_X8_rests) dL_law_1021 lk_L_113 ms_X8_rests my_X8_rests (by first | exact ⟨_, rfl⟩ | assumption | exact ng_fld_obj (f := 0) (by assumption)) mc_X8 (by first | decide | exact Nat.le_of_ble_eq_true rfl) (pr_rests h) (by decide) (fun v M1 h1 => ?_)
  refine ng_aload_2 dL_law_1024 ?_
  refine ng_aload_0 dL_law_1025 ?_
  refine ng_iload_3 dL_law_1026 ?_
  refine ng_iconst_1 dL_law_1027 ?_
  refine ng_iadd dL_law_1028 ?_
  refine ng_kld (k := 7) dL_law_1029 rfl (by assumption) ?_
  refine ng_callV_1i (y2 := mi_X9_rests) dL_law_1030 lk_L_116 ms_X9_rests my_X9_rests (by first | exact ⟨_, rfl⟩ | assumption | exact ng_fld_obj (f := 0) (by assumption)) mc_X9 (by first | decide | exact Nat.le_of_ble_eq_true rfl) (h1) (by decide) (fun v2 M2 h2 => ?_)
  refine ng_icmp_eq 1407 dL_law_1033 (by decide +kernel) (fun h1033 => ?_) (fun h1033 => ?_)
  · exact kk M2 h2.2
  · exact absurd h2.1.symm h1033
theorem w_law_clear {X : Nat × (Nat → Int32)} {M : ng_M} {i : Int32} (h : ng_inv M) (h6 : ng_six X i) (kk : ∀ M2 : ng_M, ng_inv M2 → ng_Go X mi_L_law 61 1407 [some (.ref 1007), some (.ref 0), some (.ref 73), some (.int i)] [] M2 ng_F1) : ng_Go X mi_L_law 61 1038 [some (.ref 1007), some (.ref 0), some (.ref 73), some (.int i)] [] M ng_F1 := by
  obtain ⟨g0, g1, g2, g3, g4, g5⟩ := h6
  refine ng_aload_1 dL_law_1038 ?_
  refine ng_callV_0i (y2 := mi_X8_clear) dL_law_1039 lk_L_117 ms_X8_clear my_X8_clear (by first | exact ⟨_, rfl⟩ | assumption | exact ng_fld_obj (f := 0) (by assumption)) mc_X8 (by first | decide | exact Nat.le_of_ble_eq_true rfl) (pr_clear h) (by decide) (fun v M1 h1 => ?_)
  refine ng_aload_2 dL_law_1042 ?_
  refine ng_callV_0i (y2 := mi_X9_clear) dL_law_1043 lk_L_121 ms_X9_clear my_X9_clear (by first | exact ⟨_, rfl⟩ | assumption | exact ng_fld_obj (f := 0) (by assumption)) mc_X9 (by first | decide | exact Nat.le_of_ble_eq_true rfl) (h1) (by decide) (fun v2 M2 h2 => ?_)
  refine ng_icmp_eq 1407 dL_law_1046 (by decide +kernel) (fun h1046 => ?_) (fun h1046 => ?_)
  · exact kk M2 h2.2
  · exact absurd h2.1.symm h1046
theorem w_law_seed {X : Nat × (Nat → Int32)} {M : ng_M} {i : Int32} (h : ng_inv M) (h6 : ng_six X i) (kk : ∀ M2 : ng_M, ng_inv M2 → ng_Go X mi_L_law 61 1407 [some (.ref 1007), some (.ref 0), some (.ref 73), some (.int i)] [] M2 ng_F1) : ng_Go X mi_L_law 61 1051 [some (.ref 1007), some (.ref 0), some (.ref 73), some (.int i)] [] M ng_F1 := by
  obtain ⟨g0, g1, g2, g3, g4, g5⟩ := h6
  refine ng_aload_1 dL_law_1051 ?_
  refine ng_aload_0 dL_law_1052 ?_
  refine ng_iload_3 dL_law_1053 ?_
  refine ng_iconst_1 dL_law_1054 ?_
  refine ng_iadd dL_law_1055 ?_
  refine ng_kld (k := 7) dL_law_1056 rfl (by assumption) ?_
  refine ng_callV_1i (y2 := mi_X8_seed) dL_law_1057 lk_L_122 ms_X8_seed my_X8_seed (by first | exact ⟨_, rfl⟩ | assumption | exact ng_fld_obj (f := 0) (by assumption)) mc_X8 (by first | decide | exact Nat.le_of_ble_eq_true rfl) (pr_seed h) (by decide) (fun v M1 h1 => ?_)
  refine ng_aload_2 dL_law_1060 ?_
  refine ng_aload_0 dL_law_1061 ?_
  refine ng_iload_3 dL_law_1062 ?_
  refine ng_iconst_1 dL_law_1063 ?_
  refine ng_iadd dL_law_1064 ?_
  refine ng_kld (k := 7) dL_law_1065 rfl (by assumption) ?_
  refine ng_callV_1i (y2 := mi_X9_seed) dL_law_1066 lk_L_125 ms_X9_seed my_X9_seed (by first | exact ⟨_, rfl⟩ | assumption | exact ng_fld_obj (f := 0) (by assumption)) mc_X9 (by first | decide | exact Nat.le_of_ble_eq_true rfl) (h1) (by decide) (fun v2 M2 h2 => ?_)
  refine ng_icmp_eq 1407 dL_law_1069 (by decide +kernel) (fun h1069 => ?_) (fun h1069 => ?_)
  · exact kk M2 h2.2
  · exact absurd h2.1.symm h1069
theorem w_law_voice {X : Nat × (Nat → Int32)} {M : ng_M} {i : Int32} (h : ng_inv M) (h6 : ng_six X i) (kk : ∀ M2 : ng_M, ng_inv M2 → ng_Go X mi_L_law 61 1407 [some (.ref 1007), some (.ref 0), some (.ref 73), some (.int i)] [] M2 ng_F1) : ng_Go X mi_L_law 61 1074 [some (.ref 1007), some (.ref 0), some (.ref 73), some (.int i)] [] M ng_F1 := by
  obtain ⟨g0, g1, g2, g3, g4, g5⟩ := h6
  refine ng_aload_1 dL_law_1074 ?_
  refine ng_aload_0 dL_law_1075 ?_
  refine ng_iload_3 dL_law_1076 ?_
  refine ng_iconst_1 dL_law_1077 ?_
  refine ng_iadd dL_law_1078 ?_
  refine ng_kld (k := 7) dL_law_1079 rfl (by assumption) ?_
  refine ng_aload_0 dL_law_1080 ?_
  refine ng_iload_3 dL_law_1081 ?_
  refine ng_iconst_2 dL_law_1082 ?_
  refine ng_iadd dL_law_1083 ?_
  refine ng_kld (k := 7) dL_law_1084 rfl (by assumption) ?_
  refine ng_aload_0 dL_law_1085 ?_
  refine ng_iload_3 dL_law_1086 ?_
  refine ng_iconst_3 dL_law_1087 ?_
  refine ng_iadd dL_law_1088 ?_
  refine ng_kld (k := 7) dL_law_1089 rfl (by assumption) ?_
  refine ng_callV_3i (y2 := mi_X8_voice) dL_law_1090 lk_L_126 ms_X8_voice my_X8_voice (by first | exact ⟨_, rfl⟩ | assumption | exact ng_fld_obj (f := 0) (by assumption)) mc_X8 (by first | decide | exact Nat.le_of_ble_eq_true rfl) (pr_voice h) (by decide) (fun v M1 h1 => ?_)
  refine ng_aload_2 dL_law_1093 ?_
  refine ng_aload_0 dL_law_1094 ?_
  refine ng_iload_3 dL_law_1095 ?_
  refine ng_iconst_1 dL_law_1096 ?_
  refine ng_iadd dL_law_1097 ?_
  refine ng_kld (k := 7) dL_law_1098 rfl (by assumption) ?_
  refine ng_aload_0 dL_law_1099 ?_
  refine ng_iload_3 dL_law_1100 ?_
  refine ng_iconst_2 dL_law_1101 ?_
  refine ng_iadd dL_law_1102 ?_
  refine ng_kld (k := 7) dL_law_1103 rfl (by assumption) ?_
  refine ng_aload_0 dL_law_1104 ?_
  refine ng_iload_3 dL_law_1105 ?_
  refine ng_iconst_3 dL_law_1106 ?_
  refine ng_iadd dL_law_1107 ?_
  refine ng_kld (k := 7) dL_law_1108 rfl (by assumption) ?_
  refine ng_callV_3i (y2 := mi_X9_voice) dL_law_1109 lk_L_129 ms_X9_voice my_X9_voice (by first | exact ⟨_, rfl⟩ | assumption | exact ng_fld_obj (f := 0) (by assumption)) mc_X9 (by first | decide | exact Nat.le_of_ble_eq_true rfl) (h1) (by decide) (fun v2 M2 h2 => ?_)
  refine ng_icmp_eq 1407 dL_law_1112 (by decide +kernel) (fun h1112 => ?_) (fun h1112 => ?_)
  · exact kk M2 h2.2
  · exact absurd h2.1.symm h1112
