set_option maxRecDepth 20000 in
set_option maxHeartbeats 4000000 in
theorem law_angle {G : Cx} {P : Option Value → Hp → Prop} {n k : Nat} {σ : ST} {μ : Hp} (hL : 5 * n + 5 ≤ cL G) (hL2 : cL G ≤ 2560) (hn : n < 8192) (h : Cl σ μ) (h9 : Mo σ μ) (hs : Ws n σ) (nx : Nx G P n k) : V G M_L_law 17 (41 * k + 41) (2870 * k + 2870) P 810 (lawL n) [] μ := by
  refine v_aload_n 2 dL_law_810 rfl rfl ?_
  refine v_aload_n 3 dL_law_811 rfl rfl ?_
  refine v_iload_n 0 dL_law_812 rfl rfl ?_
  refine v_iconst (v := 1) dL_law_813 (by first | rfl | decide) ?_
  refine v_iadd dL_law_814 ?_
  refine v_roi (ro_script G) dL_law_815 (ix_in (a := 5 * n) (b := 1) (by omega) (by omega)) (by omega) ?_
  refine v_aload_n 3 dL_law_816 rfl rfl ?_
  refine v_iload_n 0 dL_law_817 rfl rfl ?_
  refine v_iconst (v := 2) dL_law_818 (by first | rfl | decide) ?_
  refine v_iadd dL_law_819 ?_
  refine v_roi (ro_script G) dL_law_820 (ix_in (a := 5 * n) (b := 2) (by omega) (by omega)) (by omega) ?_
  refine v_callV (mc := 41 * k + 41) (ms := 2870 * k + 2870) (c_X6_angle 11 h hs.1.1.1) cs_L_88 dL_law_821 h.1 rfl rfl (Nat.le_of_ble_eq_true rfl) ?_
  rintro _ m1 ⟨rfl, h1, f1⟩
  have h9b := h9.fo f1
  obtain ⟨fs9, h60⟩ := h9b.c60
  refine v_aload_n 1 dL_law_824 rfl rfl ?_
  refine v_aload_n 3 dL_law_825 rfl rfl ?_
  refine v_iload_n 0 dL_law_826 rfl rfl ?_
  refine v_iconst (v := 1) dL_law_827 (by first | rfl | decide) ?_
  refine v_iadd dL_law_828 ?_
  refine v_roi (ro_script G) dL_law_829 (ix_in (a := 5 * n) (b := 1) (by omega) (by omega)) (by omega) ?_
  refine v_aload_n 3 dL_law_830 rfl rfl ?_
  refine v_iload_n 0 dL_law_831 rfl rfl ?_
  refine v_iconst (v := 2) dL_law_832 (by first | rfl | decide) ?_
  refine v_iadd dL_law_833 ?_
  refine v_roi (ro_script G) dL_law_834 (ix_in (a := 5 * n) (b := 2) (by omega) (by omega)) (by omega) ?_
  refine v_callV (mc := 41 * k + 41) (ms := 2870 * k + 2870) (c_X7_angle 11 h9b hs.1.1.1 (ph_eb hs.1.1.2 100)) cs_L_91 dL_law_835 h60 rfl rfl (Nat.le_of_ble_eq_true rfl) ?_
  rintro _ m2 ⟨rfl, h2, f2⟩
  refine v_icmp_eq (tgt := 1753) dL_law_838 (by decide) (fun _ => ?_) (fun z9 => absurd rfl z9)
  refine v_bud (mc1 := 41 * k) (ms1 := 2870 * k) (by omega) (by omega) ?_
  exact nx _ _ (h1.fp f2) h2 (hs.mono (Nat.le_succ n))

set_option maxRecDepth 20000 in
set_option maxHeartbeats 4000000 in
theorem law_without {G : Cx} {P : Option Value → Hp → Prop} {n k : Nat} {σ : ST} {μ : Hp} (hL : 5 * n + 5 ≤ cL G) (hL2 : cL G ≤ 2560) (hn : n < 8192) (h : Cl σ μ) (h9 : Mo σ μ) (hs : Ws n σ) (nx : Nx G P n k) : V G M_L_law 17 (41 * k + 41) (2870 * k + 2870) P 843 (lawL n) [] μ := by
  refine v_aload_n 2 dL_law_843 rfl rfl ?_
  refine v_aload_n 3 dL_law_844 rfl rfl ?_
  refine v_iload_n 0 dL_law_845 rfl rfl ?_
  refine v_iconst (v := 1) dL_law_846 (by first | rfl | decide) ?_
  refine v_iadd dL_law_847 ?_
  refine v_roi (ro_script G) dL_law_848 (ix_in (a := 5 * n) (b := 1) (by omega) (by omega)) (by omega) ?_
  refine v_aload_n 3 dL_law_849 rfl rfl ?_
  refine v_iload_n 0 dL_law_850 rfl rfl ?_
  refine v_iconst (v := 2) dL_law_851 (by first | rfl | decide) ?_
  refine v_iadd dL_law_852 ?_
  refine v_roi (ro_script G) dL_law_853 (ix_in (a := 5 * n) (b := 2) (by omega) (by omega)) (by omega) ?_
  refine v_callV (mc := 41 * k + 41) (ms := 2870 * k + 2870) (c_X6_without 11 h hs.1.1.1) cs_L_92 dL_law_854 h.1 rfl rfl (Nat.le_of_ble_eq_true rfl) ?_
  rintro _ m1 ⟨rfl, h1, f1⟩
  have h9b := h9.fo f1
  obtain ⟨fs9, h60⟩ := h9b.c60
  refine v_aload_n 1 dL_law_857 rfl rfl ?_
  refine v_aload_n 3 dL_law_858 rfl rfl ?_
  refine v_iload_n 0 dL_law_859 rfl rfl ?_
  refine v_iconst (v := 1) dL_law_860 (by first | rfl | decide) ?_
  refine v_iadd dL_law_861 ?_
  refine v_roi (ro_script G) dL_law_862 (ix_in (a := 5 * n) (b := 1) (by omega) (by omega)) (by omega) ?_
  refine v_aload_n 3 dL_law_863 rfl rfl ?_
  refine v_iload_n 0 dL_law_864 rfl rfl ?_
  refine v_iconst (v := 2) dL_law_865 (by first | rfl | decide) ?_
  refine v_iadd dL_law_866 ?_
  refine v_roi (ro_script G) dL_law_867 (ix_in (a := 5 * n) (b := 2) (by omega) (by omega)) (by omega) ?_
  refine v_callV (mc := 41 * k + 41) (ms := 2870 * k + 2870) (c_X7_without 12 h9b hs.1.1.1 (ph_eb hs.1.1.2 100) hs.1.1.2) cs_L_95 dL_law_868 h60 rfl rfl (Nat.le_of_ble_eq_true rfl) ?_
  rintro _ m2 ⟨rfl, h2, f2⟩
  refine v_lc_eq (tgt := 1753) dL_law_871 dL_law_872 (by decide) (fun _ => ?_) (fun z9 => absurd rfl z9)
  refine v_bud (mc1 := 41 * k) (ms1 := 2870 * k) (by omega) (by omega) ?_
  exact nx _ _ (h1.fp f2) h2 (hs.mono (Nat.le_succ n))

set_option maxRecDepth 20000 in
set_option maxHeartbeats 4000000 in
theorem law_darkens {G : Cx} {P : Option Value → Hp → Prop} {n k : Nat} {σ : ST} {μ : Hp} (hL : 5 * n + 5 ≤ cL G) (hL2 : cL G ≤ 2560) (hn : n < 8192) (h : Cl σ μ) (h9 : Mo σ μ) (hs : Ws n σ) (nx : Nx G P n k) : V G M_L_law 17 (41 * k + 41) (2870 * k + 2870) P 877 (lawL n) [] μ := by
  refine v_aload_n 2 dL_law_877 rfl rfl ?_
  refine v_callV (mc := 41 * k + 41) (ms := 2870 * k + 2870) (c_X6_darkens 12 h hs.1.1.1) cs_L_96 dL_law_878 h.1 rfl rfl (Nat.le_of_ble_eq_true rfl) ?_
  rintro _ m1 ⟨rfl, h1, f1⟩
  have h9b := h9.fo f1
  obtain ⟨fs9, h60⟩ := h9b.c60
  refine v_aload_n 1 dL_law_881 rfl rfl ?_
  refine v_callV (mc := 41 * k + 41) (ms := 2870 * k + 2870) (c_X7_darkens 11 h9b hs.1.1.1 (ph_eb hs.1.1.2 100)) cs_L_99 dL_law_882 h60 rfl rfl (Nat.le_of_ble_eq_true rfl) ?_
  rintro _ m2 ⟨rfl, h2, f2⟩
  refine v_icmp_eq (tgt := 1753) dL_law_885 (by decide) (fun _ => ?_) (fun z9 => absurd rfl z9)
  refine v_bud (mc1 := 41 * k) (ms1 := 2870 * k) (by omega) (by omega) ?_
  exact nx _ _ (h1.fp f2) h2 (hs.mono (Nat.le_succ n))

set_option maxRecDepth 20000 in
set_option maxHeartbeats 4000000 in
theorem law_crossed {G : Cx} {P : Option Value → Hp → Prop} {n k : Nat} {σ : ST} {μ : Hp} (hL : 5 * n + 5 ≤ cL G) (hL2 : cL G ≤ 2560) (hn : n < 8192) (h : Cl σ μ) (h9 : Mo σ μ) (hs : Ws n σ) (nx : Nx G P n k) : V G M_L_law 17 (41 * k + 41) (2870 * k + 2870) P 890 (lawL n) [] μ := by
  refine v_aload_n 2 dL_law_890 rfl rfl ?_
  refine v_aload_n 3 dL_law_891 rfl rfl ?_
  refine v_iload_n 0 dL_law_892 rfl rfl ?_
  refine v_iconst (v := 1) dL_law_893 (by first | rfl | decide) ?_
  refine v_iadd dL_law_894 ?_
  refine v_roi (ro_script G) dL_law_895 (ix_in (a := 5 * n) (b := 1) (by omega) (by omega)) (by omega) ?_
  refine v_callV (mc := 41 * k + 41) (ms := 2870 * k + 2870) (c_X6_crossed 12 h hs.1.1.1) cs_L_100 dL_law_896 h.1 rfl rfl (Nat.le_of_ble_eq_true rfl) ?_
  rintro _ m1 ⟨rfl, h1, f1⟩
  have h9b := h9.fo f1
  obtain ⟨fs9, h60⟩ := h9b.c60
  refine v_aload_n 1 dL_law_899 rfl rfl ?_
  refine v_aload_n 3 dL_law_900 rfl rfl ?_
  refine v_iload_n 0 dL_law_901 rfl rfl ?_
  refine v_iconst (v := 1) dL_law_902 (by first | rfl | decide) ?_
  refine v_iadd dL_law_903 ?_
  refine v_roi (ro_script G) dL_law_904 (ix_in (a := 5 * n) (b := 1) (by omega) (by omega)) (by omega) ?_
  refine v_callV (mc := 41 * k + 41) (ms := 2870 * k + 2870) (c_X7_crossed 12 h9b hs.1.1.1) cs_L_103 dL_law_905 h60 rfl rfl (Nat.le_of_ble_eq_true rfl) ?_
  rintro _ m2 ⟨rfl, h2, f2⟩
  refine v_icmp_eq (tgt := 1753) dL_law_908 (by decide) (fun _ => ?_) (fun z9 => absurd rfl z9)
  refine v_bud (mc1 := 41 * k) (ms1 := 2870 * k) (by omega) (by omega) ?_
  exact nx _ _ (h1.fp f2) h2 (hs.mono (Nat.le_succ n))

set_option maxRecDepth 20000 in
set_option maxHeartbeats 4000000 in
theorem law_tally {G : Cx} {P : Option Value → Hp → Prop} {n k : Nat} {σ : ST} {μ : Hp} (hL : 5 * n + 5 ≤ cL G) (hL2 : cL G ≤ 2560) (hn : n < 8192) (h : Cl σ μ) (h9 : Mo σ μ) (hs : Ws n σ) (nx : Nx G P n k) : V G M_L_law 17 (41 * k + 41) (2870 * k + 2870) P 913 (lawL n) [] μ := by
  refine v_aload_n 2 dL_law_913 rfl rfl ?_
  refine v_aload_n 3 dL_law_914 rfl rfl ?_
  refine v_iload_n 0 dL_law_915 rfl rfl ?_
  refine v_iconst (v := 1) dL_law_916 (by first | rfl | decide) ?_
  refine v_iadd dL_law_917 ?_
  refine v_roi (ro_script G) dL_law_918 (ix_in (a := 5 * n) (b := 1) (by omega) (by omega)) (by omega) ?_
  refine v_callV (mc := 41 * k + 41) (ms := 2870 * k + 2870) (c_X6_tally 15 h hs.1.1.1) cs_L_104 dL_law_919 h.1 rfl rfl (Nat.le_of_ble_eq_true rfl) ?_
  rintro _ m1 ⟨rfl, h1, f1⟩
  have h9b := h9.fo f1
  obtain ⟨fs9, h60⟩ := h9b.c60
  refine v_aload_n 1 dL_law_922 rfl rfl ?_
  refine v_aload_n 3 dL_law_923 rfl rfl ?_
  refine v_iload_n 0 dL_law_924 rfl rfl ?_
  refine v_iconst (v := 1) dL_law_925 (by first | rfl | decide) ?_
  refine v_iadd dL_law_926 ?_
  refine v_roi (ro_script G) dL_law_927 (ix_in (a := 5 * n) (b := 1) (by omega) (by omega)) (by omega) ?_
  refine v_callV (mc := 41 * k + 41) (ms := 2870 * k + 2870) (c_X7_tally 15 h9b hs.1.1.1) cs_L_107 dL_law_928 h60 rfl rfl (Nat.le_of_ble_eq_true rfl) ?_
  rintro _ m2 ⟨rfl, h2, f2⟩
  refine v_icmp_eq (tgt := 1753) dL_law_931 (by decide) (fun _ => ?_) (fun z9 => absurd rfl z9)
  refine v_bud (mc1 := 41 * k) (ms1 := 2870 * k) (by omega) (by omega) ?_
  exact nx _ _ (h1.fp f2) h2 (hs.mono (Nat.le_succ n))

set_option maxRecDepth 20000 in
set_option maxHeartbeats 4000000 in
theorem law_list {G : Cx} {P : Option Value → Hp → Prop} {n k : Nat} {σ : ST} {μ : Hp} (hL : 5 * n + 5 ≤ cL G) (hL2 : cL G ≤ 2560) (hn : n < 8192) (h : Cl σ μ) (h9 : Mo σ μ) (hs : Ws n σ) (nx : Nx G P n k) : V G M_L_law 17 (41 * k + 41) (2870 * k + 2870) P 936 (lawL n) [] μ := by
  refine v_aload_n 2 dL_law_936 rfl rfl ?_
  refine v_aload_n 3 dL_law_937 rfl rfl ?_
  refine v_iload_n 0 dL_law_938 rfl rfl ?_
  refine v_iconst (v := 1) dL_law_939 (by first | rfl | decide) ?_
  refine v_iadd dL_law_940 ?_
  refine v_roi (ro_script G) dL_law_941 (ix_in (a := 5 * n) (b := 1) (by omega) (by omega)) (by omega) ?_
  refine v_aload_n 3 dL_law_942 rfl rfl ?_
  refine v_iload_n 0 dL_law_943 rfl rfl ?_
  refine v_iconst (v := 2) dL_law_944 (by first | rfl | decide) ?_
  refine v_iadd dL_law_945 ?_
  refine v_roi (ro_script G) dL_law_946 (ix_in (a := 5 * n) (b := 2) (by omega) (by omega)) (by omega) ?_
  refine v_callV (mc := 41 * k + 41) (ms := 2870 * k + 2870) (c_X6_list 15 h hs.1.1.1) cs_L_108 dL_law_947 h.1 rfl rfl (Nat.le_of_ble_eq_true rfl) ?_
  rintro _ m1 ⟨rfl, h1, f1⟩
  have h9b := h9.fo f1
  obtain ⟨fs9, h60⟩ := h9b.c60
  refine v_aload_n 1 dL_law_950 rfl rfl ?_
  refine v_aload_n 3 dL_law_951 rfl rfl ?_
  refine v_iload_n 0 dL_law_952 rfl rfl ?_
  refine v_iconst (v := 1) dL_law_953 (by first | rfl | decide) ?_
  refine v_iadd dL_law_954 ?_
  refine v_roi (ro_script G) dL_law_955 (ix_in (a := 5 * n) (b := 1) (by omega) (by omega)) (by omega) ?_
  refine v_aload_n 3 dL_law_956 rfl rfl ?_
  refine v_iload_n 0 dL_law_957 rfl rfl ?_
  refine v_iconst (v := 2) dL_law_958 (by first | rfl | decide) ?_
  refine v_iadd dL_law_959 ?_
  refine v_roi (ro_script G) dL_law_960 (ix_in (a := 5 * n) (b := 2) (by omega) (by omega)) (by omega) ?_
  refine v_callV (mc := 41 * k + 41) (ms := 2870 * k + 2870) (c_X7_list 14 h9b hs.1.1.1) cs_L_111 dL_law_961 h60 rfl rfl (Nat.le_of_ble_eq_true rfl) ?_
  rintro _ m2 ⟨rfl, h2, f2⟩
  refine v_icmp_eq (tgt := 1753) dL_law_964 (by decide) (fun _ => ?_) (fun z9 => absurd rfl z9)
  refine v_bud (mc1 := 41 * k) (ms1 := 2870 * k) (by omega) (by omega) ?_
  exact nx _ _ (h1.fp f2) h2 ((ws_list hs _ _).mono (Nat.le_succ n))

set_option maxRecDepth 20000 in
set_option maxHeartbeats 4000000 in
theorem law_put {G : Cx} {P : Option Value → Hp → Prop} {n k : Nat} {σ : ST} {μ : Hp} (hL : 5 * n + 5 ≤ cL G) (hL2 : cL G ≤ 2560) (hn : n < 8192) (h : Cl σ μ) (h9 : Mo σ μ) (hs : Ws n σ) (nx : Nx G P n k) : V G M_L_law 17 (41 * k + 41) (2870 * k + 2870) P 969 (lawL n) [] μ := by
  refine v_aload_n 2 dL_law_969 rfl rfl ?_
  refine v_aload_n 3 dL_law_970 rfl rfl ?_
  refine v_iload_n 0 dL_law_971 rfl rfl ?_
  refine v_iconst (v := 1) dL_law_972 (by first | rfl | decide) ?_
  refine v_iadd dL_law_973 ?_
  refine v_roi (ro_script G) dL_law_974 (ix_in (a := 5 * n) (b := 1) (by omega) (by omega)) (by omega) ?_
  refine v_aload_n 3 dL_law_975 rfl rfl ?_
  refine v_iload_n 0 dL_law_976 rfl rfl ?_
  refine v_iconst (v := 2) dL_law_977 (by first | rfl | decide) ?_
  refine v_iadd dL_law_978 ?_
  refine v_roi (ro_script G) dL_law_979 (ix_in (a := 5 * n) (b := 2) (by omega) (by omega)) (by omega) ?_
  refine v_aload_n 3 dL_law_980 rfl rfl ?_
  refine v_iload_n 0 dL_law_981 rfl rfl ?_
  refine v_iconst (v := 3) dL_law_982 (by first | rfl | decide) ?_
  refine v_iadd dL_law_983 ?_
  refine v_roi (ro_script G) dL_law_984 (ix_in (a := 5 * n) (b := 3) (by omega) (by omega)) (by omega) ?_
  refine v_i2l dL_law_985 ?_
  refine v_bipush (v := 32) dL_law_986 (by first | rfl | decide) ?_
  refine v_lshl dL_law_988 ?_
  refine v_aload_n 3 dL_law_989 rfl rfl ?_
  refine v_iload_n 0 dL_law_990 rfl rfl ?_
  refine v_iconst (v := 4) dL_law_991 (by first | rfl | decide) ?_
  refine v_iadd dL_law_992 ?_
  refine v_roi (ro_script G) dL_law_993 (ix_in (a := 5 * n) (b := 4) (by omega) (by omega)) (by omega) ?_
  refine v_i2l dL_law_994 ?_
  refine v_ldc2 kc_L_112 dL_law_995 ?_
  refine v_land dL_law_998 ?_
  refine v_lor dL_law_999 ?_
  refine v_callV (mc := 41 * k + 41) (ms := 2870 * k + 2870) (c_X6_put 15 h hs.1.1.1 hs.2.2.1) cs_L_114 dL_law_1000 h.1 rfl rfl (Nat.le_of_ble_eq_true rfl) ?_
  rintro _ m1 ⟨rfl, h1, f1⟩
  have h9b := h9.fo f1
  obtain ⟨fs9, h60⟩ := h9b.c60
  refine v_aload_n 1 dL_law_1003 rfl rfl ?_
  refine v_aload_n 3 dL_law_1004 rfl rfl ?_
  refine v_iload_n 0 dL_law_1005 rfl rfl ?_
  refine v_iconst (v := 1) dL_law_1006 (by first | rfl | decide) ?_
  refine v_iadd dL_law_1007 ?_
  refine v_roi (ro_script G) dL_law_1008 (ix_in (a := 5 * n) (b := 1) (by omega) (by omega)) (by omega) ?_
  refine v_aload_n 3 dL_law_1009 rfl rfl ?_
  refine v_iload_n 0 dL_law_1010 rfl rfl ?_
  refine v_iconst (v := 2) dL_law_1011 (by first | rfl | decide) ?_
  refine v_iadd dL_law_1012 ?_
  refine v_roi (ro_script G) dL_law_1013 (ix_in (a := 5 * n) (b := 2) (by omega) (by omega)) (by omega) ?_
  refine v_aload_n 3 dL_law_1014 rfl rfl ?_
  refine v_iload_n 0 dL_law_1015 rfl rfl ?_
  refine v_iconst (v := 3) dL_law_1016 (by first | rfl | decide) ?_
  refine v_iadd dL_law_1017 ?_
  refine v_roi (ro_script G) dL_law_1018 (ix_in (a := 5 * n) (b := 3) (by omega) (by omega)) (by omega) ?_
  refine v_i2l dL_law_1019 ?_
  refine v_bipush (v := 32) dL_law_1020 (by first | rfl | decide) ?_
  refine v_lshl dL_law_1022 ?_
  refine v_aload_n 3 dL_law_1023 rfl rfl ?_
  refine v_iload_n 0 dL_law_1024 rfl rfl ?_
  refine v_iconst (v := 4) dL_law_1025 (by first | rfl | decide) ?_
  refine v_iadd dL_law_1026 ?_
  refine v_roi (ro_script G) dL_law_1027 (ix_in (a := 5 * n) (b := 4) (by omega) (by omega)) (by omega) ?_
  refine v_i2l dL_law_1028 ?_
  refine v_ldc2 kc_L_112 dL_law_1029 ?_
  refine v_land dL_law_1032 ?_
  refine v_lor dL_law_1033 ?_
  refine v_callV (mc := 41 * k + 41) (ms := 2870 * k + 2870) (c_X7_put 14 h9b hs.1.1.1 hs.2.2.1) cs_L_118 dL_law_1034 h60 rfl rfl (Nat.le_of_ble_eq_true rfl) ?_
  rintro _ m2 ⟨rfl, h2, f2⟩
  refine v_icmp_eq (tgt := 1753) dL_law_1037 (by decide) (fun _ => ?_) (fun z9 => absurd rfl z9)
  refine v_bud (mc1 := 41 * k) (ms1 := 2870 * k) (by omega) (by omega) ?_
  exact nx _ _ (h1.fp f2) h2 ((ws_put hs _ _ _).mono (Nat.le_succ n))

set_option maxRecDepth 20000 in
set_option maxHeartbeats 4000000 in
theorem law_get {G : Cx} {P : Option Value → Hp → Prop} {n k : Nat} {σ : ST} {μ : Hp} (hL : 5 * n + 5 ≤ cL G) (hL2 : cL G ≤ 2560) (hn : n < 8192) (h : Cl σ μ) (h9 : Mo σ μ) (hs : Ws n σ) (nx : Nx G P n k) : V G M_L_law 17 (41 * k + 41) (2870 * k + 2870) P 1042 (lawL n) [] μ := by
  refine v_aload_n 2 dL_law_1042 rfl rfl ?_
  refine v_aload_n 3 dL_law_1043 rfl rfl ?_
  refine v_iload_n 0 dL_law_1044 rfl rfl ?_
  refine v_iconst (v := 1) dL_law_1045 (by first | rfl | decide) ?_
  refine v_iadd dL_law_1046 ?_
  refine v_roi (ro_script G) dL_law_1047 (ix_in (a := 5 * n) (b := 1) (by omega) (by omega)) (by omega) ?_
  refine v_aload_n 3 dL_law_1048 rfl rfl ?_
  refine v_iload_n 0 dL_law_1049 rfl rfl ?_
  refine v_iconst (v := 2) dL_law_1050 (by first | rfl | decide) ?_
  refine v_iadd dL_law_1051 ?_
  refine v_roi (ro_script G) dL_law_1052 (ix_in (a := 5 * n) (b := 2) (by omega) (by omega)) (by omega) ?_
  refine v_callV (mc := 41 * k + 41) (ms := 2870 * k + 2870) (c_X6_get 15 h hs.1.1.1 hs.2.2.1) cs_L_119 dL_law_1053 h.1 rfl rfl (Nat.le_of_ble_eq_true rfl) ?_
  refine rt_k ?_
  obtain ⟨fs9, h60⟩ := h9.c60
  refine v_aload_n 1 dL_law_1056 rfl rfl ?_
  refine v_aload_n 3 dL_law_1057 rfl rfl ?_
  refine v_iload_n 0 dL_law_1058 rfl rfl ?_
  refine v_iconst (v := 1) dL_law_1059 (by first | rfl | decide) ?_
  refine v_iadd dL_law_1060 ?_
  refine v_roi (ro_script G) dL_law_1061 (ix_in (a := 5 * n) (b := 1) (by omega) (by omega)) (by omega) ?_
  refine v_aload_n 3 dL_law_1062 rfl rfl ?_
  refine v_iload_n 0 dL_law_1063 rfl rfl ?_
  refine v_iconst (v := 2) dL_law_1064 (by first | rfl | decide) ?_
  refine v_iadd dL_law_1065 ?_
  refine v_roi (ro_script G) dL_law_1066 (ix_in (a := 5 * n) (b := 2) (by omega) (by omega)) (by omega) ?_
  refine v_callV (mc := 41 * k + 41) (ms := 2870 * k + 2870) (c_X7_get 14 h9 hs.1.1.1 hs.2.2.1) cs_L_122 dL_law_1067 h60 rfl rfl (Nat.le_of_ble_eq_true rfl) ?_
  rintro _ m2 ⟨rfl, h2, f2⟩
  refine v_lc_eq (tgt := 1753) dL_law_1070 dL_law_1071 (by decide) (fun _ => ?_) (fun z9 => absurd rfl z9)
  refine v_bud (mc1 := 41 * k) (ms1 := 2870 * k) (by omega) (by omega) ?_
  exact nx _ _ (h.fp f2) h2 (hs.mono (Nat.le_succ n))

set_option maxRecDepth 20000 in
set_option maxHeartbeats 4000000 in
theorem law_lay {G : Cx} {P : Option Value → Hp → Prop} {n k : Nat} {σ : ST} {μ : Hp} (hL : 5 * n + 5 ≤ cL G) (hL2 : cL G ≤ 2560) (hn : n < 8192) (h : Cl σ μ) (h9 : Mo σ μ) (hs : Ws n σ) (nx : Nx G P n k) : V G M_L_law 17 (41 * k + 41) (2870 * k + 2870) P 1076 (lawL n) [] μ := by
  refine v_aload_n 2 dL_law_1076 rfl rfl ?_
  refine v_aload_n 3 dL_law_1077 rfl rfl ?_
  refine v_iload_n 0 dL_law_1078 rfl rfl ?_
  refine v_iconst (v := 1) dL_law_1079 (by first | rfl | decide) ?_
  refine v_iadd dL_law_1080 ?_
  refine v_roi (ro_script G) dL_law_1081 (ix_in (a := 5 * n) (b := 1) (by omega) (by omega)) (by omega) ?_
  refine v_aload_n 3 dL_law_1082 rfl rfl ?_
  refine v_iload_n 0 dL_law_1083 rfl rfl ?_
  refine v_iconst (v := 2) dL_law_1084 (by first | rfl | decide) ?_
  refine v_iadd dL_law_1085 ?_
  refine v_roi (ro_script G) dL_law_1086 (ix_in (a := 5 * n) (b := 2) (by omega) (by omega)) (by omega) ?_
  refine v_callV (mc := 41 * k + 41) (ms := 2870 * k + 2870) (c_X6_lay 11 h hs.1.1.1) cs_L_123 dL_law_1087 h.1 rfl rfl (Nat.le_of_ble_eq_true rfl) ?_
  rintro _ m1 ⟨rfl, h1, f1⟩
  have h9b := h9.fo f1
  obtain ⟨fs9, h60⟩ := h9b.c60
  refine v_aload_n 1 dL_law_1090 rfl rfl ?_
  refine v_aload_n 3 dL_law_1091 rfl rfl ?_
  refine v_iload_n 0 dL_law_1092 rfl rfl ?_
  refine v_iconst (v := 1) dL_law_1093 (by first | rfl | decide) ?_
  refine v_iadd dL_law_1094 ?_
  refine v_roi (ro_script G) dL_law_1095 (ix_in (a := 5 * n) (b := 1) (by omega) (by omega)) (by omega) ?_
  refine v_aload_n 3 dL_law_1096 rfl rfl ?_
  refine v_iload_n 0 dL_law_1097 rfl rfl ?_
  refine v_iconst (v := 2) dL_law_1098 (by first | rfl | decide) ?_
  refine v_iadd dL_law_1099 ?_
  refine v_roi (ro_script G) dL_law_1100 (ix_in (a := 5 * n) (b := 2) (by omega) (by omega)) (by omega) ?_
  refine v_callV (mc := 41 * k + 41) (ms := 2870 * k + 2870) (c_X7_lay 11 h9b hs.1.1.1 (ph_eb hs.1.1.2 100)) cs_L_126 dL_law_1101 h60 rfl rfl (Nat.le_of_ble_eq_true rfl) ?_
  rintro _ m2 ⟨rfl, h2, f2⟩
  refine v_icmp_eq (tgt := 1753) dL_law_1104 (by decide) (fun _ => ?_) (fun z9 => absurd rfl z9)
  refine v_bud (mc1 := 41 * k) (ms1 := 2870 * k) (by omega) (by omega) ?_
  exact nx _ _ (h1.fp f2) h2 ((ws_lay hs _ _).mono (Nat.le_succ n))

set_option maxRecDepth 20000 in
set_option maxHeartbeats 4000000 in
theorem law_readings {G : Cx} {P : Option Value → Hp → Prop} {n k : Nat} {σ : ST} {μ : Hp} (hL : 5 * n + 5 ≤ cL G) (hL2 : cL G ≤ 2560) (hn : n < 8192) (h : Cl σ μ) (h9 : Mo σ μ) (hs : Ws n σ) (nx : Nx G P n k) : V G M_L_law 17 (41 * k + 41) (2870 * k + 2870) P 1109 (lawL n) [] μ := by
  refine v_aload_n 2 dL_law_1109 rfl rfl ?_
  refine v_aload_n 3 dL_law_1110 rfl rfl ?_
  refine v_iload_n 0 dL_law_1111 rfl rfl ?_
  refine v_iconst (v := 1) dL_law_1112 (by first | rfl | decide) ?_
  refine v_iadd dL_law_1113 ?_
  refine v_roi (ro_script G) dL_law_1114 (ix_in (a := 5 * n) (b := 1) (by omega) (by omega)) (by omega) ?_
  refine v_callV (mc := 41 * k + 41) (ms := 2870 * k + 2870) (c_X6_readings 11 h hs.1.1.1) cs_L_127 dL_law_1115 h.1 rfl rfl (Nat.le_of_ble_eq_true rfl) ?_
  rintro _ m1 ⟨rfl, h1, f1⟩
  have h9b := h9.fo f1
  obtain ⟨fs9, h60⟩ := h9b.c60
  refine v_aload_n 1 dL_law_1118 rfl rfl ?_
  refine v_aload_n 3 dL_law_1119 rfl rfl ?_
  refine v_iload_n 0 dL_law_1120 rfl rfl ?_
  refine v_iconst (v := 1) dL_law_1121 (by first | rfl | decide) ?_
  refine v_iadd dL_law_1122 ?_
  refine v_roi (ro_script G) dL_law_1123 (ix_in (a := 5 * n) (b := 1) (by omega) (by omega)) (by omega) ?_
  refine v_callV (mc := 41 * k + 41) (ms := 2870 * k + 2870) (c_X7_readings 11 h9b hs.1.1.1 (ph_eb hs.1.1.2 100)) cs_L_130 dL_law_1124 h60 rfl rfl (Nat.le_of_ble_eq_true rfl) ?_
  rintro _ m2 ⟨rfl, h2, f2⟩
  refine v_icmp_eq (tgt := 1753) dL_law_1127 (by decide) (fun _ => ?_) (fun z9 => absurd rfl z9)
  refine v_bud (mc1 := 41 * k) (ms1 := 2870 * k) (by omega) (by omega) ?_
  exact nx _ _ (h1.fp f2) h2 ((ws_readings hs _).mono (Nat.le_succ n))

set_option maxRecDepth 20000 in
set_option maxHeartbeats 4000000 in
theorem law_refound {G : Cx} {P : Option Value → Hp → Prop} {n k : Nat} {σ : ST} {μ : Hp} (hL : 5 * n + 5 ≤ cL G) (hL2 : cL G ≤ 2560) (hn : n < 8192) (h : Cl σ μ) (h9 : Mo σ μ) (hs : Ws n σ) (nx : Nx G P n k) : V G M_L_law 17 (41 * k + 41) (2870 * k + 2870) P 1132 (lawL n) [] μ := by
  refine v_aload_n 2 dL_law_1132 rfl rfl ?_
  refine v_aload_n 3 dL_law_1133 rfl rfl ?_
  refine v_iload_n 0 dL_law_1134 rfl rfl ?_
  refine v_iconst (v := 1) dL_law_1135 (by first | rfl | decide) ?_
  refine v_iadd dL_law_1136 ?_
  refine v_roi (ro_script G) dL_law_1137 (ix_in (a := 5 * n) (b := 1) (by omega) (by omega)) (by omega) ?_
  refine v_aload_n 3 dL_law_1138 rfl rfl ?_
  refine v_iload_n 0 dL_law_1139 rfl rfl ?_
  refine v_iconst (v := 2) dL_law_1140 (by first | rfl | decide) ?_
  refine v_iadd dL_law_1141 ?_
  refine v_roi (ro_script G) dL_law_1142 (ix_in (a := 5 * n) (b := 2) (by omega) (by omega)) (by omega) ?_
  refine v_callV (mc := 41 * k + 41) (ms := 2870 * k + 2870) (c_X6_refound 13 h hs.1.1.1) cs_L_131 dL_law_1143 h.1 rfl rfl (Nat.le_of_ble_eq_true rfl) ?_
  rintro _ m1 ⟨rfl, h1, f1⟩
  have h9b := h9.fo f1
  obtain ⟨fs9, h60⟩ := h9b.c60
  refine v_aload_n 1 dL_law_1146 rfl rfl ?_
  refine v_aload_n 3 dL_law_1147 rfl rfl ?_
  refine v_iload_n 0 dL_law_1148 rfl rfl ?_
  refine v_iconst (v := 1) dL_law_1149 (by first | rfl | decide) ?_
  refine v_iadd dL_law_1150 ?_
  refine v_roi (ro_script G) dL_law_1151 (ix_in (a := 5 * n) (b := 1) (by omega) (by omega)) (by omega) ?_
  refine v_aload_n 3 dL_law_1152 rfl rfl ?_
  refine v_iload_n 0 dL_law_1153 rfl rfl ?_
  refine v_iconst (v := 2) dL_law_1154 (by first | rfl | decide) ?_
  refine v_iadd dL_law_1155 ?_
  refine v_roi (ro_script G) dL_law_1156 (ix_in (a := 5 * n) (b := 2) (by omega) (by omega)) (by omega) ?_
  refine v_callV (mc := 41 * k + 41) (ms := 2870 * k + 2870) (c_X7_refound 13 h9b hs.1.1.1) cs_L_134 dL_law_1157 h60 rfl rfl (Nat.le_of_ble_eq_true rfl) ?_
  rintro _ m2 ⟨rfl, h2, f2⟩
  refine v_lc_eq (tgt := 1753) dL_law_1160 dL_law_1161 (by decide) (fun _ => ?_) (fun z9 => absurd rfl z9)
  refine v_bud (mc1 := 41 * k) (ms1 := 2870 * k) (by omega) (by omega) ?_
  exact nx _ _ (h1.fp f2) h2 (hs.mono (Nat.le_succ n))

set_option maxRecDepth 20000 in
set_option maxHeartbeats 4000000 in
theorem law_through {G : Cx} {P : Option Value → Hp → Prop} {n k : Nat} {σ : ST} {μ : Hp} (hL : 5 * n + 5 ≤ cL G) (hL2 : cL G ≤ 2560) (hn : n < 8192) (h : Cl σ μ) (h9 : Mo σ μ) (hs : Ws n σ) (nx : Nx G P n k) : V G M_L_law 17 (41 * k + 41) (2870 * k + 2870) P 1166 (lawL n) [] μ := by
  refine v_aload_n 2 dL_law_1166 rfl rfl ?_
  refine v_aload_n 3 dL_law_1167 rfl rfl ?_
  refine v_iload_n 0 dL_law_1168 rfl rfl ?_
  refine v_iconst (v := 1) dL_law_1169 (by first | rfl | decide) ?_
  refine v_iadd dL_law_1170 ?_
  refine v_roi (ro_script G) dL_law_1171 (ix_in (a := 5 * n) (b := 1) (by omega) (by omega)) (by omega) ?_
  refine v_aload_n 3 dL_law_1172 rfl rfl ?_
  refine v_iload_n 0 dL_law_1173 rfl rfl ?_
  refine v_iconst (v := 2) dL_law_1174 (by first | rfl | decide) ?_
  refine v_iadd dL_law_1175 ?_
  refine v_roi (ro_script G) dL_law_1176 (ix_in (a := 5 * n) (b := 2) (by omega) (by omega)) (by omega) ?_
  refine v_callV (mc := 41 * k + 41) (ms := 2870 * k + 2870) (c_X6_through 12 h hs.1.1.1) cs_L_135 dL_law_1177 h.1 rfl rfl (Nat.le_of_ble_eq_true rfl) ?_
  rintro _ m1 ⟨rfl, h1, f1⟩
  have h9b := h9.fo f1
  obtain ⟨fs9, h60⟩ := h9b.c60
  refine v_aload_n 1 dL_law_1180 rfl rfl ?_
  refine v_aload_n 3 dL_law_1181 rfl rfl ?_
  refine v_iload_n 0 dL_law_1182 rfl rfl ?_
  refine v_iconst (v := 1) dL_law_1183 (by first | rfl | decide) ?_
  refine v_iadd dL_law_1184 ?_
  refine v_roi (ro_script G) dL_law_1185 (ix_in (a := 5 * n) (b := 1) (by omega) (by omega)) (by omega) ?_
  refine v_aload_n 3 dL_law_1186 rfl rfl ?_
  refine v_iload_n 0 dL_law_1187 rfl rfl ?_
  refine v_iconst (v := 2) dL_law_1188 (by first | rfl | decide) ?_
  refine v_iadd dL_law_1189 ?_
  refine v_roi (ro_script G) dL_law_1190 (ix_in (a := 5 * n) (b := 2) (by omega) (by omega)) (by omega) ?_
  refine v_callV (mc := 41 * k + 41) (ms := 2870 * k + 2870) (c_X7_through 12 h9b hs.1.1.1) cs_L_138 dL_law_1191 h60 rfl rfl (Nat.le_of_ble_eq_true rfl) ?_
  rintro _ m2 ⟨rfl, h2, f2⟩
  refine v_lc_eq (tgt := 1753) dL_law_1194 dL_law_1195 (by decide) (fun _ => ?_) (fun z9 => absurd rfl z9)
  refine v_bud (mc1 := 41 * k) (ms1 := 2870 * k) (by omega) (by omega) ?_
  exact nx _ _ (h1.fp f2) h2 (hs.mono (Nat.le_succ n))

set_option maxRecDepth 20000 in
set_option maxHeartbeats 4000000 in
theorem law_before {G : Cx} {P : Option Value → Hp → Prop} {n k : Nat} {σ : ST} {μ : Hp} (hL : 5 * n + 5 ≤ cL G) (hL2 : cL G ≤ 2560) (hn : n < 8192) (h : Cl σ μ) (h9 : Mo σ μ) (hs : Ws n σ) (nx : Nx G P n k) : V G M_L_law 17 (41 * k + 41) (2870 * k + 2870) P 1200 (lawL n) [] μ := by
  refine v_aload_n 2 dL_law_1200 rfl rfl ?_
  refine v_aload_n 3 dL_law_1201 rfl rfl ?_
  refine v_iload_n 0 dL_law_1202 rfl rfl ?_
  refine v_iconst (v := 1) dL_law_1203 (by first | rfl | decide) ?_
  refine v_iadd dL_law_1204 ?_
  refine v_roi (ro_script G) dL_law_1205 (ix_in (a := 5 * n) (b := 1) (by omega) (by omega)) (by omega) ?_
  refine v_aload_n 3 dL_law_1206 rfl rfl ?_
  refine v_iload_n 0 dL_law_1207 rfl rfl ?_
  refine v_iconst (v := 2) dL_law_1208 (by first | rfl | decide) ?_
  refine v_iadd dL_law_1209 ?_
  refine v_roi (ro_script G) dL_law_1210 (ix_in (a := 5 * n) (b := 2) (by omega) (by omega)) (by omega) ?_
  refine v_callV (mc := 41 * k + 41) (ms := 2870 * k + 2870) (c_X6_before 12 h hs.1.1.1) cs_L_139 dL_law_1211 h.1 rfl rfl (Nat.le_of_ble_eq_true rfl) ?_
  rintro _ m1 ⟨rfl, h1, f1⟩
  have h9b := h9.fo f1
  obtain ⟨fs9, h60⟩ := h9b.c60
  refine v_aload_n 1 dL_law_1214 rfl rfl ?_
  refine v_aload_n 3 dL_law_1215 rfl rfl ?_
  refine v_iload_n 0 dL_law_1216 rfl rfl ?_
  refine v_iconst (v := 1) dL_law_1217 (by first | rfl | decide) ?_
  refine v_iadd dL_law_1218 ?_
  refine v_roi (ro_script G) dL_law_1219 (ix_in (a := 5 * n) (b := 1) (by omega) (by omega)) (by omega) ?_
  refine v_aload_n 3 dL_law_1220 rfl rfl ?_
  refine v_iload_n 0 dL_law_1221 rfl rfl ?_
  refine v_iconst (v := 2) dL_law_1222 (by first | rfl | decide) ?_
  refine v_iadd dL_law_1223 ?_
  refine v_roi (ro_script G) dL_law_1224 (ix_in (a := 5 * n) (b := 2) (by omega) (by omega)) (by omega) ?_
  refine v_callV (mc := 41 * k + 41) (ms := 2870 * k + 2870) (c_X7_before 12 h9b hs.1.1.1) cs_L_142 dL_law_1225 h60 rfl rfl (Nat.le_of_ble_eq_true rfl) ?_
  rintro _ m2 ⟨rfl, h2, f2⟩
  refine v_lc_eq (tgt := 1753) dL_law_1228 dL_law_1229 (by decide) (fun _ => ?_) (fun z9 => absurd rfl z9)
  refine v_bud (mc1 := 41 * k) (ms1 := 2870 * k) (by omega) (by omega) ?_
  exact nx _ _ (h1.fp f2) h2 (hs.mono (Nat.le_succ n))

set_option maxRecDepth 20000 in
set_option maxHeartbeats 4000000 in
theorem law_found {G : Cx} {P : Option Value → Hp → Prop} {n k : Nat} {σ : ST} {μ : Hp} (hL : 5 * n + 5 ≤ cL G) (hL2 : cL G ≤ 2560) (hn : n < 8192) (h : Cl σ μ) (h9 : Mo σ μ) (hs : Ws n σ) (nx : Nx G P n k) : V G M_L_law 17 (41 * k + 41) (2870 * k + 2870) P 1234 (lawL n) [] μ := by
  refine v_aload_n 2 dL_law_1234 rfl rfl ?_
  refine v_aload_n 3 dL_law_1235 rfl rfl ?_
  refine v_iload_n 0 dL_law_1236 rfl rfl ?_
  refine v_iconst (v := 1) dL_law_1237 (by first | rfl | decide) ?_
  refine v_iadd dL_law_1238 ?_
  refine v_roi (ro_script G) dL_law_1239 (ix_in (a := 5 * n) (b := 1) (by omega) (by omega)) (by omega) ?_
  refine v_aload_n 3 dL_law_1240 rfl rfl ?_
  refine v_iload_n 0 dL_law_1241 rfl rfl ?_
  refine v_iconst (v := 2) dL_law_1242 (by first | rfl | decide) ?_
  refine v_iadd dL_law_1243 ?_
  refine v_roi (ro_script G) dL_law_1244 (ix_in (a := 5 * n) (b := 2) (by omega) (by omega)) (by omega) ?_
  refine v_aload_n 3 dL_law_1245 rfl rfl ?_
  refine v_iload_n 0 dL_law_1246 rfl rfl ?_
  refine v_iconst (v := 3) dL_law_1247 (by first | rfl | decide) ?_
  refine v_iadd dL_law_1248 ?_
  refine v_roi (ro_script G) dL_law_1249 (ix_in (a := 5 * n) (b := 3) (by omega) (by omega)) (by omega) ?_
  refine v_callV (mc := 41 * k + 41) (ms := 2870 * k + 2870) (c_X6_found 11 h hs.1.1.1 hs.2.2.1) cs_L_143 dL_law_1250 h.1 rfl rfl (Nat.le_of_ble_eq_true rfl) ?_
  rintro _ m1 ⟨rfl, h1, f1⟩
  have h9b := h9.fo f1
  obtain ⟨fs9, h60⟩ := h9b.c60
  refine v_aload_n 1 dL_law_1253 rfl rfl ?_
  refine v_aload_n 3 dL_law_1254 rfl rfl ?_
  refine v_iload_n 0 dL_law_1255 rfl rfl ?_
  refine v_iconst (v := 1) dL_law_1256 (by first | rfl | decide) ?_
  refine v_iadd dL_law_1257 ?_
  refine v_roi (ro_script G) dL_law_1258 (ix_in (a := 5 * n) (b := 1) (by omega) (by omega)) (by omega) ?_
  refine v_aload_n 3 dL_law_1259 rfl rfl ?_
  refine v_iload_n 0 dL_law_1260 rfl rfl ?_
  refine v_iconst (v := 2) dL_law_1261 (by first | rfl | decide) ?_
  refine v_iadd dL_law_1262 ?_
  refine v_roi (ro_script G) dL_law_1263 (ix_in (a := 5 * n) (b := 2) (by omega) (by omega)) (by omega) ?_
  refine v_aload_n 3 dL_law_1264 rfl rfl ?_
  refine v_iload_n 0 dL_law_1265 rfl rfl ?_
  refine v_iconst (v := 3) dL_law_1266 (by first | rfl | decide) ?_
  refine v_iadd dL_law_1267 ?_
  refine v_roi (ro_script G) dL_law_1268 (ix_in (a := 5 * n) (b := 3) (by omega) (by omega)) (by omega) ?_
  refine v_callV (mc := 41 * k + 41) (ms := 2870 * k + 2870) (c_X7_found 11 h9b hs.1.1.1 (ph_eb hs.1.1.2 100)) cs_L_146 dL_law_1269 h60 rfl rfl (Nat.le_of_ble_eq_true rfl) ?_
  rintro _ m2 ⟨rfl, h2, f2⟩
  refine v_icmp_eq (tgt := 1753) dL_law_1272 (by decide) (fun _ => ?_) (fun z9 => absurd rfl z9)
  refine v_bud (mc1 := 41 * k) (ms1 := 2870 * k) (by omega) (by omega) ?_
  exact nx _ _ (h1.fp f2) h2 (hs.mono (Nat.le_succ n))

set_option maxRecDepth 20000 in
set_option maxHeartbeats 4000000 in
theorem law_meter {G : Cx} {P : Option Value → Hp → Prop} {n k : Nat} {σ : ST} {μ : Hp} (hL : 5 * n + 5 ≤ cL G) (hL2 : cL G ≤ 2560) (hn : n < 8192) (h : Cl σ μ) (h9 : Mo σ μ) (hs : Ws n σ) (nx : Nx G P n k) : V G M_L_law 17 (41 * k + 41) (2870 * k + 2870) P 1277 (lawL n) [] μ := by
  refine v_aload_n 2 dL_law_1277 rfl rfl ?_
  refine v_aload_n 3 dL_law_1278 rfl rfl ?_
  refine v_iload_n 0 dL_law_1279 rfl rfl ?_
  refine v_iconst (v := 1) dL_law_1280 (by first | rfl | decide) ?_
  refine v_iadd dL_law_1281 ?_
  refine v_roi (ro_script G) dL_law_1282 (ix_in (a := 5 * n) (b := 1) (by omega) (by omega)) (by omega) ?_
  refine v_aload_n 3 dL_law_1283 rfl rfl ?_
  refine v_iload_n 0 dL_law_1284 rfl rfl ?_
  refine v_iconst (v := 2) dL_law_1285 (by first | rfl | decide) ?_
  refine v_iadd dL_law_1286 ?_
  refine v_roi (ro_script G) dL_law_1287 (ix_in (a := 5 * n) (b := 2) (by omega) (by omega)) (by omega) ?_
  refine v_callV (mc := 41 * k + 41) (ms := 2870 * k + 2870) (c_X6_meter 10 h hs.1.1.1 hs.1.1.2) cs_L_147 dL_law_1288 h.1 rfl rfl (Nat.le_of_ble_eq_true rfl) ?_
  rintro _ m1 ⟨rfl, h1, f1⟩
  have h9b := h9.fo f1
  obtain ⟨fs9, h60⟩ := h9b.c60
  refine v_aload_n 1 dL_law_1291 rfl rfl ?_
  refine v_aload_n 3 dL_law_1292 rfl rfl ?_
  refine v_iload_n 0 dL_law_1293 rfl rfl ?_
  refine v_iconst (v := 1) dL_law_1294 (by first | rfl | decide) ?_
  refine v_iadd dL_law_1295 ?_
  refine v_roi (ro_script G) dL_law_1296 (ix_in (a := 5 * n) (b := 1) (by omega) (by omega)) (by omega) ?_
  refine v_aload_n 3 dL_law_1297 rfl rfl ?_
  refine v_iload_n 0 dL_law_1298 rfl rfl ?_
  refine v_iconst (v := 2) dL_law_1299 (by first | rfl | decide) ?_
  refine v_iadd dL_law_1300 ?_
  refine v_roi (ro_script G) dL_law_1301 (ix_in (a := 5 * n) (b := 2) (by omega) (by omega)) (by omega) ?_
  refine v_callV (mc := 41 * k + 41) (ms := 2870 * k + 2870) (c_X7_meter 10 h9b hs.1.1.1 hs.1.1.2) cs_L_150 dL_law_1302 h60 rfl rfl (Nat.le_of_ble_eq_true rfl) ?_
  rintro _ m2 ⟨rfl, h2, f2⟩
  refine v_lc_eq (tgt := 1753) dL_law_1305 dL_law_1306 (by decide) (fun _ => ?_) (fun z9 => absurd rfl z9)
  refine v_bud (mc1 := 41 * k) (ms1 := 2870 * k) (by omega) (by omega) ?_
  exact nx _ _ (h1.fp f2) h2 (hs.mono (Nat.le_succ n))

set_option maxRecDepth 20000 in
set_option maxHeartbeats 4000000 in
theorem law_expose {G : Cx} {P : Option Value → Hp → Prop} {n k : Nat} {σ : ST} {μ : Hp} (hL : 5 * n + 5 ≤ cL G) (hL2 : cL G ≤ 2560) (hn : n < 8192) (h : Cl σ μ) (h9 : Mo σ μ) (hs : Ws n σ) (nx : Nx G P n k) : V G M_L_law 17 (41 * k + 41) (2870 * k + 2870) P 1311 (lawL n) [] μ := by
  refine v_aload_n 2 dL_law_1311 rfl rfl ?_
  refine v_aload_n 3 dL_law_1312 rfl rfl ?_
  refine v_iload_n 0 dL_law_1313 rfl rfl ?_
  refine v_iconst (v := 1) dL_law_1314 (by first | rfl | decide) ?_
  refine v_iadd dL_law_1315 ?_
  refine v_roi (ro_script G) dL_law_1316 (ix_in (a := 5 * n) (b := 1) (by omega) (by omega)) (by omega) ?_
  refine v_callV (mc := 41 * k + 41) (ms := 2870 * k + 2870) (c_X6_expose 10 h hs.1.1.1 hn hs.1.2.1 hs.1.1.2) cs_L_151 dL_law_1317 h.1 rfl rfl (Nat.le_of_ble_eq_true rfl) ?_
  rintro _ m1 ⟨rfl, h1, f1⟩
  have h9b := h9.fo f1
  obtain ⟨fs9, h60⟩ := h9b.c60
  refine v_aload_n 1 dL_law_1320 rfl rfl ?_
  refine v_aload_n 3 dL_law_1321 rfl rfl ?_
  refine v_iload_n 0 dL_law_1322 rfl rfl ?_
  refine v_iconst (v := 1) dL_law_1323 (by first | rfl | decide) ?_
  refine v_iadd dL_law_1324 ?_
  refine v_roi (ro_script G) dL_law_1325 (ix_in (a := 5 * n) (b := 1) (by omega) (by omega)) (by omega) ?_
  refine v_callV (mc := 41 * k + 41) (ms := 2870 * k + 2870) (c_X7_expose 10 h9b hs.1.1.1 hn hs.1.2.1 hs.1.1.2) cs_L_154 dL_law_1326 h60 rfl rfl (Nat.le_of_ble_eq_true rfl) ?_
  rintro _ m2 ⟨rfl, h2, f2⟩
  refine v_icmp_eq (tgt := 1753) dL_law_1329 (by decide) (fun _ => ?_) (fun z9 => absurd rfl z9)
  refine v_bud (mc1 := 41 * k) (ms1 := 2870 * k) (by omega) (by omega) ?_
  exact nx _ _ (h1.fp f2) h2 (ws_expose hs hn _)

