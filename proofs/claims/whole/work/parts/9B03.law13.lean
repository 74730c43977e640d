/-! ===== the law: its cases ===== -/
set_option maxRecDepth 4000 in
theorem law_associator {E : og_E} {X : og_X} {Q : State → Prop} {d mc ms cells slots n L i : Nat} {h : og_H} {xs : Nat → Int32} {D : q_D} {M : q_M} {f : Nat → Int64} (W : zW n h D M) (h123 : h 123 = some (row1 f)) (h0 : h 0 = some (rowI L xs)) (hi : i + 7 ≤ L) (hL : L ≤ 3584) (hd : 40 ≤ d) (hmc : cells + 180 ≤ mc) (hms : slots + 3000 ≤ ms)
    (kk : ∀ n2 h2 D2 M2 f2, zW n2 h2 D2 M2 → h2 123 = some (row1 f2) → h2 0 = some (rowI L xs) → og_G E RL cL_law d mc ms 8 X Q (cells + 180) (slots + 3000) n2 h2 2054 [some (.ref 0), some (.ref 3), some (.ref 101), some (.ref 123), some (.int (nI i)), none, none, none] []) :
    og_G E RL cL_law d mc ms 8 X Q cells slots n h 830 [some (.ref 0), some (.ref 3), some (.ref 101), some (.ref 123), some (.int (nI i)), none, none, none] [] := by
  refine og_aload_n (pc := 830) dL_law_830 rfl ?_
  refine og_aload_n (pc := 831) dL_law_831 rfl ?_
  refine og_iload (pc := 832) dL_law_832 rfl ?_
  refine og_iconst (pc := 834) (v := 1) dL_law_834 (by decide) ?_
  refine og_iadd (pc := 835) dL_law_835 ?_
  refine og_saldN (pc := 836) (j := i + 1) (nI_add i 1) dL_law_836 h0 (by omega) (by omega) (by omega) ?_
  refine og_aload_n (pc := 837) dL_law_837 rfl ?_
  refine og_iload (pc := 838) dL_law_838 rfl ?_
  refine og_iconst (pc := 840) (v := 2) dL_law_840 (by decide) ?_
  refine og_iadd (pc := 841) dL_law_841 ?_
  refine og_saldN (pc := 842) (j := i + 2) (nI_add i 2) dL_law_842 h0 (by omega) (by omega) (by omega) ?_
  refine og_aload_n (pc := 843) dL_law_843 rfl ?_
  refine og_iload (pc := 844) dL_law_844 rfl ?_
  refine og_iconst (pc := 846) (v := 3) dL_law_846 (by decide) ?_
  refine og_iadd (pc := 847) dL_law_847 ?_
  refine og_saldN (pc := 848) (j := i + 3) (nI_add i 3) dL_law_848 h0 (by omega) (by omega) (by omega) ?_
  refine og_aload_n (pc := 849) dL_law_849 rfl ?_
  refine og_iload (pc := 850) dL_law_850 rfl ?_
  refine og_iconst (pc := 852) (v := 4) dL_law_852 (by decide) ?_
  refine og_iadd (pc := 853) dL_law_853 ?_
  refine og_saldN (pc := 854) (j := i + 4) (nI_add i 4) dL_law_854 h0 (by omega) (by omega) (by omega) ?_
  refine og_aload_n (pc := 855) dL_law_855 rfl ?_
  refine og_callSH (pc := 856) (As := [.ref 3, .int (xs (i + 1)), .int (xs (i + 2)), .int (xs (i + 3)), .int (xs (i + 4)), .ref 123]) (rest := []) (P_associator E 0 n h _ _ _ _ W h123) YH_L_associator K_L_145 dL_law_856 rfl rfl (Nat.le_of_ble_eq_true rfl) (by omega) (by omega) (by omega) (fun v n1 h1 z => ?_)
  obtain ⟨k, f1, rfl, hn1, g123, g0, ⟨fs, g101⟩, hM⟩ := z
  refine og_istore_5 (pc := 859) dL_law_859 rfl ?_
  refine og_aload_n (pc := 861) dL_law_861 rfl ?_
  refine og_aload_n (pc := 862) dL_law_862 rfl ?_
  refine og_iload (pc := 863) dL_law_863 rfl ?_
  refine og_iconst (pc := 865) (v := 1) dL_law_865 (by decide) ?_
  refine og_iadd (pc := 866) dL_law_866 ?_
  refine og_saldN (pc := 867) (j := i + 1) (nI_add i 1) dL_law_867 (g0.trans h0) (by omega) (by omega) (by omega) ?_
  refine og_aload_n (pc := 868) dL_law_868 rfl ?_
  refine og_iload (pc := 869) dL_law_869 rfl ?_
  refine og_iconst (pc := 871) (v := 2) dL_law_871 (by decide) ?_
  refine og_iadd (pc := 872) dL_law_872 ?_
  refine og_saldN (pc := 873) (j := i + 2) (nI_add i 2) dL_law_873 (g0.trans h0) (by omega) (by omega) (by omega) ?_
  refine og_aload_n (pc := 874) dL_law_874 rfl ?_
  refine og_iload (pc := 875) dL_law_875 rfl ?_
  refine og_iconst (pc := 877) (v := 3) dL_law_877 (by decide) ?_
  refine og_iadd (pc := 878) dL_law_878 ?_
  refine og_saldN (pc := 879) (j := i + 3) (nI_add i 3) dL_law_879 (g0.trans h0) (by omega) (by omega) (by omega) ?_
  refine og_aload_n (pc := 880) dL_law_880 rfl ?_
  refine og_iload (pc := 881) dL_law_881 rfl ?_
  refine og_iconst (pc := 883) (v := 4) dL_law_883 (by decide) ?_
  refine og_iadd (pc := 884) dL_law_884 ?_
  refine og_saldN (pc := 885) (j := i + 4) (nI_add i 4) dL_law_885 (g0.trans h0) (by omega) (by omega) (by omega) ?_
  refine og_callV (pc := 886) (As := [.int (xs (i + 1)), .int (xs (i + 2)), .int (xs (i + 3)), .int (xs (i + 4))]) (rest := []) (hM.at 0) Y_X8_associator I_X8_associator V_X8_associator g101 (by omega) rfl rfl K_L_148 dL_law_886 rfl rfl (Nat.le_of_ble_eq_true rfl) (by omega) (by omega) (by omega) (fun _ _ _ z => z) (fun v n2 h2 z => ?_)
  obtain ⟨hnn, r, D2, M2, rfl, ⟨W2, g2, g20⟩, hrf, hans⟩ := z
  subst hnn
  refine og_lstore_6 (pc := 889) dL_law_889 rfl ?_
  refine og_aload_n (pc := 891) dL_law_891 rfl ?_
  refine og_callV (pc := 892) (As := []) (rest := []) (c_X8_thrown E 0 _ _ W2.2.1.m) Y_X8_thrown I_X8_thrown V_X8_thrown W2.2.1.m (by omega) rfl rfl K_L_117 dL_law_892 rfl rfl (Nat.le_of_ble_eq_true rfl) (by omega) (by omega) (by omega) (fun _ _ _ z => z) (fun v n3 h3 z => ?_)
  obtain ⟨rfl, hn3, rfl⟩ := z
  subst hn3
  refine og_iload (pc := 895) dL_law_895 rfl ?_
  refine og_icmp_eq (pc := 897) (tgt := 902) dL_law_897 (by decide) (fun _ => ?_) (fun c => absurd hrf c)
  refine og_iload (pc := 902) dL_law_902 rfl ?_
  refine og_if_ne (pc := 904) (tgt := 918) dL_law_904 (by decide) (fun _ => ?_) (fun ck => ?_)
  · skip
    refine og_goto (pc := 918) (tgt := 2054) dL_law_918 (by decide) ?_
    refine og_forget_5 (og_forget_6 ?_)
    refine og_widen (k2 := cells + 180) (n2 := slots + 3000) (by omega) (by omega) ?_
    exact kk _ _ _ _ _ W2 (g2.trans g123) (g20.trans (g0.trans h0))
  · skip
    refine og_aload_n (pc := 907) dL_law_907 rfl ?_
    refine og_iconst (pc := 908) (v := 0) dL_law_908 (by decide) ?_
    refine og_laldN (pc := 909) (j := 0) rfl dL_law_909 (g2.trans g123) (by omega) (by omega) (by omega) ?_
    refine og_lload (pc := 910) dL_law_910 rfl ?_
    refine og_lcmp (pc := 912) dL_law_912 ?_
    refine og_if_eq (pc := 913) (tgt := 918) dL_law_913 (by decide) (fun _ => ?_) (fun c => absurd ((og_cmp0 _ _).mpr (hans ck)) c)
    refine og_goto (pc := 918) (tgt := 2054) dL_law_918 (by decide) ?_
    refine og_forget_5 (og_forget_6 ?_)
    refine og_widen (k2 := cells + 180) (n2 := slots + 3000) (by omega) (by omega) ?_
    exact kk _ _ _ _ _ W2 (g2.trans g123) (g20.trans (g0.trans h0))
set_option maxRecDepth 4000 in
theorem law_divide {E : og_E} {X : og_X} {Q : State → Prop} {d mc ms cells slots n L i : Nat} {h : og_H} {xs : Nat → Int32} {D : q_D} {M : q_M} {f : Nat → Int64} (W : zW n h D M) (h123 : h 123 = some (row1 f)) (h0 : h 0 = some (rowI L xs)) (hi : i + 7 ≤ L) (hL : L ≤ 3584) (hd : 40 ≤ d) (hmc : cells + 180 ≤ mc) (hms : slots + 3000 ≤ ms)
    (kk : ∀ n2 h2 D2 M2 f2, zW n2 h2 D2 M2 → h2 123 = some (row1 f2) → h2 0 = some (rowI L xs) → og_G E RL cL_law d mc ms 8 X Q (cells + 180) (slots + 3000) n2 h2 2054 [some (.ref 0), some (.ref 3), some (.ref 101), some (.ref 123), some (.int (nI i)), none, none, none] []) :
    og_G E RL cL_law d mc ms 8 X Q cells slots n h 921 [some (.ref 0), some (.ref 3), some (.ref 101), some (.ref 123), some (.int (nI i)), none, none, none] [] := by
  refine og_aload_n (pc := 921) dL_law_921 rfl ?_
  refine og_aload_n (pc := 922) dL_law_922 rfl ?_
  refine og_iload (pc := 923) dL_law_923 rfl ?_
  refine og_iconst (pc := 925) (v := 1) dL_law_925 (by decide) ?_
  refine og_iadd (pc := 926) dL_law_926 ?_
  refine og_saldN (pc := 927) (j := i + 1) (nI_add i 1) dL_law_927 h0 (by omega) (by omega) (by omega) ?_
  refine og_aload_n (pc := 928) dL_law_928 rfl ?_
  refine og_iload (pc := 929) dL_law_929 rfl ?_
  refine og_iconst (pc := 931) (v := 2) dL_law_931 (by decide) ?_
  refine og_iadd (pc := 932) dL_law_932 ?_
  refine og_saldN (pc := 933) (j := i + 2) (nI_add i 2) dL_law_933 h0 (by omega) (by omega) (by omega) ?_
  refine og_aload_n (pc := 934) dL_law_934 rfl ?_
  refine og_iload (pc := 935) dL_law_935 rfl ?_
  refine og_iconst (pc := 937) (v := 3) dL_law_937 (by decide) ?_
  refine og_iadd (pc := 938) dL_law_938 ?_
  refine og_saldN (pc := 939) (j := i + 3) (nI_add i 3) dL_law_939 h0 (by omega) (by omega) (by omega) ?_
  refine og_aload_n (pc := 940) dL_law_940 rfl ?_
  refine og_iload (pc := 941) dL_law_941 rfl ?_
  refine og_iconst (pc := 943) (v := 4) dL_law_943 (by decide) ?_
  refine og_iadd (pc := 944) dL_law_944 ?_
  refine og_saldN (pc := 945) (j := i + 4) (nI_add i 4) dL_law_945 h0 (by omega) (by omega) (by omega) ?_
  refine og_aload_n (pc := 946) dL_law_946 rfl ?_
  refine og_callSH (pc := 947) (As := [.ref 3, .int (xs (i + 1)), .int (xs (i + 2)), .int (xs (i + 3)), .int (xs (i + 4)), .ref 123]) (rest := []) (P_divide E 0 n h _ _ _ _ W h123) YH_L_divide K_L_149 dL_law_947 rfl rfl (Nat.le_of_ble_eq_true rfl) (by omega) (by omega) (by omega) (fun v n1 h1 z => ?_)
  obtain ⟨k, f1, rfl, hn1, g123, g0, ⟨fs, g101⟩, hM⟩ := z
  refine og_istore_5 (pc := 950) dL_law_950 rfl ?_
  refine og_aload_n (pc := 952) dL_law_952 rfl ?_
  refine og_aload_n (pc := 953) dL_law_953 rfl ?_
  refine og_iload (pc := 954) dL_law_954 rfl ?_
  refine og_iconst (pc := 956) (v := 1) dL_law_956 (by decide) ?_
  refine og_iadd (pc := 957) dL_law_957 ?_
  refine og_saldN (pc := 958) (j := i + 1) (nI_add i 1) dL_law_958 (g0.trans h0) (by omega) (by omega) (by omega) ?_
  refine og_aload_n (pc := 959) dL_law_959 rfl ?_
  refine og_iload (pc := 960) dL_law_960 rfl ?_
  refine og_iconst (pc := 962) (v := 2) dL_law_962 (by decide) ?_
  refine og_iadd (pc := 963) dL_law_963 ?_
  refine og_saldN (pc := 964) (j := i + 2) (nI_add i 2) dL_law_964 (g0.trans h0) (by omega) (by omega) (by omega) ?_
  refine og_aload_n (pc := 965) dL_law_965 rfl ?_
  refine og_iload (pc := 966) dL_law_966 rfl ?_
  refine og_iconst (pc := 968) (v := 3) dL_law_968 (by decide) ?_
  refine og_iadd (pc := 969) dL_law_969 ?_
  refine og_saldN (pc := 970) (j := i + 3) (nI_add i 3) dL_law_970 (g0.trans h0) (by omega) (by omega) (by omega) ?_
  refine og_aload_n (pc := 971) dL_law_971 rfl ?_
  refine og_iload (pc := 972) dL_law_972 rfl ?_
  refine og_iconst (pc := 974) (v := 4) dL_law_974 (by decide) ?_
  refine og_iadd (pc := 975) dL_law_975 ?_
  refine og_saldN (pc := 976) (j := i + 4) (nI_add i 4) dL_law_976 (g0.trans h0) (by omega) (by omega) (by omega) ?_
  refine og_callV (pc := 977) (As := [.int (xs (i + 1)), .int (xs (i + 2)), .int (xs (i + 3)), .int (xs (i + 4))]) (rest := []) (hM.at 0) Y_X8_divide I_X8_divide V_X8_divide g101 (by omega) rfl rfl K_L_151 dL_law_977 rfl rfl (Nat.le_of_ble_eq_true rfl) (by omega) (by omega) (by omega) (fun _ _ _ z => z) (fun v n2 h2 z => ?_)
  obtain ⟨hnn, r, D2, M2, rfl, ⟨W2, g2, g20⟩, hrf, hans⟩ := z
  subst hnn
  refine og_lstore_6 (pc := 980) dL_law_980 rfl ?_
  refine og_aload_n (pc := 982) dL_law_982 rfl ?_
  refine og_callV (pc := 983) (As := []) (rest := []) (c_X8_thrown E 0 _ _ W2.2.1.m) Y_X8_thrown I_X8_thrown V_X8_thrown W2.2.1.m (by omega) rfl rfl K_L_117 dL_law_983 rfl rfl (Nat.le_of_ble_eq_true rfl) (by omega) (by omega) (by omega) (fun _ _ _ z => z) (fun v n3 h3 z => ?_)
  obtain ⟨rfl, hn3, rfl⟩ := z
  subst hn3
  refine og_iload (pc := 986) dL_law_986 rfl ?_
  refine og_icmp_eq (pc := 988) (tgt := 993) dL_law_988 (by decide) (fun _ => ?_) (fun c => absurd hrf c)
  refine og_iload (pc := 993) dL_law_993 rfl ?_
  refine og_if_ne (pc := 995) (tgt := 1009) dL_law_995 (by decide) (fun _ => ?_) (fun ck => ?_)
  · skip
    refine og_goto (pc := 1009) (tgt := 2054) dL_law_1009 (by decide) ?_
    refine og_forget_5 (og_forget_6 ?_)
    refine og_widen (k2 := cells + 180) (n2 := slots + 3000) (by omega) (by omega) ?_
    exact kk _ _ _ _ _ W2 (g2.trans g123) (g20.trans (g0.trans h0))
  · skip
    refine og_aload_n (pc := 998) dL_law_998 rfl ?_
    refine og_iconst (pc := 999) (v := 0) dL_law_999 (by decide) ?_
    refine og_laldN (pc := 1000) (j := 0) rfl dL_law_1000 (g2.trans g123) (by omega) (by omega) (by omega) ?_
    refine og_lload (pc := 1001) dL_law_1001 rfl ?_
    refine og_lcmp (pc := 1003) dL_law_1003 ?_
    refine og_if_eq (pc := 1004) (tgt := 1009) dL_law_1004 (by decide) (fun _ => ?_) (fun c => absurd ((og_cmp0 _ _).mpr (hans ck)) c)
    refine og_goto (pc := 1009) (tgt := 2054) dL_law_1009 (by decide) ?_
    refine og_forget_5 (og_forget_6 ?_)
    refine og_widen (k2 := cells + 180) (n2 := slots + 3000) (by omega) (by omega) ?_
    exact kk _ _ _ _ _ W2 (g2.trans g123) (g20.trans (g0.trans h0))
set_option maxRecDepth 4000 in
theorem law_coordinate {E : og_E} {X : og_X} {Q : State → Prop} {d mc ms cells slots n L i : Nat} {h : og_H} {xs : Nat → Int32} {D : q_D} {M : q_M} {f : Nat → Int64} (W : zW n h D M) (h123 : h 123 = some (row1 f)) (h0 : h 0 = some (rowI L xs)) (hi : i + 7 ≤ L) (hL : L ≤ 3584) (hd : 40 ≤ d) (hmc : cells + 180 ≤ mc) (hms : slots + 3000 ≤ ms)
    (kk : ∀ n2 h2 D2 M2 f2, zW n2 h2 D2 M2 → h2 123 = some (row1 f2) → h2 0 = some (rowI L xs) → og_G E RL cL_law d mc ms 8 X Q (cells + 180) (slots + 3000) n2 h2 2054 [some (.ref 0), some (.ref 3), some (.ref 101), some (.ref 123), some (.int (nI i)), none, none, none] []) :
    og_G E RL cL_law d mc ms 8 X Q cells slots n h 1012 [some (.ref 0), some (.ref 3), some (.ref 101), some (.ref 123), some (.int (nI i)), none, none, none] [] := by
  refine og_aload_n (pc := 1012) dL_law_1012 rfl ?_
  refine og_aload_n (pc := 1013) dL_law_1013 rfl ?_
  refine og_iload (pc := 1014) dL_law_1014 rfl ?_
  refine og_iconst (pc := 1016) (v := 1) dL_law_1016 (by decide) ?_
  refine og_iadd (pc := 1017) dL_law_1017 ?_
  refine og_saldN (pc := 1018) (j := i + 1) (nI_add i 1) dL_law_1018 h0 (by omega) (by omega) (by omega) ?_
  refine og_aload_n (pc := 1019) dL_law_1019 rfl ?_
  refine og_iload (pc := 1020) dL_law_1020 rfl ?_
  refine og_iconst (pc := 1022) (v := 2) dL_law_1022 (by decide) ?_
  refine og_iadd (pc := 1023) dL_law_1023 ?_
  refine og_saldN (pc := 1024) (j := i + 2) (nI_add i 2) dL_law_1024 h0 (by omega) (by omega) (by omega) ?_
  refine og_aload_n (pc := 1025) dL_law_1025 rfl ?_
  refine og_callSH (pc := 1026) (As := [.ref 3, .int (xs (i + 1)), .int (xs (i + 2)), .ref 123]) (rest := []) (P_coordinate E 0 n h _ _ W h123) YH_L_coordinate K_L_152 dL_law_1026 rfl rfl (Nat.le_of_ble_eq_true rfl) (by omega) (by omega) (by omega) (fun v n1 h1 z => ?_)
  obtain ⟨k, f1, rfl, hn1, g123, g0, ⟨fs, g101⟩, hM⟩ := z
  refine og_istore_5 (pc := 1029) dL_law_1029 rfl ?_
  refine og_aload_n (pc := 1031) dL_law_1031 rfl ?_
  refine og_aload_n (pc := 1032) dL_law_1032 rfl ?_
  refine og_iload (pc := 1033) dL_law_1033 rfl ?_
  refine og_iconst (pc := 1035) (v := 1) dL_law_1035 (by decide) ?_
  refine og_iadd (pc := 1036) dL_law_1036 ?_
  refine og_saldN (pc := 1037) (j := i + 1) (nI_add i 1) dL_law_1037 (g0.trans h0) (by omega) (by omega) (by omega) ?_
  refine og_aload_n (pc := 1038) dL_law_1038 rfl ?_
  refine og_iload (pc := 1039) dL_law_1039 rfl ?_
  refine og_iconst (pc := 1041) (v := 2) dL_law_1041 (by decide) ?_
  refine og_iadd (pc := 1042) dL_law_1042 ?_
  refine og_saldN (pc := 1043) (j := i + 2) (nI_add i 2) dL_law_1043 (g0.trans h0) (by omega) (by omega) (by omega) ?_
  refine og_callV (pc := 1044) (As := [.int (xs (i + 1)), .int (xs (i + 2))]) (rest := []) (hM.at 0) Y_X8_coordinate I_X8_coordinate V_X8_coordinate g101 (by omega) rfl rfl K_L_154 dL_law_1044 rfl rfl (Nat.le_of_ble_eq_true rfl) (by omega) (by omega) (by omega) (fun _ _ _ z => z) (fun v n2 h2 z => ?_)
  obtain ⟨hnn, r, D2, M2, rfl, ⟨W2, g2, g20⟩, hrf, hans⟩ := z
  subst hnn
  refine og_istore_6 (pc := 1047) dL_law_1047 rfl ?_
  refine og_aload_n (pc := 1049) dL_law_1049 rfl ?_
  refine og_callV (pc := 1050) (As := []) (rest := []) (c_X8_thrown E 0 _ _ W2.2.1.m) Y_X8_thrown I_X8_thrown V_X8_thrown W2.2.1.m (by omega) rfl rfl K_L_117 dL_law_1050 rfl rfl (Nat.le_of_ble_eq_true rfl) (by omega) (by omega) (by omega) (fun _ _ _ z => z) (fun v n3 h3 z => ?_)
  obtain ⟨rfl, hn3, rfl⟩ := z
  subst hn3
  refine og_iload (pc := 1053) dL_law_1053 rfl ?_
  refine og_icmp_eq (pc := 1055) (tgt := 1060) dL_law_1055 (by decide) (fun _ => ?_) (fun c => absurd hrf c)
  refine og_iload (pc := 1060) dL_law_1060 rfl ?_
  refine og_if_ne (pc := 1062) (tgt := 1077) dL_law_1062 (by decide) (fun _ => ?_) (fun ck => ?_)
  · skip
    refine og_goto (pc := 1077) (tgt := 2054) dL_law_1077 (by decide) ?_
    refine og_forget_5 (og_forget_6 ?_)
    refine og_widen (k2 := cells + 180) (n2 := slots + 3000) (by omega) (by omega) ?_
    exact kk _ _ _ _ _ W2 (g2.trans g123) (g20.trans (g0.trans h0))
  · skip
    refine og_aload_n (pc := 1065) dL_law_1065 rfl ?_
    refine og_iconst (pc := 1066) (v := 0) dL_law_1066 (by decide) ?_
    refine og_laldN (pc := 1067) (j := 0) rfl dL_law_1067 (g2.trans g123) (by omega) (by omega) (by omega) ?_
    refine og_iload (pc := 1068) dL_law_1068 rfl ?_
    refine og_i2l (pc := 1070) dL_law_1070 rfl ?_
    refine og_lcmp (pc := 1071) dL_law_1071 ?_
    refine og_if_eq (pc := 1072) (tgt := 1077) dL_law_1072 (by decide) (fun _ => ?_) (fun c => absurd ((og_cmp0 _ _).mpr (hans ck)) c)
    refine og_goto (pc := 1077) (tgt := 2054) dL_law_1077 (by decide) ?_
    refine og_forget_5 (og_forget_6 ?_)
    refine og_widen (k2 := cells + 180) (n2 := slots + 3000) (by omega) (by omega) ?_
    exact kk _ _ _ _ _ W2 (g2.trans g123) (g20.trans (g0.trans h0))
set_option maxRecDepth 4000 in
theorem law_dot {E : og_E} {X : og_X} {Q : State → Prop} {d mc ms cells slots n L i : Nat} {h : og_H} {xs : Nat → Int32} {D : q_D} {M : q_M} {f : Nat → Int64} (W : zW n h D M) (h123 : h 123 = some (row1 f)) (h0 : h 0 = some (rowI L xs)) (hi : i + 7 ≤ L) (hL : L ≤ 3584) (hd : 40 ≤ d) (hmc : cells + 180 ≤ mc) (hms : slots + 3000 ≤ ms)
    (kk : ∀ n2 h2 D2 M2 f2, zW n2 h2 D2 M2 → h2 123 = some (row1 f2) → h2 0 = some (rowI L xs) → og_G E RL cL_law d mc ms 8 X Q (cells + 180) (slots + 3000) n2 h2 2054 [some (.ref 0), some (.ref 3), some (.ref 101), some (.ref 123), some (.int (nI i)), none, none, none] []) :
    og_G E RL cL_law d mc ms 8 X Q cells slots n h 1135 [some (.ref 0), some (.ref 3), some (.ref 101), some (.ref 123), some (.int (nI i)), none, none, none] [] := by
  refine og_aload_n (pc := 1135) dL_law_1135 rfl ?_
  refine og_aload_n (pc := 1136) dL_law_1136 rfl ?_
  refine og_iload (pc := 1137) dL_law_1137 rfl ?_
  refine og_iconst (pc := 1139) (v := 1) dL_law_1139 (by decide) ?_
  refine og_iadd (pc := 1140) dL_law_1140 ?_
  refine og_saldN (pc := 1141) (j := i + 1) (nI_add i 1) dL_law_1141 h0 (by omega) (by omega) (by omega) ?_
  refine og_aload_n (pc := 1142) dL_law_1142 rfl ?_
  refine og_iload (pc := 1143) dL_law_1143 rfl ?_
  refine og_iconst (pc := 1145) (v := 2) dL_law_1145 (by decide) ?_
  refine og_iadd (pc := 1146) dL_law_1146 ?_
  refine og_saldN (pc := 1147) (j := i + 2) (nI_add i 2) dL_law_1147 h0 (by omega) (by omega) (by omega) ?_
  refine og_aload_n (pc := 1148) dL_law_1148 rfl ?_
  refine og_callSH (pc := 1149) (As := [.ref 3, .int (xs (i + 1)), .int (xs (i + 2)), .ref 123]) (rest := []) (P_dot E 0 n h _ _ W h123) YH_L_dot K_L_158 dL_law_1149 rfl rfl (Nat.le_of_ble_eq_true rfl) (by omega) (by omega) (by omega) (fun v n1 h1 z => ?_)
  obtain ⟨k, f1, rfl, hn1, g123, g0, ⟨fs, g101⟩, hM⟩ := z
  refine og_istore_5 (pc := 1152) dL_law_1152 rfl ?_
  refine og_aload_n (pc := 1154) dL_law_1154 rfl ?_
  refine og_aload_n (pc := 1155) dL_law_1155 rfl ?_
  refine og_iload (pc := 1156) dL_law_1156 rfl ?_
  refine og_iconst (pc := 1158) (v := 1) dL_law_1158 (by decide) ?_
  refine og_iadd (pc := 1159) dL_law_1159 ?_
  refine og_saldN (pc := 1160) (j := i + 1) (nI_add i 1) dL_law_1160 (g0.trans h0) (by omega) (by omega) (by omega) ?_
  refine og_aload_n (pc := 1161) dL_law_1161 rfl ?_
  refine og_iload (pc := 1162) dL_law_1162 rfl ?_
  refine og_iconst (pc := 1164) (v := 2) dL_law_1164 (by decide) ?_
  refine og_iadd (pc := 1165) dL_law_1165 ?_
  refine og_saldN (pc := 1166) (j := i + 2) (nI_add i 2) dL_law_1166 (g0.trans h0) (by omega) (by omega) (by omega) ?_
  refine og_callV (pc := 1167) (As := [.int (xs (i + 1)), .int (xs (i + 2))]) (rest := []) (hM.at 0) Y_X8_dot I_X8_dot V_X8_dot g101 (by omega) rfl rfl K_L_160 dL_law_1167 rfl rfl (Nat.le_of_ble_eq_true rfl) (by omega) (by omega) (by omega) (fun _ _ _ z => z) (fun v n2 h2 z => ?_)
  obtain ⟨hnn, r, D2, M2, rfl, ⟨W2, g2, g20⟩, hrf, hans⟩ := z
  subst hnn
  refine og_lstore_6 (pc := 1170) dL_law_1170 rfl ?_
  refine og_aload_n (pc := 1172) dL_law_1172 rfl ?_
  refine og_callV (pc := 1173) (As := []) (rest := []) (c_X8_thrown E 0 _ _ W2.2.1.m) Y_X8_thrown I_X8_thrown V_X8_thrown W2.2.1.m (by omega) rfl rfl K_L_117 dL_law_1173 rfl rfl (Nat.le_of_ble_eq_true rfl) (by omega) (by omega) (by omega) (fun _ _ _ z => z) (fun v n3 h3 z => ?_)
  obtain ⟨rfl, hn3, rfl⟩ := z
  subst hn3
  refine og_iload (pc := 1176) dL_law_1176 rfl ?_
  refine og_icmp_eq (pc := 1178) (tgt := 1183) dL_law_1178 (by decide) (fun _ => ?_) (fun c => absurd hrf c)
  refine og_iload (pc := 1183) dL_law_1183 rfl ?_
  refine og_if_ne (pc := 1185) (tgt := 1199) dL_law_1185 (by decide) (fun _ => ?_) (fun ck => ?_)
  · skip
    refine og_goto (pc := 1199) (tgt := 2054) dL_law_1199 (by decide) ?_
    refine og_forget_5 (og_forget_6 ?_)
    refine og_widen (k2 := cells + 180) (n2 := slots + 3000) (by omega) (by omega) ?_
    exact kk _ _ _ _ _ W2 (g2.trans g123) (g20.trans (g0.trans h0))
  · skip
    refine og_aload_n (pc := 1188) dL_law_1188 rfl ?_
    refine og_iconst (pc := 1189) (v := 0) dL_law_1189 (by decide) ?_
    refine og_laldN (pc := 1190) (j := 0) rfl dL_law_1190 (g2.trans g123) (by omega) (by omega) (by omega) ?_
    refine og_lload (pc := 1191) dL_law_1191 rfl ?_
    refine og_lcmp (pc := 1193) dL_law_1193 ?_
    refine og_if_eq (pc := 1194) (tgt := 1199) dL_law_1194 (by decide) (fun _ => ?_) (fun c => absurd ((og_cmp0 _ _).mpr (hans ck)) c)
    refine og_goto (pc := 1199) (tgt := 2054) dL_law_1199 (by decide) ?_
    refine og_forget_5 (og_forget_6 ?_)
    refine og_widen (k2 := cells + 180) (n2 := slots + 3000) (by omega) (by omega) ?_
    exact kk _ _ _ _ _ W2 (g2.trans g123) (g20.trans (g0.trans h0))
set_option maxRecDepth 4000 in
theorem law_ordersOf {E : og_E} {X : og_X} {Q : State → Prop} {d mc ms cells slots n L i : Nat} {h : og_H} {xs : Nat → Int32} {D : q_D} {M : q_M} {f : Nat → Int64} (W : zW n h D M) (h123 : h 123 = some (row1 f)) (h0 : h 0 = some (rowI L xs)) (hi : i + 7 ≤ L) (hL : L ≤ 3584) (hd : 40 ≤ d) (hmc : cells + 180 ≤ mc) (hms : slots + 3000 ≤ ms)
    (kk : ∀ n2 h2 D2 M2 f2, zW n2 h2 D2 M2 → h2 123 = some (row1 f2) → h2 0 = some (rowI L xs) → og_G E RL cL_law d mc ms 8 X Q (cells + 180) (slots + 3000) n2 h2 2054 [some (.ref 0), some (.ref 3), some (.ref 101), some (.ref 123), some (.int (nI i)), none, none, none] []) :
    og_G E RL cL_law d mc ms 8 X Q cells slots n h 1202 [some (.ref 0), some (.ref 3), some (.ref 101), some (.ref 123), some (.int (nI i)), none, none, none] [] := by
  refine og_aload_n (pc := 1202) dL_law_1202 rfl ?_
  refine og_aload_n (pc := 1203) dL_law_1203 rfl ?_
  refine og_iload (pc := 1204) dL_law_1204 rfl ?_
  refine og_iconst (pc := 1206) (v := 1) dL_law_1206 (by decide) ?_
  refine og_iadd (pc := 1207) dL_law_1207 ?_
  refine og_saldN (pc := 1208) (j := i + 1) (nI_add i 1) dL_law_1208 h0 (by omega) (by omega) (by omega) ?_
  refine og_aload_n (pc := 1209) dL_law_1209 rfl ?_
  refine og_callSH (pc := 1210) (As := [.ref 3, .int (xs (i + 1)), .ref 123]) (rest := []) (P_ordersOf E 0 n h _ W h123) YH_L_ordersOf K_L_161 dL_law_1210 rfl rfl (Nat.le_of_ble_eq_true rfl) (by omega) (by omega) (by omega) (fun v n1 h1 z => ?_)
  obtain ⟨k, f1, rfl, hn1, g123, g0, ⟨fs, g101⟩, hM⟩ := z
  refine og_istore_5 (pc := 1213) dL_law_1213 rfl ?_
  refine og_aload_n (pc := 1215) dL_law_1215 rfl ?_
  refine og_aload_n (pc := 1216) dL_law_1216 rfl ?_
  refine og_iload (pc := 1217) dL_law_1217 rfl ?_
  refine og_iconst (pc := 1219) (v := 1) dL_law_1219 (by decide) ?_
  refine og_iadd (pc := 1220) dL_law_1220 ?_
  refine og_saldN (pc := 1221) (j := i + 1) (nI_add i 1) dL_law_1221 (g0.trans h0) (by omega) (by omega) (by omega) ?_
  refine og_callV (pc := 1222) (As := [.int (xs (i + 1))]) (rest := []) (hM.at 0) Y_X8_ordersOf I_X8_ordersOf V_X8_ordersOf g101 (by omega) rfl rfl K_L_163 dL_law_1222 rfl rfl (Nat.le_of_ble_eq_true rfl) (by omega) (by omega) (by omega) (fun _ _ _ z => z) (fun v n2 h2 z => ?_)
  obtain ⟨hnn, r, D2, M2, rfl, ⟨W2, g2, g20⟩, hrf, hans⟩ := z
  subst hnn
  refine og_istore_6 (pc := 1225) dL_law_1225 rfl ?_
  refine og_aload_n (pc := 1227) dL_law_1227 rfl ?_
  refine og_callV (pc := 1228) (As := []) (rest := []) (c_X8_thrown E 0 _ _ W2.2.1.m) Y_X8_thrown I_X8_thrown V_X8_thrown W2.2.1.m (by omega) rfl rfl K_L_117 dL_law_1228 rfl rfl (Nat.le_of_ble_eq_true rfl) (by omega) (by omega) (by omega) (fun _ _ _ z => z) (fun v n3 h3 z => ?_)
  obtain ⟨rfl, hn3, rfl⟩ := z
  subst hn3
  refine og_iload (pc := 1231) dL_law_1231 rfl ?_
  refine og_icmp_eq (pc := 1233) (tgt := 1238) dL_law_1233 (by decide) (fun _ => ?_) (fun c => absurd hrf c)
  refine og_iload (pc := 1238) dL_law_1238 rfl ?_
  refine og_if_ne (pc := 1240) (tgt := 1255) dL_law_1240 (by decide) (fun _ => ?_) (fun ck => ?_)
  · skip
    refine og_goto (pc := 1255) (tgt := 2054) dL_law_1255 (by decide) ?_
    refine og_forget_5 (og_forget_6 ?_)
    refine og_widen (k2 := cells + 180) (n2 := slots + 3000) (by omega) (by omega) ?_
    exact kk _ _ _ _ _ W2 (g2.trans g123) (g20.trans (g0.trans h0))
  · skip
    refine og_aload_n (pc := 1243) dL_law_1243 rfl ?_
    refine og_iconst (pc := 1244) (v := 0) dL_law_1244 (by decide) ?_
    refine og_laldN (pc := 1245) (j := 0) rfl dL_law_1245 (g2.trans g123) (by omega) (by omega) (by omega) ?_
    refine og_iload (pc := 1246) dL_law_1246 rfl ?_
    refine og_i2l (pc := 1248) dL_law_1248 rfl ?_
    refine og_lcmp (pc := 1249) dL_law_1249 ?_
    refine og_if_eq (pc := 1250) (tgt := 1255) dL_law_1250 (by decide) (fun _ => ?_) (fun c => absurd ((og_cmp0 _ _).mpr (hans ck)) c)
    refine og_goto (pc := 1255) (tgt := 2054) dL_law_1255 (by decide) ?_
    refine og_forget_5 (og_forget_6 ?_)
    refine og_widen (k2 := cells + 180) (n2 := slots + 3000) (by omega) (by omega) ?_
    exact kk _ _ _ _ _ W2 (g2.trans g123) (g20.trans (g0.trans h0))
set_option maxRecDepth 4000 in
theorem law_left {E : og_E} {X : og_X} {Q : State → Prop} {d mc ms cells slots n L i : Nat} {h : og_H} {xs : Nat → Int32} {D : q_D} {M : q_M} {f : Nat → Int64} (W : zW n h D M) (h123 : h 123 = some (row1 f)) (h0 : h 0 = some (rowI L xs)) (hi : i + 7 ≤ L) (hL : L ≤ 3584) (hd : 40 ≤ d) (hmc : cells + 180 ≤ mc) (hms : slots + 3000 ≤ ms)
    (kk : ∀ n2 h2 D2 M2 f2, zW n2 h2 D2 M2 → h2 123 = some (row1 f2) → h2 0 = some (rowI L xs) → og_G E RL cL_law d mc ms 8 X Q (cells + 180) (slots + 3000) n2 h2 2054 [some (.ref 0), some (.ref 3), some (.ref 101), some (.ref 123), some (.int (nI i)), none, none, none] []) :
    og_G E RL cL_law d mc ms 8 X Q cells slots n h 1258 [some (.ref 0), some (.ref 3), some (.ref 101), some (.ref 123), some (.int (nI i)), none, none, none] [] := by
  refine og_aload_n (pc := 1258) dL_law_1258 rfl ?_
  refine og_aload_n (pc := 1259) dL_law_1259 rfl ?_
  refine og_iload (pc := 1260) dL_law_1260 rfl ?_
  refine og_iconst (pc := 1262) (v := 1) dL_law_1262 (by decide) ?_
  refine og_iadd (pc := 1263) dL_law_1263 ?_
  refine og_saldN (pc := 1264) (j := i + 1) (nI_add i 1) dL_law_1264 h0 (by omega) (by omega) (by omega) ?_
  refine og_aload_n (pc := 1265) dL_law_1265 rfl ?_
  refine og_iload (pc := 1266) dL_law_1266 rfl ?_
  refine og_iconst (pc := 1268) (v := 2) dL_law_1268 (by decide) ?_
  refine og_iadd (pc := 1269) dL_law_1269 ?_
  refine og_saldN (pc := 1270) (j := i + 2) (nI_add i 2) dL_law_1270 h0 (by omega) (by omega) (by omega) ?_
  refine og_aload_n (pc := 1271) dL_law_1271 rfl ?_
  refine og_iload (pc := 1272) dL_law_1272 rfl ?_
  refine og_iconst (pc := 1274) (v := 3) dL_law_1274 (by decide) ?_
  refine og_iadd (pc := 1275) dL_law_1275 ?_
  refine og_saldN (pc := 1276) (j := i + 3) (nI_add i 3) dL_law_1276 h0 (by omega) (by omega) (by omega) ?_
  refine og_aload_n (pc := 1277) dL_law_1277 rfl ?_
  refine og_callSH (pc := 1278) (As := [.ref 3, .int (xs (i + 1)), .int (xs (i + 2)), .int (xs (i + 3)), .ref 123]) (rest := []) (P_left E 0 n h _ _ _ W h123) YH_L_left K_L_164 dL_law_1278 rfl rfl (Nat.le_of_ble_eq_true rfl) (by omega) (by omega) (by omega) (fun v n1 h1 z => ?_)
  obtain ⟨k, f1, rfl, hn1, g123, g0, ⟨fs, g101⟩, hM⟩ := z
  refine og_istore_5 (pc := 1281) dL_law_1281 rfl ?_
  refine og_aload_n (pc := 1283) dL_law_1283 rfl ?_
  refine og_aload_n (pc := 1284) dL_law_1284 rfl ?_
  refine og_iload (pc := 1285) dL_law_1285 rfl ?_
  refine og_iconst (pc := 1287) (v := 1) dL_law_1287 (by decide) ?_
  refine og_iadd (pc := 1288) dL_law_1288 ?_
  refine og_saldN (pc := 1289) (j := i + 1) (nI_add i 1) dL_law_1289 (g0.trans h0) (by omega) (by omega) (by omega) ?_
  refine og_aload_n (pc := 1290) dL_law_1290 rfl ?_
  refine og_iload (pc := 1291) dL_law_1291 rfl ?_
  refine og_iconst (pc := 1293) (v := 2) dL_law_1293 (by decide) ?_
  refine og_iadd (pc := 1294) dL_law_1294 ?_
  refine og_saldN (pc := 1295) (j := i + 2) (nI_add i 2) dL_law_1295 (g0.trans h0) (by omega) (by omega) (by omega) ?_
  refine og_aload_n (pc := 1296) dL_law_1296 rfl ?_
  refine og_iload (pc := 1297) dL_law_1297 rfl ?_
  refine og_iconst (pc := 1299) (v := 3) dL_law_1299 (by decide) ?_
  refine og_iadd (pc := 1300) dL_law_1300 ?_
  refine og_saldN (pc := 1301) (j := i + 3) (nI_add i 3) dL_law_1301 (g0.trans h0) (by omega) (by omega) (by omega) ?_
  refine og_callV (pc := 1302) (As := [.int (xs (i + 1)), .int (xs (i + 2)), .int (xs (i + 3))]) (rest := []) (hM.at 0) Y_X8_left I_X8_left V_X8_left g101 (by omega) rfl rfl K_L_166 dL_law_1302 rfl rfl (Nat.le_of_ble_eq_true rfl) (by omega) (by omega) (by omega) (fun _ _ _ z => z) (fun v n2 h2 z => ?_)
  obtain ⟨hnn, r, D2, M2, rfl, ⟨W2, g2, g20⟩, hrf, hans⟩ := z
  subst hnn
  refine og_istore_6 (pc := 1305) dL_law_1305 rfl ?_
  refine og_aload_n (pc := 1307) dL_law_1307 rfl ?_
  refine og_callV (pc := 1308) (As := []) (rest := []) (c_X8_thrown E 0 _ _ W2.2.1.m) Y_X8_thrown I_X8_thrown V_X8_thrown W2.2.1.m (by omega) rfl rfl K_L_117 dL_law_1308 rfl rfl (Nat.le_of_ble_eq_true rfl) (by omega) (by omega) (by omega) (fun _ _ _ z => z) (fun v n3 h3 z => ?_)
  obtain ⟨rfl, hn3, rfl⟩ := z
  subst hn3
  refine og_iload (pc := 1311) dL_law_1311 rfl ?_
  refine og_icmp_eq (pc := 1313) (tgt := 1318) dL_law_1313 (by decide) (fun _ => ?_) (fun c => absurd hrf c)
  refine og_iload (pc := 1318) dL_law_1318 rfl ?_
  refine og_if_ne (pc := 1320) (tgt := 1335) dL_law_1320 (by decide) (fun _ => ?_) (fun ck => ?_)
  · skip
    refine og_goto (pc := 1335) (tgt := 2054) dL_law_1335 (by decide) ?_
    refine og_forget_5 (og_forget_6 ?_)
    refine og_widen (k2 := cells + 180) (n2 := slots + 3000) (by omega) (by omega) ?_
    exact kk _ _ _ _ _ W2 (g2.trans g123) (g20.trans (g0.trans h0))
  · skip
    refine og_aload_n (pc := 1323) dL_law_1323 rfl ?_
    refine og_iconst (pc := 1324) (v := 0) dL_law_1324 (by decide) ?_
    refine og_laldN (pc := 1325) (j := 0) rfl dL_law_1325 (g2.trans g123) (by omega) (by omega) (by omega) ?_
    refine og_iload (pc := 1326) dL_law_1326 rfl ?_
    refine og_i2l (pc := 1328) dL_law_1328 rfl ?_
    refine og_lcmp (pc := 1329) dL_law_1329 ?_
    refine og_if_eq (pc := 1330) (tgt := 1335) dL_law_1330 (by decide) (fun _ => ?_) (fun c => absurd ((og_cmp0 _ _).mpr (hans ck)) c)
    refine og_goto (pc := 1335) (tgt := 2054) dL_law_1335 (by decide) ?_
    refine og_forget_5 (og_forget_6 ?_)
    refine og_widen (k2 := cells + 180) (n2 := slots + 3000) (by omega) (by omega) ?_
    exact kk _ _ _ _ _ W2 (g2.trans g123) (g20.trans (g0.trans h0))
set_option maxRecDepth 4000 in
theorem law_unitOf {E : og_E} {X : og_X} {Q : State → Prop} {d mc ms cells slots n L i : Nat} {h : og_H} {xs : Nat → Int32} {D : q_D} {M : q_M} {f : Nat → Int64} (W : zW n h D M) (h123 : h 123 = some (row1 f)) (h0 : h 0 = some (rowI L xs)) (hi : i + 7 ≤ L) (hL : L ≤ 3584) (hd : 40 ≤ d) (hmc : cells + 180 ≤ mc) (hms : slots + 3000 ≤ ms)
    (kk : ∀ n2 h2 D2 M2 f2, zW n2 h2 D2 M2 → h2 123 = some (row1 f2) → h2 0 = some (rowI L xs) → og_G E RL cL_law d mc ms 8 X Q (cells + 180) (slots + 3000) n2 h2 2054 [some (.ref 0), some (.ref 3), some (.ref 101), some (.ref 123), some (.int (nI i)), none, none, none] []) :
    og_G E RL cL_law d mc ms 8 X Q cells slots n h 1338 [some (.ref 0), some (.ref 3), some (.ref 101), some (.ref 123), some (.int (nI i)), none, none, none] [] := by
  refine og_aload_n (pc := 1338) dL_law_1338 rfl ?_
  refine og_aload_n (pc := 1339) dL_law_1339 rfl ?_
  refine og_iload (pc := 1340) dL_law_1340 rfl ?_
  refine og_iconst (pc := 1342) (v := 1) dL_law_1342 (by decide) ?_
  refine og_iadd (pc := 1343) dL_law_1343 ?_
  refine og_saldN (pc := 1344) (j := i + 1) (nI_add i 1) dL_law_1344 h0 (by omega) (by omega) (by omega) ?_
  refine og_aload_n (pc := 1345) dL_law_1345 rfl ?_
  refine og_callSH (pc := 1346) (As := [.ref 3, .int (xs (i + 1)), .ref 123]) (rest := []) (P_unitOf E 0 n h _ W h123) YH_L_unitOf K_L_167 dL_law_1346 rfl rfl (Nat.le_of_ble_eq_true rfl) (by omega) (by omega) (by omega) (fun v n1 h1 z => ?_)
  obtain ⟨k, f1, rfl, hn1, g123, g0, ⟨fs, g101⟩, hM⟩ := z
  refine og_istore_5 (pc := 1349) dL_law_1349 rfl ?_
  refine og_aload_n (pc := 1351) dL_law_1351 rfl ?_
  refine og_aload_n (pc := 1352) dL_law_1352 rfl ?_
  refine og_iload (pc := 1353) dL_law_1353 rfl ?_
  refine og_iconst (pc := 1355) (v := 1) dL_law_1355 (by decide) ?_
  refine og_iadd (pc := 1356) dL_law_1356 ?_
  refine og_saldN (pc := 1357) (j := i + 1) (nI_add i 1) dL_law_1357 (g0.trans h0) (by omega) (by omega) (by omega) ?_
  refine og_callV (pc := 1358) (As := [.int (xs (i + 1))]) (rest := []) (hM.at 0) Y_X8_unitOf I_X8_unitOf V_X8_unitOf g101 (by omega) rfl rfl K_L_169 dL_law_1358 rfl rfl (Nat.le_of_ble_eq_true rfl) (by omega) (by omega) (by omega) (fun _ _ _ z => z) (fun v n2 h2 z => ?_)
  obtain ⟨hnn, r, D2, M2, rfl, ⟨W2, g2, g20⟩, hrf, hans⟩ := z
  subst hnn
  refine og_istore_6 (pc := 1361) dL_law_1361 rfl ?_
  refine og_aload_n (pc := 1363) dL_law_1363 rfl ?_
  refine og_callV (pc := 1364) (As := []) (rest := []) (c_X8_thrown E 0 _ _ W2.2.1.m) Y_X8_thrown I_X8_thrown V_X8_thrown W2.2.1.m (by omega) rfl rfl K_L_117 dL_law_1364 rfl rfl (Nat.le_of_ble_eq_true rfl) (by omega) (by omega) (by omega) (fun _ _ _ z => z) (fun v n3 h3 z => ?_)
  obtain ⟨rfl, hn3, rfl⟩ := z
  subst hn3
  refine og_iload (pc := 1367) dL_law_1367 rfl ?_
  refine og_icmp_eq (pc := 1369) (tgt := 1374) dL_law_1369 (by decide) (fun _ => ?_) (fun c => absurd hrf c)
  refine og_iload (pc := 1374) dL_law_1374 rfl ?_
  refine og_if_ne (pc := 1376) (tgt := 1391) dL_law_1376 (by decide) (fun _ => ?_) (fun ck => ?_)
  · skip
    refine og_goto (pc := 1391) (tgt := 2054) dL_law_1391 (by decide) ?_
    refine og_forget_5 (og_forget_6 ?_)
    refine og_widen (k2 := cells + 180) (n2 := slots + 3000) (by omega) (by omega) ?_
    exact kk _ _ _ _ _ W2 (g2.trans g123) (g20.trans (g0.trans h0))
  · skip
    refine og_aload_n (pc := 1379) dL_law_1379 rfl ?_
    refine og_iconst (pc := 1380) (v := 0) dL_law_1380 (by decide) ?_
    refine og_laldN (pc := 1381) (j := 0) rfl dL_law_1381 (g2.trans g123) (by omega) (by omega) (by omega) ?_
    refine og_iload (pc := 1382) dL_law_1382 rfl ?_
    refine og_i2l (pc := 1384) dL_law_1384 rfl ?_
    refine og_lcmp (pc := 1385) dL_law_1385 ?_
    refine og_if_eq (pc := 1386) (tgt := 1391) dL_law_1386 (by decide) (fun _ => ?_) (fun c => absurd ((og_cmp0 _ _).mpr (hans ck)) c)
    refine og_goto (pc := 1391) (tgt := 2054) dL_law_1391 (by decide) ?_
    refine og_forget_5 (og_forget_6 ?_)
    refine og_widen (k2 := cells + 180) (n2 := slots + 3000) (by omega) (by omega) ?_
    exact kk _ _ _ _ _ W2 (g2.trans g123) (g20.trans (g0.trans h0))
