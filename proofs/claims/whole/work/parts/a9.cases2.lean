set_option maxHeartbeats 400000 in
set_option maxRecDepth 100000 in
theorem law_tell {n : Nat} {xs : Nat → Int32} {kc ks j : Nat} {s : Sta} {I : Im} {G : Gm} (h : LI s I G) (hj : 7 * j + 7 ≤ n) (hn : n ≤ 3584) (k : ∀ s2 I2 G2, LI s2 I2 G2 → wpS (PL n xs) EL 60 kc ks YL_law 1665 (Lh j) [] (I2, G2) QL) : wpS (PL n xs) EL 60 (18 + kc) (539 + ks) YL_law 899 (Lh j) [] (I, G) QL := by
  refine T_more (kc := kc) (ks := ks) (by omega) (by omega) ?_
  show wpS _ _ _ _ _ _ _ [none, some (.ref 0), some (.ref 256), some (.ref 281), some (.int (nI (7 * j))), none, none] _ _ _
  by_cases hb : xs (7 * j + 3) = 0
  · skip
    refine T_aload_n (pc := 899) dL_law_899 rfl ?_
    refine T_scr (pc := 900) (a := 7 * j) (k := 1) hn dL_law_900 dL_law_901 dL_law_903 dL_law_904 dL_law_905 rfl rfl (by omega) ?_
    refine T_scr (pc := 906) (a := 7 * j) (k := 2) hn dL_law_906 dL_law_907 dL_law_909 dL_law_910 dL_law_911 rfl rfl (by omega) ?_
    refine T_scr (pc := 912) (a := 7 * j) (k := 3) hn dL_law_912 dL_law_913 dL_law_915 dL_law_916 dL_law_917 rfl rfl (by omega) ?_
    refine T_if_eq (pc := 918) (x := (xs (7 * j + 3))) (tgt := 925) dL_law_918 (by decide) (fun _ => ?_) (fun z => absurd hb z)
    refine T_iconst (pc := 925) (v := bz (false = true)) dL_law_925 (by decide) ?_
    refine T_scr (pc := 926) (a := 7 * j) (k := 4) hn dL_law_926 dL_law_927 dL_law_929 dL_law_930 dL_law_931 rfl rfl (by omega) ?_
    refine T_callV_X (pc := 932) (b := 0) (As := [.int (xs (7 * j + 1)), .int (xs (7 * j + 2)), .int (bz (false = true)), .int (xs (7 * j + 4))]) 9 97 dL_law_932 lk_X9_tell (ml_RL_97 rfl) im_X9_tell se_X9_tell (by decide) (c9_o h.1.1.1) (Nat.le_of_ble_eq_true rfl) rfl (tell_c h.1 (c := false)) (fun v M hq => ?_)
    obtain ⟨I2, G2, rfl, rfl, h2⟩ := li_c h sn_tell hq
    refine T_aload_n (pc := 935) dL_law_935 rfl ?_
    refine T_scr (pc := 936) (a := 7 * j) (k := 1) hn dL_law_936 dL_law_937 dL_law_939 dL_law_940 dL_law_941 rfl rfl (by omega) ?_
    refine T_scr (pc := 942) (a := 7 * j) (k := 2) hn dL_law_942 dL_law_943 dL_law_945 dL_law_946 dL_law_947 rfl rfl (by omega) ?_
    refine T_scr (pc := 948) (a := 7 * j) (k := 3) hn dL_law_948 dL_law_949 dL_law_951 dL_law_952 dL_law_953 rfl rfl (by omega) ?_
    refine T_if_eq (pc := 954) (x := (xs (7 * j + 3))) (tgt := 961) dL_law_954 (by decide) (fun _ => ?_) (fun z => absurd hb z)
    refine T_iconst (pc := 961) (v := bz (false = true)) dL_law_961 (by decide) ?_
    refine T_scr (pc := 962) (a := 7 * j) (k := 4) hn dL_law_962 dL_law_963 dL_law_965 dL_law_966 dL_law_967 rfl rfl (by omega) ?_
    refine T_callV_M (pc := 968) (b := 256) (As := [.int (xs (7 * j + 1)), .int (xs (7 * j + 2)), .int (bz (false = true)), .int (xs (7 * j + 4))]) 10 101 dL_law_968 lk_X10_tell (ml_RL_101 rfl) im_X10_tell se_X10_tell (by decide) (c10_o h2.2.2.1) (Nat.le_of_ble_eq_true rfl) rfl (tell_m h2.2.2.1 h2.2.1 (c := false)) (fun v I3 hq => ?_)
    obtain ⟨rfl, h3⟩ := li_m h2 hq
    exact T_icmp_eq (pc := 971) (tgt := 1665) dL_law_971 (by decide) (fun _ => k _ _ _ h3) (fun z => absurd rfl z)
  · skip
    refine T_aload_n (pc := 899) dL_law_899 rfl ?_
    refine T_scr (pc := 900) (a := 7 * j) (k := 1) hn dL_law_900 dL_law_901 dL_law_903 dL_law_904 dL_law_905 rfl rfl (by omega) ?_
    refine T_scr (pc := 906) (a := 7 * j) (k := 2) hn dL_law_906 dL_law_907 dL_law_909 dL_law_910 dL_law_911 rfl rfl (by omega) ?_
    refine T_scr (pc := 912) (a := 7 * j) (k := 3) hn dL_law_912 dL_law_913 dL_law_915 dL_law_916 dL_law_917 rfl rfl (by omega) ?_
    refine T_if_eq (pc := 918) (x := (xs (7 * j + 3))) (tgt := 925) dL_law_918 (by decide) (fun z => absurd z hb) (fun _ => ?_)
    refine T_iconst (pc := 921) (v := bz (true = true)) dL_law_921 (by decide) ?_
    refine T_goto (pc := 922) (tgt := 926) dL_law_922 (by decide) ?_
    refine T_scr (pc := 926) (a := 7 * j) (k := 4) hn dL_law_926 dL_law_927 dL_law_929 dL_law_930 dL_law_931 rfl rfl (by omega) ?_
    refine T_callV_X (pc := 932) (b := 0) (As := [.int (xs (7 * j + 1)), .int (xs (7 * j + 2)), .int (bz (true = true)), .int (xs (7 * j + 4))]) 9 97 dL_law_932 lk_X9_tell (ml_RL_97 rfl) im_X9_tell se_X9_tell (by decide) (c9_o h.1.1.1) (Nat.le_of_ble_eq_true rfl) rfl (tell_c h.1 (c := true)) (fun v M hq => ?_)
    obtain ⟨I2, G2, rfl, rfl, h2⟩ := li_c h sn_tell hq
    refine T_aload_n (pc := 935) dL_law_935 rfl ?_
    refine T_scr (pc := 936) (a := 7 * j) (k := 1) hn dL_law_936 dL_law_937 dL_law_939 dL_law_940 dL_law_941 rfl rfl (by omega) ?_
    refine T_scr (pc := 942) (a := 7 * j) (k := 2) hn dL_law_942 dL_law_943 dL_law_945 dL_law_946 dL_law_947 rfl rfl (by omega) ?_
    refine T_scr (pc := 948) (a := 7 * j) (k := 3) hn dL_law_948 dL_law_949 dL_law_951 dL_law_952 dL_law_953 rfl rfl (by omega) ?_
    refine T_if_eq (pc := 954) (x := (xs (7 * j + 3))) (tgt := 961) dL_law_954 (by decide) (fun z => absurd z hb) (fun _ => ?_)
    refine T_iconst (pc := 957) (v := bz (true = true)) dL_law_957 (by decide) ?_
    refine T_goto (pc := 958) (tgt := 962) dL_law_958 (by decide) ?_
    refine T_scr (pc := 962) (a := 7 * j) (k := 4) hn dL_law_962 dL_law_963 dL_law_965 dL_law_966 dL_law_967 rfl rfl (by omega) ?_
    refine T_callV_M (pc := 968) (b := 256) (As := [.int (xs (7 * j + 1)), .int (xs (7 * j + 2)), .int (bz (true = true)), .int (xs (7 * j + 4))]) 10 101 dL_law_968 lk_X10_tell (ml_RL_101 rfl) im_X10_tell se_X10_tell (by decide) (c10_o h2.2.2.1) (Nat.le_of_ble_eq_true rfl) rfl (tell_m h2.2.2.1 h2.2.1 (c := true)) (fun v I3 hq => ?_)
    obtain ⟨rfl, h3⟩ := li_m h2 hq
    exact T_icmp_eq (pc := 971) (tgt := 1665) dL_law_971 (by decide) (fun _ => k _ _ _ h3) (fun z => absurd rfl z)

set_option maxHeartbeats 400000 in
set_option maxRecDepth 100000 in
theorem law_given {n : Nat} {xs : Nat → Int32} {kc ks j : Nat} {s : Sta} {I : Im} {G : Gm} (h : LI s I G) (hj : 7 * j + 7 ≤ n) (hn : n ≤ 3584) (k : ∀ s2 I2 G2, LI s2 I2 G2 → wpS (PL n xs) EL 60 kc ks YL_law 1665 (Lh j) [] (I2, G2) QL) : wpS (PL n xs) EL 60 (18 + kc) (539 + ks) YL_law 976 (Lh j) [] (I, G) QL := by
  refine T_more (kc := kc) (ks := ks) (by omega) (by omega) ?_
  show wpS _ _ _ _ _ _ _ [none, some (.ref 0), some (.ref 256), some (.ref 281), some (.int (nI (7 * j))), none, none] _ _ _
  refine T_aload_n (pc := 976) dL_law_976 rfl ?_
  refine T_scr (pc := 977) (a := 7 * j) (k := 1) hn dL_law_977 dL_law_978 dL_law_980 dL_law_981 dL_law_982 rfl rfl (by omega) ?_
  refine T_scr (pc := 983) (a := 7 * j) (k := 2) hn dL_law_983 dL_law_984 dL_law_986 dL_law_987 dL_law_988 rfl rfl (by omega) ?_
  refine T_callV_X (pc := 989) (b := 0) (As := [.int (xs (7 * j + 1)), .int (xs (7 * j + 2))]) 9 102 dL_law_989 lk_X9_given (ml_RL_102 rfl) im_X9_given se_X9_given (by decide) (c9_o h.1.1.1) (Nat.le_of_ble_eq_true rfl) rfl (given_c h.1) (fun v M hq => ?_)
  obtain ⟨I2, G2, rfl, rfl, h2⟩ := li_c h rfl hq
  refine T_aload_n (pc := 992) dL_law_992 rfl ?_
  refine T_scr (pc := 993) (a := 7 * j) (k := 1) hn dL_law_993 dL_law_994 dL_law_996 dL_law_997 dL_law_998 rfl rfl (by omega) ?_
  refine T_scr (pc := 999) (a := 7 * j) (k := 2) hn dL_law_999 dL_law_1000 dL_law_1002 dL_law_1003 dL_law_1004 rfl rfl (by omega) ?_
  refine T_callV_M (pc := 1005) (b := 256) (As := [.int (xs (7 * j + 1)), .int (xs (7 * j + 2))]) 10 105 dL_law_1005 lk_X10_given (ml_RL_105 rfl) im_X10_given se_X10_given (by decide) (c10_o h2.2.2.1) (Nat.le_of_ble_eq_true rfl) rfl (given_m h2.2.2.1 h2.2.1) (fun v I3 hq => ?_)
  obtain ⟨rfl, h3⟩ := li_m h2 hq
  exact T_icmp_eq (pc := 1008) (tgt := 1665) dL_law_1008 (by decide) (fun _ => k _ _ _ h3) (fun z => absurd rfl z)

set_option maxHeartbeats 400000 in
set_option maxRecDepth 100000 in
theorem law_doers {n : Nat} {xs : Nat → Int32} {kc ks j : Nat} {s : Sta} {I : Im} {G : Gm} (h : LI s I G) (hj : 7 * j + 7 ≤ n) (hn : n ≤ 3584) (k : ∀ s2 I2 G2, LI s2 I2 G2 → wpS (PL n xs) EL 60 kc ks YL_law 1665 (Lh j) [] (I2, G2) QL) : wpS (PL n xs) EL 60 (18 + kc) (539 + ks) YL_law 1013 (Lh j) [] (I, G) QL := by
  refine T_more (kc := kc) (ks := ks) (by omega) (by omega) ?_
  show wpS _ _ _ _ _ _ _ [none, some (.ref 0), some (.ref 256), some (.ref 281), some (.int (nI (7 * j))), none, none] _ _ _
  refine T_aload_n (pc := 1013) dL_law_1013 rfl ?_
  refine T_scr (pc := 1014) (a := 7 * j) (k := 1) hn dL_law_1014 dL_law_1015 dL_law_1017 dL_law_1018 dL_law_1019 rfl rfl (by omega) ?_
  refine T_callV_X (pc := 1020) (b := 0) (As := [.int (xs (7 * j + 1))]) 9 106 dL_law_1020 lk_X9_doers (ml_RL_106 rfl) im_X9_doers se_X9_doers (by decide) (c9_o h.1.1.1) (Nat.le_of_ble_eq_true rfl) rfl (doers_c h.1) (fun v M hq => ?_)
  obtain ⟨I2, G2, rfl, rfl, h2⟩ := li_c h rfl hq
  refine T_aload_n (pc := 1023) dL_law_1023 rfl ?_
  refine T_scr (pc := 1024) (a := 7 * j) (k := 1) hn dL_law_1024 dL_law_1025 dL_law_1027 dL_law_1028 dL_law_1029 rfl rfl (by omega) ?_
  refine T_callV_M (pc := 1030) (b := 256) (As := [.int (xs (7 * j + 1))]) 10 109 dL_law_1030 lk_X10_doers (ml_RL_109 rfl) im_X10_doers se_X10_doers (by decide) (c10_o h2.2.2.1) (Nat.le_of_ble_eq_true rfl) rfl (doers_m h2.2.2.1 h2.2.1) (fun v I3 hq => ?_)
  obtain ⟨rfl, h3⟩ := li_m h2 hq
  exact T_icmp_eq (pc := 1033) (tgt := 1665) dL_law_1033 (by decide) (fun _ => k _ _ _ h3) (fun z => absurd rfl z)

set_option maxHeartbeats 400000 in
set_option maxRecDepth 100000 in
theorem law_fee {n : Nat} {xs : Nat → Int32} {kc ks j : Nat} {s : Sta} {I : Im} {G : Gm} (h : LI s I G) (hj : 7 * j + 7 ≤ n) (hn : n ≤ 3584) (k : ∀ s2 I2 G2, LI s2 I2 G2 → wpS (PL n xs) EL 60 kc ks YL_law 1665 (Lh j) [] (I2, G2) QL) : wpS (PL n xs) EL 60 (18 + kc) (539 + ks) YL_law 1038 (Lh j) [] (I, G) QL := by
  refine T_more (kc := kc) (ks := ks) (by omega) (by omega) ?_
  show wpS _ _ _ _ _ _ _ [none, some (.ref 0), some (.ref 256), some (.ref 281), some (.int (nI (7 * j))), none, none] _ _ _
  refine T_aload_n (pc := 1038) dL_law_1038 rfl ?_
  refine T_scr (pc := 1039) (a := 7 * j) (k := 1) hn dL_law_1039 dL_law_1040 dL_law_1042 dL_law_1043 dL_law_1044 rfl rfl (by omega) ?_
  refine T_scr (pc := 1045) (a := 7 * j) (k := 2) hn dL_law_1045 dL_law_1046 dL_law_1048 dL_law_1049 dL_law_1050 rfl rfl (by omega) ?_
  refine T_scr (pc := 1051) (a := 7 * j) (k := 3) hn dL_law_1051 dL_law_1052 dL_law_1054 dL_law_1055 dL_law_1056 rfl rfl (by omega) ?_
  refine T_callV_X (pc := 1057) (b := 0) (As := [.int (xs (7 * j + 1)), .int (xs (7 * j + 2)), .int (xs (7 * j + 3))]) 9 110 dL_law_1057 lk_X9_fee (ml_RL_110 rfl) im_X9_fee se_X9_fee (by decide) (c9_o h.1.1.1) (Nat.le_of_ble_eq_true rfl) rfl (fee_c h.1) (fun v M hq => ?_)
  obtain ⟨I2, G2, rfl, rfl, h2⟩ := li_c h rfl hq
  refine T_aload_n (pc := 1060) dL_law_1060 rfl ?_
  refine T_scr (pc := 1061) (a := 7 * j) (k := 1) hn dL_law_1061 dL_law_1062 dL_law_1064 dL_law_1065 dL_law_1066 rfl rfl (by omega) ?_
  refine T_scr (pc := 1067) (a := 7 * j) (k := 2) hn dL_law_1067 dL_law_1068 dL_law_1070 dL_law_1071 dL_law_1072 rfl rfl (by omega) ?_
  refine T_scr (pc := 1073) (a := 7 * j) (k := 3) hn dL_law_1073 dL_law_1074 dL_law_1076 dL_law_1077 dL_law_1078 rfl rfl (by omega) ?_
  refine T_callV_M (pc := 1079) (b := 256) (As := [.int (xs (7 * j + 1)), .int (xs (7 * j + 2)), .int (xs (7 * j + 3))]) 10 113 dL_law_1079 lk_X10_fee (ml_RL_113 rfl) im_X10_fee se_X10_fee (by decide) (c10_o h2.2.2.1) (Nat.le_of_ble_eq_true rfl) rfl (fee_m h2.2.2.1 h2.2.1) (fun v I3 hq => ?_)
  obtain ⟨rfl, h3⟩ := li_m h2 hq
  exact T_icmp_eq (pc := 1082) (tgt := 1665) dL_law_1082 (by decide) (fun _ => k _ _ _ h3) (fun z => absurd rfl z)

set_option maxHeartbeats 400000 in
set_option maxRecDepth 100000 in
theorem law_parts {n : Nat} {xs : Nat → Int32} {kc ks j : Nat} {s : Sta} {I : Im} {G : Gm} (h : LI s I G) (hj : 7 * j + 7 ≤ n) (hn : n ≤ 3584) (k : ∀ s2 I2 G2, LI s2 I2 G2 → wpS (PL n xs) EL 60 kc ks YL_law 1665 (Lh j) [] (I2, G2) QL) : wpS (PL n xs) EL 60 (18 + kc) (539 + ks) YL_law 1087 (Lh j) [] (I, G) QL := by
  refine T_more (kc := kc) (ks := ks) (by omega) (by omega) ?_
  show wpS _ _ _ _ _ _ _ [none, some (.ref 0), some (.ref 256), some (.ref 281), some (.int (nI (7 * j))), none, none] _ _ _
  refine T_aload_n (pc := 1087) dL_law_1087 rfl ?_
  refine T_scr (pc := 1088) (a := 7 * j) (k := 1) hn dL_law_1088 dL_law_1089 dL_law_1091 dL_law_1092 dL_law_1093 rfl rfl (by omega) ?_
  refine T_scr (pc := 1094) (a := 7 * j) (k := 2) hn dL_law_1094 dL_law_1095 dL_law_1097 dL_law_1098 dL_law_1099 rfl rfl (by omega) ?_
  refine T_scr (pc := 1100) (a := 7 * j) (k := 3) hn dL_law_1100 dL_law_1101 dL_law_1103 dL_law_1104 dL_law_1105 rfl rfl (by omega) ?_
  refine T_callV_X (pc := 1106) (b := 0) (As := [.int (xs (7 * j + 1)), .int (xs (7 * j + 2)), .int (xs (7 * j + 3))]) 9 114 dL_law_1106 lk_X9_parts (ml_RL_114 rfl) im_X9_parts se_X9_parts (by decide) (c9_o h.1.1.1) (Nat.le_of_ble_eq_true rfl) rfl (parts_c h.1) (fun v M hq => ?_)
  obtain ⟨I2, G2, rfl, rfl, h2⟩ := li_c h rfl hq
  refine T_aload_n (pc := 1109) dL_law_1109 rfl ?_
  refine T_scr (pc := 1110) (a := 7 * j) (k := 1) hn dL_law_1110 dL_law_1111 dL_law_1113 dL_law_1114 dL_law_1115 rfl rfl (by omega) ?_
  refine T_scr (pc := 1116) (a := 7 * j) (k := 2) hn dL_law_1116 dL_law_1117 dL_law_1119 dL_law_1120 dL_law_1121 rfl rfl (by omega) ?_
  refine T_scr (pc := 1122) (a := 7 * j) (k := 3) hn dL_law_1122 dL_law_1123 dL_law_1125 dL_law_1126 dL_law_1127 rfl rfl (by omega) ?_
  refine T_callV_M (pc := 1128) (b := 256) (As := [.int (xs (7 * j + 1)), .int (xs (7 * j + 2)), .int (xs (7 * j + 3))]) 10 117 dL_law_1128 lk_X10_parts (ml_RL_117 rfl) im_X10_parts se_X10_parts (by decide) (c10_o h2.2.2.1) (Nat.le_of_ble_eq_true rfl) rfl (parts_m h2.2.2.1 h2.2.1) (fun v I3 hq => ?_)
  obtain ⟨rfl, h3⟩ := li_m h2 hq
  exact T_icmp_eq (pc := 1131) (tgt := 1665) dL_law_1131 (by decide) (fun _ => k _ _ _ h3) (fun z => absurd rfl z)

set_option maxHeartbeats 400000 in
set_option maxRecDepth 100000 in
theorem law_takings {n : Nat} {xs : Nat → Int32} {kc ks j : Nat} {s : Sta} {I : Im} {G : Gm} (h : LI s I G) (hj : 7 * j + 7 ≤ n) (hn : n ≤ 3584) (k : ∀ s2 I2 G2, LI s2 I2 G2 → wpS (PL n xs) EL 60 kc ks YL_law 1665 (Lh j) [] (I2, G2) QL) : wpS (PL n xs) EL 60 (18 + kc) (539 + ks) YL_law 1136 (Lh j) [] (I, G) QL := by
  refine T_more (kc := kc) (ks := ks) (by omega) (by omega) ?_
  show wpS _ _ _ _ _ _ _ [none, some (.ref 0), some (.ref 256), some (.ref 281), some (.int (nI (7 * j))), none, none] _ _ _
  refine T_aload_n (pc := 1136) dL_law_1136 rfl ?_
  refine T_scr (pc := 1137) (a := 7 * j) (k := 1) hn dL_law_1137 dL_law_1138 dL_law_1140 dL_law_1141 dL_law_1142 rfl rfl (by omega) ?_
  refine T_scr (pc := 1143) (a := 7 * j) (k := 2) hn dL_law_1143 dL_law_1144 dL_law_1146 dL_law_1147 dL_law_1148 rfl rfl (by omega) ?_
  refine T_scr (pc := 1149) (a := 7 * j) (k := 3) hn dL_law_1149 dL_law_1150 dL_law_1152 dL_law_1153 dL_law_1154 rfl rfl (by omega) ?_
  refine T_callV_X (pc := 1155) (b := 0) (As := [.int (xs (7 * j + 1)), .int (xs (7 * j + 2)), .int (xs (7 * j + 3))]) 9 118 dL_law_1155 lk_X9_takings (ml_RL_118 rfl) im_X9_takings se_X9_takings (by decide) (c9_o h.1.1.1) (Nat.le_of_ble_eq_true rfl) rfl (takings_c h.1) (fun v M hq => ?_)
  obtain ⟨I2, G2, rfl, rfl, h2⟩ := li_c h rfl hq
  refine T_aload_n (pc := 1158) dL_law_1158 rfl ?_
  refine T_scr (pc := 1159) (a := 7 * j) (k := 1) hn dL_law_1159 dL_law_1160 dL_law_1162 dL_law_1163 dL_law_1164 rfl rfl (by omega) ?_
  refine T_scr (pc := 1165) (a := 7 * j) (k := 2) hn dL_law_1165 dL_law_1166 dL_law_1168 dL_law_1169 dL_law_1170 rfl rfl (by omega) ?_
  refine T_scr (pc := 1171) (a := 7 * j) (k := 3) hn dL_law_1171 dL_law_1172 dL_law_1174 dL_law_1175 dL_law_1176 rfl rfl (by omega) ?_
  refine T_callV_M (pc := 1177) (b := 256) (As := [.int (xs (7 * j + 1)), .int (xs (7 * j + 2)), .int (xs (7 * j + 3))]) 10 121 dL_law_1177 lk_X10_takings (ml_RL_121 rfl) im_X10_takings se_X10_takings (by decide) (c10_o h2.2.2.1) (Nat.le_of_ble_eq_true rfl) rfl (takings_m h2.2.2.1 h2.2.1) (fun v I3 hq => ?_)
  obtain ⟨rfl, h3⟩ := li_m h2 hq
  exact T_icmp_eq (pc := 1180) (tgt := 1665) dL_law_1180 (by decide) (fun _ => k _ _ _ h3) (fun z => absurd rfl z)

set_option maxHeartbeats 400000 in
set_option maxRecDepth 100000 in
theorem law_rivals {n : Nat} {xs : Nat → Int32} {kc ks j : Nat} {s : Sta} {I : Im} {G : Gm} (h : LI s I G) (hj : 7 * j + 7 ≤ n) (hn : n ≤ 3584) (k : ∀ s2 I2 G2, LI s2 I2 G2 → wpS (PL n xs) EL 60 kc ks YL_law 1665 (Lh j) [] (I2, G2) QL) : wpS (PL n xs) EL 60 (18 + kc) (539 + ks) YL_law 1185 (Lh j) [] (I, G) QL := by
  refine T_more (kc := kc) (ks := ks) (by omega) (by omega) ?_
  show wpS _ _ _ _ _ _ _ [none, some (.ref 0), some (.ref 256), some (.ref 281), some (.int (nI (7 * j))), none, none] _ _ _
  refine T_aload_n (pc := 1185) dL_law_1185 rfl ?_
  refine T_scr (pc := 1186) (a := 7 * j) (k := 1) hn dL_law_1186 dL_law_1187 dL_law_1189 dL_law_1190 dL_law_1191 rfl rfl (by omega) ?_
  refine T_scr (pc := 1192) (a := 7 * j) (k := 2) hn dL_law_1192 dL_law_1193 dL_law_1195 dL_law_1196 dL_law_1197 rfl rfl (by omega) ?_
  refine T_scr (pc := 1198) (a := 7 * j) (k := 3) hn dL_law_1198 dL_law_1199 dL_law_1201 dL_law_1202 dL_law_1203 rfl rfl (by omega) ?_
  refine T_scr (pc := 1204) (a := 7 * j) (k := 4) hn dL_law_1204 dL_law_1205 dL_law_1207 dL_law_1208 dL_law_1209 rfl rfl (by omega) ?_
  refine T_scr (pc := 1210) (a := 7 * j) (k := 5) hn dL_law_1210 dL_law_1211 dL_law_1213 dL_law_1214 dL_law_1215 rfl rfl (by omega) ?_
  refine T_scr6 (pc := 1216) (a := 7 * j) (k := 6) hn dL_law_1216 dL_law_1217 dL_law_1219 dL_law_1221 dL_law_1222 rfl rfl (by omega) ?_
  refine T_callV_X (pc := 1223) (b := 0) (As := [.int (xs (7 * j + 1)), .int (xs (7 * j + 2)), .int (xs (7 * j + 3)), .int (xs (7 * j + 4)), .int (xs (7 * j + 5)), .int (xs (7 * j + 6))]) 9 122 dL_law_1223 lk_X9_rivals (ml_RL_122 rfl) im_X9_rivals se_X9_rivals (by decide) (c9_o h.1.1.1) (Nat.le_of_ble_eq_true rfl) rfl (rivals_c h.1) (fun v M hq => ?_)
  obtain ⟨I2, G2, rfl, rfl, h2⟩ := li_c h rfl hq
  refine T_aload_n (pc := 1226) dL_law_1226 rfl ?_
  refine T_scr (pc := 1227) (a := 7 * j) (k := 1) hn dL_law_1227 dL_law_1228 dL_law_1230 dL_law_1231 dL_law_1232 rfl rfl (by omega) ?_
  refine T_scr (pc := 1233) (a := 7 * j) (k := 2) hn dL_law_1233 dL_law_1234 dL_law_1236 dL_law_1237 dL_law_1238 rfl rfl (by omega) ?_
  refine T_scr (pc := 1239) (a := 7 * j) (k := 3) hn dL_law_1239 dL_law_1240 dL_law_1242 dL_law_1243 dL_law_1244 rfl rfl (by omega) ?_
  refine T_scr (pc := 1245) (a := 7 * j) (k := 4) hn dL_law_1245 dL_law_1246 dL_law_1248 dL_law_1249 dL_law_1250 rfl rfl (by omega) ?_
  refine T_scr (pc := 1251) (a := 7 * j) (k := 5) hn dL_law_1251 dL_law_1252 dL_law_1254 dL_law_1255 dL_law_1256 rfl rfl (by omega) ?_
  refine T_scr6 (pc := 1257) (a := 7 * j) (k := 6) hn dL_law_1257 dL_law_1258 dL_law_1260 dL_law_1262 dL_law_1263 rfl rfl (by omega) ?_
  refine T_callV_M (pc := 1264) (b := 256) (As := [.int (xs (7 * j + 1)), .int (xs (7 * j + 2)), .int (xs (7 * j + 3)), .int (xs (7 * j + 4)), .int (xs (7 * j + 5)), .int (xs (7 * j + 6))]) 10 126 dL_law_1264 lk_X10_rivals (ml_RL_126 rfl) im_X10_rivals se_X10_rivals (by decide) (c10_o h2.2.2.1) (Nat.le_of_ble_eq_true rfl) rfl (rivals_m h2.2.2.1 h2.2.1) (fun v I3 hq => ?_)
  obtain ⟨rfl, h3⟩ := li_m h2 hq
  exact T_icmp_eq (pc := 1267) (tgt := 1665) dL_law_1267 (by decide) (fun _ => k _ _ _ h3) (fun z => absurd rfl z)

set_option maxHeartbeats 400000 in
set_option maxRecDepth 100000 in
theorem law_makers {n : Nat} {xs : Nat → Int32} {kc ks j : Nat} {s : Sta} {I : Im} {G : Gm} (h : LI s I G) (hj : 7 * j + 7 ≤ n) (hn : n ≤ 3584) (k : ∀ s2 I2 G2, LI s2 I2 G2 → wpS (PL n xs) EL 60 kc ks YL_law 1665 (Lh j) [] (I2, G2) QL) : wpS (PL n xs) EL 60 (18 + kc) (539 + ks) YL_law 1272 (Lh j) [] (I, G) QL := by
  refine T_more (kc := kc) (ks := ks) (by omega) (by omega) ?_
  show wpS _ _ _ _ _ _ _ [none, some (.ref 0), some (.ref 256), some (.ref 281), some (.int (nI (7 * j))), none, none] _ _ _
  refine T_aload_n (pc := 1272) dL_law_1272 rfl ?_
  refine T_scr (pc := 1273) (a := 7 * j) (k := 1) hn dL_law_1273 dL_law_1274 dL_law_1276 dL_law_1277 dL_law_1278 rfl rfl (by omega) ?_
  refine T_scr (pc := 1279) (a := 7 * j) (k := 2) hn dL_law_1279 dL_law_1280 dL_law_1282 dL_law_1283 dL_law_1284 rfl rfl (by omega) ?_
  refine T_scr (pc := 1285) (a := 7 * j) (k := 3) hn dL_law_1285 dL_law_1286 dL_law_1288 dL_law_1289 dL_law_1290 rfl rfl (by omega) ?_
  refine T_scr (pc := 1291) (a := 7 * j) (k := 4) hn dL_law_1291 dL_law_1292 dL_law_1294 dL_law_1295 dL_law_1296 rfl rfl (by omega) ?_
  refine T_scr (pc := 1297) (a := 7 * j) (k := 5) hn dL_law_1297 dL_law_1298 dL_law_1300 dL_law_1301 dL_law_1302 rfl rfl (by omega) ?_
  refine T_callV_X (pc := 1303) (b := 0) (As := [.int (xs (7 * j + 1)), .int (xs (7 * j + 2)), .int (xs (7 * j + 3)), .int (xs (7 * j + 4)), .int (xs (7 * j + 5))]) 9 127 dL_law_1303 lk_X9_makers (ml_RL_127 rfl) im_X9_makers se_X9_makers (by decide) (c9_o h.1.1.1) (Nat.le_of_ble_eq_true rfl) rfl (makers_c h.1) (fun v M hq => ?_)
  obtain ⟨I2, G2, rfl, rfl, h2⟩ := li_c h rfl hq
  refine T_aload_n (pc := 1306) dL_law_1306 rfl ?_
  refine T_scr (pc := 1307) (a := 7 * j) (k := 1) hn dL_law_1307 dL_law_1308 dL_law_1310 dL_law_1311 dL_law_1312 rfl rfl (by omega) ?_
  refine T_scr (pc := 1313) (a := 7 * j) (k := 2) hn dL_law_1313 dL_law_1314 dL_law_1316 dL_law_1317 dL_law_1318 rfl rfl (by omega) ?_
  refine T_scr (pc := 1319) (a := 7 * j) (k := 3) hn dL_law_1319 dL_law_1320 dL_law_1322 dL_law_1323 dL_law_1324 rfl rfl (by omega) ?_
  refine T_scr (pc := 1325) (a := 7 * j) (k := 4) hn dL_law_1325 dL_law_1326 dL_law_1328 dL_law_1329 dL_law_1330 rfl rfl (by omega) ?_
  refine T_scr (pc := 1331) (a := 7 * j) (k := 5) hn dL_law_1331 dL_law_1332 dL_law_1334 dL_law_1335 dL_law_1336 rfl rfl (by omega) ?_
  refine T_callV_M (pc := 1337) (b := 256) (As := [.int (xs (7 * j + 1)), .int (xs (7 * j + 2)), .int (xs (7 * j + 3)), .int (xs (7 * j + 4)), .int (xs (7 * j + 5))]) 10 130 dL_law_1337 lk_X10_makers (ml_RL_130 rfl) im_X10_makers se_X10_makers (by decide) (c10_o h2.2.2.1) (Nat.le_of_ble_eq_true rfl) rfl (makers_m h2.2.2.1 h2.2.1) (fun v I3 hq => ?_)
  obtain ⟨rfl, h3⟩ := li_m h2 hq
  exact T_icmp_eq (pc := 1340) (tgt := 1665) dL_law_1340 (by decide) (fun _ => k _ _ _ h3) (fun z => absurd rfl z)

set_option maxHeartbeats 400000 in
set_option maxRecDepth 100000 in
theorem law_chance {n : Nat} {xs : Nat → Int32} {kc ks j : Nat} {s : Sta} {I : Im} {G : Gm} (h : LI s I G) (hj : 7 * j + 7 ≤ n) (hn : n ≤ 3584) (k : ∀ s2 I2 G2, LI s2 I2 G2 → wpS (PL n xs) EL 60 kc ks YL_law 1665 (Lh j) [] (I2, G2) QL) : wpS (PL n xs) EL 60 (18 + kc) (539 + ks) YL_law 1345 (Lh j) [] (I, G) QL := by
  refine T_more (kc := kc) (ks := ks) (by omega) (by omega) ?_
  show wpS _ _ _ _ _ _ _ [none, some (.ref 0), some (.ref 256), some (.ref 281), some (.int (nI (7 * j))), none, none] _ _ _
  refine T_aload_n (pc := 1345) dL_law_1345 rfl ?_
  refine T_scr (pc := 1346) (a := 7 * j) (k := 1) hn dL_law_1346 dL_law_1347 dL_law_1349 dL_law_1350 dL_law_1351 rfl rfl (by omega) ?_
  refine T_scr (pc := 1352) (a := 7 * j) (k := 2) hn dL_law_1352 dL_law_1353 dL_law_1355 dL_law_1356 dL_law_1357 rfl rfl (by omega) ?_
  refine T_callV_X (pc := 1358) (b := 0) (As := [.int (xs (7 * j + 1)), .int (xs (7 * j + 2))]) 9 131 dL_law_1358 lk_X9_chance (ml_RL_131 rfl) im_X9_chance se_X9_chance (by decide) (c9_o h.1.1.1) (Nat.le_of_ble_eq_true rfl) rfl (chance_c h.1) (fun v M hq => ?_)
  obtain ⟨I2, G2, rfl, rfl, h2⟩ := li_c h sn_chance hq
  refine T_aload_n (pc := 1361) dL_law_1361 rfl ?_
  refine T_scr (pc := 1362) (a := 7 * j) (k := 1) hn dL_law_1362 dL_law_1363 dL_law_1365 dL_law_1366 dL_law_1367 rfl rfl (by omega) ?_
  refine T_scr (pc := 1368) (a := 7 * j) (k := 2) hn dL_law_1368 dL_law_1369 dL_law_1371 dL_law_1372 dL_law_1373 rfl rfl (by omega) ?_
  refine T_callV_M (pc := 1374) (b := 256) (As := [.int (xs (7 * j + 1)), .int (xs (7 * j + 2))]) 10 134 dL_law_1374 lk_X10_chance (ml_RL_134 rfl) im_X10_chance se_X10_chance (by decide) (c10_o h2.2.2.1) (Nat.le_of_ble_eq_true rfl) rfl (chance_m h2.2.2.1 h2.2.1) (fun v I3 hq => ?_)
  obtain ⟨rfl, h3⟩ := li_m h2 hq
  exact T_icmp_eq (pc := 1377) (tgt := 1665) dL_law_1377 (by decide) (fun _ => k _ _ _ h3) (fun z => absurd rfl z)

set_option maxHeartbeats 400000 in
set_option maxRecDepth 100000 in
theorem law_clear {n : Nat} {xs : Nat → Int32} {kc ks j : Nat} {s : Sta} {I : Im} {G : Gm} (h : LI s I G) (hj : 7 * j + 7 ≤ n) (hn : n ≤ 3584) (k : ∀ s2 I2 G2, LI s2 I2 G2 → wpS (PL n xs) EL 60 kc ks YL_law 1665 (Lh j) [] (I2, G2) QL) : wpS (PL n xs) EL 60 (18 + kc) (539 + ks) YL_law 1382 (Lh j) [] (I, G) QL := by
  refine T_more (kc := kc) (ks := ks) (by omega) (by omega) ?_
  show wpS _ _ _ _ _ _ _ [none, some (.ref 0), some (.ref 256), some (.ref 281), some (.int (nI (7 * j))), none, none] _ _ _
  refine T_aload_n (pc := 1382) dL_law_1382 rfl ?_
  refine T_callV_X (pc := 1383) (b := 0) (As := []) 9 135 dL_law_1383 lk_X9_clear (ml_RL_135 rfl) im_X9_clear se_X9_clear (by decide) (c9_o h.1.1.1) (Nat.le_of_ble_eq_true rfl) rfl (clear_c h.1) (fun v M hq => ?_)
  obtain ⟨I2, G2, rfl, rfl, h2⟩ := li_c h sn_clear hq
  refine T_aload_n (pc := 1386) dL_law_1386 rfl ?_
  refine T_callV_M (pc := 1387) (b := 256) (As := []) 10 138 dL_law_1387 lk_X10_clear (ml_RL_138 rfl) im_X10_clear se_X10_clear (by decide) (c10_o h2.2.2.1) (Nat.le_of_ble_eq_true rfl) rfl (clear_m h2.2.2.1 h2.2.1) (fun v I3 hq => ?_)
  obtain ⟨rfl, h3⟩ := li_m h2 hq
  exact T_icmp_eq (pc := 1390) (tgt := 1665) dL_law_1390 (by decide) (fun _ => k _ _ _ h3) (fun z => absurd rfl z)

set_option maxHeartbeats 400000 in
set_option maxRecDepth 100000 in
theorem law_expects {n : Nat} {xs : Nat → Int32} {kc ks j : Nat} {s : Sta} {I : Im} {G : Gm} (h : LI s I G) (hj : 7 * j + 7 ≤ n) (hn : n ≤ 3584) (k : ∀ s2 I2 G2, LI s2 I2 G2 → wpS (PL n xs) EL 60 kc ks YL_law 1665 (Lh j) [] (I2, G2) QL) : wpS (PL n xs) EL 60 (18 + kc) (539 + ks) YL_law 1395 (Lh j) [] (I, G) QL := by
  refine T_more (kc := kc) (ks := ks) (by omega) (by omega) ?_
  show wpS _ _ _ _ _ _ _ [none, some (.ref 0), some (.ref 256), some (.ref 281), some (.int (nI (7 * j))), none, none] _ _ _
  refine T_aload_n (pc := 1395) dL_law_1395 rfl ?_
  refine T_scr (pc := 1396) (a := 7 * j) (k := 1) hn dL_law_1396 dL_law_1397 dL_law_1399 dL_law_1400 dL_law_1401 rfl rfl (by omega) ?_
  refine T_scr (pc := 1402) (a := 7 * j) (k := 2) hn dL_law_1402 dL_law_1403 dL_law_1405 dL_law_1406 dL_law_1407 rfl rfl (by omega) ?_
  refine T_scr (pc := 1408) (a := 7 * j) (k := 3) hn dL_law_1408 dL_law_1409 dL_law_1411 dL_law_1412 dL_law_1413 rfl rfl (by omega) ?_
  refine T_scr (pc := 1414) (a := 7 * j) (k := 4) hn dL_law_1414 dL_law_1415 dL_law_1417 dL_law_1418 dL_law_1419 rfl rfl (by omega) ?_
  refine T_callV_X (pc := 1420) (b := 0) (As := [.int (xs (7 * j + 1)), .int (xs (7 * j + 2)), .int (xs (7 * j + 3)), .int (xs (7 * j + 4))]) 9 139 dL_law_1420 lk_X9_expects (ml_RL_139 rfl) im_X9_expects se_X9_expects (by decide) (c9_o h.1.1.1) (Nat.le_of_ble_eq_true rfl) rfl (expects_c h.1) (fun v M hq => ?_)
  obtain ⟨I2, G2, rfl, rfl, h2⟩ := li_c h rfl hq
  refine T_aload_n (pc := 1423) dL_law_1423 rfl ?_
  refine T_scr (pc := 1424) (a := 7 * j) (k := 1) hn dL_law_1424 dL_law_1425 dL_law_1427 dL_law_1428 dL_law_1429 rfl rfl (by omega) ?_
  refine T_scr (pc := 1430) (a := 7 * j) (k := 2) hn dL_law_1430 dL_law_1431 dL_law_1433 dL_law_1434 dL_law_1435 rfl rfl (by omega) ?_
  refine T_scr (pc := 1436) (a := 7 * j) (k := 3) hn dL_law_1436 dL_law_1437 dL_law_1439 dL_law_1440 dL_law_1441 rfl rfl (by omega) ?_
  refine T_scr (pc := 1442) (a := 7 * j) (k := 4) hn dL_law_1442 dL_law_1443 dL_law_1445 dL_law_1446 dL_law_1447 rfl rfl (by omega) ?_
  refine T_callV_M (pc := 1448) (b := 256) (As := [.int (xs (7 * j + 1)), .int (xs (7 * j + 2)), .int (xs (7 * j + 3)), .int (xs (7 * j + 4))]) 10 142 dL_law_1448 lk_X10_expects (ml_RL_142 rfl) im_X10_expects se_X10_expects (by decide) (c10_o h2.2.2.1) (Nat.le_of_ble_eq_true rfl) rfl (expects_m h2.2.2.1 h2.2.1) (fun v I3 hq => ?_)
  obtain ⟨rfl, h3⟩ := li_m h2 hq
  exact T_icmp_eq (pc := 1451) (tgt := 1665) dL_law_1451 (by decide) (fun _ => k _ _ _ h3) (fun z => absurd rfl z)

set_option maxHeartbeats 400000 in
set_option maxRecDepth 100000 in
theorem law_stock {n : Nat} {xs : Nat → Int32} {kc ks j : Nat} {s : Sta} {I : Im} {G : Gm} (h : LI s I G) (hj : 7 * j + 7 ≤ n) (hn : n ≤ 3584) (k : ∀ s2 I2 G2, LI s2 I2 G2 → wpS (PL n xs) EL 60 kc ks YL_law 1665 (Lh j) [] (I2, G2) QL) : wpS (PL n xs) EL 60 (18 + kc) (539 + ks) YL_law 1456 (Lh j) [] (I, G) QL := by
  refine T_more (kc := kc) (ks := ks) (by omega) (by omega) ?_
  show wpS _ _ _ _ _ _ _ [none, some (.ref 0), some (.ref 256), some (.ref 281), some (.int (nI (7 * j))), none, none] _ _ _
  refine T_aload_n (pc := 1456) dL_law_1456 rfl ?_
  refine T_scr (pc := 1457) (a := 7 * j) (k := 1) hn dL_law_1457 dL_law_1458 dL_law_1460 dL_law_1461 dL_law_1462 rfl rfl (by omega) ?_
  refine T_scr (pc := 1463) (a := 7 * j) (k := 2) hn dL_law_1463 dL_law_1464 dL_law_1466 dL_law_1467 dL_law_1468 rfl rfl (by omega) ?_
  refine T_scr (pc := 1469) (a := 7 * j) (k := 3) hn dL_law_1469 dL_law_1470 dL_law_1472 dL_law_1473 dL_law_1474 rfl rfl (by omega) ?_
  refine T_callV_X (pc := 1475) (b := 0) (As := [.int (xs (7 * j + 1)), .int (xs (7 * j + 2)), .int (xs (7 * j + 3))]) 9 143 dL_law_1475 lk_X9_stock (ml_RL_143 rfl) im_X9_stock se_X9_stock (by decide) (c9_o h.1.1.1) (Nat.le_of_ble_eq_true rfl) rfl (stock_c h.1) (fun v M hq => ?_)
  obtain ⟨I2, G2, rfl, rfl, h2⟩ := li_c h rfl hq
  refine T_aload_n (pc := 1478) dL_law_1478 rfl ?_
  refine T_scr (pc := 1479) (a := 7 * j) (k := 1) hn dL_law_1479 dL_law_1480 dL_law_1482 dL_law_1483 dL_law_1484 rfl rfl (by omega) ?_
  refine T_scr (pc := 1485) (a := 7 * j) (k := 2) hn dL_law_1485 dL_law_1486 dL_law_1488 dL_law_1489 dL_law_1490 rfl rfl (by omega) ?_
  refine T_scr (pc := 1491) (a := 7 * j) (k := 3) hn dL_law_1491 dL_law_1492 dL_law_1494 dL_law_1495 dL_law_1496 rfl rfl (by omega) ?_
  refine T_callV_M (pc := 1497) (b := 256) (As := [.int (xs (7 * j + 1)), .int (xs (7 * j + 2)), .int (xs (7 * j + 3))]) 10 146 dL_law_1497 lk_X10_stock (ml_RL_146 rfl) im_X10_stock se_X10_stock (by decide) (c10_o h2.2.2.1) (Nat.le_of_ble_eq_true rfl) rfl (stock_m h2.2.2.1 h2.2.1) (fun v I3 hq => ?_)
  obtain ⟨rfl, h3⟩ := li_m h2 hq
  exact T_icmp_eq (pc := 1500) (tgt := 1665) dL_law_1500 (by decide) (fun _ => k _ _ _ h3) (fun z => absurd rfl z)

set_option maxHeartbeats 400000 in
set_option maxRecDepth 100000 in
theorem law_seller {n : Nat} {xs : Nat → Int32} {kc ks j : Nat} {s : Sta} {I : Im} {G : Gm} (h : LI s I G) (hj : 7 * j + 7 ≤ n) (hn : n ≤ 3584) (k : ∀ s2 I2 G2, LI s2 I2 G2 → wpS (PL n xs) EL 60 kc ks YL_law 1665 (Lh j) [] (I2, G2) QL) : wpS (PL n xs) EL 60 (18 + kc) (539 + ks) YL_law 1505 (Lh j) [] (I, G) QL := by
  refine T_more (kc := kc) (ks := ks) (by omega) (by omega) ?_
  show wpS _ _ _ _ _ _ _ [none, some (.ref 0), some (.ref 256), some (.ref 281), some (.int (nI (7 * j))), none, none] _ _ _
  refine T_aload_n (pc := 1505) dL_law_1505 rfl ?_
  refine T_scr (pc := 1506) (a := 7 * j) (k := 1) hn dL_law_1506 dL_law_1507 dL_law_1509 dL_law_1510 dL_law_1511 rfl rfl (by omega) ?_
  refine T_scr (pc := 1512) (a := 7 * j) (k := 2) hn dL_law_1512 dL_law_1513 dL_law_1515 dL_law_1516 dL_law_1517 rfl rfl (by omega) ?_
  refine T_scr (pc := 1518) (a := 7 * j) (k := 3) hn dL_law_1518 dL_law_1519 dL_law_1521 dL_law_1522 dL_law_1523 rfl rfl (by omega) ?_
  refine T_scr (pc := 1524) (a := 7 * j) (k := 4) hn dL_law_1524 dL_law_1525 dL_law_1527 dL_law_1528 dL_law_1529 rfl rfl (by omega) ?_
  refine T_callV_X (pc := 1530) (b := 0) (As := [.int (xs (7 * j + 1)), .int (xs (7 * j + 2)), .int (xs (7 * j + 3)), .int (xs (7 * j + 4))]) 9 147 dL_law_1530 lk_X9_seller (ml_RL_147 rfl) im_X9_seller se_X9_seller (by decide) (c9_o h.1.1.1) (Nat.le_of_ble_eq_true rfl) rfl (seller_c h.1) (fun v M hq => ?_)
  obtain ⟨I2, G2, rfl, rfl, h2⟩ := li_c h rfl hq
  refine T_aload_n (pc := 1533) dL_law_1533 rfl ?_
  refine T_scr (pc := 1534) (a := 7 * j) (k := 1) hn dL_law_1534 dL_law_1535 dL_law_1537 dL_law_1538 dL_law_1539 rfl rfl (by omega) ?_
  refine T_scr (pc := 1540) (a := 7 * j) (k := 2) hn dL_law_1540 dL_law_1541 dL_law_1543 dL_law_1544 dL_law_1545 rfl rfl (by omega) ?_
  refine T_scr (pc := 1546) (a := 7 * j) (k := 3) hn dL_law_1546 dL_law_1547 dL_law_1549 dL_law_1550 dL_law_1551 rfl rfl (by omega) ?_
  refine T_scr (pc := 1552) (a := 7 * j) (k := 4) hn dL_law_1552 dL_law_1553 dL_law_1555 dL_law_1556 dL_law_1557 rfl rfl (by omega) ?_
  refine T_callV_M (pc := 1558) (b := 256) (As := [.int (xs (7 * j + 1)), .int (xs (7 * j + 2)), .int (xs (7 * j + 3)), .int (xs (7 * j + 4))]) 10 150 dL_law_1558 lk_X10_seller (ml_RL_150 rfl) im_X10_seller se_X10_seller (by decide) (c10_o h2.2.2.1) (Nat.le_of_ble_eq_true rfl) rfl (seller_m h2.2.2.1 h2.2.1) (fun v I3 hq => ?_)
  obtain ⟨rfl, h3⟩ := li_m h2 hq
  exact T_icmp_eq (pc := 1561) (tgt := 1665) dL_law_1561 (by decide) (fun _ => k _ _ _ h3) (fun z => absurd rfl z)

set_option maxHeartbeats 400000 in
set_option maxRecDepth 100000 in
theorem law_rather {n : Nat} {xs : Nat → Int32} {kc ks j : Nat} {s : Sta} {I : Im} {G : Gm} (h : LI s I G) (hj : 7 * j + 7 ≤ n) (hn : n ≤ 3584) (k : ∀ s2 I2 G2, LI s2 I2 G2 → wpS (PL n xs) EL 60 kc ks YL_law 1665 (Lh j) [] (I2, G2) QL) : wpS (PL n xs) EL 60 (18 + kc) (539 + ks) YL_law 1566 (Lh j) [] (I, G) QL := by
  refine T_more (kc := kc) (ks := ks) (by omega) (by omega) ?_
  show wpS _ _ _ _ _ _ _ [none, some (.ref 0), some (.ref 256), some (.ref 281), some (.int (nI (7 * j))), none, none] _ _ _
  refine T_aload_n (pc := 1566) dL_law_1566 rfl ?_
  refine T_scr (pc := 1567) (a := 7 * j) (k := 1) hn dL_law_1567 dL_law_1568 dL_law_1570 dL_law_1571 dL_law_1572 rfl rfl (by omega) ?_
  refine T_scr (pc := 1573) (a := 7 * j) (k := 2) hn dL_law_1573 dL_law_1574 dL_law_1576 dL_law_1577 dL_law_1578 rfl rfl (by omega) ?_
  refine T_callV_X (pc := 1579) (b := 0) (As := [.int (xs (7 * j + 1)), .int (xs (7 * j + 2))]) 9 151 dL_law_1579 lk_X9_rather (ml_RL_151 rfl) im_X9_rather se_X9_rather (by decide) (c9_o h.1.1.1) (Nat.le_of_ble_eq_true rfl) rfl (rather_c h.1) (fun v M hq => ?_)
  obtain ⟨I2, G2, rfl, rfl, h2⟩ := li_c h rfl hq
  refine T_aload_n (pc := 1582) dL_law_1582 rfl ?_
  refine T_scr (pc := 1583) (a := 7 * j) (k := 1) hn dL_law_1583 dL_law_1584 dL_law_1586 dL_law_1587 dL_law_1588 rfl rfl (by omega) ?_
  refine T_scr (pc := 1589) (a := 7 * j) (k := 2) hn dL_law_1589 dL_law_1590 dL_law_1592 dL_law_1593 dL_law_1594 rfl rfl (by omega) ?_
  refine T_callV_M (pc := 1595) (b := 256) (As := [.int (xs (7 * j + 1)), .int (xs (7 * j + 2))]) 10 154 dL_law_1595 lk_X10_rather (ml_RL_154 rfl) im_X10_rather se_X10_rather (by decide) (c10_o h2.2.2.1) (Nat.le_of_ble_eq_true rfl) rfl (rather_m h2.2.2.1 h2.2.1) (fun v I3 hq => ?_)
  obtain ⟨rfl, h3⟩ := li_m h2 hq
  exact T_icmp_eq (pc := 1598) (tgt := 1665) dL_law_1598 (by decide) (fun _ => k _ _ _ h3) (fun z => absurd rfl z)

set_option maxHeartbeats 400000 in
set_option maxRecDepth 100000 in
theorem law_rests {n : Nat} {xs : Nat → Int32} {kc ks j : Nat} {s : Sta} {I : Im} {G : Gm} (h : LI s I G) (hj : 7 * j + 7 ≤ n) (hn : n ≤ 3584) (k : ∀ s2 I2 G2, LI s2 I2 G2 → wpS (PL n xs) EL 60 kc ks YL_law 1665 (Lh j) [] (I2, G2) QL) : wpS (PL n xs) EL 60 (18 + kc) (539 + ks) YL_law 1603 (Lh j) [] (I, G) QL := by
  refine T_more (kc := kc) (ks := ks) (by omega) (by omega) ?_
  show wpS _ _ _ _ _ _ _ [none, some (.ref 0), some (.ref 256), some (.ref 281), some (.int (nI (7 * j))), none, none] _ _ _
  refine T_aload_n (pc := 1603) dL_law_1603 rfl ?_
  refine T_scr (pc := 1604) (a := 7 * j) (k := 1) hn dL_law_1604 dL_law_1605 dL_law_1607 dL_law_1608 dL_law_1609 rfl rfl (by omega) ?_
  refine T_scr (pc := 1610) (a := 7 * j) (k := 2) hn dL_law_1610 dL_law_1611 dL_law_1613 dL_law_1614 dL_law_1615 rfl rfl (by omega) ?_
  refine T_callV_X (pc := 1616) (b := 0) (As := [.int (xs (7 * j + 1)), .int (xs (7 * j + 2))]) 9 155 dL_law_1616 lk_X9_rests (ml_RL_155 rfl) im_X9_rests se_X9_rests (by decide) (c9_o h.1.1.1) (Nat.le_of_ble_eq_true rfl) rfl (rests_c h.1) (fun v M hq => ?_)
  obtain ⟨I2, G2, rfl, rfl, h2⟩ := li_c h rfl hq
  refine T_aload_n (pc := 1619) dL_law_1619 rfl ?_
  refine T_scr (pc := 1620) (a := 7 * j) (k := 1) hn dL_law_1620 dL_law_1621 dL_law_1623 dL_law_1624 dL_law_1625 rfl rfl (by omega) ?_
  refine T_scr (pc := 1626) (a := 7 * j) (k := 2) hn dL_law_1626 dL_law_1627 dL_law_1629 dL_law_1630 dL_law_1631 rfl rfl (by omega) ?_
  refine T_callV_M (pc := 1632) (b := 256) (As := [.int (xs (7 * j + 1)), .int (xs (7 * j + 2))]) 10 158 dL_law_1632 lk_X10_rests (ml_RL_158 rfl) im_X10_rests se_X10_rests (by decide) (c10_o h2.2.2.1) (Nat.le_of_ble_eq_true rfl) rfl (rests_m h2.2.2.1 h2.2.1) (fun v I3 hq => ?_)
  obtain ⟨rfl, h3⟩ := li_m h2 hq
  exact T_icmp_eq (pc := 1635) (tgt := 1665) dL_law_1635 (by decide) (fun _ => k _ _ _ h3) (fun z => absurd rfl z)

set_option maxHeartbeats 400000 in
set_option maxRecDepth 100000 in
theorem law_count {n : Nat} {xs : Nat → Int32} {kc ks j : Nat} {s : Sta} {I : Im} {G : Gm} (h : LI s I G) (hj : 7 * j + 7 ≤ n) (hn : n ≤ 3584) (k : ∀ s2 I2 G2, LI s2 I2 G2 → wpS (PL n xs) EL 60 kc ks YL_law 1665 (Lh j) [] (I2, G2) QL) : wpS (PL n xs) EL 60 (18 + kc) (539 + ks) YL_law 1640 (Lh j) [] (I, G) QL := by
  refine T_more (kc := kc) (ks := ks) (by omega) (by omega) ?_
  show wpS _ _ _ _ _ _ _ [none, some (.ref 0), some (.ref 256), some (.ref 281), some (.int (nI (7 * j))), none, none] _ _ _
  refine T_aload_n (pc := 1640) dL_law_1640 rfl ?_
  refine T_scr (pc := 1641) (a := 7 * j) (k := 1) hn dL_law_1641 dL_law_1642 dL_law_1644 dL_law_1645 dL_law_1646 rfl rfl (by omega) ?_
  refine T_callV_X (pc := 1647) (b := 0) (As := [.int (xs (7 * j + 1))]) 9 159 dL_law_1647 lk_X9_count (ml_RL_159 rfl) im_X9_count se_X9_count (by decide) (c9_o h.1.1.1) (Nat.le_of_ble_eq_true rfl) rfl (count_c h.1) (fun v M hq => ?_)
  obtain ⟨I2, G2, rfl, rfl, h2⟩ := li_c h rfl hq
  refine T_aload_n (pc := 1650) dL_law_1650 rfl ?_
  refine T_scr (pc := 1651) (a := 7 * j) (k := 1) hn dL_law_1651 dL_law_1652 dL_law_1654 dL_law_1655 dL_law_1656 rfl rfl (by omega) ?_
  refine T_callV_M (pc := 1657) (b := 256) (As := [.int (xs (7 * j + 1))]) 10 162 dL_law_1657 lk_X10_count (ml_RL_162 rfl) im_X10_count se_X10_count (by decide) (c10_o h2.2.2.1) (Nat.le_of_ble_eq_true rfl) rfl (count_m h2.2.2.1 h2.2.1) (fun v I3 hq => ?_)
  obtain ⟨rfl, h3⟩ := li_m h2 hq
  exact T_icmp_eq (pc := 1660) (tgt := 1665) dL_law_1660 (by decide) (fun _ => k _ _ _ h3) (fun z => absurd rfl z)
