/-! the law's cases, second half -/
set_option maxRecDepth 100000 in
set_option maxHeartbeats 800000 in
theorem LC_lost {sb L : Nat} {xs : Nat → Int32} {K : Cx} {mc ms k n : Nat} (F : Fx K RL cL_law 8 10 mc ms) (S : ScrX sb L xs K) (hL : L ≤ 3072) (hk : k ≤ mc) (hn : n ≤ ms) {i : Nat} (hi : i + 5 < L) {r ii : Nat → Int32} {hg : Int32} {T : TX} {hp hq : Hp} {o : Nat → Int64} (hG : GI r ii hg T) (hc : CWd r ii hg T hp) (hr : RWd r ii hg T hq)
    (kk : ∀ (r ii : Nat → Int32) (hg : Int32) (T : TX) (hp hq : Hp) (o : Nat → Int64), GI r ii hg T → CWd r ii hg T hp → RWd r ii hg T hq → GL sb K k n 1772 (LL i) [] (LW hp hq o)) : GL sb K k n 913 (LL i) [] (LW hp hq o) := by
  obtain ⟨A, r2, i2, hi2, T2, hG2, C1, C2⟩ := J_lost hG hc hr (xs (i + 1))
  obtain ⟨fs, e1⟩ := hc.obj
  obtain ⟨fq, e2⟩ := hr.obj
  refine gl_aload_n (pc := 913) F dL_law_913 rfl ?_
  refine gl_sk (pc := 914) F S hL (j := 1) (by omega) dL_law_914 dL_law_915 dL_law_917 rfl dL_law_918 dL_law_919 rfl ?_
  refine gl_p_callV (pc := 920) F C1 mi_X4_lost kv_L_109 e1 rfl dL_law_920 (by decide) (by decide) rfl (Nat.le_of_ble_eq_true rfl) hk hn ?_
  rintro _ hp2 ⟨rfl, hc2⟩ hlen
  show GL sb K k n 923 (LL i) [.int (A)] (LW hp2 hq o)
  refine gl_aload_n (pc := 923) F dL_law_923 rfl ?_
  refine gl_sk (pc := 924) F S hL (j := 1) (by omega) dL_law_924 dL_law_925 dL_law_927 rfl dL_law_928 dL_law_929 rfl ?_
  refine gl_callV (pc := 930) F C2 mi_X5_lost kv_L_112 dL_law_930 e2 rfl (List.range' 44 12) [.int (A)] (by decide) (by decide) (Sub_mid hc2.len hr.len hr.cl) (rg_nd 44 12) rfl (Nat.le_of_ble_eq_true rfl) hk hn ?_
  rintro _ hq2 ⟨rfl, hr2⟩ hlenq
  rw [show place (LW hp2 hq o) (List.range' 44 12) hq2 = LW hp2 hq2 o from place_mid hc2.len hr.len hlenq hr2.cl]
  show GL sb K k n 933 (LL i) [.int (A), .int (A)] (LW hp2 hq2 o)
  refine gl_ic_eq (pc := 933) F dL_law_933 (tgt := 1772) rfl (fun _ => ?_) (fun z => absurd rfl z)
  exact kk _ _ _ _ _ _ _ hG2 hc2 hr2

set_option maxRecDepth 100000 in
set_option maxHeartbeats 800000 in
theorem LC_heap {sb L : Nat} {xs : Nat → Int32} {K : Cx} {mc ms k n : Nat} (F : Fx K RL cL_law 8 10 mc ms) (S : ScrX sb L xs K) (hL : L ≤ 3072) (hk : k ≤ mc) (hn : n ≤ ms) {i : Nat} (hi : i + 5 < L) {r ii : Nat → Int32} {hg : Int32} {T : TX} {hp hq : Hp} {o : Nat → Int64} (hG : GI r ii hg T) (hc : CWd r ii hg T hp) (hr : RWd r ii hg T hq)
    (kk : ∀ (r ii : Nat → Int32) (hg : Int32) (T : TX) (hp hq : Hp) (o : Nat → Int64), GI r ii hg T → CWd r ii hg T hp → RWd r ii hg T hq → GL sb K k n 1772 (LL i) [] (LW hp hq o)) : GL sb K k n 938 (LL i) [] (LW hp hq o) := by
  obtain ⟨A, r2, i2, hi2, T2, hG2, C1, C2⟩ := J_heap hG hc hr (xs (i + 1)) (xs (i + 2))
  obtain ⟨fs, e1⟩ := hc.obj
  obtain ⟨fq, e2⟩ := hr.obj
  refine gl_aload_n (pc := 938) F dL_law_938 rfl ?_
  refine gl_sk (pc := 939) F S hL (j := 1) (by omega) dL_law_939 dL_law_940 dL_law_942 rfl dL_law_943 dL_law_944 rfl ?_
  refine gl_sk (pc := 945) F S hL (j := 2) (by omega) dL_law_945 dL_law_946 dL_law_948 rfl dL_law_949 dL_law_950 rfl ?_
  refine gl_p_callV (pc := 951) F C1 mi_X4_heap kv_L_113 e1 rfl dL_law_951 (by decide) (by decide) rfl (Nat.le_of_ble_eq_true rfl) hk hn ?_
  rintro _ hp2 ⟨rfl, hc2⟩ hlen
  show GL sb K k n 954 (LL i) [.int (A)] (LW hp2 hq o)
  refine gl_aload_n (pc := 954) F dL_law_954 rfl ?_
  refine gl_sk (pc := 955) F S hL (j := 1) (by omega) dL_law_955 dL_law_956 dL_law_958 rfl dL_law_959 dL_law_960 rfl ?_
  refine gl_sk (pc := 961) F S hL (j := 2) (by omega) dL_law_961 dL_law_962 dL_law_964 rfl dL_law_965 dL_law_966 rfl ?_
  refine gl_callV (pc := 967) F C2 mi_X5_heap kv_L_116 dL_law_967 e2 rfl (List.range' 44 12) [.int (A)] (by decide) (by decide) (Sub_mid hc2.len hr.len hr.cl) (rg_nd 44 12) rfl (Nat.le_of_ble_eq_true rfl) hk hn ?_
  rintro _ hq2 ⟨rfl, hr2⟩ hlenq
  rw [show place (LW hp2 hq o) (List.range' 44 12) hq2 = LW hp2 hq2 o from place_mid hc2.len hr.len hlenq hr2.cl]
  show GL sb K k n 970 (LL i) [.int (A), .int (A)] (LW hp2 hq2 o)
  refine gl_ic_eq (pc := 970) F dL_law_970 (tgt := 1772) rfl (fun _ => ?_) (fun z => absurd rfl z)
  exact kk _ _ _ _ _ _ _ hG2 hc2 hr2

set_option maxRecDepth 100000 in
set_option maxHeartbeats 800000 in
theorem LC_begin {sb L : Nat} {xs : Nat → Int32} {K : Cx} {mc ms k n : Nat} (F : Fx K RL cL_law 8 10 mc ms) (S : ScrX sb L xs K) (hL : L ≤ 3072) (hk : k ≤ mc) (hn : n ≤ ms) {i : Nat} (hi : i + 5 < L) {r ii : Nat → Int32} {hg : Int32} {T : TX} {hp hq : Hp} {o : Nat → Int64} (hG : GI r ii hg T) (hc : CWd r ii hg T hp) (hr : RWd r ii hg T hq)
    (kk : ∀ (r ii : Nat → Int32) (hg : Int32) (T : TX) (hp hq : Hp) (o : Nat → Int64), GI r ii hg T → CWd r ii hg T hp → RWd r ii hg T hq → GL sb K k n 1772 (LL i) [] (LW hp hq o)) : GL sb K k n 975 (LL i) [] (LW hp hq o) := by
  obtain ⟨A, r2, i2, hi2, T2, hG2, C1, C2⟩ := J_begin hG hc hr (xs (i + 1)) (xs (i + 2))
  obtain ⟨fs, e1⟩ := hc.obj
  obtain ⟨fq, e2⟩ := hr.obj
  refine gl_aload_n (pc := 975) F dL_law_975 rfl ?_
  refine gl_sk (pc := 976) F S hL (j := 1) (by omega) dL_law_976 dL_law_977 dL_law_979 rfl dL_law_980 dL_law_981 rfl ?_
  refine gl_sk (pc := 982) F S hL (j := 2) (by omega) dL_law_982 dL_law_983 dL_law_985 rfl dL_law_986 dL_law_987 rfl ?_
  refine gl_p_callV (pc := 988) F C1 mi_X4_begin kv_L_117 e1 rfl dL_law_988 (by decide) (by decide) rfl (Nat.le_of_ble_eq_true rfl) hk hn ?_
  rintro _ hp2 ⟨rfl, hc2⟩ hlen
  show GL sb K k n 991 (LL i) [.int (A)] (LW hp2 hq o)
  refine gl_aload_n (pc := 991) F dL_law_991 rfl ?_
  refine gl_sk (pc := 992) F S hL (j := 1) (by omega) dL_law_992 dL_law_993 dL_law_995 rfl dL_law_996 dL_law_997 rfl ?_
  refine gl_sk (pc := 998) F S hL (j := 2) (by omega) dL_law_998 dL_law_999 dL_law_1001 rfl dL_law_1002 dL_law_1003 rfl ?_
  refine gl_callV (pc := 1004) F C2 mi_X5_begin kv_L_120 dL_law_1004 e2 rfl (List.range' 44 12) [.int (A)] (by decide) (by decide) (Sub_mid hc2.len hr.len hr.cl) (rg_nd 44 12) rfl (Nat.le_of_ble_eq_true rfl) hk hn ?_
  rintro _ hq2 ⟨rfl, hr2⟩ hlenq
  rw [show place (LW hp2 hq o) (List.range' 44 12) hq2 = LW hp2 hq2 o from place_mid hc2.len hr.len hlenq hr2.cl]
  show GL sb K k n 1007 (LL i) [.int (A), .int (A)] (LW hp2 hq2 o)
  refine gl_ic_eq (pc := 1007) F dL_law_1007 (tgt := 1772) rfl (fun _ => ?_) (fun z => absurd rfl z)
  exact kk _ _ _ _ _ _ _ hG2 hc2 hr2

set_option maxRecDepth 100000 in
set_option maxHeartbeats 800000 in
theorem LC_pairs {sb L : Nat} {xs : Nat → Int32} {K : Cx} {mc ms k n : Nat} (F : Fx K RL cL_law 8 10 mc ms) (S : ScrX sb L xs K) (hL : L ≤ 3072) (hk : k ≤ mc) (hn : n ≤ ms) {i : Nat} (hi : i + 5 < L) {r ii : Nat → Int32} {hg : Int32} {T : TX} {hp hq : Hp} {o : Nat → Int64} (hG : GI r ii hg T) (hc : CWd r ii hg T hp) (hr : RWd r ii hg T hq)
    (kk : ∀ (r ii : Nat → Int32) (hg : Int32) (T : TX) (hp hq : Hp) (o : Nat → Int64), GI r ii hg T → CWd r ii hg T hp → RWd r ii hg T hq → GL sb K k n 1772 (LL i) [] (LW hp hq o)) : GL sb K k n 1012 (LL i) [] (LW hp hq o) := by
  obtain ⟨i2, hi2, T2, hG2, C1, C2⟩ := J_pairs hG hc hr
  obtain ⟨fs, e1⟩ := hc.obj
  obtain ⟨fq, e2⟩ := hr.obj
  refine gl_aload_n (pc := 1012) F dL_law_1012 rfl ?_
  refine gl_p_callV (pc := 1013) F C1 mi_X4_pairs kv_L_121 e1 rfl dL_law_1013 (by decide) (by decide) rfl (Nat.le_of_ble_eq_true rfl) hk hn ?_
  rintro _ hp2 ⟨qa, rfl, hqa, hc2⟩ hlen
  show GL sb K k n 1016 (LL i) [.int (nI qa)] (LW hp2 hq o)
  refine gl_aload_n (pc := 1016) F dL_law_1016 rfl ?_
  refine gl_callV (pc := 1017) F C2 mi_X5_pairs kv_L_124 dL_law_1017 e2 rfl (List.range' 44 12) [.int (nI qa)] (by decide) (by decide) (Sub_mid hc2.len hr.len hr.cl) (rg_nd 44 12) rfl (Nat.le_of_ble_eq_true rfl) hk hn ?_
  rintro _ hq2 ⟨qb, rfl, hqb, hr2⟩ hlenq
  obtain rfl := IsMx_one hqb hqa
  rw [show place (LW hp2 hq o) (List.range' 44 12) hq2 = LW hp2 hq2 o from place_mid hc2.len hr.len hlenq hr2.cl]
  show GL sb K k n 1020 (LL i) [.int (nI qb), .int (nI qb)] (LW hp2 hq2 o)
  refine gl_ic_eq (pc := 1020) F dL_law_1020 (tgt := 1772) rfl (fun _ => ?_) (fun z => absurd rfl z)
  exact kk _ _ _ _ _ _ _ hG2 hc2 hr2

set_option maxRecDepth 100000 in
set_option maxHeartbeats 800000 in
theorem LC_even {sb L : Nat} {xs : Nat → Int32} {K : Cx} {mc ms k n : Nat} (F : Fx K RL cL_law 8 10 mc ms) (S : ScrX sb L xs K) (hL : L ≤ 3072) (hk : k ≤ mc) (hn : n ≤ ms) {i : Nat} (hi : i + 5 < L) {r ii : Nat → Int32} {hg : Int32} {T : TX} {hp hq : Hp} {o : Nat → Int64} (hG : GI r ii hg T) (hc : CWd r ii hg T hp) (hr : RWd r ii hg T hq)
    (kk : ∀ (r ii : Nat → Int32) (hg : Int32) (T : TX) (hp hq : Hp) (o : Nat → Int64), GI r ii hg T → CWd r ii hg T hp → RWd r ii hg T hq → GL sb K k n 1772 (LL i) [] (LW hp hq o)) : GL sb K k n 1025 (LL i) [] (LW hp hq o) := by
  obtain ⟨A, r2, i2, hi2, T2, hG2, C1, C2⟩ := J_even hG hc hr (xs (i + 1))
  obtain ⟨fs, e1⟩ := hc.obj
  obtain ⟨fq, e2⟩ := hr.obj
  refine gl_aload_n (pc := 1025) F dL_law_1025 rfl ?_
  refine gl_sk (pc := 1026) F S hL (j := 1) (by omega) dL_law_1026 dL_law_1027 dL_law_1029 rfl dL_law_1030 dL_law_1031 rfl ?_
  refine gl_p_callV (pc := 1032) F C1 mi_X4_even kv_L_125 e1 rfl dL_law_1032 (by decide) (by decide) rfl (Nat.le_of_ble_eq_true rfl) hk hn ?_
  rintro _ hp2 ⟨rfl, hc2⟩ hlen
  show GL sb K k n 1035 (LL i) [.int (A)] (LW hp2 hq o)
  refine gl_aload_n (pc := 1035) F dL_law_1035 rfl ?_
  refine gl_sk (pc := 1036) F S hL (j := 1) (by omega) dL_law_1036 dL_law_1037 dL_law_1039 rfl dL_law_1040 dL_law_1041 rfl ?_
  refine gl_callV (pc := 1042) F C2 mi_X5_even kv_L_128 dL_law_1042 e2 rfl (List.range' 44 12) [.int (A)] (by decide) (by decide) (Sub_mid hc2.len hr.len hr.cl) (rg_nd 44 12) rfl (Nat.le_of_ble_eq_true rfl) hk hn ?_
  rintro _ hq2 ⟨rfl, hr2⟩ hlenq
  rw [show place (LW hp2 hq o) (List.range' 44 12) hq2 = LW hp2 hq2 o from place_mid hc2.len hr.len hlenq hr2.cl]
  show GL sb K k n 1045 (LL i) [.int (A), .int (A)] (LW hp2 hq2 o)
  refine gl_ic_eq (pc := 1045) F dL_law_1045 (tgt := 1772) rfl (fun _ => ?_) (fun z => absurd rfl z)
  exact kk _ _ _ _ _ _ _ hG2 hc2 hr2

set_option maxRecDepth 100000 in
set_option maxHeartbeats 800000 in
theorem LC_howMany {sb L : Nat} {xs : Nat → Int32} {K : Cx} {mc ms k n : Nat} (F : Fx K RL cL_law 8 10 mc ms) (S : ScrX sb L xs K) (hL : L ≤ 3072) (hk : k ≤ mc) (hn : n ≤ ms) {i : Nat} (hi : i + 5 < L) {r ii : Nat → Int32} {hg : Int32} {T : TX} {hp hq : Hp} {o : Nat → Int64} (hG : GI r ii hg T) (hc : CWd r ii hg T hp) (hr : RWd r ii hg T hq)
    (kk : ∀ (r ii : Nat → Int32) (hg : Int32) (T : TX) (hp hq : Hp) (o : Nat → Int64), GI r ii hg T → CWd r ii hg T hp → RWd r ii hg T hq → GL sb K k n 1772 (LL i) [] (LW hp hq o)) : GL sb K k n 1050 (LL i) [] (LW hp hq o) := by
  obtain ⟨A, r2, i2, hi2, T2, hG2, C1, C2⟩ := J_howMany hG hc hr (xs (i + 1)) (xs (i + 2)) (xs (i + 3))
  obtain ⟨fs, e1⟩ := hc.obj
  obtain ⟨fq, e2⟩ := hr.obj
  refine gl_aload_n (pc := 1050) F dL_law_1050 rfl ?_
  refine gl_sk (pc := 1051) F S hL (j := 1) (by omega) dL_law_1051 dL_law_1052 dL_law_1054 rfl dL_law_1055 dL_law_1056 rfl ?_
  refine gl_sk (pc := 1057) F S hL (j := 2) (by omega) dL_law_1057 dL_law_1058 dL_law_1060 rfl dL_law_1061 dL_law_1062 rfl ?_
  refine gl_sk (pc := 1063) F S hL (j := 3) (by omega) dL_law_1063 dL_law_1064 dL_law_1066 rfl dL_law_1067 dL_law_1068 rfl ?_
  refine gl_p_callV (pc := 1069) F C1 mi_X4_howMany kv_L_129 e1 rfl dL_law_1069 (by decide) (by decide) rfl (Nat.le_of_ble_eq_true rfl) hk hn ?_
  rintro _ hp2 ⟨rfl, hc2⟩ hlen
  show GL sb K k n 1072 (LL i) [.int (A)] (LW hp2 hq o)
  refine gl_aload_n (pc := 1072) F dL_law_1072 rfl ?_
  refine gl_sk (pc := 1073) F S hL (j := 1) (by omega) dL_law_1073 dL_law_1074 dL_law_1076 rfl dL_law_1077 dL_law_1078 rfl ?_
  refine gl_sk (pc := 1079) F S hL (j := 2) (by omega) dL_law_1079 dL_law_1080 dL_law_1082 rfl dL_law_1083 dL_law_1084 rfl ?_
  refine gl_sk (pc := 1085) F S hL (j := 3) (by omega) dL_law_1085 dL_law_1086 dL_law_1088 rfl dL_law_1089 dL_law_1090 rfl ?_
  refine gl_callV (pc := 1091) F C2 mi_X5_howMany kv_L_132 dL_law_1091 e2 rfl (List.range' 44 12) [.int (A)] (by decide) (by decide) (Sub_mid hc2.len hr.len hr.cl) (rg_nd 44 12) rfl (Nat.le_of_ble_eq_true rfl) hk hn ?_
  rintro _ hq2 ⟨rfl, hr2⟩ hlenq
  rw [show place (LW hp2 hq o) (List.range' 44 12) hq2 = LW hp2 hq2 o from place_mid hc2.len hr.len hlenq hr2.cl]
  show GL sb K k n 1094 (LL i) [.int (A), .int (A)] (LW hp2 hq2 o)
  refine gl_ic_eq (pc := 1094) F dL_law_1094 (tgt := 1772) rfl (fun _ => ?_) (fun z => absurd rfl z)
  exact kk _ _ _ _ _ _ _ hG2 hc2 hr2

set_option maxRecDepth 100000 in
set_option maxHeartbeats 800000 in
theorem LC_whatIs {sb L : Nat} {xs : Nat → Int32} {K : Cx} {mc ms k n : Nat} (F : Fx K RL cL_law 8 10 mc ms) (S : ScrX sb L xs K) (hL : L ≤ 3072) (hk : k ≤ mc) (hn : n ≤ ms) {i : Nat} (hi : i + 5 < L) {r ii : Nat → Int32} {hg : Int32} {T : TX} {hp hq : Hp} {o : Nat → Int64} (hG : GI r ii hg T) (hc : CWd r ii hg T hp) (hr : RWd r ii hg T hq)
    (kk : ∀ (r ii : Nat → Int32) (hg : Int32) (T : TX) (hp hq : Hp) (o : Nat → Int64), GI r ii hg T → CWd r ii hg T hp → RWd r ii hg T hq → GL sb K k n 1772 (LL i) [] (LW hp hq o)) : GL sb K k n 1099 (LL i) [] (LW hp hq o) := by
  obtain ⟨A, r2, i2, hi2, T2, hG2, C1, C2⟩ := J_whatIs hG hc hr (xs (i + 1)) (xs (i + 2)) (xs (i + 3))
  obtain ⟨fs, e1⟩ := hc.obj
  obtain ⟨fq, e2⟩ := hr.obj
  refine gl_aload_n (pc := 1099) F dL_law_1099 rfl ?_
  refine gl_sk (pc := 1100) F S hL (j := 1) (by omega) dL_law_1100 dL_law_1101 dL_law_1103 rfl dL_law_1104 dL_law_1105 rfl ?_
  refine gl_sk (pc := 1106) F S hL (j := 2) (by omega) dL_law_1106 dL_law_1107 dL_law_1109 rfl dL_law_1110 dL_law_1111 rfl ?_
  refine gl_sk (pc := 1112) F S hL (j := 3) (by omega) dL_law_1112 dL_law_1113 dL_law_1115 rfl dL_law_1116 dL_law_1117 rfl ?_
  refine gl_p_callV (pc := 1118) F C1 mi_X4_whatIs kv_L_133 e1 rfl dL_law_1118 (by decide) (by decide) rfl (Nat.le_of_ble_eq_true rfl) hk hn ?_
  rintro _ hp2 ⟨rfl, hc2⟩ hlen
  show GL sb K k n 1121 (LL i) [.int (A)] (LW hp2 hq o)
  refine gl_aload_n (pc := 1121) F dL_law_1121 rfl ?_
  refine gl_sk (pc := 1122) F S hL (j := 1) (by omega) dL_law_1122 dL_law_1123 dL_law_1125 rfl dL_law_1126 dL_law_1127 rfl ?_
  refine gl_sk (pc := 1128) F S hL (j := 2) (by omega) dL_law_1128 dL_law_1129 dL_law_1131 rfl dL_law_1132 dL_law_1133 rfl ?_
  refine gl_sk (pc := 1134) F S hL (j := 3) (by omega) dL_law_1134 dL_law_1135 dL_law_1137 rfl dL_law_1138 dL_law_1139 rfl ?_
  refine gl_callV (pc := 1140) F C2 mi_X5_whatIs kv_L_136 dL_law_1140 e2 rfl (List.range' 44 12) [.int (A)] (by decide) (by decide) (Sub_mid hc2.len hr.len hr.cl) (rg_nd 44 12) rfl (Nat.le_of_ble_eq_true rfl) hk hn ?_
  rintro _ hq2 ⟨rfl, hr2⟩ hlenq
  rw [show place (LW hp2 hq o) (List.range' 44 12) hq2 = LW hp2 hq2 o from place_mid hc2.len hr.len hlenq hr2.cl]
  show GL sb K k n 1143 (LL i) [.int (A), .int (A)] (LW hp2 hq2 o)
  refine gl_ic_eq (pc := 1143) F dL_law_1143 (tgt := 1772) rfl (fun _ => ?_) (fun z => absurd rfl z)
  exact kk _ _ _ _ _ _ _ hG2 hc2 hr2

set_option maxRecDepth 100000 in
set_option maxHeartbeats 800000 in
theorem LC_two {sb L : Nat} {xs : Nat → Int32} {K : Cx} {mc ms k n : Nat} (F : Fx K RL cL_law 8 10 mc ms) (S : ScrX sb L xs K) (hL : L ≤ 3072) (hk : k ≤ mc) (hn : n ≤ ms) {i : Nat} (hi : i + 5 < L) {r ii : Nat → Int32} {hg : Int32} {T : TX} {hp hq : Hp} {o : Nat → Int64} (hG : GI r ii hg T) (hc : CWd r ii hg T hp) (hr : RWd r ii hg T hq)
    (kk : ∀ (r ii : Nat → Int32) (hg : Int32) (T : TX) (hp hq : Hp) (o : Nat → Int64), GI r ii hg T → CWd r ii hg T hp → RWd r ii hg T hq → GL sb K k n 1772 (LL i) [] (LW hp hq o)) : GL sb K k n 1148 (LL i) [] (LW hp hq o) := by
  obtain ⟨A, r2, i2, hi2, T2, hG2, C1, C2⟩ := J_two hG hc hr (xs (i + 1)) (xs (i + 2))
  obtain ⟨fs, e1⟩ := hc.obj
  obtain ⟨fq, e2⟩ := hr.obj
  refine gl_aload_n (pc := 1148) F dL_law_1148 rfl ?_
  refine gl_sk (pc := 1149) F S hL (j := 1) (by omega) dL_law_1149 dL_law_1150 dL_law_1152 rfl dL_law_1153 dL_law_1154 rfl ?_
  refine gl_sk (pc := 1155) F S hL (j := 2) (by omega) dL_law_1155 dL_law_1156 dL_law_1158 rfl dL_law_1159 dL_law_1160 rfl ?_
  refine gl_p_callV (pc := 1161) F C1 mi_X4_two kv_L_137 e1 rfl dL_law_1161 (by decide) (by decide) rfl (Nat.le_of_ble_eq_true rfl) hk hn ?_
  rintro _ hp2 ⟨rfl, hc2⟩ hlen
  show GL sb K k n 1164 (LL i) [.int (A)] (LW hp2 hq o)
  refine gl_aload_n (pc := 1164) F dL_law_1164 rfl ?_
  refine gl_sk (pc := 1165) F S hL (j := 1) (by omega) dL_law_1165 dL_law_1166 dL_law_1168 rfl dL_law_1169 dL_law_1170 rfl ?_
  refine gl_sk (pc := 1171) F S hL (j := 2) (by omega) dL_law_1171 dL_law_1172 dL_law_1174 rfl dL_law_1175 dL_law_1176 rfl ?_
  refine gl_callV (pc := 1177) F C2 mi_X5_two kv_L_140 dL_law_1177 e2 rfl (List.range' 44 12) [.int (A)] (by decide) (by decide) (Sub_mid hc2.len hr.len hr.cl) (rg_nd 44 12) rfl (Nat.le_of_ble_eq_true rfl) hk hn ?_
  rintro _ hq2 ⟨rfl, hr2⟩ hlenq
  rw [show place (LW hp2 hq o) (List.range' 44 12) hq2 = LW hp2 hq2 o from place_mid hc2.len hr.len hlenq hr2.cl]
  show GL sb K k n 1180 (LL i) [.int (A), .int (A)] (LW hp2 hq2 o)
  refine gl_ic_eq (pc := 1180) F dL_law_1180 (tgt := 1772) rfl (fun _ => ?_) (fun z => absurd rfl z)
  exact kk _ _ _ _ _ _ _ hG2 hc2 hr2

set_option maxRecDepth 100000 in
set_option maxHeartbeats 800000 in
theorem LC_storm {sb L : Nat} {xs : Nat → Int32} {K : Cx} {mc ms k n : Nat} (F : Fx K RL cL_law 8 10 mc ms) (S : ScrX sb L xs K) (hL : L ≤ 3072) (hk : k ≤ mc) (hn : n ≤ ms) {i : Nat} (hi : i + 5 < L) {r ii : Nat → Int32} {hg : Int32} {T : TX} {hp hq : Hp} {o : Nat → Int64} (hG : GI r ii hg T) (hc : CWd r ii hg T hp) (hr : RWd r ii hg T hq)
    (kk : ∀ (r ii : Nat → Int32) (hg : Int32) (T : TX) (hp hq : Hp) (o : Nat → Int64), GI r ii hg T → CWd r ii hg T hp → RWd r ii hg T hq → GL sb K k n 1772 (LL i) [] (LW hp hq o)) : GL sb K k n 1185 (LL i) [] (LW hp hq o) := by
  obtain ⟨A, r2, i2, hi2, T2, hG2, C1, C2⟩ := J_storm hG hc hr (xs (i + 1)) (xs (i + 2)) (xs (i + 3)) (xs (i + 4))
  obtain ⟨fs, e1⟩ := hc.obj
  obtain ⟨fq, e2⟩ := hr.obj
  refine gl_aload_n (pc := 1185) F dL_law_1185 rfl ?_
  refine gl_sk (pc := 1186) F S hL (j := 1) (by omega) dL_law_1186 dL_law_1187 dL_law_1189 rfl dL_law_1190 dL_law_1191 rfl ?_
  refine gl_sk (pc := 1192) F S hL (j := 2) (by omega) dL_law_1192 dL_law_1193 dL_law_1195 rfl dL_law_1196 dL_law_1197 rfl ?_
  refine gl_sk (pc := 1198) F S hL (j := 3) (by omega) dL_law_1198 dL_law_1199 dL_law_1201 rfl dL_law_1202 dL_law_1203 rfl ?_
  refine gl_sk (pc := 1204) F S hL (j := 4) (by omega) dL_law_1204 dL_law_1205 dL_law_1207 rfl dL_law_1208 dL_law_1209 rfl ?_
  refine gl_p_callV (pc := 1210) F C1 mi_X4_storm kv_L_141 e1 rfl dL_law_1210 (by decide) (by decide) rfl (Nat.le_of_ble_eq_true rfl) hk hn ?_
  rintro _ hp2 ⟨rfl, hc2⟩ hlen
  show GL sb K k n 1213 (LL i) [.long (A)] (LW hp2 hq o)
  refine gl_aload_n (pc := 1213) F dL_law_1213 rfl ?_
  refine gl_sk (pc := 1214) F S hL (j := 1) (by omega) dL_law_1214 dL_law_1215 dL_law_1217 rfl dL_law_1218 dL_law_1219 rfl ?_
  refine gl_sk (pc := 1220) F S hL (j := 2) (by omega) dL_law_1220 dL_law_1221 dL_law_1223 rfl dL_law_1224 dL_law_1225 rfl ?_
  refine gl_sk (pc := 1226) F S hL (j := 3) (by omega) dL_law_1226 dL_law_1227 dL_law_1229 rfl dL_law_1230 dL_law_1231 rfl ?_
  refine gl_sk (pc := 1232) F S hL (j := 4) (by omega) dL_law_1232 dL_law_1233 dL_law_1235 rfl dL_law_1236 dL_law_1237 rfl ?_
  refine gl_callV (pc := 1238) F C2 mi_X5_storm kv_L_145 dL_law_1238 e2 rfl (List.range' 44 12) [.long (A)] (by decide) (by decide) (Sub_mid hc2.len hr.len hr.cl) (rg_nd 44 12) rfl (Nat.le_of_ble_eq_true rfl) hk hn ?_
  rintro _ hq2 ⟨rfl, hr2⟩ hlenq
  rw [show place (LW hp2 hq o) (List.range' 44 12) hq2 = LW hp2 hq2 o from place_mid hc2.len hr.len hlenq hr2.cl]
  show GL sb K k n 1241 (LL i) [.long (A), .long (A)] (LW hp2 hq2 o)
  refine gl_lcmp (pc := 1241) F dL_law_1241 ?_
  refine gl_if_eq (pc := 1242) F dL_law_1242 (tgt := 1772) rfl (fun _ => ?_) (fun z => absurd (lcmp_self _) z)
  exact kk _ _ _ _ _ _ _ hG2 hc2 hr2

set_option maxRecDepth 100000 in
set_option maxHeartbeats 800000 in
theorem LC_mean {sb L : Nat} {xs : Nat → Int32} {K : Cx} {mc ms k n : Nat} (F : Fx K RL cL_law 8 10 mc ms) (S : ScrX sb L xs K) (hL : L ≤ 3072) (hk : k ≤ mc) (hn : n ≤ ms) {i : Nat} (hi : i + 5 < L) {r ii : Nat → Int32} {hg : Int32} {T : TX} {hp hq : Hp} {o : Nat → Int64} (hG : GI r ii hg T) (hc : CWd r ii hg T hp) (hr : RWd r ii hg T hq)
    (kk : ∀ (r ii : Nat → Int32) (hg : Int32) (T : TX) (hp hq : Hp) (o : Nat → Int64), GI r ii hg T → CWd r ii hg T hp → RWd r ii hg T hq → GL sb K k n 1772 (LL i) [] (LW hp hq o)) : GL sb K k n 1247 (LL i) [] (LW hp hq o) := by
  obtain ⟨A, r2, i2, hi2, T2, hG2, C1, C2⟩ := J_mean hG hc hr (xs (i + 1))
  obtain ⟨fs, e1⟩ := hc.obj
  obtain ⟨fq, e2⟩ := hr.obj
  refine gl_aload_n (pc := 1247) F dL_law_1247 rfl ?_
  refine gl_sk (pc := 1248) F S hL (j := 1) (by omega) dL_law_1248 dL_law_1249 dL_law_1251 rfl dL_law_1252 dL_law_1253 rfl ?_
  refine gl_p_callV (pc := 1254) F C1 mi_X4_mean kv_L_146 e1 rfl dL_law_1254 (by decide) (by decide) rfl (Nat.le_of_ble_eq_true rfl) hk hn ?_
  rintro _ hp2 ⟨rfl, hc2⟩ hlen
  show GL sb K k n 1257 (LL i) [.long (A)] (LW hp2 hq o)
  refine gl_aload_n (pc := 1257) F dL_law_1257 rfl ?_
  refine gl_sk (pc := 1258) F S hL (j := 1) (by omega) dL_law_1258 dL_law_1259 dL_law_1261 rfl dL_law_1262 dL_law_1263 rfl ?_
  refine gl_callV (pc := 1264) F C2 mi_X5_mean kv_L_150 dL_law_1264 e2 rfl (List.range' 44 12) [.long (A)] (by decide) (by decide) (Sub_mid hc2.len hr.len hr.cl) (rg_nd 44 12) rfl (Nat.le_of_ble_eq_true rfl) hk hn ?_
  rintro _ hq2 ⟨rfl, hr2⟩ hlenq
  rw [show place (LW hp2 hq o) (List.range' 44 12) hq2 = LW hp2 hq2 o from place_mid hc2.len hr.len hlenq hr2.cl]
  show GL sb K k n 1267 (LL i) [.long (A), .long (A)] (LW hp2 hq2 o)
  refine gl_lcmp (pc := 1267) F dL_law_1267 ?_
  refine gl_if_eq (pc := 1268) F dL_law_1268 (tgt := 1772) rfl (fun _ => ?_) (fun z => absurd (lcmp_self _) z)
  exact kk _ _ _ _ _ _ _ hG2 hc2 hr2

set_option maxRecDepth 100000 in
set_option maxHeartbeats 800000 in
theorem LC_forged {sb L : Nat} {xs : Nat → Int32} {K : Cx} {mc ms k n : Nat} (F : Fx K RL cL_law 8 10 mc ms) (S : ScrX sb L xs K) (hL : L ≤ 3072) (hk : k ≤ mc) (hn : n ≤ ms) {i : Nat} (hi : i + 5 < L) {r ii : Nat → Int32} {hg : Int32} {T : TX} {hp hq : Hp} {o : Nat → Int64} (hG : GI r ii hg T) (hc : CWd r ii hg T hp) (hr : RWd r ii hg T hq)
    (kk : ∀ (r ii : Nat → Int32) (hg : Int32) (T : TX) (hp hq : Hp) (o : Nat → Int64), GI r ii hg T → CWd r ii hg T hp → RWd r ii hg T hq → GL sb K k n 1772 (LL i) [] (LW hp hq o)) : GL sb K k n 1273 (LL i) [] (LW hp hq o) := by
  obtain ⟨A, r2, i2, hi2, T2, hG2, C1, C2⟩ := J_forged hG hc hr (xs (i + 1))
  obtain ⟨fs, e1⟩ := hc.obj
  obtain ⟨fq, e2⟩ := hr.obj
  refine gl_aload_n (pc := 1273) F dL_law_1273 rfl ?_
  refine gl_sk (pc := 1274) F S hL (j := 1) (by omega) dL_law_1274 dL_law_1275 dL_law_1277 rfl dL_law_1278 dL_law_1279 rfl ?_
  refine gl_p_callV (pc := 1280) F C1 mi_X4_forged kv_L_151 e1 rfl dL_law_1280 (by decide) (by decide) rfl (Nat.le_of_ble_eq_true rfl) hk hn ?_
  rintro _ hp2 ⟨rfl, hc2⟩ hlen
  show GL sb K k n 1283 (LL i) [.int (A)] (LW hp2 hq o)
  refine gl_aload_n (pc := 1283) F dL_law_1283 rfl ?_
  refine gl_sk (pc := 1284) F S hL (j := 1) (by omega) dL_law_1284 dL_law_1285 dL_law_1287 rfl dL_law_1288 dL_law_1289 rfl ?_
  refine gl_callV (pc := 1290) F C2 mi_X5_forged kv_L_154 dL_law_1290 e2 rfl (List.range' 44 12) [.int (A)] (by decide) (by decide) (Sub_mid hc2.len hr.len hr.cl) (rg_nd 44 12) rfl (Nat.le_of_ble_eq_true rfl) hk hn ?_
  rintro _ hq2 ⟨rfl, hr2⟩ hlenq
  rw [show place (LW hp2 hq o) (List.range' 44 12) hq2 = LW hp2 hq2 o from place_mid hc2.len hr.len hlenq hr2.cl]
  show GL sb K k n 1293 (LL i) [.int (A), .int (A)] (LW hp2 hq2 o)
  refine gl_ic_eq (pc := 1293) F dL_law_1293 (tgt := 1772) rfl (fun _ => ?_) (fun z => absurd rfl z)
  exact kk _ _ _ _ _ _ _ hG2 hc2 hr2

set_option maxRecDepth 100000 in
set_option maxHeartbeats 800000 in
theorem LC_judge {sb L : Nat} {xs : Nat → Int32} {K : Cx} {mc ms k n : Nat} (F : Fx K RL cL_law 8 10 mc ms) (S : ScrX sb L xs K) (hL : L ≤ 3072) (hk : k ≤ mc) (hn : n ≤ ms) {i : Nat} (hi : i + 5 < L) {r ii : Nat → Int32} {hg : Int32} {T : TX} {hp hq : Hp} {o : Nat → Int64} (hG : GI r ii hg T) (hc : CWd r ii hg T hp) (hr : RWd r ii hg T hq)
    (kk : ∀ (r ii : Nat → Int32) (hg : Int32) (T : TX) (hp hq : Hp) (o : Nat → Int64), GI r ii hg T → CWd r ii hg T hp → RWd r ii hg T hq → GL sb K k n 1772 (LL i) [] (LW hp hq o)) : GL sb K k n 1298 (LL i) [] (LW hp hq o) := by
  obtain ⟨A, r2, i2, hi2, T2, hG2, C1, C2⟩ := J_judge hG hc hr (xs (i + 1))
  obtain ⟨fs, e1⟩ := hc.obj
  obtain ⟨fq, e2⟩ := hr.obj
  refine gl_aload_n (pc := 1298) F dL_law_1298 rfl ?_
  refine gl_sk (pc := 1299) F S hL (j := 1) (by omega) dL_law_1299 dL_law_1300 dL_law_1302 rfl dL_law_1303 dL_law_1304 rfl ?_
  refine gl_p_callV (pc := 1305) F C1 mi_X4_judge kv_L_155 e1 rfl dL_law_1305 (by decide) (by decide) rfl (Nat.le_of_ble_eq_true rfl) hk hn ?_
  rintro _ hp2 ⟨rfl, hc2⟩ hlen
  show GL sb K k n 1308 (LL i) [.int (A)] (LW hp2 hq o)
  refine gl_aload_n (pc := 1308) F dL_law_1308 rfl ?_
  refine gl_sk (pc := 1309) F S hL (j := 1) (by omega) dL_law_1309 dL_law_1310 dL_law_1312 rfl dL_law_1313 dL_law_1314 rfl ?_
  refine gl_callV (pc := 1315) F C2 mi_X5_judge kv_L_158 dL_law_1315 e2 rfl (List.range' 44 12) [.int (A)] (by decide) (by decide) (Sub_mid hc2.len hr.len hr.cl) (rg_nd 44 12) rfl (Nat.le_of_ble_eq_true rfl) hk hn ?_
  rintro _ hq2 ⟨rfl, hr2⟩ hlenq
  rw [show place (LW hp2 hq o) (List.range' 44 12) hq2 = LW hp2 hq2 o from place_mid hc2.len hr.len hlenq hr2.cl]
  show GL sb K k n 1318 (LL i) [.int (A), .int (A)] (LW hp2 hq2 o)
  refine gl_ic_eq (pc := 1318) F dL_law_1318 (tgt := 1772) rfl (fun _ => ?_) (fun z => absurd rfl z)
  exact kk _ _ _ _ _ _ _ hG2 hc2 hr2

set_option maxRecDepth 100000 in
set_option maxHeartbeats 800000 in
theorem LC_deserts {sb L : Nat} {xs : Nat → Int32} {K : Cx} {mc ms k n : Nat} (F : Fx K RL cL_law 8 10 mc ms) (S : ScrX sb L xs K) (hL : L ≤ 3072) (hk : k ≤ mc) (hn : n ≤ ms) {i : Nat} (hi : i + 5 < L) {r ii : Nat → Int32} {hg : Int32} {T : TX} {hp hq : Hp} {o : Nat → Int64} (hG : GI r ii hg T) (hc : CWd r ii hg T hp) (hr : RWd r ii hg T hq)
    (kk : ∀ (r ii : Nat → Int32) (hg : Int32) (T : TX) (hp hq : Hp) (o : Nat → Int64), GI r ii hg T → CWd r ii hg T hp → RWd r ii hg T hq → GL sb K k n 1772 (LL i) [] (LW hp hq o)) : GL sb K k n 1323 (LL i) [] (LW hp hq o) := by
  obtain ⟨A, r2, i2, hi2, T2, hG2, C1, C2⟩ := J_deserts hG hc hr (xs (i + 1)) (xs (i + 2)) (xs (i + 3))
  obtain ⟨fs, e1⟩ := hc.obj
  obtain ⟨fq, e2⟩ := hr.obj
  refine gl_aload_n (pc := 1323) F dL_law_1323 rfl ?_
  refine gl_sk (pc := 1324) F S hL (j := 1) (by omega) dL_law_1324 dL_law_1325 dL_law_1327 rfl dL_law_1328 dL_law_1329 rfl ?_
  refine gl_sk (pc := 1330) F S hL (j := 2) (by omega) dL_law_1330 dL_law_1331 dL_law_1333 rfl dL_law_1334 dL_law_1335 rfl ?_
  refine gl_sk (pc := 1336) F S hL (j := 3) (by omega) dL_law_1336 dL_law_1337 dL_law_1339 rfl dL_law_1340 dL_law_1341 rfl ?_
  refine gl_p_callV (pc := 1342) F C1 mi_X4_deserts kv_L_159 e1 rfl dL_law_1342 (by decide) (by decide) rfl (Nat.le_of_ble_eq_true rfl) hk hn ?_
  rintro _ hp2 ⟨rfl, hc2⟩ hlen
  show GL sb K k n 1345 (LL i) [.int (A)] (LW hp2 hq o)
  refine gl_aload_n (pc := 1345) F dL_law_1345 rfl ?_
  refine gl_sk (pc := 1346) F S hL (j := 1) (by omega) dL_law_1346 dL_law_1347 dL_law_1349 rfl dL_law_1350 dL_law_1351 rfl ?_
  refine gl_sk (pc := 1352) F S hL (j := 2) (by omega) dL_law_1352 dL_law_1353 dL_law_1355 rfl dL_law_1356 dL_law_1357 rfl ?_
  refine gl_sk (pc := 1358) F S hL (j := 3) (by omega) dL_law_1358 dL_law_1359 dL_law_1361 rfl dL_law_1362 dL_law_1363 rfl ?_
  refine gl_callV (pc := 1364) F C2 mi_X5_deserts kv_L_162 dL_law_1364 e2 rfl (List.range' 44 12) [.int (A)] (by decide) (by decide) (Sub_mid hc2.len hr.len hr.cl) (rg_nd 44 12) rfl (Nat.le_of_ble_eq_true rfl) hk hn ?_
  rintro _ hq2 ⟨rfl, hr2⟩ hlenq
  rw [show place (LW hp2 hq o) (List.range' 44 12) hq2 = LW hp2 hq2 o from place_mid hc2.len hr.len hlenq hr2.cl]
  show GL sb K k n 1367 (LL i) [.int (A), .int (A)] (LW hp2 hq2 o)
  refine gl_ic_eq (pc := 1367) F dL_law_1367 (tgt := 1772) rfl (fun _ => ?_) (fun z => absurd rfl z)
  exact kk _ _ _ _ _ _ _ hG2 hc2 hr2

set_option maxRecDepth 100000 in
set_option maxHeartbeats 800000 in
theorem LC_image {sb L : Nat} {xs : Nat → Int32} {K : Cx} {mc ms k n : Nat} (F : Fx K RL cL_law 8 10 mc ms) (S : ScrX sb L xs K) (hL : L ≤ 3072) (hk : k ≤ mc) (hn : n ≤ ms) {i : Nat} (hi : i + 5 < L) {r ii : Nat → Int32} {hg : Int32} {T : TX} {hp hq : Hp} {o : Nat → Int64} (hG : GI r ii hg T) (hc : CWd r ii hg T hp) (hr : RWd r ii hg T hq)
    (kk : ∀ (r ii : Nat → Int32) (hg : Int32) (T : TX) (hp hq : Hp) (o : Nat → Int64), GI r ii hg T → CWd r ii hg T hp → RWd r ii hg T hq → GL sb K k n 1772 (LL i) [] (LW hp hq o)) : GL sb K k n 1372 (LL i) [] (LW hp hq o) := by
  obtain ⟨A, r2, i2, hi2, T2, hG2, C1, C2⟩ := J_image hG hc hr 
  obtain ⟨fs, e1⟩ := hc.obj
  obtain ⟨fq, e2⟩ := hr.obj
  refine gl_aload_n (pc := 1372) F dL_law_1372 rfl ?_
  refine gl_p_callV (pc := 1373) F C1 mi_X4_image kv_L_163 e1 rfl dL_law_1373 (by decide) (by decide) rfl (Nat.le_of_ble_eq_true rfl) hk hn ?_
  rintro _ hp2 ⟨rfl, hc2⟩ hlen
  show GL sb K k n 1376 (LL i) [.int (A)] (LW hp2 hq o)
  refine gl_aload_n (pc := 1376) F dL_law_1376 rfl ?_
  refine gl_callV (pc := 1377) F C2 mi_X5_image kv_L_166 dL_law_1377 e2 rfl (List.range' 44 12) [.int (A)] (by decide) (by decide) (Sub_mid hc2.len hr.len hr.cl) (rg_nd 44 12) rfl (Nat.le_of_ble_eq_true rfl) hk hn ?_
  rintro _ hq2 ⟨rfl, hr2⟩ hlenq
  rw [show place (LW hp2 hq o) (List.range' 44 12) hq2 = LW hp2 hq2 o from place_mid hc2.len hr.len hlenq hr2.cl]
  show GL sb K k n 1380 (LL i) [.int (A), .int (A)] (LW hp2 hq2 o)
  refine gl_ic_eq (pc := 1380) F dL_law_1380 (tgt := 1772) rfl (fun _ => ?_) (fun z => absurd rfl z)
  exact kk _ _ _ _ _ _ _ hG2 hc2 hr2

set_option maxRecDepth 100000 in
set_option maxHeartbeats 800000 in
theorem LC_restore {sb L : Nat} {xs : Nat → Int32} {K : Cx} {mc ms k n : Nat} (F : Fx K RL cL_law 8 10 mc ms) (S : ScrX sb L xs K) (hL : L ≤ 3072) (hk : k ≤ mc) (hn : n ≤ ms) {i : Nat} (hi : i + 5 < L) {r ii : Nat → Int32} {hg : Int32} {T : TX} {hp hq : Hp} {o : Nat → Int64} (hG : GI r ii hg T) (hc : CWd r ii hg T hp) (hr : RWd r ii hg T hq)
    (kk : ∀ (r ii : Nat → Int32) (hg : Int32) (T : TX) (hp hq : Hp) (o : Nat → Int64), GI r ii hg T → CWd r ii hg T hp → RWd r ii hg T hq → GL sb K k n 1772 (LL i) [] (LW hp hq o)) : GL sb K k n 1385 (LL i) [] (LW hp hq o) := by
  obtain ⟨A, r2, i2, hi2, T2, hG2, C1, C2⟩ := J_restore hG hc hr 
  obtain ⟨fs, e1⟩ := hc.obj
  obtain ⟨fq, e2⟩ := hr.obj
  refine gl_aload_n (pc := 1385) F dL_law_1385 rfl ?_
  refine gl_p_callV (pc := 1386) F C1 mi_X4_restore kv_L_167 e1 rfl dL_law_1386 (by decide) (by decide) rfl (Nat.le_of_ble_eq_true rfl) hk hn ?_
  rintro _ hp2 ⟨rfl, hc2⟩ hlen
  show GL sb K k n 1389 (LL i) [.int (A)] (LW hp2 hq o)
  refine gl_aload_n (pc := 1389) F dL_law_1389 rfl ?_
  refine gl_callV (pc := 1390) F C2 mi_X5_restore kv_L_170 dL_law_1390 e2 rfl (List.range' 44 12) [.int (A)] (by decide) (by decide) (Sub_mid hc2.len hr.len hr.cl) (rg_nd 44 12) rfl (Nat.le_of_ble_eq_true rfl) hk hn ?_
  rintro _ hq2 ⟨rfl, hr2⟩ hlenq
  rw [show place (LW hp2 hq o) (List.range' 44 12) hq2 = LW hp2 hq2 o from place_mid hc2.len hr.len hlenq hr2.cl]
  show GL sb K k n 1393 (LL i) [.int (A), .int (A)] (LW hp2 hq2 o)
  refine gl_ic_eq (pc := 1393) F dL_law_1393 (tgt := 1772) rfl (fun _ => ?_) (fun z => absurd rfl z)
  exact kk _ _ _ _ _ _ _ hG2 hc2 hr2

set_option maxRecDepth 100000 in
set_option maxHeartbeats 800000 in
theorem LC_count {sb L : Nat} {xs : Nat → Int32} {K : Cx} {mc ms k n : Nat} (F : Fx K RL cL_law 8 10 mc ms) (S : ScrX sb L xs K) (hL : L ≤ 3072) (hk : k ≤ mc) (hn : n ≤ ms) {i : Nat} (hi : i + 5 < L) {r ii : Nat → Int32} {hg : Int32} {T : TX} {hp hq : Hp} {o : Nat → Int64} (hG : GI r ii hg T) (hc : CWd r ii hg T hp) (hr : RWd r ii hg T hq)
    (kk : ∀ (r ii : Nat → Int32) (hg : Int32) (T : TX) (hp hq : Hp) (o : Nat → Int64), GI r ii hg T → CWd r ii hg T hp → RWd r ii hg T hq → GL sb K k n 1772 (LL i) [] (LW hp hq o)) : GL sb K k n 1398 (LL i) [] (LW hp hq o) := by
  obtain ⟨A, r2, i2, hi2, T2, hG2, C1, C2⟩ := J_count hG hc hr (xs (i + 1))
  obtain ⟨fs, e1⟩ := hc.obj
  obtain ⟨fq, e2⟩ := hr.obj
  refine gl_aload_n (pc := 1398) F dL_law_1398 rfl ?_
  refine gl_sk (pc := 1399) F S hL (j := 1) (by omega) dL_law_1399 dL_law_1400 dL_law_1402 rfl dL_law_1403 dL_law_1404 rfl ?_
  refine gl_p_callV (pc := 1405) F C1 mi_X4_count kv_L_171 e1 rfl dL_law_1405 (by decide) (by decide) rfl (Nat.le_of_ble_eq_true rfl) hk hn ?_
  rintro _ hp2 ⟨rfl, hc2⟩ hlen
  show GL sb K k n 1408 (LL i) [.int (A)] (LW hp2 hq o)
  refine gl_aload_n (pc := 1408) F dL_law_1408 rfl ?_
  refine gl_sk (pc := 1409) F S hL (j := 1) (by omega) dL_law_1409 dL_law_1410 dL_law_1412 rfl dL_law_1413 dL_law_1414 rfl ?_
  refine gl_callV (pc := 1415) F C2 mi_X5_count kv_L_174 dL_law_1415 e2 rfl (List.range' 44 12) [.int (A)] (by decide) (by decide) (Sub_mid hc2.len hr.len hr.cl) (rg_nd 44 12) rfl (Nat.le_of_ble_eq_true rfl) hk hn ?_
  rintro _ hq2 ⟨rfl, hr2⟩ hlenq
  rw [show place (LW hp2 hq o) (List.range' 44 12) hq2 = LW hp2 hq2 o from place_mid hc2.len hr.len hlenq hr2.cl]
  show GL sb K k n 1418 (LL i) [.int (A), .int (A)] (LW hp2 hq2 o)
  refine gl_ic_eq (pc := 1418) F dL_law_1418 (tgt := 1772) rfl (fun _ => ?_) (fun z => absurd rfl z)
  exact kk _ _ _ _ _ _ _ hG2 hc2 hr2

set_option maxRecDepth 100000 in
set_option maxHeartbeats 800000 in
theorem LC_keep {sb L : Nat} {xs : Nat → Int32} {K : Cx} {mc ms k n : Nat} (F : Fx K RL cL_law 8 10 mc ms) (S : ScrX sb L xs K) (hL : L ≤ 3072) (hk : k ≤ mc) (hn : n ≤ ms) {i : Nat} (hi : i + 5 < L) {r ii : Nat → Int32} {hg : Int32} {T : TX} {hp hq : Hp} {o : Nat → Int64} (hG : GI r ii hg T) (hc : CWd r ii hg T hp) (hr : RWd r ii hg T hq)
    (kk : ∀ (r ii : Nat → Int32) (hg : Int32) (T : TX) (hp hq : Hp) (o : Nat → Int64), GI r ii hg T → CWd r ii hg T hp → RWd r ii hg T hq → GL sb K k n 1772 (LL i) [] (LW hp hq o)) : GL sb K k n 1423 (LL i) [] (LW hp hq o) := by
  obtain ⟨A, r2, i2, hi2, T2, hG2, C1, C2⟩ := J_keep hG hc hr (xs (i + 1)) (xs (i + 2)) (xs (i + 3)) (xs (i + 4))
  obtain ⟨fs, e1⟩ := hc.obj
  obtain ⟨fq, e2⟩ := hr.obj
  refine gl_aload_n (pc := 1423) F dL_law_1423 rfl ?_
  refine gl_sk (pc := 1424) F S hL (j := 1) (by omega) dL_law_1424 dL_law_1425 dL_law_1427 rfl dL_law_1428 dL_law_1429 rfl ?_
  refine gl_sk (pc := 1430) F S hL (j := 2) (by omega) dL_law_1430 dL_law_1431 dL_law_1433 rfl dL_law_1434 dL_law_1435 rfl ?_
  refine gl_sk (pc := 1436) F S hL (j := 3) (by omega) dL_law_1436 dL_law_1437 dL_law_1439 rfl dL_law_1440 dL_law_1441 rfl ?_
  refine gl_sk (pc := 1442) F S hL (j := 4) (by omega) dL_law_1442 dL_law_1443 dL_law_1445 rfl dL_law_1446 dL_law_1447 rfl ?_
  refine gl_p_callV (pc := 1448) F C1 mi_X4_keep kv_L_175 e1 rfl dL_law_1448 (by decide) (by decide) rfl (Nat.le_of_ble_eq_true rfl) hk hn ?_
  rintro _ hp2 ⟨rfl, hc2⟩ hlen
  show GL sb K k n 1451 (LL i) [.int (A)] (LW hp2 hq o)
  refine gl_aload_n (pc := 1451) F dL_law_1451 rfl ?_
  refine gl_sk (pc := 1452) F S hL (j := 1) (by omega) dL_law_1452 dL_law_1453 dL_law_1455 rfl dL_law_1456 dL_law_1457 rfl ?_
  refine gl_sk (pc := 1458) F S hL (j := 2) (by omega) dL_law_1458 dL_law_1459 dL_law_1461 rfl dL_law_1462 dL_law_1463 rfl ?_
  refine gl_sk (pc := 1464) F S hL (j := 3) (by omega) dL_law_1464 dL_law_1465 dL_law_1467 rfl dL_law_1468 dL_law_1469 rfl ?_
  refine gl_sk (pc := 1470) F S hL (j := 4) (by omega) dL_law_1470 dL_law_1471 dL_law_1473 rfl dL_law_1474 dL_law_1475 rfl ?_
  refine gl_callV (pc := 1476) F C2 mi_X5_keep kv_L_179 dL_law_1476 e2 rfl (List.range' 44 12) [.int (A)] (by decide) (by decide) (Sub_mid hc2.len hr.len hr.cl) (rg_nd 44 12) rfl (Nat.le_of_ble_eq_true rfl) hk hn ?_
  rintro _ hq2 ⟨rfl, hr2⟩ hlenq
  rw [show place (LW hp2 hq o) (List.range' 44 12) hq2 = LW hp2 hq2 o from place_mid hc2.len hr.len hlenq hr2.cl]
  show GL sb K k n 1479 (LL i) [.int (A), .int (A)] (LW hp2 hq2 o)
  refine gl_ic_eq (pc := 1479) F dL_law_1479 (tgt := 1772) rfl (fun _ => ?_) (fun z => absurd rfl z)
  exact kk _ _ _ _ _ _ _ hG2 hc2 hr2

set_option maxRecDepth 100000 in
set_option maxHeartbeats 800000 in
theorem LC_row {sb L : Nat} {xs : Nat → Int32} {K : Cx} {mc ms k n : Nat} (F : Fx K RL cL_law 8 10 mc ms) (S : ScrX sb L xs K) (hL : L ≤ 3072) (hk : k ≤ mc) (hn : n ≤ ms) {i : Nat} (hi : i + 5 < L) {r ii : Nat → Int32} {hg : Int32} {T : TX} {hp hq : Hp} {o : Nat → Int64} (hG : GI r ii hg T) (hc : CWd r ii hg T hp) (hr : RWd r ii hg T hq)
    (kk : ∀ (r ii : Nat → Int32) (hg : Int32) (T : TX) (hp hq : Hp) (o : Nat → Int64), GI r ii hg T → CWd r ii hg T hp → RWd r ii hg T hq → GL sb K k n 1772 (LL i) [] (LW hp hq o)) : GL sb K k n 1484 (LL i) [] (LW hp hq o) := by
  obtain ⟨A, r2, i2, hi2, T2, hG2, C1, C2⟩ := J_row hG hc hr (xs (i + 1)) (xs (i + 2)) (xs (i + 3))
  obtain ⟨fs, e1⟩ := hc.obj
  obtain ⟨fq, e2⟩ := hr.obj
  refine gl_aload_n (pc := 1484) F dL_law_1484 rfl ?_
  refine gl_sk (pc := 1485) F S hL (j := 1) (by omega) dL_law_1485 dL_law_1486 dL_law_1488 rfl dL_law_1489 dL_law_1490 rfl ?_
  refine gl_sk (pc := 1491) F S hL (j := 2) (by omega) dL_law_1491 dL_law_1492 dL_law_1494 rfl dL_law_1495 dL_law_1496 rfl ?_
  refine gl_sk (pc := 1497) F S hL (j := 3) (by omega) dL_law_1497 dL_law_1498 dL_law_1500 rfl dL_law_1501 dL_law_1502 rfl ?_
  refine gl_p_callV (pc := 1503) F C1 mi_X4_row kv_L_180 e1 rfl dL_law_1503 (by decide) (by decide) rfl (Nat.le_of_ble_eq_true rfl) hk hn ?_
  rintro _ hp2 ⟨rfl, hc2⟩ hlen
  show GL sb K k n 1506 (LL i) [.int (A)] (LW hp2 hq o)
  refine gl_aload_n (pc := 1506) F dL_law_1506 rfl ?_
  refine gl_sk (pc := 1507) F S hL (j := 1) (by omega) dL_law_1507 dL_law_1508 dL_law_1510 rfl dL_law_1511 dL_law_1512 rfl ?_
  refine gl_sk (pc := 1513) F S hL (j := 2) (by omega) dL_law_1513 dL_law_1514 dL_law_1516 rfl dL_law_1517 dL_law_1518 rfl ?_
  refine gl_sk (pc := 1519) F S hL (j := 3) (by omega) dL_law_1519 dL_law_1520 dL_law_1522 rfl dL_law_1523 dL_law_1524 rfl ?_
  refine gl_callV (pc := 1525) F C2 mi_X5_row kv_L_183 dL_law_1525 e2 rfl (List.range' 44 12) [.int (A)] (by decide) (by decide) (Sub_mid hc2.len hr.len hr.cl) (rg_nd 44 12) rfl (Nat.le_of_ble_eq_true rfl) hk hn ?_
  rintro _ hq2 ⟨rfl, hr2⟩ hlenq
  rw [show place (LW hp2 hq o) (List.range' 44 12) hq2 = LW hp2 hq2 o from place_mid hc2.len hr.len hlenq hr2.cl]
  show GL sb K k n 1528 (LL i) [.int (A), .int (A)] (LW hp2 hq2 o)
  refine gl_ic_eq (pc := 1528) F dL_law_1528 (tgt := 1772) rfl (fun _ => ?_) (fun z => absurd rfl z)
  exact kk _ _ _ _ _ _ _ hG2 hc2 hr2

set_option maxRecDepth 100000 in
set_option maxHeartbeats 800000 in
theorem LC_put {sb L : Nat} {xs : Nat → Int32} {K : Cx} {mc ms k n : Nat} (F : Fx K RL cL_law 8 10 mc ms) (S : ScrX sb L xs K) (hL : L ≤ 3072) (hk : k ≤ mc) (hn : n ≤ ms) {i : Nat} (hi : i + 5 < L) {r ii : Nat → Int32} {hg : Int32} {T : TX} {hp hq : Hp} {o : Nat → Int64} (hG : GI r ii hg T) (hc : CWd r ii hg T hp) (hr : RWd r ii hg T hq)
    (kk : ∀ (r ii : Nat → Int32) (hg : Int32) (T : TX) (hp hq : Hp) (o : Nat → Int64), GI r ii hg T → CWd r ii hg T hp → RWd r ii hg T hq → GL sb K k n 1772 (LL i) [] (LW hp hq o)) : GL sb K k n 1533 (LL i) [] (LW hp hq o) := by
  obtain ⟨A, r2, i2, hi2, T2, hG2, C1, C2⟩ := J_put hG hc hr (xs (i + 1)) (xs (i + 2)) (xs (i + 3))
  obtain ⟨fs, e1⟩ := hc.obj
  obtain ⟨fq, e2⟩ := hr.obj
  refine gl_aload_n (pc := 1533) F dL_law_1533 rfl ?_
  refine gl_sk (pc := 1534) F S hL (j := 1) (by omega) dL_law_1534 dL_law_1535 dL_law_1537 rfl dL_law_1538 dL_law_1539 rfl ?_
  refine gl_sk (pc := 1540) F S hL (j := 2) (by omega) dL_law_1540 dL_law_1541 dL_law_1543 rfl dL_law_1544 dL_law_1545 rfl ?_
  refine gl_sk (pc := 1546) F S hL (j := 3) (by omega) dL_law_1546 dL_law_1547 dL_law_1549 rfl dL_law_1550 dL_law_1551 rfl ?_
  refine gl_p_callV (pc := 1552) F C1 mi_X4_put kv_L_184 e1 rfl dL_law_1552 (by decide) (by decide) rfl (Nat.le_of_ble_eq_true rfl) hk hn ?_
  rintro _ hp2 ⟨rfl, hc2⟩ hlen
  show GL sb K k n 1555 (LL i) [.int (A)] (LW hp2 hq o)
  refine gl_aload_n (pc := 1555) F dL_law_1555 rfl ?_
  refine gl_sk (pc := 1556) F S hL (j := 1) (by omega) dL_law_1556 dL_law_1557 dL_law_1559 rfl dL_law_1560 dL_law_1561 rfl ?_
  refine gl_sk (pc := 1562) F S hL (j := 2) (by omega) dL_law_1562 dL_law_1563 dL_law_1565 rfl dL_law_1566 dL_law_1567 rfl ?_
  refine gl_sk (pc := 1568) F S hL (j := 3) (by omega) dL_law_1568 dL_law_1569 dL_law_1571 rfl dL_law_1572 dL_law_1573 rfl ?_
  refine gl_callV (pc := 1574) F C2 mi_X5_put kv_L_187 dL_law_1574 e2 rfl (List.range' 44 12) [.int (A)] (by decide) (by decide) (Sub_mid hc2.len hr.len hr.cl) (rg_nd 44 12) rfl (Nat.le_of_ble_eq_true rfl) hk hn ?_
  rintro _ hq2 ⟨rfl, hr2⟩ hlenq
  rw [show place (LW hp2 hq o) (List.range' 44 12) hq2 = LW hp2 hq2 o from place_mid hc2.len hr.len hlenq hr2.cl]
  show GL sb K k n 1577 (LL i) [.int (A), .int (A)] (LW hp2 hq2 o)
  refine gl_ic_eq (pc := 1577) F dL_law_1577 (tgt := 1772) rfl (fun _ => ?_) (fun z => absurd rfl z)
  exact kk _ _ _ _ _ _ _ hG2 hc2 hr2

set_option maxRecDepth 100000 in
set_option maxHeartbeats 800000 in
theorem LC_copy {sb L : Nat} {xs : Nat → Int32} {K : Cx} {mc ms k n : Nat} (F : Fx K RL cL_law 8 10 mc ms) (S : ScrX sb L xs K) (hL : L ≤ 3072) (hk : k ≤ mc) (hn : n ≤ ms) {i : Nat} (hi : i + 5 < L) {r ii : Nat → Int32} {hg : Int32} {T : TX} {hp hq : Hp} {o : Nat → Int64} (hG : GI r ii hg T) (hc : CWd r ii hg T hp) (hr : RWd r ii hg T hq)
    (kk : ∀ (r ii : Nat → Int32) (hg : Int32) (T : TX) (hp hq : Hp) (o : Nat → Int64), GI r ii hg T → CWd r ii hg T hp → RWd r ii hg T hq → GL sb K k n 1772 (LL i) [] (LW hp hq o)) : GL sb K k n 1649 (LL i) [] (LW hp hq o) := by
  obtain ⟨A, r2, i2, hi2, T2, hG2, C1, C2⟩ := J_copy hG hc hr (xs (i + 1)) (xs (i + 2)) (xs (i + 3)) (xs (i + 4)) (xs (i + 5))
  obtain ⟨fs, e1⟩ := hc.obj
  obtain ⟨fq, e2⟩ := hr.obj
  refine gl_aload_n (pc := 1649) F dL_law_1649 rfl ?_
  refine gl_sk (pc := 1650) F S hL (j := 1) (by omega) dL_law_1650 dL_law_1651 dL_law_1653 rfl dL_law_1654 dL_law_1655 rfl ?_
  refine gl_sk (pc := 1656) F S hL (j := 2) (by omega) dL_law_1656 dL_law_1657 dL_law_1659 rfl dL_law_1660 dL_law_1661 rfl ?_
  refine gl_sk (pc := 1662) F S hL (j := 3) (by omega) dL_law_1662 dL_law_1663 dL_law_1665 rfl dL_law_1666 dL_law_1667 rfl ?_
  refine gl_sk (pc := 1668) F S hL (j := 4) (by omega) dL_law_1668 dL_law_1669 dL_law_1671 rfl dL_law_1672 dL_law_1673 rfl ?_
  refine gl_sk (pc := 1674) F S hL (j := 5) (by omega) dL_law_1674 dL_law_1675 dL_law_1677 rfl dL_law_1678 dL_law_1679 rfl ?_
  refine gl_p_callV (pc := 1680) F C1 mi_X4_copy kv_L_197 e1 rfl dL_law_1680 (by decide) (by decide) rfl (Nat.le_of_ble_eq_true rfl) hk hn ?_
  rintro _ hp2 ⟨rfl, hc2⟩ hlen
  show GL sb K k n 1683 (LL i) [.int (A)] (LW hp2 hq o)
  refine gl_aload_n (pc := 1683) F dL_law_1683 rfl ?_
  refine gl_sk (pc := 1684) F S hL (j := 1) (by omega) dL_law_1684 dL_law_1685 dL_law_1687 rfl dL_law_1688 dL_law_1689 rfl ?_
  refine gl_sk (pc := 1690) F S hL (j := 2) (by omega) dL_law_1690 dL_law_1691 dL_law_1693 rfl dL_law_1694 dL_law_1695 rfl ?_
  refine gl_sk (pc := 1696) F S hL (j := 3) (by omega) dL_law_1696 dL_law_1697 dL_law_1699 rfl dL_law_1700 dL_law_1701 rfl ?_
  refine gl_sk (pc := 1702) F S hL (j := 4) (by omega) dL_law_1702 dL_law_1703 dL_law_1705 rfl dL_law_1706 dL_law_1707 rfl ?_
  refine gl_sk (pc := 1708) F S hL (j := 5) (by omega) dL_law_1708 dL_law_1709 dL_law_1711 rfl dL_law_1712 dL_law_1713 rfl ?_
  refine gl_callV (pc := 1714) F C2 mi_X5_copy kv_L_201 dL_law_1714 e2 rfl (List.range' 44 12) [.int (A)] (by decide) (by decide) (Sub_mid hc2.len hr.len hr.cl) (rg_nd 44 12) rfl (Nat.le_of_ble_eq_true rfl) hk hn ?_
  rintro _ hq2 ⟨rfl, hr2⟩ hlenq
  rw [show place (LW hp2 hq o) (List.range' 44 12) hq2 = LW hp2 hq2 o from place_mid hc2.len hr.len hlenq hr2.cl]
  show GL sb K k n 1717 (LL i) [.int (A), .int (A)] (LW hp2 hq2 o)
  refine gl_ic_eq (pc := 1717) F dL_law_1717 (tgt := 1772) rfl (fun _ => ?_) (fun z => absurd rfl z)
  exact kk _ _ _ _ _ _ _ hG2 hc2 hr2

set_option maxRecDepth 100000 in
set_option maxHeartbeats 800000 in
theorem LC_cost {sb L : Nat} {xs : Nat → Int32} {K : Cx} {mc ms k n : Nat} (F : Fx K RL cL_law 8 10 mc ms) (S : ScrX sb L xs K) (hL : L ≤ 3072) (hk : k ≤ mc) (hn : n ≤ ms) {i : Nat} (hi : i + 5 < L) {r ii : Nat → Int32} {hg : Int32} {T : TX} {hp hq : Hp} {o : Nat → Int64} (hG : GI r ii hg T) (hc : CWd r ii hg T hp) (hr : RWd r ii hg T hq)
    (kk : ∀ (r ii : Nat → Int32) (hg : Int32) (T : TX) (hp hq : Hp) (o : Nat → Int64), GI r ii hg T → CWd r ii hg T hp → RWd r ii hg T hq → GL sb K k n 1772 (LL i) [] (LW hp hq o)) : GL sb K k n 1722 (LL i) [] (LW hp hq o) := by
  obtain ⟨A, r2, i2, hi2, T2, hG2, C1, C2⟩ := J_cost hG hc hr (xs (i + 1))
  obtain ⟨fs, e1⟩ := hc.obj
  obtain ⟨fq, e2⟩ := hr.obj
  refine gl_aload_n (pc := 1722) F dL_law_1722 rfl ?_
  refine gl_sk (pc := 1723) F S hL (j := 1) (by omega) dL_law_1723 dL_law_1724 dL_law_1726 rfl dL_law_1727 dL_law_1728 rfl ?_
  refine gl_p_callV (pc := 1729) F C1 mi_X4_cost kv_L_202 e1 rfl dL_law_1729 (by decide) (by decide) rfl (Nat.le_of_ble_eq_true rfl) hk hn ?_
  rintro _ hp2 ⟨rfl, hc2⟩ hlen
  show GL sb K k n 1732 (LL i) [.int (A)] (LW hp2 hq o)
  refine gl_aload_n (pc := 1732) F dL_law_1732 rfl ?_
  refine gl_sk (pc := 1733) F S hL (j := 1) (by omega) dL_law_1733 dL_law_1734 dL_law_1736 rfl dL_law_1737 dL_law_1738 rfl ?_
  refine gl_callV (pc := 1739) F C2 mi_X5_cost kv_L_205 dL_law_1739 e2 rfl (List.range' 44 12) [.int (A)] (by decide) (by decide) (Sub_mid hc2.len hr.len hr.cl) (rg_nd 44 12) rfl (Nat.le_of_ble_eq_true rfl) hk hn ?_
  rintro _ hq2 ⟨rfl, hr2⟩ hlenq
  rw [show place (LW hp2 hq o) (List.range' 44 12) hq2 = LW hp2 hq2 o from place_mid hc2.len hr.len hlenq hr2.cl]
  show GL sb K k n 1742 (LL i) [.int (A), .int (A)] (LW hp2 hq2 o)
  refine gl_ic_eq (pc := 1742) F dL_law_1742 (tgt := 1772) rfl (fun _ => ?_) (fun z => absurd rfl z)
  exact kk _ _ _ _ _ _ _ hG2 hc2 hr2

set_option maxRecDepth 100000 in
set_option maxHeartbeats 800000 in
theorem LC_toss {sb L : Nat} {xs : Nat → Int32} {K : Cx} {mc ms k n : Nat} (F : Fx K RL cL_law 8 10 mc ms) (S : ScrX sb L xs K) (hL : L ≤ 3072) (hk : k ≤ mc) (hn : n ≤ ms) {i : Nat} (hi : i + 5 < L) {r ii : Nat → Int32} {hg : Int32} {T : TX} {hp hq : Hp} {o : Nat → Int64} (hG : GI r ii hg T) (hc : CWd r ii hg T hp) (hr : RWd r ii hg T hq)
    (kk : ∀ (r ii : Nat → Int32) (hg : Int32) (T : TX) (hp hq : Hp) (o : Nat → Int64), GI r ii hg T → CWd r ii hg T hp → RWd r ii hg T hq → GL sb K k n 1772 (LL i) [] (LW hp hq o)) : GL sb K k n 1747 (LL i) [] (LW hp hq o) := by
  obtain ⟨A, r2, i2, hi2, T2, hG2, C1, C2⟩ := J_toss hG hc hr (xs (i + 1))
  obtain ⟨fs, e1⟩ := hc.obj
  obtain ⟨fq, e2⟩ := hr.obj
  refine gl_aload_n (pc := 1747) F dL_law_1747 rfl ?_
  refine gl_sk (pc := 1748) F S hL (j := 1) (by omega) dL_law_1748 dL_law_1749 dL_law_1751 rfl dL_law_1752 dL_law_1753 rfl ?_
  refine gl_p_callV (pc := 1754) F C1 mi_X4_toss kv_L_206 e1 rfl dL_law_1754 (by decide) (by decide) rfl (Nat.le_of_ble_eq_true rfl) hk hn ?_
  rintro _ hp2 ⟨rfl, hc2⟩ hlen
  show GL sb K k n 1757 (LL i) [.int (A)] (LW hp2 hq o)
  refine gl_aload_n (pc := 1757) F dL_law_1757 rfl ?_
  refine gl_sk (pc := 1758) F S hL (j := 1) (by omega) dL_law_1758 dL_law_1759 dL_law_1761 rfl dL_law_1762 dL_law_1763 rfl ?_
  refine gl_callV (pc := 1764) F C2 mi_X5_toss kv_L_209 dL_law_1764 e2 rfl (List.range' 44 12) [.int (A)] (by decide) (by decide) (Sub_mid hc2.len hr.len hr.cl) (rg_nd 44 12) rfl (Nat.le_of_ble_eq_true rfl) hk hn ?_
  rintro _ hq2 ⟨rfl, hr2⟩ hlenq
  rw [show place (LW hp2 hq o) (List.range' 44 12) hq2 = LW hp2 hq2 o from place_mid hc2.len hr.len hlenq hr2.cl]
  show GL sb K k n 1767 (LL i) [.int (A), .int (A)] (LW hp2 hq2 o)
  refine gl_ic_eq (pc := 1767) F dL_law_1767 (tgt := 1772) rfl (fun _ => ?_) (fun z => absurd rfl z)
  exact kk _ _ _ _ _ _ _ hG2 hc2 hr2
