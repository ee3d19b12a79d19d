/-! the class's kinds and deserts: days -/
theorem kc_q {k j : Nat} (hk : k < 8) (hj : j < 8) (h : nI k = nI j) : k = j := (nI_eq (by omega) (by omega)).mp h
set_option maxRecDepth 100000 in
set_option maxHeartbeats 4000000 in
theorem c_kcountsN (k f u : Nat) (on : Int32) (hk : k < 8) (hf : f < 10) (hu : u ≤ 999) : RCtr yX1_counts cX1_counts 9 (some .int) 1 [.int (nI k), .int (nI f), .int (nI u), .int on] ([]) (.int (nI (cntN k f u (if on - on / nI 2 * nI 2 = 0 then 0 else 1)))) := by
  refine Ctr.of rfl (Nat.le_of_ble_eq_true rfl) ⟨clS_of rfl, clH_of rfl⟩ (fun K F X0 => ?_)
  show Go K 0 0 0 [(0, .int (nI k)), (1, .int (nI f)), (2, .int (nI u)), (3, .int on)] [] ([])
  refine g_bipush (pc := 0) F dX1_counts_0 (v := nI 10) rfl ?_
  refine g_iload_n (pc := 2) F dX1_counts_2 rfl ?_
  refine g_iaddN (pc := 3) F dX1_counts_3 ?_
  refine g_istore (pc := 4) F dX1_counts_4 (by decide) ?_
  refine g_iload (pc := 6) F dX1_counts_6 rfl ?_
  refine g_iconst (pc := 8) F dX1_counts_8 (v := nI 1) rfl ?_
  refine g_isubN (pc := 9) F dX1_counts_9 (by omega) ?_
  refine g_istore (pc := 10) F dX1_counts_10 (by decide) ?_
  refine g_iload_n (pc := 12) F dX1_counts_12 rfl ?_
  refine g_iconst (pc := 13) F dX1_counts_13 (v := nI 1) rfl ?_
  refine g_iaddN (pc := 14) F dX1_counts_14 ?_
  refine g_iconst (pc := 15) F dX1_counts_15 (v := nI 2) rfl ?_
  refine g_idivN (pc := 16) F dX1_counts_16 (by omega) (by omega) (by omega) ?_
  refine g_istore (pc := 17) F dX1_counts_17 (by decide) ?_
  refine g_iload (pc := 19) F dX1_counts_19 rfl ?_
  refine g_iconst (pc := 21) F dX1_counts_21 (v := nI 2) rfl ?_
  refine g_idivN (pc := 22) F dX1_counts_22 (by omega) (by omega) (by omega) ?_
  refine g_istore (pc := 23) F dX1_counts_23 (by decide) ?_
  refine g_iload_n (pc := 25) F dX1_counts_25 rfl ?_
  rcases sw_cases 1 7 (nI k) (by decide) with ⟨j_26, j1_26, j2_26, hx_26⟩ | ho_26
  · rcases (show j_26 = 1 ∨ j_26 = 2 ∨ j_26 = 3 ∨ j_26 = 4 ∨ j_26 = 5 ∨ j_26 = 6 ∨ j_26 = 7 by omega) with rfl | rfl | rfl | rfl | rfl | rfl | rfl
    · refine g_tableIn2 (pc := 26) F dX1_counts_26 hx_26 (by decide) (by decide) (tgt := 68) rfl rfl ?_
      refine g_iload (pc := 68) F dX1_counts_68 rfl ?_
      refine g_istore (pc := 70) F dX1_counts_70 (by decide) ?_
      refine g_goto (pc := 72) F dX1_counts_72 (tgt := 141) rfl ?_
      refine g_iload_n (pc := 141) F dX1_counts_141 rfl ?_
      refine g_iload (pc := 142) F dX1_counts_142 rfl ?_
      refine g_mminM (pc := 144) F dX1_counts_144 km_X1_13 (by decide) (Nat.le_of_ble_eq_true rfl) (by decide) (by decide) ?_
      exact g_iret (pc := 147) F X0 dX1_counts_147 (Nat.le_of_ble_eq_true rfl) (Nat.le_of_ble_eq_true rfl) rfl ⟨congrArg (fun z => some (Value.int z)) (by (first | rw [mx_nI (by omega) (by omega)] | skip); rw [mn_nI (by omega) (by omega)]; refine congrArg nI ?_; first | (have hk9 := kc_q hk (by omega) hx_26; rw [hk9]; (first | rw [if_pos c_115] | rw [if_neg c_115] | skip); simp [cntN] <;> omega) | (have hk9 : k = 0 := (by rw [nI_toInt (by omega)] at ho_26; omega); rw [hk9]; simp [cntN])), rfl⟩
    · refine g_tableIn2 (pc := 26) F dX1_counts_26 hx_26 (by decide) (by decide) (tgt := 75) rfl rfl ?_
      refine g_iload (pc := 75) F dX1_counts_75 rfl ?_
      refine g_istore (pc := 77) F dX1_counts_77 (by decide) ?_
      refine g_goto (pc := 79) F dX1_counts_79 (tgt := 141) rfl ?_
      refine g_iload_n (pc := 141) F dX1_counts_141 rfl ?_
      refine g_iload (pc := 142) F dX1_counts_142 rfl ?_
      refine g_mminM (pc := 144) F dX1_counts_144 km_X1_13 (by decide) (Nat.le_of_ble_eq_true rfl) (by decide) (by decide) ?_
      exact g_iret (pc := 147) F X0 dX1_counts_147 (Nat.le_of_ble_eq_true rfl) (Nat.le_of_ble_eq_true rfl) rfl ⟨congrArg (fun z => some (Value.int z)) (by (first | rw [mx_nI (by omega) (by omega)] | skip); rw [mn_nI (by omega) (by omega)]; refine congrArg nI ?_; first | (have hk9 := kc_q hk (by omega) hx_26; rw [hk9]; (first | rw [if_pos c_115] | rw [if_neg c_115] | skip); simp [cntN] <;> omega) | (have hk9 : k = 0 := (by rw [nI_toInt (by omega)] at ho_26; omega); rw [hk9]; simp [cntN])), rfl⟩
    · refine g_tableIn2 (pc := 26) F dX1_counts_26 hx_26 (by decide) (by decide) (tgt := 82) rfl rfl ?_
      refine g_iload (pc := 82) F dX1_counts_82 rfl ?_
      refine g_istore (pc := 84) F dX1_counts_84 (by decide) ?_
      refine g_goto (pc := 86) F dX1_counts_86 (tgt := 141) rfl ?_
      refine g_iload_n (pc := 141) F dX1_counts_141 rfl ?_
      refine g_iload (pc := 142) F dX1_counts_142 rfl ?_
      refine g_mminM (pc := 144) F dX1_counts_144 km_X1_13 (by decide) (Nat.le_of_ble_eq_true rfl) (by decide) (by decide) ?_
      exact g_iret (pc := 147) F X0 dX1_counts_147 (Nat.le_of_ble_eq_true rfl) (Nat.le_of_ble_eq_true rfl) rfl ⟨congrArg (fun z => some (Value.int z)) (by (first | rw [mx_nI (by omega) (by omega)] | skip); rw [mn_nI (by omega) (by omega)]; refine congrArg nI ?_; first | (have hk9 := kc_q hk (by omega) hx_26; rw [hk9]; (first | rw [if_pos c_115] | rw [if_neg c_115] | skip); simp [cntN] <;> omega) | (have hk9 : k = 0 := (by rw [nI_toInt (by omega)] at ho_26; omega); rw [hk9]; simp [cntN])), rfl⟩
    · refine g_tableIn2 (pc := 26) F dX1_counts_26 hx_26 (by decide) (by decide) (tgt := 89) rfl rfl ?_
      refine g_iload (pc := 89) F dX1_counts_89 rfl ?_
      refine g_iconst (pc := 91) F dX1_counts_91 (v := nI 2) rfl ?_
      refine g_idivN (pc := 92) F dX1_counts_92 (by omega) (by omega) (by omega) ?_
      refine g_iconst (pc := 93) F dX1_counts_93 (v := nI 1) rfl ?_
      refine g_iaddN (pc := 94) F dX1_counts_94 ?_
      refine g_istore (pc := 95) F dX1_counts_95 (by decide) ?_
      refine g_goto (pc := 97) F dX1_counts_97 (tgt := 141) rfl ?_
      refine g_iload_n (pc := 141) F dX1_counts_141 rfl ?_
      refine g_iload (pc := 142) F dX1_counts_142 rfl ?_
      refine g_mminM (pc := 144) F dX1_counts_144 km_X1_13 (by decide) (Nat.le_of_ble_eq_true rfl) (by decide) (by decide) ?_
      exact g_iret (pc := 147) F X0 dX1_counts_147 (Nat.le_of_ble_eq_true rfl) (Nat.le_of_ble_eq_true rfl) rfl ⟨congrArg (fun z => some (Value.int z)) (by (first | rw [mx_nI (by omega) (by omega)] | skip); rw [mn_nI (by omega) (by omega)]; refine congrArg nI ?_; first | (have hk9 := kc_q hk (by omega) hx_26; rw [hk9]; (first | rw [if_pos c_115] | rw [if_neg c_115] | skip); simp [cntN] <;> omega) | (have hk9 : k = 0 := (by rw [nI_toInt (by omega)] at ho_26; omega); rw [hk9]; simp [cntN])), rfl⟩
    · refine g_tableIn2 (pc := 26) F dX1_counts_26 hx_26 (by decide) (by decide) (tgt := 100) rfl rfl ?_
      refine g_bipush (pc := 100) F dX1_counts_100 (v := nI 20) rfl ?_
      refine g_iload (pc := 102) F dX1_counts_102 rfl ?_
      refine g_mmaxM (pc := 104) F dX1_counts_104 km_X1_7 (by decide) (Nat.le_of_ble_eq_true rfl) (by decide) (by decide) ?_
      refine g_istore (pc := 107) F dX1_counts_107 (by decide) ?_
      refine g_goto (pc := 109) F dX1_counts_109 (tgt := 141) rfl ?_
      refine g_iload_n (pc := 141) F dX1_counts_141 rfl ?_
      refine g_iload (pc := 142) F dX1_counts_142 rfl ?_
      refine g_mminM (pc := 144) F dX1_counts_144 km_X1_13 (by decide) (Nat.le_of_ble_eq_true rfl) (by decide) (by decide) ?_
      exact g_iret (pc := 147) F X0 dX1_counts_147 (Nat.le_of_ble_eq_true rfl) (Nat.le_of_ble_eq_true rfl) rfl ⟨congrArg (fun z => some (Value.int z)) (by (first | rw [mx_nI (by omega) (by omega)] | skip); rw [mn_nI (by omega) (by omega)]; refine congrArg nI ?_; first | (have hk9 := kc_q hk (by omega) hx_26; rw [hk9]; (first | rw [if_pos c_115] | rw [if_neg c_115] | skip); simp [cntN] <;> omega) | (have hk9 : k = 0 := (by rw [nI_toInt (by omega)] at ho_26; omega); rw [hk9]; simp [cntN])), rfl⟩
    · refine g_tableIn2 (pc := 26) F dX1_counts_26 hx_26 (by decide) (by decide) (tgt := 112) rfl rfl ?_
      refine g_iload_n (pc := 112) F dX1_counts_112 rfl ?_
      refine g_iconst (pc := 113) F dX1_counts_113 (v := nI 2) rfl ?_
      refine g_irem (pc := 114) F dX1_counts_114 (by decide) ?_
      refine g_if_ne (pc := 115) F dX1_counts_115 (tgt := 123) rfl (fun c_115 => ?_) (fun c_115 => ?_)
      · refine g_iconst (pc := 123) F dX1_counts_123 (v := nI 0) rfl ?_
        refine g_istore (pc := 124) F dX1_counts_124 (by decide) ?_
        refine g_goto (pc := 126) F dX1_counts_126 (tgt := 141) rfl ?_
        refine g_iload_n (pc := 141) F dX1_counts_141 rfl ?_
        refine g_iload (pc := 142) F dX1_counts_142 rfl ?_
        refine g_mminM (pc := 144) F dX1_counts_144 km_X1_13 (by decide) (Nat.le_of_ble_eq_true rfl) (by decide) (by decide) ?_
        exact g_iret (pc := 147) F X0 dX1_counts_147 (Nat.le_of_ble_eq_true rfl) (Nat.le_of_ble_eq_true rfl) rfl ⟨congrArg (fun z => some (Value.int z)) (by (first | rw [mx_nI (by omega) (by omega)] | skip); rw [mn_nI (by omega) (by omega)]; refine congrArg nI ?_; first | (have hk9 := kc_q hk (by omega) hx_26; rw [hk9]; (first | rw [if_pos c_115] | rw [if_neg c_115] | skip); simp [cntN] <;> omega) | (have hk9 : k = 0 := (by rw [nI_toInt (by omega)] at ho_26; omega); rw [hk9]; simp [cntN])), rfl⟩
      · refine g_iload (pc := 118) F dX1_counts_118 rfl ?_
        refine g_goto (pc := 120) F dX1_counts_120 (tgt := 124) rfl ?_
        refine g_istore (pc := 124) F dX1_counts_124 (by decide) ?_
        refine g_goto (pc := 126) F dX1_counts_126 (tgt := 141) rfl ?_
        refine g_iload_n (pc := 141) F dX1_counts_141 rfl ?_
        refine g_iload (pc := 142) F dX1_counts_142 rfl ?_
        refine g_mminM (pc := 144) F dX1_counts_144 km_X1_13 (by decide) (Nat.le_of_ble_eq_true rfl) (by decide) (by decide) ?_
        exact g_iret (pc := 147) F X0 dX1_counts_147 (Nat.le_of_ble_eq_true rfl) (Nat.le_of_ble_eq_true rfl) rfl ⟨congrArg (fun z => some (Value.int z)) (by (first | rw [mx_nI (by omega) (by omega)] | skip); rw [mn_nI (by omega) (by omega)]; refine congrArg nI ?_; first | (have hk9 := kc_q hk (by omega) hx_26; rw [hk9]; (first | rw [if_pos c_115] | rw [if_neg c_115] | skip); simp [cntN] <;> omega) | (have hk9 : k = 0 := (by rw [nI_toInt (by omega)] at ho_26; omega); rw [hk9]; simp [cntN])), rfl⟩
    · refine g_tableIn2 (pc := 26) F dX1_counts_26 hx_26 (by decide) (by decide) (tgt := 129) rfl rfl ?_
      refine g_iload_n (pc := 129) F dX1_counts_129 rfl ?_
      refine g_iconst (pc := 130) F dX1_counts_130 (v := nI 1) rfl ?_
      refine g_iaddN (pc := 131) F dX1_counts_131 ?_
      refine g_istore (pc := 132) F dX1_counts_132 (by decide) ?_
      refine g_goto (pc := 134) F dX1_counts_134 (tgt := 141) rfl ?_
      refine g_iload_n (pc := 141) F dX1_counts_141 rfl ?_
      refine g_iload (pc := 142) F dX1_counts_142 rfl ?_
      refine g_mminM (pc := 144) F dX1_counts_144 km_X1_13 (by decide) (Nat.le_of_ble_eq_true rfl) (by decide) (by decide) ?_
      exact g_iret (pc := 147) F X0 dX1_counts_147 (Nat.le_of_ble_eq_true rfl) (Nat.le_of_ble_eq_true rfl) rfl ⟨congrArg (fun z => some (Value.int z)) (by (first | rw [mx_nI (by omega) (by omega)] | skip); rw [mn_nI (by omega) (by omega)]; refine congrArg nI ?_; first | (have hk9 := kc_q hk (by omega) hx_26; rw [hk9]; (first | rw [if_pos c_115] | rw [if_neg c_115] | skip); simp [cntN] <;> omega) | (have hk9 : k = 0 := (by rw [nI_toInt (by omega)] at ho_26; omega); rw [hk9]; simp [cntN])), rfl⟩
  · refine g_tableOut (pc := 26) F dX1_counts_26 ho_26 (tgt := 137) rfl ?_
    refine g_iload (pc := 137) F dX1_counts_137 rfl ?_
    refine g_istore (pc := 139) F dX1_counts_139 (by decide) ?_
    refine g_iload_n (pc := 141) F dX1_counts_141 rfl ?_
    refine g_iload (pc := 142) F dX1_counts_142 rfl ?_
    refine g_mminM (pc := 144) F dX1_counts_144 km_X1_13 (by decide) (Nat.le_of_ble_eq_true rfl) (by decide) (by decide) ?_
    exact g_iret (pc := 147) F X0 dX1_counts_147 (Nat.le_of_ble_eq_true rfl) (Nat.le_of_ble_eq_true rfl) rfl ⟨congrArg (fun z => some (Value.int z)) (by (first | rw [mx_nI (by omega) (by omega)] | skip); rw [mn_nI (by omega) (by omega)]; refine congrArg nI ?_; first | (have hk9 := kc_q hk (by omega) hx_26; rw [hk9]; (first | rw [if_pos c_115] | rw [if_neg c_115] | skip); simp [cntN] <;> omega) | (have hk9 : k = 0 := (by rw [nI_toInt (by omega)] at ho_26; omega); rw [hk9]; simp [cntN])), rfl⟩

theorem c_kcounts (x y z on : Int32) (hx : ∃ k, k < 8 ∧ x = nI k) (hy : ∃ f, f < 10 ∧ y = nI f) (hz : ∃ u, u ≤ 999 ∧ z = nI u) : RCtr yX1_counts cX1_counts 9 (some .int) 1 [.int x, .int y, .int z, .int on] [] (.int (cnt x y z on)) := by
  obtain ⟨k, hk, rfl⟩ := hx
  obtain ⟨f, hf, rfl⟩ := hy
  obtain ⟨u, hu, rfl⟩ := hz
  rw [cnt_nI on hk hf hu]
  exact c_kcountsN k f u on hk hf hu
theorem nI_le0 {c : Nat} (hc : c < 2 ^ 31) (h : nI c ≤ 0) : c = 0 := by
  have h2 : nI c ≤ nI 0 := h
  have := (nI_leI hc (by decide)).mp h2
  omega
theorem kb_sleep {c : Nat} (hc : c ≤ 999) : mx (nI 0) (nI c - nI 1) = nI (if 0 < c then c - 1 else 0) := by
  by_cases h : 0 < c
  · rw [pk_sub h, mx_nI (by omega) (by omega), if_pos h]
    exact congrArg nI (by omega)
  · have : c = 0 := by omega
    subst this
    decide
set_option maxRecDepth 100000 in
set_option maxHeartbeats 4000000 in
theorem c_kbooksN (k f c : Nat) (hk : k < 8) (hf : f < 10) (hc : c ≤ 999) : RCtr yX1_books cX1_books 3 (some .int) 1 [.int (nI k), .int (nI f), .int (nI c)] ([]) (.int (nI (bksN k f c))) := by
  refine Ctr.of rfl (Nat.le_of_ble_eq_true rfl) ⟨clS_of rfl, clH_of rfl⟩ (fun K F X0 => ?_)
  show Go K 0 0 0 [(0, .int (nI k)), (1, .int (nI f)), (2, .int (nI c))] [] ([])
  refine g_iload_n (pc := 0) F dX1_books_0 rfl ?_
  rcases sw_cases 2 6 (nI k) (by decide) with ⟨j_1, j1_1, j2_1, hx_1⟩ | ho_1
  · rcases (show j_1 = 2 ∨ j_1 = 3 ∨ j_1 = 4 ∨ j_1 = 5 ∨ j_1 = 6 by omega) with rfl | rfl | rfl | rfl | rfl
    · refine g_tableIn2 (pc := 1) F dX1_books_1 hx_1 (by decide) (by decide) (tgt := 36) rfl rfl ?_
      refine g_iload_n (pc := 36) F dX1_books_36 rfl ?_
      refine g_if_le (pc := 37) F dX1_books_37 (tgt := 46) rfl (fun c_37 => ?_) (fun c_37 => ?_)
      · refine g_iconst (pc := 46) F dX1_books_46 (v := nI 0) rfl ?_
        exact g_iret (pc := 47) F X0 dX1_books_47 (Nat.le_of_ble_eq_true rfl) (Nat.le_of_ble_eq_true rfl) rfl ⟨congrArg (fun z => some (Value.int z)) (by first | (have hk9 := kc_q hk (by omega) hx_1; rw [hk9]; first | (have h0 : 0 < c := (nI_gt0 (by omega)).mp (Int32.not_le.mp c_37); refine congrArg nI ?_; simp [bksN, h0]) | (have h0 : c = 0 := nI_le0 (by omega) c_37; rw [h0]; rfl) | (rw [kb_sleep hc]; rfl) | rfl) | (have hk9 : k ≤ 1 ∨ 7 ≤ k := (by rw [nI_toInt (by omega)] at ho_1; omega); refine congrArg nI ?_; unfold bksN; rw [if_neg (by omega), if_neg (by omega), if_neg (by omega)])), rfl⟩
      · refine g_iload_n (pc := 40) F dX1_books_40 rfl ?_
        refine g_iload_n (pc := 41) F dX1_books_41 rfl ?_
        refine g_iaddN (pc := 42) F dX1_books_42 ?_
        refine g_goto (pc := 43) F dX1_books_43 (tgt := 47) rfl ?_
        exact g_iret (pc := 47) F X0 dX1_books_47 (Nat.le_of_ble_eq_true rfl) (Nat.le_of_ble_eq_true rfl) rfl ⟨congrArg (fun z => some (Value.int z)) (by first | (have hk9 := kc_q hk (by omega) hx_1; rw [hk9]; first | (have h0 : 0 < c := (nI_gt0 (by omega)).mp (Int32.not_le.mp c_37); refine congrArg nI ?_; simp [bksN, h0]) | (have h0 : c = 0 := nI_le0 (by omega) c_37; rw [h0]; rfl) | (rw [kb_sleep hc]; rfl) | rfl) | (have hk9 : k ≤ 1 ∨ 7 ≤ k := (by rw [nI_toInt (by omega)] at ho_1; omega); refine congrArg nI ?_; unfold bksN; rw [if_neg (by omega), if_neg (by omega), if_neg (by omega)])), rfl⟩
    · refine g_tableIn2 (pc := 1) F dX1_books_1 hx_1 (by decide) (by decide) (tgt := 60) rfl rfl ?_
      refine g_iload_n (pc := 60) F dX1_books_60 rfl ?_
      exact g_iret (pc := 61) F X0 dX1_books_61 (Nat.le_of_ble_eq_true rfl) (Nat.le_of_ble_eq_true rfl) rfl ⟨congrArg (fun z => some (Value.int z)) (by first | (have hk9 := kc_q hk (by omega) hx_1; rw [hk9]; first | (have h0 : 0 < c := (nI_gt0 (by omega)).mp (Int32.not_le.mp c_37); refine congrArg nI ?_; simp [bksN, h0]) | (have h0 : c = 0 := nI_le0 (by omega) c_37; rw [h0]; rfl) | (rw [kb_sleep hc]; rfl) | rfl) | (have hk9 : k ≤ 1 ∨ 7 ≤ k := (by rw [nI_toInt (by omega)] at ho_1; omega); refine congrArg nI ?_; unfold bksN; rw [if_neg (by omega), if_neg (by omega), if_neg (by omega)])), rfl⟩
    · refine g_tableIn2 (pc := 1) F dX1_books_1 hx_1 (by decide) (by decide) (tgt := 60) rfl rfl ?_
      refine g_iload_n (pc := 60) F dX1_books_60 rfl ?_
      exact g_iret (pc := 61) F X0 dX1_books_61 (Nat.le_of_ble_eq_true rfl) (Nat.le_of_ble_eq_true rfl) rfl ⟨congrArg (fun z => some (Value.int z)) (by first | (have hk9 := kc_q hk (by omega) hx_1; rw [hk9]; first | (have h0 : 0 < c := (nI_gt0 (by omega)).mp (Int32.not_le.mp c_37); refine congrArg nI ?_; simp [bksN, h0]) | (have h0 : c = 0 := nI_le0 (by omega) c_37; rw [h0]; rfl) | (rw [kb_sleep hc]; rfl) | rfl) | (have hk9 : k ≤ 1 ∨ 7 ≤ k := (by rw [nI_toInt (by omega)] at ho_1; omega); refine congrArg nI ?_; unfold bksN; rw [if_neg (by omega), if_neg (by omega), if_neg (by omega)])), rfl⟩
    · refine g_tableIn2 (pc := 1) F dX1_books_1 hx_1 (by decide) (by decide) (tgt := 48) rfl rfl ?_
      refine g_iconst (pc := 48) F dX1_books_48 (v := nI 2) rfl ?_
      refine g_iload_n (pc := 49) F dX1_books_49 rfl ?_
      refine g_imulN (pc := 50) F dX1_books_50 ?_
      exact g_iret (pc := 51) F X0 dX1_books_51 (Nat.le_of_ble_eq_true rfl) (Nat.le_of_ble_eq_true rfl) rfl ⟨congrArg (fun z => some (Value.int z)) (by first | (have hk9 := kc_q hk (by omega) hx_1; rw [hk9]; first | (have h0 : 0 < c := (nI_gt0 (by omega)).mp (Int32.not_le.mp c_37); refine congrArg nI ?_; simp [bksN, h0]) | (have h0 : c = 0 := nI_le0 (by omega) c_37; rw [h0]; rfl) | (rw [kb_sleep hc]; rfl) | rfl) | (have hk9 : k ≤ 1 ∨ 7 ≤ k := (by rw [nI_toInt (by omega)] at ho_1; omega); refine congrArg nI ?_; unfold bksN; rw [if_neg (by omega), if_neg (by omega), if_neg (by omega)])), rfl⟩
    · refine g_tableIn2 (pc := 1) F dX1_books_1 hx_1 (by decide) (by decide) (tgt := 52) rfl rfl ?_
      refine g_iconst (pc := 52) F dX1_books_52 (v := nI 0) rfl ?_
      refine g_iload_n (pc := 53) F dX1_books_53 rfl ?_
      refine g_iconst (pc := 54) F dX1_books_54 (v := nI 1) rfl ?_
      refine g_isub (pc := 55) F dX1_books_55 ?_
      refine g_mmaxM (pc := 56) F dX1_books_56 km_X1_7 (by decide) (Nat.le_of_ble_eq_true rfl) (by decide) (by decide) ?_
      exact g_iret (pc := 59) F X0 dX1_books_59 (Nat.le_of_ble_eq_true rfl) (Nat.le_of_ble_eq_true rfl) rfl ⟨congrArg (fun z => some (Value.int z)) (by first | (have hk9 := kc_q hk (by omega) hx_1; rw [hk9]; first | (have h0 : 0 < c := (nI_gt0 (by omega)).mp (Int32.not_le.mp c_37); refine congrArg nI ?_; simp [bksN, h0]) | (have h0 : c = 0 := nI_le0 (by omega) c_37; rw [h0]; rfl) | (rw [kb_sleep hc]; rfl) | rfl) | (have hk9 : k ≤ 1 ∨ 7 ≤ k := (by rw [nI_toInt (by omega)] at ho_1; omega); refine congrArg nI ?_; unfold bksN; rw [if_neg (by omega), if_neg (by omega), if_neg (by omega)])), rfl⟩
  · refine g_tableOut (pc := 1) F dX1_books_1 ho_1 (tgt := 60) rfl ?_
    refine g_iload_n (pc := 60) F dX1_books_60 rfl ?_
    exact g_iret (pc := 61) F X0 dX1_books_61 (Nat.le_of_ble_eq_true rfl) (Nat.le_of_ble_eq_true rfl) rfl ⟨congrArg (fun z => some (Value.int z)) (by first | (have hk9 := kc_q hk (by omega) hx_1; rw [hk9]; first | (have h0 : 0 < c := (nI_gt0 (by omega)).mp (Int32.not_le.mp c_37); refine congrArg nI ?_; simp [bksN, h0]) | (have h0 : c = 0 := nI_le0 (by omega) c_37; rw [h0]; rfl) | (rw [kb_sleep hc]; rfl) | rfl) | (have hk9 : k ≤ 1 ∨ 7 ≤ k := (by rw [nI_toInt (by omega)] at ho_1; omega); refine congrArg nI ?_; unfold bksN; rw [if_neg (by omega), if_neg (by omega), if_neg (by omega)])), rfl⟩

theorem c_kbooks (x y z : Int32) (hx : ∃ k, k < 8 ∧ x = nI k) (hy : ∃ f, f < 10 ∧ y = nI f) (hz : ∃ u, u ≤ 999 ∧ z = nI u) : RCtr yX1_books cX1_books 3 (some .int) 1 [.int x, .int y, .int z] [] (.int (bks x y z)) := by
  obtain ⟨k, hk, rfl⟩ := hx
  obtain ⟨f, hf, rfl⟩ := hy
  obtain ⟨u, hu, rfl⟩ := hz
  rw [bks_nI hk hf hu]
  exact c_kbooksN k f u hk hf hu
set_option maxRecDepth 100000 in
set_option maxHeartbeats 4000000 in
theorem c_leftIn (X : DX) (x : Int32) (d : Nat) (hx : x = nI d) (hd : d < 10) : RCtr yX0_leftIn cX0_leftIn 2 (some .int) 0 [.ref 0, .int x] (dW 0 X) (.int (dG X d - dD X d)) := by
  subst hx
  refine Ctr.of rfl (Nat.le_of_ble_eq_true rfl) ⟨clS_of rfl, clH_of rfl⟩ (fun K F X0 => ?_)
  show Go K 0 0 0 [(0, .ref 0), (1, .int (nI d))] [] (dW 0 X)
  refine g_aload_n (pc := 0) F dX0_leftIn_0 rfl ?_
  refine g_getf (pc := 1) F fl_X0_9 dX0_leftIn_1 rfl rfl ?_
  refine g_iload_n (pc := 4) F dX0_leftIn_4 rfl ?_
  refine g_iald2 (pc := 5) F dX0_leftIn_5 rfl rfl (by first | omega | (simp only [ix]; omega)) (by decide) ?_
  refine g_aload_n (pc := 6) F dX0_leftIn_6 rfl ?_
  refine g_getf (pc := 7) F fl_X0_15 dX0_leftIn_7 rfl rfl ?_
  refine g_iload_n (pc := 10) F dX0_leftIn_10 rfl ?_
  refine g_iald2 (pc := 11) F dX0_leftIn_11 rfl rfl (by first | omega | (simp only [ix]; omega)) (by decide) ?_
  refine g_isub (pc := 12) F dX0_leftIn_12 ?_
  exact g_iret (pc := 13) F X0 dX0_leftIn_13 (Nat.le_of_ble_eq_true rfl) (Nat.le_of_ble_eq_true rfl) rfl ⟨rfl, rfl⟩

set_option maxRecDepth 100000 in
set_option maxHeartbeats 4000000 in
theorem c_isDone (X : DX) (x : Int32) (d : Nat) (hx : x = nI d) (hd : d < 10) : RCtr yX0_isDone cX0_isDone 2 (some .boolean) 0 [.ref 0, .int x] (dW 0 X) (.int (bI (decide (dD X d = dG X d)))) := by
  subst hx
  refine Ctr.of rfl (Nat.le_of_ble_eq_true rfl) ⟨clS_of rfl, clH_of rfl⟩ (fun K F X0 => ?_)
  show Go K 0 0 0 [(0, .ref 0), (1, .int (nI d))] [] (dW 0 X)
  refine g_aload_n (pc := 0) F dX0_isDone_0 rfl ?_
  refine g_getf (pc := 1) F fl_X0_15 dX0_isDone_1 rfl rfl ?_
  refine g_iload_n (pc := 4) F dX0_isDone_4 rfl ?_
  refine g_iald2 (pc := 5) F dX0_isDone_5 rfl rfl (by first | omega | (simp only [ix]; omega)) (by decide) ?_
  refine g_aload_n (pc := 6) F dX0_isDone_6 rfl ?_
  refine g_getf (pc := 7) F fl_X0_9 dX0_isDone_7 rfl rfl ?_
  refine g_iload_n (pc := 10) F dX0_isDone_10 rfl ?_
  refine g_iald2 (pc := 11) F dX0_isDone_11 rfl rfl (by first | omega | (simp only [ix]; omega)) (by decide) ?_
  refine g_ic_ne (pc := 12) F dX0_isDone_12 (tgt := 19) rfl (fun c_12 => ?_) (fun c_12 => ?_)
  · refine g_iconst (pc := 19) F dX0_isDone_19 (v := nI 0) rfl ?_
    exact g_zret (pc := 20) F X0 dX0_isDone_20 (by first | exact bI_nar _ | rfl) (Nat.le_of_ble_eq_true rfl) (Nat.le_of_ble_eq_true rfl) rfl ⟨congrArg (fun z => some (Value.int z)) (by first | (rw [decide_eq_true c_12]; rfl) | (rw [decide_eq_false c_12]; rfl)), rfl⟩
  · refine g_iconst (pc := 15) F dX0_isDone_15 (v := nI 1) rfl ?_
    refine g_goto (pc := 16) F dX0_isDone_16 (tgt := 20) rfl ?_
    exact g_zret (pc := 20) F X0 dX0_isDone_20 (by first | exact bI_nar _ | rfl) (Nat.le_of_ble_eq_true rfl) (Nat.le_of_ble_eq_true rfl) rfl ⟨congrArg (fun z => some (Value.int z)) (by first | (rw [decide_eq_true c_12]; rfl) | (rw [decide_eq_false c_12]; rfl)), rfl⟩

set_option maxRecDepth 100000 in
set_option maxHeartbeats 4000000 in
theorem c_write (b : Int32) (X : DX) (r : Nat → Int32) (c : Nat) (v : Int32) (hR : Rel b X r) (hc : c < many r) (h6 : c < 6) : Ctr yX0_write cX0_write 3 none 1 0 0 [.ref 0, .int (nI c), .int v] (dW 0 X) (fun v2 h => v2 = none ∧ ∃ X2, h = dW 0 X2 ∧ Rel b X2 (wrR r c v)) := by
  refine Ctr.of rfl (Nat.le_of_ble_eq_true rfl) ⟨clS_of rfl, clH_of rfl⟩ (fun K F X0 => ?_)
  show Go K 0 0 0 [(0, .ref 0), (1, .int (nI c)), (2, .int v)] [] (dW 0 X)
  refine g_aload_n (pc := 0) F dX0_write_0 rfl ?_
  refine g_getf (pc := 1) F fl_X0_30 dX0_write_1 rfl rfl ?_
  refine g_iload_n (pc := 4) F dX0_write_4 rfl ?_
  refine g_sipush (pc := 5) F dX0_write_5 (v := nI 9999) rfl ?_
  refine g_aload_n (pc := 8) F dX0_write_8 rfl ?_
  refine g_getf (pc := 9) F fl_X0_30 dX0_write_9 rfl rfl ?_
  refine g_iload_n (pc := 12) F dX0_write_12 rfl ?_
  refine g_iald2 (pc := 13) F dX0_write_13 rfl rfl (by first | omega | (simp only [ix]; omega)) (by decide) ?_
  refine g_iload_n (pc := 14) F dX0_write_14 rfl ?_
  refine g_iadd (pc := 15) F dX0_write_15 ?_
  refine g_mminM (pc := 16) F dX0_write_16 km_X0_111 (by decide) (Nat.le_of_ble_eq_true rfl) (by decide) (by decide) ?_
  refine g_iast2 (pc := 19) F dX0_write_19 rfl rfl (by first | omega | (simp only [ix]; omega)) (by decide) ?_
  exact g_vret (pc := 20) F X0 dX0_write_20 (Nat.le_of_ble_eq_true rfl) (Nat.le_of_ble_eq_true rfl) rfl ⟨rfl, sB X (upd (dB X) c (mn (nI 9999) (r (ix c 4) + v))), by rw [← (hR.2.2.2 c hc).2.2.2.2]; rfl, Rel_book hR⟩

theorem way_eq {x way : Int32} (h1 : x = nI 0 ∨ x = nI 1) (h2 : way = nI 0 ∨ way = nI 1) (h : ¬ x = way) : x = nI 1 - way := by
  rcases h1 with rfl | rfl <;> rcases h2 with rfl | rfl <;> first | rfl | exact absurd rfl h
theorem way_ne {x way : Int32} (h1 : x = nI 0 ∨ x = nI 1) (h2 : way = nI 0 ∨ way = nI 1) (h : x = nI 1 - way) (h3 : x = way) : False := by
  subst h3
  rcases h1 with rfl | rfl <;> exact absurd h (by decide)
set_option maxRecDepth 100000 in
set_option maxHeartbeats 4000000 in
theorem c_isBarred (b : Int32) (X : DX) (r : Nat → Int32) (d way : Int32) (hR : Rel b X r) (hI : Iv r) (hw : way = nI 0 ∨ way = nI 1) : RCtr yX0_isBarred cX0_isBarred 4 (some .boolean) 0 [.ref 0, .int d, .int way] (dW 0 X) (.int (bI (stoodR r d (nI 1 - way)))) := by
  refine Ctr.of rfl (Nat.le_of_ble_eq_true rfl) ⟨clS_of rfl, clH_of rfl⟩ (fun K F X0 => ?_)
  have hm6 := hI.1.2
  have L : ∀ i, i ≤ many r → (∀ j, j < i → decide (r (ix j 2) = d ∧ r (ix j 3) = nI 1 - way) = false) → Go K 0 0 2 [(0, .ref 0), (1, .int d), (2, .int way), (3, .int (nI i))] [] (dW 0 X) := loop_up (P := fun i => (∀ j, j < i → decide (r (ix j 2) = d ∧ r (ix j 3) = nI 1 - way) = false) → Go K 0 0 2 [(0, .ref 0), (1, .int d), (2, .int way), (3, .int (nI i))] [] (dW 0 X)) (fun i hi ih => by
    intro hno
    refine g_iload_n (pc := 2) F dX0_isBarred_2 rfl ?_
    refine g_aload_n (pc := 3) F dX0_isBarred_3 rfl ?_
    refine g_getf (pc := 4) F fl_X0_33 dX0_isBarred_4 rfl rfl ?_
    refine g_icN_ge (pc := 7) F dX0_isBarred_7 (tgt := 38) rfl rfl (hR.1.1.trans hI.1.1) (by omega) (by omega) (fun c_7 => ?_) (fun c_7 => ?_)
    · have hi9 : i = many r := by omega
      subst hi9
      refine g_iconst (pc := 38) F dX0_isBarred_38 (v := nI 0) rfl ?_
      exact g_zret (pc := 39) F X0 dX0_isBarred_39 (by first | exact bI_nar _ | rfl) (Nat.le_of_ble_eq_true rfl) (Nat.le_of_ble_eq_true rfl) rfl ⟨congrArg (fun z => some (Value.int z)) (by unfold stoodR; first | rw [anyN_f hno]; rfl | rw [anyN_t c_7 (decide_eq_true ⟨ea.symm.trans c_17, way_eq hy3 hw (fun h => c_27 (ey.trans h))⟩)]; rfl), rfl⟩
    · obtain ⟨-, -, -, hy3, -⟩ := hI.2.2.1 i c_7
      obtain ⟨-, -, ea, ey, -⟩ := hR.2.2.2 i c_7
      refine g_aload_n (pc := 10) F dX0_isBarred_10 rfl ?_
      refine g_getf (pc := 11) F fl_X0_24 dX0_isBarred_11 rfl rfl ?_
      refine g_iload_n (pc := 14) F dX0_isBarred_14 rfl ?_
      refine g_iald2 (pc := 15) F dX0_isBarred_15 rfl rfl (by first | omega | (simp only [ix]; omega)) (by decide) ?_
      refine g_iload_n (pc := 16) F dX0_isBarred_16 rfl ?_
      refine g_ic_ne (pc := 17) F dX0_isBarred_17 (tgt := 32) rfl (fun c_17 => ?_) (fun c_17 => ?_)
      · refine g_iincN (pc := 32) F dX0_isBarred_32 rfl (by decide) ?_
        refine g_goto (pc := 35) F dX0_isBarred_35 (tgt := 2) rfl ?_
        exact ih c_7 (fun j hj => (Nat.lt_succ_iff_lt_or_eq.mp hj).elim (hno j) (fun e => by subst e; exact decide_eq_false (fun h => by first | exact c_17 (ea.trans h.1) | exact way_ne hy3 hw h.2 (ey.symm.trans c_27))))
      · refine g_aload_n (pc := 20) F dX0_isBarred_20 rfl ?_
        refine g_getf (pc := 21) F fl_X0_27 dX0_isBarred_21 rfl rfl ?_
        refine g_iload_n (pc := 24) F dX0_isBarred_24 rfl ?_
        refine g_iald2 (pc := 25) F dX0_isBarred_25 rfl rfl (by first | omega | (simp only [ix]; omega)) (by decide) ?_
        refine g_iload_n (pc := 26) F dX0_isBarred_26 rfl ?_
        refine g_ic_eq (pc := 27) F dX0_isBarred_27 (tgt := 32) rfl (fun c_27 => ?_) (fun c_27 => ?_)
        · refine g_iincN (pc := 32) F dX0_isBarred_32 rfl (by decide) ?_
          refine g_goto (pc := 35) F dX0_isBarred_35 (tgt := 2) rfl ?_
          exact ih c_7 (fun j hj => (Nat.lt_succ_iff_lt_or_eq.mp hj).elim (hno j) (fun e => by subst e; exact decide_eq_false (fun h => by first | exact c_17 (ea.trans h.1) | exact way_ne hy3 hw h.2 (ey.symm.trans c_27))))
        · refine g_iconst (pc := 30) F dX0_isBarred_30 (v := nI 1) rfl ?_
          exact g_zret (pc := 31) F X0 dX0_isBarred_31 (by first | exact bI_nar _ | rfl) (Nat.le_of_ble_eq_true rfl) (Nat.le_of_ble_eq_true rfl) rfl ⟨congrArg (fun z => some (Value.int z)) (by unfold stoodR; first | rw [anyN_f hno]; rfl | rw [anyN_t c_7 (decide_eq_true ⟨ea.symm.trans c_17, way_eq hy3 hw (fun h => c_27 (ey.trans h))⟩)]; rfl), rfl⟩)
  show Go K 0 0 0 [(0, .ref 0), (1, .int d), (2, .int way)] [] (dW 0 X)
  refine g_iconst (pc := 0) F dX0_isBarred_0 (v := nI 0) rfl ?_
  refine g_istore_n (pc := 1) F dX0_isBarred_1 (by decide) ?_
  exact L 0 (Nat.zero_le _) (fun j hj => absurd hj (Nat.not_lt_zero j))

def workE (r : Nat → Int32) (c : Nat) : Nat → Int32 := if lf (workB r c (atN r c) (cntR r c (r 1))) (atN r c) = 0 then goesR (workB r c (atN r c) (cntR r c (r 1))) c else workB r c (atN r c) (cntR r c (r 1))
theorem to_eq {a : Nat} {x y : Int32} (hx : x = nI 0 ∨ x = nI 1) (hy : y = nI a) : (x = 0 → nI a + nI 1 = y + nI 1 - nI 2 * x) ∧ (¬ x = 0 → nI a - nI 1 = y + nI 1 - nI 2 * x) := by
  subst hy
  rcases hx with rfl | rfl
  · exact ⟨fun _ => (Int32.sub_zero _).symm, fun h => absurd rfl h⟩
  · refine ⟨fun h => absurd h (by decide), fun _ => ?_⟩
    show nI a - nI 1 = nI a + nI 1 - nI 2
    rw [nI_add]
    cases a with
    | zero => decide
    | succ a => rw [pk_sub (by omega), pk_sub (by omega)]; exact congrArg nI (by omega)
theorem sub_0 {x y : Int32} : y = x ↔ x - y = 0 := by
  rw [Int32.sub_eq_iff_eq_add, Int32.zero_add]
  exact eq_comm
set_option maxRecDepth 100000 in
set_option maxHeartbeats 4000000 in
theorem c_work (b : Int32) (X : DX) (r : Nat → Int32) (c : Nat) (hR : Rel b X r) (hI : Iv r) (hc : c < many r) : Ctr yX0_work cX0_work 5 none 3 0 0 [.ref 0, .int (nI c)] (dW 0 X) (fun v2 h => v2 = none ∧ ∃ X2, h = dW 0 X2 ∧ Rel b X2 (workE r c)) := by
  have hc6 : c < 6 := by have := hI.1.2; omega
  obtain ⟨ek1, ef1, ⟨ea, ha⟩, ey1, -, -⟩ := hI.2.2.1 c hc
  obtain ⟨ek, ef, eA, eY, eB⟩ := hR.2.2.2 c hc
  obtain ⟨eG, eD⟩ := hR.2.2.1 _ ha
  obtain ⟨el, hl, -⟩ := Iv_lf hI ha
  obtain ⟨v, hv, ev, -⟩ := cntR_ok (r 1) hI hc
  have eL : dG X (atN r c) - dD X (atN r c) = lf r (atN r c) := by rw [eG, eD]; rfl
  have eV : cnt (dK X c) (dF X c) (lf r (atN r c)) (dDy X) = cntR r c (r 1) := by rw [ek, ef, hR.1.2.1]; rfl
  have eb : bks (dK X c) (dF X c) (cntR r c (r 1)) = bks ((upd r (15 + atN r c) (r (15 + atN r c) + cntR r c (r 1))) (ix c 0)) ((upd r (15 + atN r c) (r (15 + atN r c) + cntR r c (r 1))) (ix c 1)) (cntR r c (r 1)) := by
    rw [upd_ne _ (by simp only [ix]; omega), upd_ne _ (by simp only [ix]; omega), ek, ef]
  have hI2 := Iv_workB (r 1) hI hc
  have hR1 : Rel b (sD X (upd (dD X) (atN r c) (r (15 + atN r c) + cntR r c (r 1)))) (upd r (15 + atN r c) (r (15 + atN r c) + cntR r c (r 1))) := Rel_done hR ha
  have hc2 : c < many (upd r (15 + atN r c) (r (15 + atN r c) + cntR r c (r 1))) := by rw [many_upd (by omega)]; exact hc
  refine Ctr.of rfl (Nat.le_of_ble_eq_true rfl) ⟨clS_of rfl, clH_of rfl⟩ (fun K F X0 => ?_)
  show Go K 0 0 0 [(0, .ref 0), (1, .int (nI c))] [] (dW 0 X)
  refine g_aload_n (pc := 0) F dX0_work_0 rfl ?_
  refine g_getf (pc := 1) F fl_X0_24 dX0_work_1 rfl rfl ?_
  refine g_iload_n (pc := 4) F dX0_work_4 rfl ?_
  refine g_iald2 (pc := 5) F dX0_work_5 rfl rfl (by first | omega | (simp only [ix]; omega)) (by decide) ?_
  rw [eA, ea]
  refine g_istore_n (pc := 6) F dX0_work_6 (by decide) ?_
  refine g_aload_n (pc := 7) F dX0_work_7 rfl ?_
  refine g_getf (pc := 8) F fl_X0_18 dX0_work_8 rfl rfl ?_
  refine g_iload_n (pc := 11) F dX0_work_11 rfl ?_
  refine g_iald2 (pc := 12) F dX0_work_12 rfl rfl (by first | omega | (simp only [ix]; omega)) (by decide) ?_
  refine g_aload_n (pc := 13) F dX0_work_13 rfl ?_
  refine g_getf (pc := 14) F fl_X0_21 dX0_work_14 rfl rfl ?_
  refine g_iload_n (pc := 17) F dX0_work_17 rfl ?_
  refine g_iald2 (pc := 18) F dX0_work_18 rfl rfl (by first | omega | (simp only [ix]; omega)) (by decide) ?_
  refine g_aload_n (pc := 19) F dX0_work_19 rfl ?_
  refine g_iload_n (pc := 20) F dX0_work_20 rfl ?_
  refine h_readV (pc := 21) F (c_leftIn X _ (atN r c) rfl ha) mi_X0_leftIn kv_X0_91 rfl rfl dX0_work_21 [0, 1, 2, 3, 4, 5, 6, 7] rfl (by decide) (by decide) rfl rfl (Nat.le_of_ble_eq_true rfl) trivial (by decide) (by decide) ?_
  rw [eL]
  refine g_aload_n (pc := 24) F dX0_work_24 rfl ?_
  refine g_getf (pc := 25) F fl_X0_46 dX0_work_25 rfl rfl ?_
  refine h_readS (pc := 28) F (c_kcounts _ _ _ _ (by rw [ek]; exact ek1) (by rw [ef]; exact ef1) ⟨_, hl, el⟩) mi_X1_counts ks_X0_95 dX0_work_28 [] rfl (by decide) (by decide) rfl rfl (Nat.le_of_ble_eq_true rfl) trivial (by decide) (by decide) ?_
  rw [eV]
  refine g_istore_n (pc := 31) F dX0_work_31 (by decide) ?_
  refine g_aload_n (pc := 32) F dX0_work_32 rfl ?_
  refine g_getf (pc := 33) F fl_X0_15 dX0_work_33 rfl rfl ?_
  refine g_iload_n (pc := 36) F dX0_work_36 rfl ?_
  refine g_dup2 (pc := 37) F dX0_work_37 rfl rfl ?_
  refine g_iald2 (pc := 38) F dX0_work_38 rfl rfl ha (by decide) ?_
  rw [eD]
  refine g_iload_n (pc := 39) F dX0_work_39 rfl ?_
  refine g_iadd (pc := 40) F dX0_work_40 ?_
  refine g_iast2 (pc := 41) F dX0_work_41 rfl rfl ha (by decide) ?_
  refine g_aload_n (pc := 42) F dX0_work_42 rfl ?_
  refine g_iload_n (pc := 43) F dX0_work_43 rfl ?_
  refine g_aload_n (pc := 44) F dX0_work_44 rfl ?_
  refine g_getf (pc := 45) F fl_X0_18 dX0_work_45 rfl rfl ?_
  refine g_iload_n (pc := 48) F dX0_work_48 rfl ?_
  refine g_iald2 (pc := 49) F dX0_work_49 rfl rfl (by first | omega | (simp only [ix]; omega)) (by decide) ?_
  refine g_aload_n (pc := 50) F dX0_work_50 rfl ?_
  refine g_getf (pc := 51) F fl_X0_21 dX0_work_51 rfl rfl ?_
  refine g_iload_n (pc := 54) F dX0_work_54 rfl ?_
  refine g_iald2 (pc := 55) F dX0_work_55 rfl rfl (by first | omega | (simp only [ix]; omega)) (by decide) ?_
  refine g_iload_n (pc := 56) F dX0_work_56 rfl ?_
  refine h_readS (pc := 57) F (c_kbooks _ _ _ (by rw [ek]; exact ek1) (by rw [ef]; exact ef1) ⟨v, by omega, ev⟩) mi_X1_books ks_X0_101 dX0_work_57 [] rfl (by decide) (by decide) rfl rfl (Nat.le_of_ble_eq_true rfl) trivial (by decide) (by decide) ?_
  rw [eb]
  refine h_callV (pc := 60) F (c_write b (sD X (upd (dD X) (atN r c) (r (15 + atN r c) + cntR r c (r 1)))) (upd r (15 + atN r c) (r (15 + atN r c) + cntR r c (r 1))) c _ hR1 hc2 hc6) mi_X0_write kv_X0_79 rfl rfl dX0_work_60 [0, 1, 2, 3, 4, 5, 6, 7] rfl (by decide) (by decide) rfl rfl (Nat.le_of_ble_eq_true rfl) (by decide) (by decide) ?_
  rintro _ _ ⟨rfl, X2, rfl, hR2⟩ -
  have hR2 : Rel b X2 (workB r c (atN r c) (cntR r c (r 1))) := hR2
  have hc3 : c < many (workB r c (atN r c) (cntR r c (r 1))) := by rw [many_of (workB_ne _ (by omega) (by omega) : (workB r c (atN r c) (cntR r c (r 1))) 0 = r 0)]; exact hc
  obtain ⟨-, -, eA2, eY2, -⟩ := hR2.2.2.2 c hc3
  obtain ⟨eG2, eD2⟩ := hR2.2.2.1 _ ha
  obtain ⟨-, -, -, ey2, -, -⟩ := hI2.2.2.1 c hc3
  have eD0 : lf (workB r c (atN r c) (cntR r c (r 1))) (atN r c) = 0 ↔ dD X2 (atN r c) = dG X2 (atN r c) := by rw [eD2, eG2]; exact sub_0.symm
  have eA3 : (workB r c (atN r c) (cntR r c (r 1))) (ix c 2) = nI (atN r c) := by rw [workB_ne _ (by simp only [ix]; omega) (by simp only [ix]; omega)]; exact ea
  refine g_aload_n (pc := 63) F dX0_work_63 rfl ?_
  refine g_getf (pc := 64) F fl_X0_27 dX0_work_64 rfl rfl ?_
  refine g_iload_n (pc := 67) F dX0_work_67 rfl ?_
  refine g_iald2 (pc := 68) F dX0_work_68 rfl rfl (by first | omega | (simp only [ix]; omega)) (by decide) ?_
  refine g_if_ne (pc := 69) F dX0_work_69 (tgt := 78) rfl (fun c_69 => ?_) (fun c_69 => ?_)
  · have eT := (to_eq (x := (workB r c (atN r c) (cntR r c (r 1))) (ix c 3)) ey2 eA3).2 (eY2 ▸ c_69)
    change _ = toR (workB r c (atN r c) (cntR r c (r 1))) c at eT
    refine g_iload_n (pc := 78) F dX0_work_78 rfl ?_
    refine g_iconst (pc := 79) F dX0_work_79 (v := nI 1) rfl ?_
    refine g_isub (pc := 80) F dX0_work_80 ?_
    rw [eT]
    refine g_istore (pc := 81) F dX0_work_81 (by decide) ?_
    refine g_aload_n (pc := 83) F dX0_work_83 rfl ?_
    refine g_iload_n (pc := 84) F dX0_work_84 rfl ?_
    refine h_readV (pc := 85) F (c_isDone X2 _ (atN r c) rfl ha) mi_X0_isDone kv_X0_68 rfl rfl dX0_work_85 [0, 1, 2, 3, 4, 5, 6, 7] rfl (by decide) (by decide) rfl rfl (Nat.le_of_ble_eq_true rfl) trivial (by decide) (by decide) ?_
    refine g_ifeq_d (pc := 88) F dX0_work_88 (tgt := 122) rfl (fun c_88 => ?_) (fun c_88 => ?_)
    · exact g_vret (pc := 122) F X0 dX0_work_122 (Nat.le_of_ble_eq_true rfl) (Nat.le_of_ble_eq_true rfl) rfl ⟨rfl, X2, rfl, (by unfold workE; first | (rw [if_neg (fun h => c_88 (eD0.mp h))]; exact hR2) | (rw [if_pos (eD0.mpr c_88)]; unfold goesR; rw [if_neg (fun h => c_96 h.1)]; exact hR2) | (rw [if_pos (eD0.mpr c_88)]; unfold goesR; rw [if_neg (fun h => Bool.noConfusion (c_111.symm.trans h.2))]; exact hR2))⟩
    · refine g_iload (pc := 91) F dX0_work_91 rfl ?_
      refine h_readSN (pc := 93) F (c_isDip _) mi_X4_isDip kn_X0_105 kn2_X0_105 dX0_work_93 [] rfl (by decide) (by decide) rfl rfl (Nat.le_of_ble_eq_true rfl) trivial (by decide) (by decide) ?_
      refine g_ifeq_d (pc := 96) F dX0_work_96 (tgt := 122) rfl (fun c_96 => ?_) (fun c_96 => ?_)
      · exact g_vret (pc := 122) F X0 dX0_work_122 (Nat.le_of_ble_eq_true rfl) (Nat.le_of_ble_eq_true rfl) rfl ⟨rfl, X2, rfl, (by unfold workE; first | (rw [if_neg (fun h => c_88 (eD0.mp h))]; exact hR2) | (rw [if_pos (eD0.mpr c_88)]; unfold goesR; rw [if_neg (fun h => c_96 h.1)]; exact hR2) | (rw [if_pos (eD0.mpr c_88)]; unfold goesR; rw [if_neg (fun h => Bool.noConfusion (c_111.symm.trans h.2))]; exact hR2))⟩
      · refine g_aload_n (pc := 99) F dX0_work_99 rfl ?_
        refine g_iload (pc := 100) F dX0_work_100 rfl ?_
        refine g_aload_n (pc := 102) F dX0_work_102 rfl ?_
        refine g_getf (pc := 103) F fl_X0_27 dX0_work_103 rfl rfl ?_
        refine g_iload_n (pc := 106) F dX0_work_106 rfl ?_
        refine g_iald2 (pc := 107) F dX0_work_107 rfl rfl (by first | omega | (simp only [ix]; omega)) (by decide) ?_
        refine h_readV (pc := 108) F (c_isBarred b X2 (workB r c (atN r c) (cntR r c (r 1))) _ _ hR2 hI2 (by rw [eY2]; exact ey2)) mi_X0_isBarred kv_X0_108 rfl rfl dX0_work_108 [0, 1, 2, 3, 4, 5, 6, 7] rfl (by decide) (by decide) rfl rfl (Nat.le_of_ble_eq_true rfl) trivial (by decide) (by decide) ?_
        rw [eY2]
        refine g_ifne_b (pc := 111) F dX0_work_111 (tgt := 122) rfl (fun c_111 => ?_) (fun c_111 => ?_)
        · exact g_vret (pc := 122) F X0 dX0_work_122 (Nat.le_of_ble_eq_true rfl) (Nat.le_of_ble_eq_true rfl) rfl ⟨rfl, X2, rfl, (by unfold workE; first | (rw [if_neg (fun h => c_88 (eD0.mp h))]; exact hR2) | (rw [if_pos (eD0.mpr c_88)]; unfold goesR; rw [if_neg (fun h => c_96 h.1)]; exact hR2) | (rw [if_pos (eD0.mpr c_88)]; unfold goesR; rw [if_neg (fun h => Bool.noConfusion (c_111.symm.trans h.2))]; exact hR2))⟩
        · refine g_aload_n (pc := 114) F dX0_work_114 rfl ?_
          refine g_getf (pc := 115) F fl_X0_24 dX0_work_115 rfl rfl ?_
          refine g_iload_n (pc := 118) F dX0_work_118 rfl ?_
          refine g_iload (pc := 119) F dX0_work_119 rfl ?_
          refine g_iast2 (pc := 121) F dX0_work_121 rfl rfl hc6 (by decide) ?_
          exact g_vret (pc := 122) F X0 dX0_work_122 (Nat.le_of_ble_eq_true rfl) (Nat.le_of_ble_eq_true rfl) rfl ⟨rfl, sA X2 (upd (dA X2) c (toR (workB r c (atN r c) (cntR r c (r 1))) c)), rfl, (by unfold workE; rw [if_pos (eD0.mpr c_88)]; unfold goesR; rw [if_pos ⟨c_96, c_111⟩]; exact Rel_at hR2)⟩
  · have eT := (to_eq (x := (workB r c (atN r c) (cntR r c (r 1))) (ix c 3)) ey2 eA3).1 (eY2 ▸ c_69)
    change _ = toR (workB r c (atN r c) (cntR r c (r 1))) c at eT
    refine g_iload_n (pc := 72) F dX0_work_72 rfl ?_
    refine g_iconst (pc := 73) F dX0_work_73 (v := nI 1) rfl ?_
    refine g_iadd (pc := 74) F dX0_work_74 ?_
    refine g_goto (pc := 75) F dX0_work_75 (tgt := 81) rfl ?_
    rw [eT]
    refine g_istore (pc := 81) F dX0_work_81 (by decide) ?_
    refine g_aload_n (pc := 83) F dX0_work_83 rfl ?_
    refine g_iload_n (pc := 84) F dX0_work_84 rfl ?_
    refine h_readV (pc := 85) F (c_isDone X2 _ (atN r c) rfl ha) mi_X0_isDone kv_X0_68 rfl rfl dX0_work_85 [0, 1, 2, 3, 4, 5, 6, 7] rfl (by decide) (by decide) rfl rfl (Nat.le_of_ble_eq_true rfl) trivial (by decide) (by decide) ?_
    refine g_ifeq_d (pc := 88) F dX0_work_88 (tgt := 122) rfl (fun c_88 => ?_) (fun c_88 => ?_)
    · exact g_vret (pc := 122) F X0 dX0_work_122 (Nat.le_of_ble_eq_true rfl) (Nat.le_of_ble_eq_true rfl) rfl ⟨rfl, X2, rfl, (by unfold workE; first | (rw [if_neg (fun h => c_88 (eD0.mp h))]; exact hR2) | (rw [if_pos (eD0.mpr c_88)]; unfold goesR; rw [if_neg (fun h => c_96 h.1)]; exact hR2) | (rw [if_pos (eD0.mpr c_88)]; unfold goesR; rw [if_neg (fun h => Bool.noConfusion (c_111.symm.trans h.2))]; exact hR2))⟩
    · refine g_iload (pc := 91) F dX0_work_91 rfl ?_
      refine h_readSN (pc := 93) F (c_isDip _) mi_X4_isDip kn_X0_105 kn2_X0_105 dX0_work_93 [] rfl (by decide) (by decide) rfl rfl (Nat.le_of_ble_eq_true rfl) trivial (by decide) (by decide) ?_
      refine g_ifeq_d (pc := 96) F dX0_work_96 (tgt := 122) rfl (fun c_96 => ?_) (fun c_96 => ?_)
      · exact g_vret (pc := 122) F X0 dX0_work_122 (Nat.le_of_ble_eq_true rfl) (Nat.le_of_ble_eq_true rfl) rfl ⟨rfl, X2, rfl, (by unfold workE; first | (rw [if_neg (fun h => c_88 (eD0.mp h))]; exact hR2) | (rw [if_pos (eD0.mpr c_88)]; unfold goesR; rw [if_neg (fun h => c_96 h.1)]; exact hR2) | (rw [if_pos (eD0.mpr c_88)]; unfold goesR; rw [if_neg (fun h => Bool.noConfusion (c_111.symm.trans h.2))]; exact hR2))⟩
      · refine g_aload_n (pc := 99) F dX0_work_99 rfl ?_
        refine g_iload (pc := 100) F dX0_work_100 rfl ?_
        refine g_aload_n (pc := 102) F dX0_work_102 rfl ?_
        refine g_getf (pc := 103) F fl_X0_27 dX0_work_103 rfl rfl ?_
        refine g_iload_n (pc := 106) F dX0_work_106 rfl ?_
        refine g_iald2 (pc := 107) F dX0_work_107 rfl rfl (by first | omega | (simp only [ix]; omega)) (by decide) ?_
        refine h_readV (pc := 108) F (c_isBarred b X2 (workB r c (atN r c) (cntR r c (r 1))) _ _ hR2 hI2 (by rw [eY2]; exact ey2)) mi_X0_isBarred kv_X0_108 rfl rfl dX0_work_108 [0, 1, 2, 3, 4, 5, 6, 7] rfl (by decide) (by decide) rfl rfl (Nat.le_of_ble_eq_true rfl) trivial (by decide) (by decide) ?_
        rw [eY2]
        refine g_ifne_b (pc := 111) F dX0_work_111 (tgt := 122) rfl (fun c_111 => ?_) (fun c_111 => ?_)
        · exact g_vret (pc := 122) F X0 dX0_work_122 (Nat.le_of_ble_eq_true rfl) (Nat.le_of_ble_eq_true rfl) rfl ⟨rfl, X2, rfl, (by unfold workE; first | (rw [if_neg (fun h => c_88 (eD0.mp h))]; exact hR2) | (rw [if_pos (eD0.mpr c_88)]; unfold goesR; rw [if_neg (fun h => c_96 h.1)]; exact hR2) | (rw [if_pos (eD0.mpr c_88)]; unfold goesR; rw [if_neg (fun h => Bool.noConfusion (c_111.symm.trans h.2))]; exact hR2))⟩
        · refine g_aload_n (pc := 114) F dX0_work_114 rfl ?_
          refine g_getf (pc := 115) F fl_X0_24 dX0_work_115 rfl rfl ?_
          refine g_iload_n (pc := 118) F dX0_work_118 rfl ?_
          refine g_iload (pc := 119) F dX0_work_119 rfl ?_
          refine g_iast2 (pc := 121) F dX0_work_121 rfl rfl hc6 (by decide) ?_
          exact g_vret (pc := 122) F X0 dX0_work_122 (Nat.le_of_ble_eq_true rfl) (Nat.le_of_ble_eq_true rfl) rfl ⟨rfl, sA X2 (upd (dA X2) c (toR (workB r c (atN r c) (cntR r c (r 1))) c)), rfl, (by unfold workE; rw [if_pos (eD0.mpr c_88)]; unfold goesR; rw [if_pos ⟨c_96, c_111⟩]; exact Rel_at hR2)⟩

