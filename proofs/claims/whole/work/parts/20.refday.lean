/-! the reference's static methods on one row -/
abbrev A1 (r : Nat → Int32) : Hp := [.inl (.int, 61, .inl r)]
theorem cnt_1 (f u on : Int32) : cnt (nI 1) f u on = mn u (nI 9 + f) := if_pos rfl
theorem cnt_2 (f u on : Int32) : cnt (nI 2) f u on = (u + nI 1) / nI 2 := by unfold cnt; rw [if_neg (by decide), if_pos rfl]
theorem cnt_3 (f u on : Int32) : cnt (nI 3) f u on = mn u ((nI 10 + f) / nI 2) := by unfold cnt; rw [if_neg (by decide), if_neg (by decide), if_pos rfl]
theorem cnt_4 (f u on : Int32) : cnt (nI 4) f u on = mn u ((nI 9 + f) / nI 2 + nI 1) := by unfold cnt; rw [if_neg (by decide), if_neg (by decide), if_neg (by decide), if_pos rfl]
theorem cnt_5 (f u on : Int32) : cnt (nI 5) f u on = mn u (mx (nI 20) ((u + nI 1) / nI 2)) := by unfold cnt; rw [if_neg (by decide), if_neg (by decide), if_neg (by decide), if_neg (by decide), if_pos rfl]
theorem cnt_6 (f u on : Int32) : cnt (nI 6) f u on = (if on - on / nI 2 * nI 2 = 0 then mn u ((nI 10 + f) / nI 2) else nI 0) := by unfold cnt; rw [if_neg (by decide), if_neg (by decide), if_neg (by decide), if_neg (by decide), if_neg (by decide), if_pos rfl]
theorem cnt_7 (f u on : Int32) : cnt (nI 7) f u on = mn u (f + nI 1) := by unfold cnt; rw [if_neg (by decide), if_neg (by decide), if_neg (by decide), if_neg (by decide), if_neg (by decide), if_neg (by decide), if_pos rfl]
theorem bks_2 (f c : Int32) : bks (nI 2) f c = (if 0 < c then c + f else nI 0) := if_pos rfl
theorem bks_5 (f c : Int32) : bks (nI 5) f c = nI 2 * c := by unfold bks; rw [if_neg (by decide), if_pos rfl]
theorem bks_6 (f c : Int32) : bks (nI 6) f c = (if 0 < c then c - nI 1 else nI 0) := by unfold bks; rw [if_neg (by decide), if_neg (by decide), if_pos rfl]
theorem bks_o {k : Int32} (f c : Int32) (h2 : ¬ k = nI 2) (h5 : ¬ k = nI 5) (h6 : ¬ k = nI 6) : bks k f c = c := by unfold bks; rw [if_neg h2, if_neg h5, if_neg h6]
def dnI : Nat → Int32
  | 0 => -1
  | m + 1 => nI m
theorem dnI_dec (m : Nat) : nI m + Int32.ofInt (-1) = dnI m := by
  cases m with
  | zero => decide
  | succ m => exact pk_m1 m
set_option maxRecDepth 100000 in
set_option maxHeartbeats 4000000 in
theorem c_left (r : Nat → Int32) (x : Int32) (d : Nat) (hx : x = nI d) (hd : d < 10) : RCtr yX5_left cX5_left 2 (some .int) 0 [.ref 0, .int x] (A1 r) (.int (lf r d)) := by
  subst hx
  refine Ctr.of rfl (Nat.le_of_ble_eq_true rfl) ⟨clS_of rfl, clH_of rfl⟩ (fun K F X0 => ?_)
  show Go K 0 0 0 [(0, .ref 0), (1, .int (nI d))] [] (A1 r)
  refine g_aload_n (pc := 0) F dX5_left_0 rfl ?_
  refine g_iconst (pc := 1) F dX5_left_1 (v := nI 5) rfl ?_
  refine g_iload_n (pc := 2) F dX5_left_2 rfl ?_
  refine g_iaddN (pc := 3) F dX5_left_3 ?_
  refine g_iald2 (pc := 4) F dX5_left_4 rfl rfl (by first | omega | (simp only [ix]; omega)) (by decide) ?_
  refine g_aload_n (pc := 5) F dX5_left_5 rfl ?_
  refine g_bipush (pc := 6) F dX5_left_6 (v := nI 15) rfl ?_
  refine g_iload_n (pc := 8) F dX5_left_8 rfl ?_
  refine g_iaddN (pc := 9) F dX5_left_9 ?_
  refine g_iald2 (pc := 10) F dX5_left_10 rfl rfl (by first | omega | (simp only [ix]; omega)) (by decide) ?_
  refine g_isub (pc := 11) F dX5_left_11 ?_
  exact g_iret (pc := 12) F X0 dX5_left_12 (Nat.le_of_ble_eq_true rfl) (Nat.le_of_ble_eq_true rfl) rfl ⟨rfl, rfl⟩

set_option maxRecDepth 100000 in
set_option maxHeartbeats 4000000 in
theorem c_counts (r : Nat → Int32) (c : Nat) (on : Int32) (hI : Iv r) (hc : c < many r) : RCtr yX5_counts cX5_counts 5 (some .int) 1 [.ref 0, .int (nI c), .int on] (A1 r) (.int (cntR r c on)) := by
  have hc6 : c < 6 := by have := hI.1.2; omega
  obtain ⟨-, -, ⟨ea, ha⟩, -⟩ := hI.2.2.1 c hc
  refine Ctr.of rfl (Nat.le_of_ble_eq_true rfl) ⟨clS_of rfl, clH_of rfl⟩ (fun K F X0 => ?_)
  show Go K 0 0 0 [(0, .ref 0), (1, .int (nI c)), (2, .int on)] [] (A1 r)
  refine g_aload_n (pc := 0) F dX5_counts_0 rfl ?_
  refine g_iload_n (pc := 1) F dX5_counts_1 rfl ?_
  refine g_iconst (pc := 2) F dX5_counts_2 (v := nI 1) rfl ?_
  refine h_readS (pc := 3) F (c_of _ _) mi_X5_of ks_X5_47 dX5_counts_3 [] rfl (by decide) (by decide) rfl rfl (Nat.le_of_ble_eq_true rfl) trivial (by decide) (by decide) ?_
  refine g_iald2 (pc := 6) F dX5_counts_6 rfl rfl (by first | omega | (simp only [ix]; omega)) (by decide) ?_
  refine g_istore_n (pc := 7) F dX5_counts_7 (by decide) ?_
  refine g_aload_n (pc := 8) F dX5_counts_8 rfl ?_
  refine g_aload_n (pc := 9) F dX5_counts_9 rfl ?_
  refine g_iload_n (pc := 10) F dX5_counts_10 rfl ?_
  refine g_iconst (pc := 11) F dX5_counts_11 (v := nI 2) rfl ?_
  refine h_readS (pc := 12) F (c_of _ _) mi_X5_of ks_X5_47 dX5_counts_12 [] rfl (by decide) (by decide) rfl rfl (Nat.le_of_ble_eq_true rfl) trivial (by decide) (by decide) ?_
  refine g_iald2 (pc := 15) F dX5_counts_15 rfl rfl (by first | omega | (simp only [ix]; omega)) (by decide) ?_
  refine h_readS (pc := 16) F (c_left r _ (atN r c) ea ha) mi_X5_left ks_X5_51 dX5_counts_16 [0] rfl (by decide) (by decide) rfl rfl (Nat.le_of_ble_eq_true rfl) trivial (by decide) (by decide) ?_
  refine g_istore (pc := 19) F dX5_counts_19 (by decide) ?_
  refine g_aload_n (pc := 21) F dX5_counts_21 rfl ?_
  refine g_iload_n (pc := 22) F dX5_counts_22 rfl ?_
  refine g_iconst (pc := 23) F dX5_counts_23 (v := nI 0) rfl ?_
  refine h_readS (pc := 24) F (c_of _ _) mi_X5_of ks_X5_47 dX5_counts_24 [] rfl (by decide) (by decide) rfl rfl (Nat.le_of_ble_eq_true rfl) trivial (by decide) (by decide) ?_
  refine g_iald2 (pc := 27) F dX5_counts_27 rfl rfl (by first | omega | (simp only [ix]; omega)) (by decide) ?_
  rcases sw_cases 1 7 (r (ix c 0)) (by decide) with ⟨j_28, j1_28, j2_28, hx_28⟩ | ho_28
  · rcases (show j_28 = 1 ∨ j_28 = 2 ∨ j_28 = 3 ∨ j_28 = 4 ∨ j_28 = 5 ∨ j_28 = 6 ∨ j_28 = 7 by omega) with rfl | rfl | rfl | rfl | rfl | rfl | rfl
    · refine g_tableIn2 (pc := 28) F dX5_counts_28 hx_28 (by decide) (by decide) (tgt := 72) rfl rfl ?_
      refine g_iload (pc := 72) F dX5_counts_72 rfl ?_
      refine g_bipush (pc := 74) F dX5_counts_74 (v := nI 9) rfl ?_
      refine g_iload_n (pc := 76) F dX5_counts_76 rfl ?_
      refine g_iadd (pc := 77) F dX5_counts_77 ?_
      refine h_readS (pc := 78) F (c_least _ _) mi_X5_least ks_X5_55 dX5_counts_78 [] rfl (by decide) (by decide) rfl rfl (Nat.le_of_ble_eq_true rfl) trivial (by decide) (by decide) ?_
      exact g_iret (pc := 81) F X0 dX5_counts_81 (Nat.le_of_ble_eq_true rfl) (Nat.le_of_ble_eq_true rfl) rfl ⟨congrArg (fun z => some (Value.int z)) (by unfold cntR; first | rw [cnt_0 _ _ _ ho_28] | (rw [hx_28]; first | rw [cnt_1] | rw [cnt_2] | rw [cnt_3] | rw [cnt_4] | rw [cnt_5] | (rw [cnt_6]; first | rw [if_pos c_135] | rw [if_neg c_135]) | rw [cnt_7])), rfl⟩
    · refine g_tableIn2 (pc := 28) F dX5_counts_28 hx_28 (by decide) (by decide) (tgt := 82) rfl rfl ?_
      refine g_iload (pc := 82) F dX5_counts_82 rfl ?_
      refine g_iconst (pc := 84) F dX5_counts_84 (v := nI 1) rfl ?_
      refine g_iadd (pc := 85) F dX5_counts_85 ?_
      refine g_iconst (pc := 86) F dX5_counts_86 (v := nI 2) rfl ?_
      refine g_idiv (pc := 87) F dX5_counts_87 (by decide) ?_
      exact g_iret (pc := 88) F X0 dX5_counts_88 (Nat.le_of_ble_eq_true rfl) (Nat.le_of_ble_eq_true rfl) rfl ⟨congrArg (fun z => some (Value.int z)) (by unfold cntR; first | rw [cnt_0 _ _ _ ho_28] | (rw [hx_28]; first | rw [cnt_1] | rw [cnt_2] | rw [cnt_3] | rw [cnt_4] | rw [cnt_5] | (rw [cnt_6]; first | rw [if_pos c_135] | rw [if_neg c_135]) | rw [cnt_7])), rfl⟩
    · refine g_tableIn2 (pc := 28) F dX5_counts_28 hx_28 (by decide) (by decide) (tgt := 89) rfl rfl ?_
      refine g_iload (pc := 89) F dX5_counts_89 rfl ?_
      refine g_bipush (pc := 91) F dX5_counts_91 (v := nI 10) rfl ?_
      refine g_iload_n (pc := 93) F dX5_counts_93 rfl ?_
      refine g_iadd (pc := 94) F dX5_counts_94 ?_
      refine g_iconst (pc := 95) F dX5_counts_95 (v := nI 2) rfl ?_
      refine g_idiv (pc := 96) F dX5_counts_96 (by decide) ?_
      refine h_readS (pc := 97) F (c_least _ _) mi_X5_least ks_X5_55 dX5_counts_97 [] rfl (by decide) (by decide) rfl rfl (Nat.le_of_ble_eq_true rfl) trivial (by decide) (by decide) ?_
      exact g_iret (pc := 100) F X0 dX5_counts_100 (Nat.le_of_ble_eq_true rfl) (Nat.le_of_ble_eq_true rfl) rfl ⟨congrArg (fun z => some (Value.int z)) (by unfold cntR; first | rw [cnt_0 _ _ _ ho_28] | (rw [hx_28]; first | rw [cnt_1] | rw [cnt_2] | rw [cnt_3] | rw [cnt_4] | rw [cnt_5] | (rw [cnt_6]; first | rw [if_pos c_135] | rw [if_neg c_135]) | rw [cnt_7])), rfl⟩
    · refine g_tableIn2 (pc := 28) F dX5_counts_28 hx_28 (by decide) (by decide) (tgt := 101) rfl rfl ?_
      refine g_iload (pc := 101) F dX5_counts_101 rfl ?_
      refine g_bipush (pc := 103) F dX5_counts_103 (v := nI 9) rfl ?_
      refine g_iload_n (pc := 105) F dX5_counts_105 rfl ?_
      refine g_iadd (pc := 106) F dX5_counts_106 ?_
      refine g_iconst (pc := 107) F dX5_counts_107 (v := nI 2) rfl ?_
      refine g_idiv (pc := 108) F dX5_counts_108 (by decide) ?_
      refine g_iconst (pc := 109) F dX5_counts_109 (v := nI 1) rfl ?_
      refine g_iadd (pc := 110) F dX5_counts_110 ?_
      refine h_readS (pc := 111) F (c_least _ _) mi_X5_least ks_X5_55 dX5_counts_111 [] rfl (by decide) (by decide) rfl rfl (Nat.le_of_ble_eq_true rfl) trivial (by decide) (by decide) ?_
      exact g_iret (pc := 114) F X0 dX5_counts_114 (Nat.le_of_ble_eq_true rfl) (Nat.le_of_ble_eq_true rfl) rfl ⟨congrArg (fun z => some (Value.int z)) (by unfold cntR; first | rw [cnt_0 _ _ _ ho_28] | (rw [hx_28]; first | rw [cnt_1] | rw [cnt_2] | rw [cnt_3] | rw [cnt_4] | rw [cnt_5] | (rw [cnt_6]; first | rw [if_pos c_135] | rw [if_neg c_135]) | rw [cnt_7])), rfl⟩
    · refine g_tableIn2 (pc := 28) F dX5_counts_28 hx_28 (by decide) (by decide) (tgt := 115) rfl rfl ?_
      refine g_iload (pc := 115) F dX5_counts_115 rfl ?_
      refine g_bipush (pc := 117) F dX5_counts_117 (v := nI 20) rfl ?_
      refine g_iload (pc := 119) F dX5_counts_119 rfl ?_
      refine g_iconst (pc := 121) F dX5_counts_121 (v := nI 1) rfl ?_
      refine g_iadd (pc := 122) F dX5_counts_122 ?_
      refine g_iconst (pc := 123) F dX5_counts_123 (v := nI 2) rfl ?_
      refine g_idiv (pc := 124) F dX5_counts_124 (by decide) ?_
      refine h_readS (pc := 125) F (c_most _ _) mi_X5_most ks_X5_58 dX5_counts_125 [] rfl (by decide) (by decide) rfl rfl (Nat.le_of_ble_eq_true rfl) trivial (by decide) (by decide) ?_
      refine h_readS (pc := 128) F (c_least _ _) mi_X5_least ks_X5_55 dX5_counts_128 [] rfl (by decide) (by decide) rfl rfl (Nat.le_of_ble_eq_true rfl) trivial (by decide) (by decide) ?_
      exact g_iret (pc := 131) F X0 dX5_counts_131 (Nat.le_of_ble_eq_true rfl) (Nat.le_of_ble_eq_true rfl) rfl ⟨congrArg (fun z => some (Value.int z)) (by unfold cntR; first | rw [cnt_0 _ _ _ ho_28] | (rw [hx_28]; first | rw [cnt_1] | rw [cnt_2] | rw [cnt_3] | rw [cnt_4] | rw [cnt_5] | (rw [cnt_6]; first | rw [if_pos c_135] | rw [if_neg c_135]) | rw [cnt_7])), rfl⟩
    · refine g_tableIn2 (pc := 28) F dX5_counts_28 hx_28 (by decide) (by decide) (tgt := 132) rfl rfl ?_
      refine g_iload_n (pc := 132) F dX5_counts_132 rfl ?_
      refine g_iconst (pc := 133) F dX5_counts_133 (v := nI 2) rfl ?_
      refine g_irem (pc := 134) F dX5_counts_134 (by decide) ?_
      refine g_if_ne (pc := 135) F dX5_counts_135 (tgt := 152) rfl (fun c_135 => ?_) (fun c_135 => ?_)
      · refine g_iconst (pc := 152) F dX5_counts_152 (v := nI 0) rfl ?_
        exact g_iret (pc := 153) F X0 dX5_counts_153 (Nat.le_of_ble_eq_true rfl) (Nat.le_of_ble_eq_true rfl) rfl ⟨congrArg (fun z => some (Value.int z)) (by unfold cntR; first | rw [cnt_0 _ _ _ ho_28] | (rw [hx_28]; first | rw [cnt_1] | rw [cnt_2] | rw [cnt_3] | rw [cnt_4] | rw [cnt_5] | (rw [cnt_6]; first | rw [if_pos c_135] | rw [if_neg c_135]) | rw [cnt_7])), rfl⟩
      · refine g_iload (pc := 138) F dX5_counts_138 rfl ?_
        refine g_bipush (pc := 140) F dX5_counts_140 (v := nI 10) rfl ?_
        refine g_iload_n (pc := 142) F dX5_counts_142 rfl ?_
        refine g_iadd (pc := 143) F dX5_counts_143 ?_
        refine g_iconst (pc := 144) F dX5_counts_144 (v := nI 2) rfl ?_
        refine g_idiv (pc := 145) F dX5_counts_145 (by decide) ?_
        refine h_readS (pc := 146) F (c_least _ _) mi_X5_least ks_X5_55 dX5_counts_146 [] rfl (by decide) (by decide) rfl rfl (Nat.le_of_ble_eq_true rfl) trivial (by decide) (by decide) ?_
        refine g_goto (pc := 149) F dX5_counts_149 (tgt := 153) rfl ?_
        exact g_iret (pc := 153) F X0 dX5_counts_153 (Nat.le_of_ble_eq_true rfl) (Nat.le_of_ble_eq_true rfl) rfl ⟨congrArg (fun z => some (Value.int z)) (by unfold cntR; first | rw [cnt_0 _ _ _ ho_28] | (rw [hx_28]; first | rw [cnt_1] | rw [cnt_2] | rw [cnt_3] | rw [cnt_4] | rw [cnt_5] | (rw [cnt_6]; first | rw [if_pos c_135] | rw [if_neg c_135]) | rw [cnt_7])), rfl⟩
    · refine g_tableIn2 (pc := 28) F dX5_counts_28 hx_28 (by decide) (by decide) (tgt := 154) rfl rfl ?_
      refine g_iload (pc := 154) F dX5_counts_154 rfl ?_
      refine g_iload_n (pc := 156) F dX5_counts_156 rfl ?_
      refine g_iconst (pc := 157) F dX5_counts_157 (v := nI 1) rfl ?_
      refine g_iadd (pc := 158) F dX5_counts_158 ?_
      refine h_readS (pc := 159) F (c_least _ _) mi_X5_least ks_X5_55 dX5_counts_159 [] rfl (by decide) (by decide) rfl rfl (Nat.le_of_ble_eq_true rfl) trivial (by decide) (by decide) ?_
      exact g_iret (pc := 162) F X0 dX5_counts_162 (Nat.le_of_ble_eq_true rfl) (Nat.le_of_ble_eq_true rfl) rfl ⟨congrArg (fun z => some (Value.int z)) (by unfold cntR; first | rw [cnt_0 _ _ _ ho_28] | (rw [hx_28]; first | rw [cnt_1] | rw [cnt_2] | rw [cnt_3] | rw [cnt_4] | rw [cnt_5] | (rw [cnt_6]; first | rw [if_pos c_135] | rw [if_neg c_135]) | rw [cnt_7])), rfl⟩
  · refine g_tableOut (pc := 28) F dX5_counts_28 ho_28 (tgt := 163) rfl ?_
    refine g_iload (pc := 163) F dX5_counts_163 rfl ?_
    refine g_bipush (pc := 165) F dX5_counts_165 (v := nI 10) rfl ?_
    refine g_iload_n (pc := 167) F dX5_counts_167 rfl ?_
    refine g_iadd (pc := 168) F dX5_counts_168 ?_
    refine h_readS (pc := 169) F (c_least _ _) mi_X5_least ks_X5_55 dX5_counts_169 [] rfl (by decide) (by decide) rfl rfl (Nat.le_of_ble_eq_true rfl) trivial (by decide) (by decide) ?_
    exact g_iret (pc := 172) F X0 dX5_counts_172 (Nat.le_of_ble_eq_true rfl) (Nat.le_of_ble_eq_true rfl) rfl ⟨congrArg (fun z => some (Value.int z)) (by unfold cntR; first | rw [cnt_0 _ _ _ ho_28] | (rw [hx_28]; first | rw [cnt_1] | rw [cnt_2] | rw [cnt_3] | rw [cnt_4] | rw [cnt_5] | (rw [cnt_6]; first | rw [if_pos c_135] | rw [if_neg c_135]) | rw [cnt_7])), rfl⟩

set_option maxRecDepth 100000 in
set_option maxHeartbeats 4000000 in
theorem c_books (k f c : Int32) : RCtr yX5_books cX5_books 3 (some .int) 0 [.int k, .int f, .int c] ([]) (.int (bks k f c)) := by
  refine Ctr.of rfl (Nat.le_of_ble_eq_true rfl) ⟨clS_of rfl, clH_of rfl⟩ (fun K F X0 => ?_)
  show Go K 0 0 0 [(0, .int k), (1, .int f), (2, .int c)] [] ([])
  refine g_iload_n (pc := 0) F dX5_books_0 rfl ?_
  rcases sw_cases 2 6 k (by decide) with ⟨j_1, j1_1, j2_1, hx_1⟩ | ho_1
  · rcases (show j_1 = 2 ∨ j_1 = 3 ∨ j_1 = 4 ∨ j_1 = 5 ∨ j_1 = 6 by omega) with rfl | rfl | rfl | rfl | rfl
    · refine g_tableIn2 (pc := 1) F dX5_books_1 hx_1 (by decide) (by decide) (tgt := 36) rfl rfl ?_
      refine g_iload_n (pc := 36) F dX5_books_36 rfl ?_
      refine g_if_le (pc := 37) F dX5_books_37 (tgt := 46) rfl (fun c_37 => ?_) (fun c_37 => ?_)
      · refine g_iconst (pc := 46) F dX5_books_46 (v := nI 0) rfl ?_
        exact g_iret (pc := 47) F X0 dX5_books_47 (Nat.le_of_ble_eq_true rfl) (Nat.le_of_ble_eq_true rfl) rfl ⟨congrArg (fun z => some (Value.int z)) (by first | rw [bks_o _ _ (sw_ne ho_1 (by decide) (by decide) (by decide)) (sw_ne ho_1 (by decide) (by decide) (by decide)) (sw_ne ho_1 (by decide) (by decide) (by decide))] | (rw [hx_1]; first | (rw [bks_2]; first | rw [if_pos (Int32.not_le.mp c_37)] | rw [if_neg (Int32.not_lt.mpr c_37)]) | rw [bks_5] | (rw [bks_6]; first | rw [if_pos (Int32.not_le.mp c_53)] | rw [if_neg (Int32.not_lt.mpr c_53)]) | rw [bks_o _ _ (by decide) (by decide) (by decide)])), rfl⟩
      · refine g_iload_n (pc := 40) F dX5_books_40 rfl ?_
        refine g_iload_n (pc := 41) F dX5_books_41 rfl ?_
        refine g_iadd (pc := 42) F dX5_books_42 ?_
        refine g_goto (pc := 43) F dX5_books_43 (tgt := 47) rfl ?_
        exact g_iret (pc := 47) F X0 dX5_books_47 (Nat.le_of_ble_eq_true rfl) (Nat.le_of_ble_eq_true rfl) rfl ⟨congrArg (fun z => some (Value.int z)) (by first | rw [bks_o _ _ (sw_ne ho_1 (by decide) (by decide) (by decide)) (sw_ne ho_1 (by decide) (by decide) (by decide)) (sw_ne ho_1 (by decide) (by decide) (by decide))] | (rw [hx_1]; first | (rw [bks_2]; first | rw [if_pos (Int32.not_le.mp c_37)] | rw [if_neg (Int32.not_lt.mpr c_37)]) | rw [bks_5] | (rw [bks_6]; first | rw [if_pos (Int32.not_le.mp c_53)] | rw [if_neg (Int32.not_lt.mpr c_53)]) | rw [bks_o _ _ (by decide) (by decide) (by decide)])), rfl⟩
    · refine g_tableIn2 (pc := 1) F dX5_books_1 hx_1 (by decide) (by decide) (tgt := 64) rfl rfl ?_
      refine g_iload_n (pc := 64) F dX5_books_64 rfl ?_
      exact g_iret (pc := 65) F X0 dX5_books_65 (Nat.le_of_ble_eq_true rfl) (Nat.le_of_ble_eq_true rfl) rfl ⟨congrArg (fun z => some (Value.int z)) (by first | rw [bks_o _ _ (sw_ne ho_1 (by decide) (by decide) (by decide)) (sw_ne ho_1 (by decide) (by decide) (by decide)) (sw_ne ho_1 (by decide) (by decide) (by decide))] | (rw [hx_1]; first | (rw [bks_2]; first | rw [if_pos (Int32.not_le.mp c_37)] | rw [if_neg (Int32.not_lt.mpr c_37)]) | rw [bks_5] | (rw [bks_6]; first | rw [if_pos (Int32.not_le.mp c_53)] | rw [if_neg (Int32.not_lt.mpr c_53)]) | rw [bks_o _ _ (by decide) (by decide) (by decide)])), rfl⟩
    · refine g_tableIn2 (pc := 1) F dX5_books_1 hx_1 (by decide) (by decide) (tgt := 64) rfl rfl ?_
      refine g_iload_n (pc := 64) F dX5_books_64 rfl ?_
      exact g_iret (pc := 65) F X0 dX5_books_65 (Nat.le_of_ble_eq_true rfl) (Nat.le_of_ble_eq_true rfl) rfl ⟨congrArg (fun z => some (Value.int z)) (by first | rw [bks_o _ _ (sw_ne ho_1 (by decide) (by decide) (by decide)) (sw_ne ho_1 (by decide) (by decide) (by decide)) (sw_ne ho_1 (by decide) (by decide) (by decide))] | (rw [hx_1]; first | (rw [bks_2]; first | rw [if_pos (Int32.not_le.mp c_37)] | rw [if_neg (Int32.not_lt.mpr c_37)]) | rw [bks_5] | (rw [bks_6]; first | rw [if_pos (Int32.not_le.mp c_53)] | rw [if_neg (Int32.not_lt.mpr c_53)]) | rw [bks_o _ _ (by decide) (by decide) (by decide)])), rfl⟩
    · refine g_tableIn2 (pc := 1) F dX5_books_1 hx_1 (by decide) (by decide) (tgt := 48) rfl rfl ?_
      refine g_iconst (pc := 48) F dX5_books_48 (v := nI 2) rfl ?_
      refine g_iload_n (pc := 49) F dX5_books_49 rfl ?_
      refine g_imul (pc := 50) F dX5_books_50 ?_
      exact g_iret (pc := 51) F X0 dX5_books_51 (Nat.le_of_ble_eq_true rfl) (Nat.le_of_ble_eq_true rfl) rfl ⟨congrArg (fun z => some (Value.int z)) (by first | rw [bks_o _ _ (sw_ne ho_1 (by decide) (by decide) (by decide)) (sw_ne ho_1 (by decide) (by decide) (by decide)) (sw_ne ho_1 (by decide) (by decide) (by decide))] | (rw [hx_1]; first | (rw [bks_2]; first | rw [if_pos (Int32.not_le.mp c_37)] | rw [if_neg (Int32.not_lt.mpr c_37)]) | rw [bks_5] | (rw [bks_6]; first | rw [if_pos (Int32.not_le.mp c_53)] | rw [if_neg (Int32.not_lt.mpr c_53)]) | rw [bks_o _ _ (by decide) (by decide) (by decide)])), rfl⟩
    · refine g_tableIn2 (pc := 1) F dX5_books_1 hx_1 (by decide) (by decide) (tgt := 52) rfl rfl ?_
      refine g_iload_n (pc := 52) F dX5_books_52 rfl ?_
      refine g_if_le (pc := 53) F dX5_books_53 (tgt := 62) rfl (fun c_53 => ?_) (fun c_53 => ?_)
      · refine g_iconst (pc := 62) F dX5_books_62 (v := nI 0) rfl ?_
        exact g_iret (pc := 63) F X0 dX5_books_63 (Nat.le_of_ble_eq_true rfl) (Nat.le_of_ble_eq_true rfl) rfl ⟨congrArg (fun z => some (Value.int z)) (by first | rw [bks_o _ _ (sw_ne ho_1 (by decide) (by decide) (by decide)) (sw_ne ho_1 (by decide) (by decide) (by decide)) (sw_ne ho_1 (by decide) (by decide) (by decide))] | (rw [hx_1]; first | (rw [bks_2]; first | rw [if_pos (Int32.not_le.mp c_37)] | rw [if_neg (Int32.not_lt.mpr c_37)]) | rw [bks_5] | (rw [bks_6]; first | rw [if_pos (Int32.not_le.mp c_53)] | rw [if_neg (Int32.not_lt.mpr c_53)]) | rw [bks_o _ _ (by decide) (by decide) (by decide)])), rfl⟩
      · refine g_iload_n (pc := 56) F dX5_books_56 rfl ?_
        refine g_iconst (pc := 57) F dX5_books_57 (v := nI 1) rfl ?_
        refine g_isub (pc := 58) F dX5_books_58 ?_
        refine g_goto (pc := 59) F dX5_books_59 (tgt := 63) rfl ?_
        exact g_iret (pc := 63) F X0 dX5_books_63 (Nat.le_of_ble_eq_true rfl) (Nat.le_of_ble_eq_true rfl) rfl ⟨congrArg (fun z => some (Value.int z)) (by first | rw [bks_o _ _ (sw_ne ho_1 (by decide) (by decide) (by decide)) (sw_ne ho_1 (by decide) (by decide) (by decide)) (sw_ne ho_1 (by decide) (by decide) (by decide))] | (rw [hx_1]; first | (rw [bks_2]; first | rw [if_pos (Int32.not_le.mp c_37)] | rw [if_neg (Int32.not_lt.mpr c_37)]) | rw [bks_5] | (rw [bks_6]; first | rw [if_pos (Int32.not_le.mp c_53)] | rw [if_neg (Int32.not_lt.mpr c_53)]) | rw [bks_o _ _ (by decide) (by decide) (by decide)])), rfl⟩
  · refine g_tableOut (pc := 1) F dX5_books_1 ho_1 (tgt := 64) rfl ?_
    refine g_iload_n (pc := 64) F dX5_books_64 rfl ?_
    exact g_iret (pc := 65) F X0 dX5_books_65 (Nat.le_of_ble_eq_true rfl) (Nat.le_of_ble_eq_true rfl) rfl ⟨congrArg (fun z => some (Value.int z)) (by first | rw [bks_o _ _ (sw_ne ho_1 (by decide) (by decide) (by decide)) (sw_ne ho_1 (by decide) (by decide) (by decide)) (sw_ne ho_1 (by decide) (by decide) (by decide))] | (rw [hx_1]; first | (rw [bks_2]; first | rw [if_pos (Int32.not_le.mp c_37)] | rw [if_neg (Int32.not_lt.mpr c_37)]) | rw [bks_5] | (rw [bks_6]; first | rw [if_pos (Int32.not_le.mp c_53)] | rw [if_neg (Int32.not_lt.mpr c_53)]) | rw [bks_o _ _ (by decide) (by decide) (by decide)])), rfl⟩

set_option maxRecDepth 100000 in
set_option maxHeartbeats 4000000 in
theorem c_writes (r : Nat → Int32) (c : Nat) (v : Int32) (hc : c < 6) : Ctr yX5_writes cX5_writes 3 none 1 0 0 [.ref 0, .int (nI c), .int v] (A1 r) (fun v2 h => v2 = none ∧ h = A1 (wrR r c v)) := by
  refine Ctr.of rfl (Nat.le_of_ble_eq_true rfl) ⟨clS_of rfl, clH_of rfl⟩ (fun K F X0 => ?_)
  show Go K 0 0 0 [(0, .ref 0), (1, .int (nI c)), (2, .int v)] [] (A1 r)
  refine g_aload_n (pc := 0) F dX5_writes_0 rfl ?_
  refine g_iload_n (pc := 1) F dX5_writes_1 rfl ?_
  refine g_iconst (pc := 2) F dX5_writes_2 (v := nI 4) rfl ?_
  refine h_readS (pc := 3) F (c_of _ _) mi_X5_of ks_X5_47 dX5_writes_3 [] rfl (by decide) (by decide) rfl rfl (Nat.le_of_ble_eq_true rfl) trivial (by decide) (by decide) ?_
  refine g_sipush (pc := 6) F dX5_writes_6 (v := nI 9999) rfl ?_
  refine g_aload_n (pc := 9) F dX5_writes_9 rfl ?_
  refine g_iload_n (pc := 10) F dX5_writes_10 rfl ?_
  refine g_iconst (pc := 11) F dX5_writes_11 (v := nI 4) rfl ?_
  refine h_readS (pc := 12) F (c_of _ _) mi_X5_of ks_X5_47 dX5_writes_12 [] rfl (by decide) (by decide) rfl rfl (Nat.le_of_ble_eq_true rfl) trivial (by decide) (by decide) ?_
  refine g_iald2 (pc := 15) F dX5_writes_15 rfl rfl (by first | omega | (simp only [ix]; omega)) (by decide) ?_
  refine g_iload_n (pc := 16) F dX5_writes_16 rfl ?_
  refine g_iadd (pc := 17) F dX5_writes_17 ?_
  refine h_readS (pc := 18) F (c_least _ _) mi_X5_least ks_X5_55 dX5_writes_18 [] rfl (by decide) (by decide) rfl rfl (Nat.le_of_ble_eq_true rfl) trivial (by decide) (by decide) ?_
  refine g_iast2 (pc := 21) F dX5_writes_21 rfl rfl (by first | omega | (simp only [ix]; omega)) (by decide) ?_
  exact g_vret (pc := 22) F X0 dX5_writes_22 (Nat.le_of_ble_eq_true rfl) (Nat.le_of_ble_eq_true rfl) rfl ⟨rfl, rfl⟩

set_option maxRecDepth 100000 in
set_option maxHeartbeats 4000000 in
theorem c_isStood (r : Nat → Int32) (d way : Int32) (hI : Iv r) : RCtr yX5_isStood cX5_isStood 4 (some .boolean) 1 [.ref 0, .int d, .int way] (A1 r) (.int (bI (stoodR r d way))) := by
  refine Ctr.of rfl (Nat.le_of_ble_eq_true rfl) ⟨clS_of rfl, clH_of rfl⟩ (fun K F X0 => ?_)
  have hm6 := hI.1.2
  have L : ∀ i, i ≤ many r → (∀ j, j < i → decide (r (ix j 2) = d ∧ r (ix j 3) = way) = false) → Go K 0 0 2 [(0, .ref 0), (1, .int d), (2, .int way), (3, .int (nI i))] [] (A1 r) := loop_up (P := fun i => (∀ j, j < i → decide (r (ix j 2) = d ∧ r (ix j 3) = way) = false) → Go K 0 0 2 [(0, .ref 0), (1, .int d), (2, .int way), (3, .int (nI i))] [] (A1 r)) (fun i hi ih => by
    intro hno
    refine g_iload_n (pc := 2) F dX5_isStood_2 rfl ?_
    refine g_aload_n (pc := 3) F dX5_isStood_3 rfl ?_
    refine g_iconst (pc := 4) F dX5_isStood_4 (v := nI 0) rfl ?_
    refine g_iald2 (pc := 5) F dX5_isStood_5 rfl rfl (by first | omega | (simp only [ix]; omega)) (by decide) ?_
    refine g_icN_ge (pc := 6) F dX5_isStood_6 (tgt := 39) rfl rfl hI.1.1 (by omega) (by omega) (fun c_6 => ?_) (fun c_6 => ?_)
    · have hi9 : i = many r := by omega
      subst hi9
      refine g_iconst (pc := 39) F dX5_isStood_39 (v := nI 0) rfl ?_
      exact g_zret (pc := 40) F X0 dX5_isStood_40 (by first | exact bI_nar _ | rfl) (Nat.le_of_ble_eq_true rfl) (Nat.le_of_ble_eq_true rfl) rfl ⟨congrArg (fun z => some (Value.int z)) (by unfold stoodR; first | rw [anyN_f hno]; rfl | rw [anyN_t c_6 (decide_eq_true ⟨c_17, c_28⟩)]; rfl), rfl⟩
    · refine g_aload_n (pc := 9) F dX5_isStood_9 rfl ?_
      refine g_iload_n (pc := 10) F dX5_isStood_10 rfl ?_
      refine g_iconst (pc := 11) F dX5_isStood_11 (v := nI 2) rfl ?_
      refine h_readS (pc := 12) F (c_of _ _) mi_X5_of ks_X5_47 dX5_isStood_12 [] rfl (by decide) (by decide) rfl rfl (Nat.le_of_ble_eq_true rfl) trivial (by decide) (by decide) ?_
      refine g_iald2 (pc := 15) F dX5_isStood_15 rfl rfl (by first | omega | (simp only [ix]; omega)) (by decide) ?_
      refine g_iload_n (pc := 16) F dX5_isStood_16 rfl ?_
      refine g_ic_ne (pc := 17) F dX5_isStood_17 (tgt := 33) rfl (fun c_17 => ?_) (fun c_17 => ?_)
      · refine g_iincN (pc := 33) F dX5_isStood_33 rfl (by decide) ?_
        refine (fun z => ?_) ()
        refine g_goto (pc := 36) F dX5_isStood_36 (tgt := 2) rfl ?_
        exact ih c_6 (fun j hj => (Nat.lt_succ_iff_lt_or_eq.mp hj).elim (hno j) (fun e => by subst e; exact decide_eq_false (fun h => by first | exact c_17 h.1 | exact c_28 h.2)))
      · refine g_aload_n (pc := 20) F dX5_isStood_20 rfl ?_
        refine g_iload_n (pc := 21) F dX5_isStood_21 rfl ?_
        refine g_iconst (pc := 22) F dX5_isStood_22 (v := nI 3) rfl ?_
        refine h_readS (pc := 23) F (c_of _ _) mi_X5_of ks_X5_47 dX5_isStood_23 [] rfl (by decide) (by decide) rfl rfl (Nat.le_of_ble_eq_true rfl) trivial (by decide) (by decide) ?_
        refine g_iald2 (pc := 26) F dX5_isStood_26 rfl rfl (by first | omega | (simp only [ix]; omega)) (by decide) ?_
        refine g_iload_n (pc := 27) F dX5_isStood_27 rfl ?_
        refine g_ic_ne (pc := 28) F dX5_isStood_28 (tgt := 33) rfl (fun c_28 => ?_) (fun c_28 => ?_)
        · refine g_iincN (pc := 33) F dX5_isStood_33 rfl (by decide) ?_
          refine (fun z => ?_) ()
          refine g_goto (pc := 36) F dX5_isStood_36 (tgt := 2) rfl ?_
          exact ih c_6 (fun j hj => (Nat.lt_succ_iff_lt_or_eq.mp hj).elim (hno j) (fun e => by subst e; exact decide_eq_false (fun h => by first | exact c_17 h.1 | exact c_28 h.2)))
        · refine g_iconst (pc := 31) F dX5_isStood_31 (v := nI 1) rfl ?_
          exact g_zret (pc := 32) F X0 dX5_isStood_32 (by first | exact bI_nar _ | rfl) (Nat.le_of_ble_eq_true rfl) (Nat.le_of_ble_eq_true rfl) rfl ⟨congrArg (fun z => some (Value.int z)) (by unfold stoodR; first | rw [anyN_f hno]; rfl | rw [anyN_t c_6 (decide_eq_true ⟨c_17, c_28⟩)]; rfl), rfl⟩)
  show Go K 0 0 0 [(0, .ref 0), (1, .int d), (2, .int way)] [] (A1 r)
  refine g_iconst (pc := 0) F dX5_isStood_0 (v := nI 0) rfl ?_
  refine g_istore_n (pc := 1) F dX5_isStood_1 (by decide) ?_
  exact L 0 (Nat.zero_le _) (fun j hj => absurd hj (Nat.not_lt_zero j))

set_option maxRecDepth 100000 in
set_option maxHeartbeats 4000000 in
theorem c_goes (r : Nat → Int32) (c : Nat) (hI : Iv r) (hc : c < many r) : Ctr yX5_goes cX5_goes 3 none 2 0 0 [.ref 0, .int (nI c)] (A1 r) (fun v h => v = none ∧ h = A1 (goesR r c)) := by
  have hc6 : c < 6 := by have := hI.1.2; omega
  refine Ctr.of rfl (Nat.le_of_ble_eq_true rfl) ⟨clS_of rfl, clH_of rfl⟩ (fun K F X0 => ?_)
  show Go K 0 0 0 [(0, .ref 0), (1, .int (nI c))] [] (A1 r)
  refine g_aload_n (pc := 0) F dX5_goes_0 rfl ?_
  refine g_iload_n (pc := 1) F dX5_goes_1 rfl ?_
  refine g_iconst (pc := 2) F dX5_goes_2 (v := nI 2) rfl ?_
  refine h_readS (pc := 3) F (c_of _ _) mi_X5_of ks_X5_47 dX5_goes_3 [] rfl (by decide) (by decide) rfl rfl (Nat.le_of_ble_eq_true rfl) trivial (by decide) (by decide) ?_
  refine g_iald2 (pc := 6) F dX5_goes_6 rfl rfl (by first | omega | (simp only [ix]; omega)) (by decide) ?_
  refine g_iconst (pc := 7) F dX5_goes_7 (v := nI 1) rfl ?_
  refine g_iadd (pc := 8) F dX5_goes_8 ?_
  refine g_iconst (pc := 9) F dX5_goes_9 (v := nI 2) rfl ?_
  refine g_aload_n (pc := 10) F dX5_goes_10 rfl ?_
  refine g_iload_n (pc := 11) F dX5_goes_11 rfl ?_
  refine g_iconst (pc := 12) F dX5_goes_12 (v := nI 3) rfl ?_
  refine h_readS (pc := 13) F (c_of _ _) mi_X5_of ks_X5_47 dX5_goes_13 [] rfl (by decide) (by decide) rfl rfl (Nat.le_of_ble_eq_true rfl) trivial (by decide) (by decide) ?_
  refine g_iald2 (pc := 16) F dX5_goes_16 rfl rfl (by first | omega | (simp only [ix]; omega)) (by decide) ?_
  refine g_imul (pc := 17) F dX5_goes_17 ?_
  refine g_isub (pc := 18) F dX5_goes_18 ?_
  refine g_istore_n (pc := 19) F dX5_goes_19 (by decide) ?_
  refine g_iload_n (pc := 20) F dX5_goes_20 rfl ?_
  refine h_readS (pc := 21) F (c_mDip _) mi_X5_isDip ks_X5_61 dX5_goes_21 [] rfl (by decide) (by decide) rfl rfl (Nat.le_of_ble_eq_true rfl) trivial (by decide) (by decide) ?_
  refine g_ifeq_d (pc := 24) F dX5_goes_24 (tgt := 52) rfl (fun c_24 => ?_) (fun c_24 => ?_)
  · exact g_vret (pc := 52) F X0 dX5_goes_52 (Nat.le_of_ble_eq_true rfl) (Nat.le_of_ble_eq_true rfl) rfl ⟨rfl, congrArg A1 (by unfold goesR; first | exact (if_pos ⟨c_24, c_41⟩).symm | exact (if_neg (fun h => c_24 h.1)).symm | exact (if_neg (fun h => Bool.noConfusion (c_41.symm.trans h.2))).symm)⟩
  · refine g_aload_n (pc := 27) F dX5_goes_27 rfl ?_
    refine g_iload_n (pc := 28) F dX5_goes_28 rfl ?_
    refine g_iconst (pc := 29) F dX5_goes_29 (v := nI 1) rfl ?_
    refine g_aload_n (pc := 30) F dX5_goes_30 rfl ?_
    refine g_iload_n (pc := 31) F dX5_goes_31 rfl ?_
    refine g_iconst (pc := 32) F dX5_goes_32 (v := nI 3) rfl ?_
    refine h_readS (pc := 33) F (c_of _ _) mi_X5_of ks_X5_47 dX5_goes_33 [] rfl (by decide) (by decide) rfl rfl (Nat.le_of_ble_eq_true rfl) trivial (by decide) (by decide) ?_
    refine g_iald2 (pc := 36) F dX5_goes_36 rfl rfl (by first | omega | (simp only [ix]; omega)) (by decide) ?_
    refine g_isub (pc := 37) F dX5_goes_37 ?_
    refine h_readS (pc := 38) F (c_isStood r _ _ hI) mi_X5_isStood ks_X5_65 dX5_goes_38 [0] rfl (by decide) (by decide) rfl rfl (Nat.le_of_ble_eq_true rfl) trivial (by decide) (by decide) ?_
    refine g_ifne_b (pc := 41) F dX5_goes_41 (tgt := 52) rfl (fun c_41 => ?_) (fun c_41 => ?_)
    · exact g_vret (pc := 52) F X0 dX5_goes_52 (Nat.le_of_ble_eq_true rfl) (Nat.le_of_ble_eq_true rfl) rfl ⟨rfl, congrArg A1 (by unfold goesR; first | exact (if_pos ⟨c_24, c_41⟩).symm | exact (if_neg (fun h => c_24 h.1)).symm | exact (if_neg (fun h => Bool.noConfusion (c_41.symm.trans h.2))).symm)⟩
    · refine g_aload_n (pc := 44) F dX5_goes_44 rfl ?_
      refine g_iload_n (pc := 45) F dX5_goes_45 rfl ?_
      refine g_iconst (pc := 46) F dX5_goes_46 (v := nI 2) rfl ?_
      refine h_readS (pc := 47) F (c_of _ _) mi_X5_of ks_X5_47 dX5_goes_47 [] rfl (by decide) (by decide) rfl rfl (Nat.le_of_ble_eq_true rfl) trivial (by decide) (by decide) ?_
      refine g_iload_n (pc := 50) F dX5_goes_50 rfl ?_
      refine g_iast2 (pc := 51) F dX5_goes_51 rfl rfl (by first | omega | (simp only [ix]; omega)) (by decide) ?_
      exact g_vret (pc := 52) F X0 dX5_goes_52 (Nat.le_of_ble_eq_true rfl) (Nat.le_of_ble_eq_true rfl) rfl ⟨rfl, congrArg A1 (by unfold goesR; first | exact (if_pos ⟨c_24, c_41⟩).symm | exact (if_neg (fun h => c_24 h.1)).symm | exact (if_neg (fun h => Bool.noConfusion (c_41.symm.trans h.2))).symm)⟩

set_option maxRecDepth 100000 in
set_option maxHeartbeats 4000000 in
theorem c_worksOn (r : Nat → Int32) (c : Nat) (hI : Iv r) (hc : c < many r) : Ctr yX5_worksOn cX5_worksOn 4 none 3 0 0 [.ref 0, .int (nI c)] (A1 r) (fun v h => v = none ∧ h = A1 (worksR r c)) := by
  have hc6 : c < 6 := by have := hI.1.2; omega
  obtain ⟨-, -, ⟨ea, ha⟩, -⟩ := hI.2.2.1 c hc
  have hI2 := Iv_workB (r 1) hI hc
  have hc2 : c < many (workB r c (atN r c) (cntR r c (r 1))) := by rw [many_of (workB_ne _ (by omega) (by omega) : (workB r c (atN r c) (cntR r c (r 1))) 0 = r 0)]; exact hc
  refine Ctr.of rfl (Nat.le_of_ble_eq_true rfl) ⟨clS_of rfl, clH_of rfl⟩ (fun K F X0 => ?_)
  show Go K 0 0 0 [(0, .ref 0), (1, .int (nI c))] [] (A1 r)
  refine g_aload_n (pc := 0) F dX5_worksOn_0 rfl ?_
  refine g_iload_n (pc := 1) F dX5_worksOn_1 rfl ?_
  refine g_iconst (pc := 2) F dX5_worksOn_2 (v := nI 5) rfl ?_
  refine h_readS (pc := 3) F (c_of _ _) mi_X5_of ks_X5_47 dX5_worksOn_3 [] rfl (by decide) (by decide) rfl rfl (Nat.le_of_ble_eq_true rfl) trivial (by decide) (by decide) ?_
  refine g_iald2 (pc := 6) F dX5_worksOn_6 rfl rfl (by first | omega | (simp only [ix]; omega)) (by decide) ?_
  refine g_iconst (pc := 7) F dX5_worksOn_7 (v := nI 1) rfl ?_
  refine g_ic_ne (pc := 8) F dX5_worksOn_8 (tgt := 12) rfl (fun c_8 => ?_) (fun c_8 => ?_)
  · refine g_aload_n (pc := 12) F dX5_worksOn_12 rfl ?_
    refine g_iconst (pc := 13) F dX5_worksOn_13 (v := nI 4) rfl ?_
    refine g_iald2 (pc := 14) F dX5_worksOn_14 rfl rfl (by first | omega | (simp only [ix]; omega)) (by decide) ?_
    refine g_iload_n (pc := 15) F dX5_worksOn_15 rfl ?_
    refine h_readS (pc := 16) F (c_has _ _) mi_X5_has ks_X5_69 dX5_worksOn_16 [] rfl (by decide) (by decide) rfl rfl (Nat.le_of_ble_eq_true rfl) trivial (by decide) (by decide) ?_
    refine g_ifeq_b (pc := 19) F dX5_worksOn_19 (tgt := 30) rfl (fun c_19 => ?_) (fun c_19 => ?_)
    · refine g_aload_n (pc := 30) F dX5_worksOn_30 rfl ?_
      refine g_iload_n (pc := 31) F dX5_worksOn_31 rfl ?_
      refine g_iconst (pc := 32) F dX5_worksOn_32 (v := nI 2) rfl ?_
      refine h_readS (pc := 33) F (c_of _ _) mi_X5_of ks_X5_47 dX5_worksOn_33 [] rfl (by decide) (by decide) rfl rfl (Nat.le_of_ble_eq_true rfl) trivial (by decide) (by decide) ?_
      refine g_iald2 (pc := 36) F dX5_worksOn_36 rfl rfl (by first | omega | (simp only [ix]; omega)) (by decide) ?_
      rw [ea]
      refine g_istore_n (pc := 37) F dX5_worksOn_37 (by decide) ?_
      refine g_aload_n (pc := 38) F dX5_worksOn_38 rfl ?_
      refine g_iload_n (pc := 39) F dX5_worksOn_39 rfl ?_
      refine g_aload_n (pc := 40) F dX5_worksOn_40 rfl ?_
      refine g_iconst (pc := 41) F dX5_worksOn_41 (v := nI 1) rfl ?_
      refine g_iald2 (pc := 42) F dX5_worksOn_42 rfl rfl (by first | omega | (simp only [ix]; omega)) (by decide) ?_
      refine h_readS (pc := 43) F (c_counts r c _ hI hc) mi_X5_counts ks_X5_77 dX5_worksOn_43 [0] rfl (by decide) (by decide) rfl rfl (Nat.le_of_ble_eq_true rfl) trivial (by decide) (by decide) ?_
      refine g_istore_n (pc := 46) F dX5_worksOn_46 (by decide) ?_
      refine g_aload_n (pc := 47) F dX5_worksOn_47 rfl ?_
      refine g_bipush (pc := 48) F dX5_worksOn_48 (v := nI 15) rfl ?_
      refine g_iload_n (pc := 50) F dX5_worksOn_50 rfl ?_
      refine g_iaddN (pc := 51) F dX5_worksOn_51 ?_
      refine g_dup2 (pc := 52) F dX5_worksOn_52 rfl rfl ?_
      refine g_iald2 (pc := 53) F dX5_worksOn_53 rfl rfl (by first | omega | (simp only [ix]; omega)) (by decide) ?_
      refine g_iload_n (pc := 54) F dX5_worksOn_54 rfl ?_
      refine g_iadd (pc := 55) F dX5_worksOn_55 ?_
      refine g_iast2 (pc := 56) F dX5_worksOn_56 rfl rfl (by first | omega | (simp only [ix]; omega)) (by decide) ?_
      refine g_aload_n (pc := 57) F dX5_worksOn_57 rfl ?_
      refine g_iload_n (pc := 58) F dX5_worksOn_58 rfl ?_
      refine g_aload_n (pc := 59) F dX5_worksOn_59 rfl ?_
      refine g_iload_n (pc := 60) F dX5_worksOn_60 rfl ?_
      refine g_iconst (pc := 61) F dX5_worksOn_61 (v := nI 0) rfl ?_
      refine h_readS (pc := 62) F (c_of _ _) mi_X5_of ks_X5_47 dX5_worksOn_62 [] rfl (by decide) (by decide) rfl rfl (Nat.le_of_ble_eq_true rfl) trivial (by decide) (by decide) ?_
      refine g_iald2 (pc := 65) F dX5_worksOn_65 rfl rfl (by first | omega | (simp only [ix]; omega)) (by decide) ?_
      refine g_aload_n (pc := 66) F dX5_worksOn_66 rfl ?_
      refine g_iload_n (pc := 67) F dX5_worksOn_67 rfl ?_
      refine g_iconst (pc := 68) F dX5_worksOn_68 (v := nI 1) rfl ?_
      refine h_readS (pc := 69) F (c_of _ _) mi_X5_of ks_X5_47 dX5_worksOn_69 [] rfl (by decide) (by decide) rfl rfl (Nat.le_of_ble_eq_true rfl) trivial (by decide) (by decide) ?_
      refine g_iald2 (pc := 72) F dX5_worksOn_72 rfl rfl (by first | omega | (simp only [ix]; omega)) (by decide) ?_
      refine g_iload_n (pc := 73) F dX5_worksOn_73 rfl ?_
      refine h_readS (pc := 74) F (c_books _ _ _) mi_X5_books ks_X5_81 dX5_worksOn_74 [] rfl (by decide) (by decide) rfl rfl (Nat.le_of_ble_eq_true rfl) trivial (by decide) (by decide) ?_
      refine h_callS (pc := 77) F (c_writes (upd r (15 + atN r c) (r (15 + atN r c) + cntR r c (r 1))) c _ hc6) mi_X5_writes ks_X5_73 dX5_worksOn_77 [0] rfl (by decide) (by decide) rfl rfl (Nat.le_of_ble_eq_true rfl) (by decide) (by decide) ?_
      rintro _ _ ⟨rfl, rfl⟩ -
      refine g_aload_n (pc := 80) F dX5_worksOn_80 rfl ?_
      refine g_iload_n (pc := 81) F dX5_worksOn_81 rfl ?_
      refine h_readS (pc := 82) F (c_left (workB r c (atN r c) (cntR r c (r 1))) _ (atN r c) rfl ha) mi_X5_left ks_X5_51 dX5_worksOn_82 [0] rfl (by decide) (by decide) rfl rfl (Nat.le_of_ble_eq_true rfl) trivial (by decide) (by decide) ?_
      refine g_if_ne (pc := 85) F dX5_worksOn_85 (tgt := 93) rfl (fun c_85 => ?_) (fun c_85 => ?_)
      · exact g_vret (pc := 93) F X0 dX5_worksOn_93 (Nat.le_of_ble_eq_true rfl) (Nat.le_of_ble_eq_true rfl) rfl ⟨rfl, congrArg A1 (by unfold worksR; first | (rw [if_pos c_8]; try rfl) | (rw [if_neg c_8]; first | (rw [if_pos c_19]; try rfl) | (rw [if_neg (by rw [c_19]; decide)]; first | (rw [if_pos c_85]; try rfl) | (rw [if_neg c_85]; try rfl))))⟩
      · refine g_aload_n (pc := 88) F dX5_worksOn_88 rfl ?_
        refine g_iload_n (pc := 89) F dX5_worksOn_89 rfl ?_
        refine h_callS (pc := 90) F (c_goes (workB r c (atN r c) (cntR r c (r 1))) c hI2 hc2) mi_X5_goes ks_X5_85 dX5_worksOn_90 [0] rfl (by decide) (by decide) rfl rfl (Nat.le_of_ble_eq_true rfl) (by decide) (by decide) ?_
        rintro _ _ ⟨rfl, rfl⟩ -
        exact g_vret (pc := 93) F X0 dX5_worksOn_93 (Nat.le_of_ble_eq_true rfl) (Nat.le_of_ble_eq_true rfl) rfl ⟨rfl, congrArg A1 (by unfold worksR; first | (rw [if_pos c_8]; try rfl) | (rw [if_neg c_8]; first | (rw [if_pos c_19]; try rfl) | (rw [if_neg (by rw [c_19]; decide)]; first | (rw [if_pos c_85]; try rfl) | (rw [if_neg c_85]; try rfl))))⟩
    · refine g_aload_n (pc := 22) F dX5_worksOn_22 rfl ?_
      refine g_iload_n (pc := 23) F dX5_worksOn_23 rfl ?_
      refine g_bipush (pc := 24) F dX5_worksOn_24 (v := nI 15) rfl ?_
      refine h_callS (pc := 26) F (c_writes r c _ hc6) mi_X5_writes ks_X5_73 dX5_worksOn_26 [0] rfl (by decide) (by decide) rfl rfl (Nat.le_of_ble_eq_true rfl) (by decide) (by decide) ?_
      rintro _ _ ⟨rfl, rfl⟩ -
      exact g_vret (pc := 29) F X0 dX5_worksOn_29 (Nat.le_of_ble_eq_true rfl) (Nat.le_of_ble_eq_true rfl) rfl ⟨rfl, congrArg A1 (by unfold worksR; first | (rw [if_pos c_8]; try rfl) | (rw [if_neg c_8]; first | (rw [if_pos c_19]; try rfl) | (rw [if_neg (by rw [c_19]; decide)]; first | (rw [if_pos c_85]; try rfl) | (rw [if_neg c_85]; try rfl))))⟩
  · exact g_vret (pc := 11) F X0 dX5_worksOn_11 (Nat.le_of_ble_eq_true rfl) (Nat.le_of_ble_eq_true rfl) rfl ⟨rfl, congrArg A1 (by unfold worksR; first | (rw [if_pos c_8]; try rfl) | (rw [if_neg c_8]; first | (rw [if_pos c_19]; try rfl) | (rw [if_neg (by rw [c_19]; decide)]; first | (rw [if_pos c_85]; try rfl) | (rw [if_neg c_85]; try rfl))))⟩

set_option maxRecDepth 100000 in
set_option maxHeartbeats 4000000 in
theorem c_gives (r : Nat → Int32) (x y w : Int32) (d to : Nat) (hx : x = nI d) (hy : y = nI to) (hd : d < 10) (ht : to < 10) : Ctr yX5_gives cX5_gives 6 none 1 0 0 [.ref 0, .int x, .int y, .int w] (A1 r) (fun v h => v = none ∧ h = A1 (givesR r d to w)) := by
  subst hx
  subst hy
  refine Ctr.of rfl (Nat.le_of_ble_eq_true rfl) ⟨clS_of rfl, clH_of rfl⟩ (fun K F X0 => ?_)
  show Go K 0 0 0 [(0, .ref 0), (1, .int (nI d)), (2, .int (nI to)), (3, .int w)] [] (A1 r)
  refine g_iload_n (pc := 0) F dX5_gives_0 rfl ?_
  refine g_aload_n (pc := 1) F dX5_gives_1 rfl ?_
  refine g_iconst (pc := 2) F dX5_gives_2 (v := nI 5) rfl ?_
  refine g_iload_n (pc := 3) F dX5_gives_3 rfl ?_
  refine g_iaddN (pc := 4) F dX5_gives_4 ?_
  refine g_iald2 (pc := 5) F dX5_gives_5 rfl rfl (by first | omega | (simp only [ix]; omega)) (by decide) ?_
  refine g_sipush (pc := 6) F dX5_gives_6 (v := nI 999) rfl ?_
  refine g_aload_n (pc := 9) F dX5_gives_9 rfl ?_
  refine g_iconst (pc := 10) F dX5_gives_10 (v := nI 5) rfl ?_
  refine g_iload_n (pc := 11) F dX5_gives_11 rfl ?_
  refine g_iaddN (pc := 12) F dX5_gives_12 ?_
  refine g_iald2 (pc := 13) F dX5_gives_13 rfl rfl (by first | omega | (simp only [ix]; omega)) (by decide) ?_
  refine g_isub (pc := 14) F dX5_gives_14 ?_
  refine h_readS (pc := 15) F (c_least _ _) mi_X5_least ks_X5_55 dX5_gives_15 [] rfl (by decide) (by decide) rfl rfl (Nat.le_of_ble_eq_true rfl) trivial (by decide) (by decide) ?_
  refine h_readS (pc := 18) F (c_least _ _) mi_X5_least ks_X5_55 dX5_gives_18 [] rfl (by decide) (by decide) rfl rfl (Nat.le_of_ble_eq_true rfl) trivial (by decide) (by decide) ?_
  refine g_istore (pc := 21) F dX5_gives_21 (by decide) ?_
  refine g_iconst (pc := 23) F dX5_gives_23 (v := nI 0) rfl ?_
  refine g_iload (pc := 24) F dX5_gives_24 rfl ?_
  refine g_aload_n (pc := 26) F dX5_gives_26 rfl ?_
  refine g_iload_n (pc := 27) F dX5_gives_27 rfl ?_
  refine h_readS (pc := 28) F (c_left r _ d rfl hd) mi_X5_left ks_X5_51 dX5_gives_28 [0] rfl (by decide) (by decide) rfl rfl (Nat.le_of_ble_eq_true rfl) trivial (by decide) (by decide) ?_
  refine g_isub (pc := 31) F dX5_gives_31 ?_
  refine h_readS (pc := 32) F (c_most _ _) mi_X5_most ks_X5_58 dX5_gives_32 [] rfl (by decide) (by decide) rfl rfl (Nat.le_of_ble_eq_true rfl) trivial (by decide) (by decide) ?_
  refine g_istore (pc := 35) F dX5_gives_35 (by decide) ?_
  refine g_aload_n (pc := 37) F dX5_gives_37 rfl ?_
  refine g_iconst (pc := 38) F dX5_gives_38 (v := nI 5) rfl ?_
  refine g_iload_n (pc := 39) F dX5_gives_39 rfl ?_
  refine g_iaddN (pc := 40) F dX5_gives_40 ?_
  refine g_dup2 (pc := 41) F dX5_gives_41 rfl rfl ?_
  refine g_iald2 (pc := 42) F dX5_gives_42 rfl rfl (by first | omega | (simp only [ix]; omega)) (by decide) ?_
  refine g_iload (pc := 43) F dX5_gives_43 rfl ?_
  refine g_isub (pc := 45) F dX5_gives_45 ?_
  refine g_iast2 (pc := 46) F dX5_gives_46 rfl rfl (by first | omega | (simp only [ix]; omega)) (by decide) ?_
  refine g_aload_n (pc := 47) F dX5_gives_47 rfl ?_
  refine g_bipush (pc := 48) F dX5_gives_48 (v := nI 15) rfl ?_
  refine g_iload_n (pc := 50) F dX5_gives_50 rfl ?_
  refine g_iaddN (pc := 51) F dX5_gives_51 ?_
  refine g_dup2 (pc := 52) F dX5_gives_52 rfl rfl ?_
  refine g_iald2 (pc := 53) F dX5_gives_53 rfl rfl (by first | omega | (simp only [ix]; omega)) (by decide) ?_
  refine g_iload (pc := 54) F dX5_gives_54 rfl ?_
  refine g_isub (pc := 56) F dX5_gives_56 ?_
  refine g_iast2 (pc := 57) F dX5_gives_57 rfl rfl (by first | omega | (simp only [ix]; omega)) (by decide) ?_
  refine g_aload_n (pc := 58) F dX5_gives_58 rfl ?_
  refine g_iconst (pc := 59) F dX5_gives_59 (v := nI 3) rfl ?_
  refine g_dup2 (pc := 60) F dX5_gives_60 rfl rfl ?_
  refine g_iald2 (pc := 61) F dX5_gives_61 rfl rfl (by first | omega | (simp only [ix]; omega)) (by decide) ?_
  refine g_iload (pc := 62) F dX5_gives_62 rfl ?_
  refine g_iadd (pc := 64) F dX5_gives_64 ?_
  refine g_iast2 (pc := 65) F dX5_gives_65 rfl rfl (by first | omega | (simp only [ix]; omega)) (by decide) ?_
  refine g_aload_n (pc := 66) F dX5_gives_66 rfl ?_
  refine g_iconst (pc := 67) F dX5_gives_67 (v := nI 5) rfl ?_
  refine g_iload_n (pc := 68) F dX5_gives_68 rfl ?_
  refine g_iaddN (pc := 69) F dX5_gives_69 ?_
  refine g_dup2 (pc := 70) F dX5_gives_70 rfl rfl ?_
  refine g_iald2 (pc := 71) F dX5_gives_71 rfl rfl (by first | omega | (simp only [ix]; omega)) (by decide) ?_
  refine g_iload (pc := 72) F dX5_gives_72 rfl ?_
  refine g_iadd (pc := 74) F dX5_gives_74 ?_
  refine g_iast2 (pc := 75) F dX5_gives_75 rfl rfl (by first | omega | (simp only [ix]; omega)) (by decide) ?_
  exact g_vret (pc := 76) F X0 dX5_gives_76 (Nat.le_of_ble_eq_true rfl) (Nat.le_of_ble_eq_true rfl) rfl ⟨rfl, rfl⟩

