/-! what is told of the desert -/
def A_count (r : Nat → Int32) (w : Int32) : Int32 := if w = nI 0 then r 0 else if w = nI 1 then r 1 else if w = nI 2 then sumR r 5 else if w = nI 3 then sumR r 15 else if w = nI 4 then booksR r (-1) else if w = nI 5 then restR r else if w = nI 6 then r 2 + nI 9 else (-1)
theorem A_count_0 (r : Nat → Int32) : A_count r (nI 0) = r 0 := by unfold A_count; rw [if_pos rfl]
theorem A_count_1 (r : Nat → Int32) : A_count r (nI 1) = r 1 := by unfold A_count; rw [if_neg (by decide), if_pos rfl]
theorem A_count_2 (r : Nat → Int32) : A_count r (nI 2) = sumR r 5 := by unfold A_count; rw [if_neg (by decide), if_neg (by decide), if_pos rfl]
theorem A_count_3 (r : Nat → Int32) : A_count r (nI 3) = sumR r 15 := by unfold A_count; rw [if_neg (by decide), if_neg (by decide), if_neg (by decide), if_pos rfl]
theorem A_count_4 (r : Nat → Int32) : A_count r (nI 4) = booksR r (-1) := by unfold A_count; rw [if_neg (by decide), if_neg (by decide), if_neg (by decide), if_neg (by decide), if_pos rfl]
theorem A_count_5 (r : Nat → Int32) : A_count r (nI 5) = restR r := by unfold A_count; rw [if_neg (by decide), if_neg (by decide), if_neg (by decide), if_neg (by decide), if_neg (by decide), if_pos rfl]
theorem A_count_6 (r : Nat → Int32) : A_count r (nI 6) = r 2 + nI 9 := by unfold A_count; rw [if_neg (by decide), if_neg (by decide), if_neg (by decide), if_neg (by decide), if_neg (by decide), if_neg (by decide), if_pos rfl]
theorem A_count_o {r : Nat → Int32} {w : Int32} (h : w.toInt < 0 ∨ (6 : Int) < w.toInt) : A_count r w = (-1) := by
  have n : ∀ j, j ≤ 6 → ¬ w = nI j := fun j h1 => sw_ne (lo := 0) (hi := 6) h (Nat.zero_le j) h1 (by decide)
  unfold A_count
  rw [if_neg (n 0 (by decide)), if_neg (n 1 (by decide)), if_neg (n 2 (by decide)), if_neg (n 3 (by decide)), if_neg (n 4 (by decide)), if_neg (n 5 (by decide)), if_neg (n 6 (by decide))]
def A_corporal (r : Nat → Int32) (c w : Int32) : Int32 := if oneP r c ∧ (nI 0 ≤ w ∧ w ≤ nI 6) then (if w = nI 6 then cntR r (N c) (r 1 + nI 1) else r (ix (N c) (N w))) else (-1)
theorem A_corp_k {r : Nat → Int32} {j k : Nat} (hj : j < 6) (h : oneP r (nI j)) (hk : k < 6) : A_corporal r (nI j) (nI k) = r (ix j k) := by
  unfold A_corporal
  rw [if_pos ⟨h, (nI_leI (by decide) (by omega)).mpr (by omega), (nI_leI (by omega) (by decide)).mpr (by omega)⟩, if_neg (fun z => absurd ((nI_eq (by omega) (by decide)).mp z) (by omega)), N_nI (by omega), N_nI (by omega)]
theorem A_corp_6 {r : Nat → Int32} {j : Nat} (hj : j < 6) (h : oneP r (nI j)) : A_corporal r (nI j) (nI 6) = cntR r j (r 1 + nI 1) := by
  unfold A_corporal
  rw [if_pos ⟨h, by decide, by decide⟩, if_pos rfl, N_nI (by omega)]
theorem sw_out6 {w : Int32} (h : w.toInt < 0 ∨ (6 : Int) < w.toInt) : ¬ (nI 0 ≤ w ∧ w ≤ nI 6) := fun z => by
  have h1 := (ti_le _ _).mp z.1
  have h2 := (ti_le _ _).mp z.2
  rw [ti_n _ (by decide)] at h1 h2
  omega
theorem sw_out2 {w : Int32} (h : w.toInt < 0 ∨ (2 : Int) < w.toInt) : ¬ (nI 0 ≤ w ∧ w ≤ nI 2) := fun z => by
  have h1 := (ti_le _ _).mp z.1
  have h2 := (ti_le _ _).mp z.2
  rw [ti_n _ (by decide)] at h1 h2
  omega
def A_dip (r : Nat → Int32) (d w : Int32) : Int32 := if dipP d ∧ (nI 0 ≤ w ∧ w ≤ nI 2) then (if w = 0 then r (5 + N d) else if w = nI 1 then r (15 + N d) else whoR r d) else (-1)
set_option maxRecDepth 100000 in
set_option maxHeartbeats 800000 in
theorem m_sumOf (s m ig ws : Nat → Int32) (hg : Int32) (T : TX) (V : VX) (k0 : Nat) (hk : k0 < 50) : RCtr yX5_sumOf cX5_sumOf 4 (some .int) 0 [.ref 0, .int (nI k0)] (rW s m ig ws hg T V) (.int (sumR s k0)) := by
  refine Ctr.of rfl (Nat.le_of_ble_eq_true rfl) ⟨clS_of rfl, clH_of rfl⟩ (fun K F X0 => ?_)
  have L : ∀ i, i ≤ 10 → Go K 0 0 4 [(0, .ref 0), (1, .int (nI k0)), (2, .int (it (fun d v => v + s (k0 + d)) i (nI 0))), (3, .int (nI i))] [] (rW s m ig ws hg T V) := loop_up (P := fun i => Go K 0 0 4 [(0, .ref 0), (1, .int (nI k0)), (2, .int (it (fun d v => v + s (k0 + d)) i (nI 0))), (3, .int (nI i))] [] (rW s m ig ws hg T V)) (fun i hi ih => by
    refine g_iload_n (pc := 4) F dX5_sumOf_4 rfl ?_
    refine g_bipush (pc := 5) F dX5_sumOf_5 (v := nI 10) rfl ?_
    refine g_icN_ge (pc := 7) F dX5_sumOf_7 (tgt := 27) rfl rfl rfl (by omega) (by omega) (fun c_7 => ?_) (fun c_7 => ?_)
    · obtain rfl : i = 10 := by omega
      refine g_iload_n (pc := 27) F dX5_sumOf_27 rfl ?_
      exact g_iret (pc := 28) F X0 dX5_sumOf_28 (Nat.le_of_ble_eq_true rfl) (Nat.le_of_ble_eq_true rfl) rfl ⟨rfl, rfl⟩
    · refine g_iload_n (pc := 10) F dX5_sumOf_10 rfl ?_
      refine g_aload_n (pc := 11) F dX5_sumOf_11 rfl ?_
      refine g_getf (pc := 12) F fl_X5_9 dX5_sumOf_12 rfl rfl ?_
      refine g_iload_n (pc := 15) F dX5_sumOf_15 rfl ?_
      refine g_iload_n (pc := 16) F dX5_sumOf_16 rfl ?_
      refine g_iaddN (pc := 17) F dX5_sumOf_17 ?_
      refine g_iald2 (pc := 18) F dX5_sumOf_18 rfl rfl (by first | omega | (simp only [ix]; omega)) (by decide) ?_
      refine g_iadd (pc := 19) F dX5_sumOf_19 ?_
      refine g_istore_n (pc := 20) F dX5_sumOf_20 (by decide) ?_
      refine g_iincN (pc := 21) F dX5_sumOf_21 rfl (by decide) ?_
      refine g_goto (pc := 24) F dX5_sumOf_24 (tgt := 4) rfl ?_
      exact (congrArg (fun z => Go K 0 0 4 [(0, .ref 0), (1, .int (nI k0)), (2, .int z), (3, .int (nI (i + 1)))] [] (rW s m ig ws hg T V)) (it_succ (fun d v => v + s (k0 + d)) i (nI 0))).mp (ih c_7))
  show Go K 0 0 0 [(0, .ref 0), (1, .int (nI k0))] [] (rW s m ig ws hg T V)
  refine g_iconst (pc := 0) F dX5_sumOf_0 (v := nI 0) rfl ?_
  refine g_istore_n (pc := 1) F dX5_sumOf_1 (by decide) ?_
  refine g_iconst (pc := 2) F dX5_sumOf_2 (v := nI 0) rfl ?_
  refine g_istore_n (pc := 3) F dX5_sumOf_3 (by decide) ?_
  exact L 0 (Nat.zero_le _)

set_option maxRecDepth 100000 in
set_option maxHeartbeats 800000 in
theorem c_count (b : Int32) (X Y Z : DX) (im : Int32) (S : Nat → SX) (g h : Nat → Int32) (r : Nat → Int32) (hR : Rel b X r) (hI : Iv r) (h4 : r 4 = nI 0) (wh : Int32) : RCtr yX4_count cX4_count 2 (some .int) 7 [.ref 0, .int wh] (mW X Y Z im S g h) (.int (A_count r wh)) := by
  refine Ctr.of rfl (Nat.le_of_ble_eq_true rfl) ⟨clS_of rfl, mW_cl _ _ _ _ _ _ _⟩ (fun K F X0 => ?_)
  show Go K 0 0 0 [(0, .ref 0), (1, .int wh)] [] (mW X Y Z im S g h)
  refine g_iload_n (pc := 0) F dX4_count_0 rfl ?_
  rcases sw_cases 0 6 wh (by decide) with ⟨j_1, j1_1, j2_1, hx_1⟩ | ho_1
  · rcases (show j_1 = 0 ∨ j_1 = 1 ∨ j_1 = 2 ∨ j_1 = 3 ∨ j_1 = 4 ∨ j_1 = 5 ∨ j_1 = 6 by omega) with rfl | rfl | rfl | rfl | rfl | rfl | rfl
    · refine g_tableIn2 (pc := 1) F dX4_count_1 hx_1 (by decide) (by decide) (tgt := 44) rfl rfl ?_
      refine g_aload_n (pc := 44) F dX4_count_44 rfl ?_
      refine g_getf (pc := 45) F fl_X4_12 dX4_count_45 rfl rfl ?_
      refine g_getf (pc := 48) F fl_X4_148 dX4_count_48 rfl rfl ?_
      exact g_iret (pc := 51) F X0 dX4_count_51 (Nat.le_of_ble_eq_true rfl) (Nat.le_of_ble_eq_true rfl) rfl ⟨congrArg (fun z => some (Value.int z)) (by first
      | (rw [A_count_o ho_1])
      | (rw [hx_1, A_count_0]; exact hR.1.1)
      | (rw [hx_1, A_count_1]; exact hR.1.2.1)
      | (rw [hx_1, A_count_2]; done)
      | (rw [hx_1, A_count_3]; done)
      | (rw [hx_1, A_count_4]; done)
      | (rw [hx_1, A_count_5]; exact hR.1.2.2.2.2.2)
      | (rw [hx_1, A_count_6]; exact congrArg (fun z => z + nI 9) hR.1.2.2.1)
      | rw [hx_1, A_count_2]
      | rw [hx_1, A_count_3]
      | rw [hx_1, A_count_4]
      | fail), rfl⟩
    · refine g_tableIn2 (pc := 1) F dX4_count_1 hx_1 (by decide) (by decide) (tgt := 52) rfl rfl ?_
      refine g_aload_n (pc := 52) F dX4_count_52 rfl ?_
      refine g_getf (pc := 53) F fl_X4_12 dX4_count_53 rfl rfl ?_
      refine g_getf (pc := 56) F fl_X4_108 dX4_count_56 rfl rfl ?_
      exact g_iret (pc := 59) F X0 dX4_count_59 (Nat.le_of_ble_eq_true rfl) (Nat.le_of_ble_eq_true rfl) rfl ⟨congrArg (fun z => some (Value.int z)) (by first
      | (rw [A_count_o ho_1])
      | (rw [hx_1, A_count_0]; exact hR.1.1)
      | (rw [hx_1, A_count_1]; exact hR.1.2.1)
      | (rw [hx_1, A_count_2]; done)
      | (rw [hx_1, A_count_3]; done)
      | (rw [hx_1, A_count_4]; done)
      | (rw [hx_1, A_count_5]; exact hR.1.2.2.2.2.2)
      | (rw [hx_1, A_count_6]; exact congrArg (fun z => z + nI 9) hR.1.2.2.1)
      | rw [hx_1, A_count_2]
      | rw [hx_1, A_count_3]
      | rw [hx_1, A_count_4]
      | fail), rfl⟩
    · refine g_tableIn2 (pc := 1) F dX4_count_1 hx_1 (by decide) (by decide) (tgt := 60) rfl rfl ?_
      refine g_aload_n (pc := 60) F dX4_count_60 rfl ?_
      refine g_getf (pc := 61) F fl_X4_12 dX4_count_61 rfl rfl ?_
      refine h_readV (pc := 64) F (c_allGrains b X r hR) mi_X0_allGrains kv_X4_202 rfl rfl dX4_count_64 [1, 2, 3, 4, 5, 6, 7, 8] sub_now (by decide) (by decide) rfl rfl (Nat.le_of_ble_eq_true rfl) trivial (by decide) (by decide) ?_
      exact g_iret (pc := 67) F X0 dX4_count_67 (Nat.le_of_ble_eq_true rfl) (Nat.le_of_ble_eq_true rfl) rfl ⟨congrArg (fun z => some (Value.int z)) (by first
      | (rw [A_count_o ho_1])
      | (rw [hx_1, A_count_0]; exact hR.1.1)
      | (rw [hx_1, A_count_1]; exact hR.1.2.1)
      | (rw [hx_1, A_count_2]; done)
      | (rw [hx_1, A_count_3]; done)
      | (rw [hx_1, A_count_4]; done)
      | (rw [hx_1, A_count_5]; exact hR.1.2.2.2.2.2)
      | (rw [hx_1, A_count_6]; exact congrArg (fun z => z + nI 9) hR.1.2.2.1)
      | rw [hx_1, A_count_2]
      | rw [hx_1, A_count_3]
      | rw [hx_1, A_count_4]
      | fail), rfl⟩
    · refine g_tableIn2 (pc := 1) F dX4_count_1 hx_1 (by decide) (by decide) (tgt := 68) rfl rfl ?_
      refine g_aload_n (pc := 68) F dX4_count_68 rfl ?_
      refine g_getf (pc := 69) F fl_X4_12 dX4_count_69 rfl rfl ?_
      refine h_readV (pc := 72) F (c_allDone b X r hR) mi_X0_allDone kv_X4_243 rfl rfl dX4_count_72 [1, 2, 3, 4, 5, 6, 7, 8] sub_now (by decide) (by decide) rfl rfl (Nat.le_of_ble_eq_true rfl) trivial (by decide) (by decide) ?_
      exact g_iret (pc := 75) F X0 dX4_count_75 (Nat.le_of_ble_eq_true rfl) (Nat.le_of_ble_eq_true rfl) rfl ⟨congrArg (fun z => some (Value.int z)) (by first
      | (rw [A_count_o ho_1])
      | (rw [hx_1, A_count_0]; exact hR.1.1)
      | (rw [hx_1, A_count_1]; exact hR.1.2.1)
      | (rw [hx_1, A_count_2]; done)
      | (rw [hx_1, A_count_3]; done)
      | (rw [hx_1, A_count_4]; done)
      | (rw [hx_1, A_count_5]; exact hR.1.2.2.2.2.2)
      | (rw [hx_1, A_count_6]; exact congrArg (fun z => z + nI 9) hR.1.2.2.1)
      | rw [hx_1, A_count_2]
      | rw [hx_1, A_count_3]
      | rw [hx_1, A_count_4]
      | fail), rfl⟩
    · refine g_tableIn2 (pc := 1) F dX4_count_1 hx_1 (by decide) (by decide) (tgt := 76) rfl rfl ?_
      refine g_aload_n (pc := 76) F dX4_count_76 rfl ?_
      refine g_getf (pc := 77) F fl_X4_12 dX4_count_77 rfl rfl ?_
      refine h_readV (pc := 80) F (c_allBooks b X r hR hI) mi_X0_allBooks kv_X4_163 rfl rfl dX4_count_80 [1, 2, 3, 4, 5, 6, 7, 8] sub_now (by decide) (by decide) rfl rfl (Nat.le_of_ble_eq_true rfl) trivial (by decide) (by decide) ?_
      exact g_iret (pc := 83) F X0 dX4_count_83 (Nat.le_of_ble_eq_true rfl) (Nat.le_of_ble_eq_true rfl) rfl ⟨congrArg (fun z => some (Value.int z)) (by first
      | (rw [A_count_o ho_1])
      | (rw [hx_1, A_count_0]; exact hR.1.1)
      | (rw [hx_1, A_count_1]; exact hR.1.2.1)
      | (rw [hx_1, A_count_2]; done)
      | (rw [hx_1, A_count_3]; done)
      | (rw [hx_1, A_count_4]; done)
      | (rw [hx_1, A_count_5]; exact hR.1.2.2.2.2.2)
      | (rw [hx_1, A_count_6]; exact congrArg (fun z => z + nI 9) hR.1.2.2.1)
      | rw [hx_1, A_count_2]
      | rw [hx_1, A_count_3]
      | rw [hx_1, A_count_4]
      | fail), rfl⟩
    · refine g_tableIn2 (pc := 1) F dX4_count_1 hx_1 (by decide) (by decide) (tgt := 84) rfl rfl ?_
      refine g_aload_n (pc := 84) F dX4_count_84 rfl ?_
      refine g_getf (pc := 85) F fl_X4_12 dX4_count_85 rfl rfl ?_
      refine g_getf (pc := 88) F fl_X4_97 dX4_count_88 rfl rfl ?_
      exact g_iret (pc := 91) F X0 dX4_count_91 (Nat.le_of_ble_eq_true rfl) (Nat.le_of_ble_eq_true rfl) rfl ⟨congrArg (fun z => some (Value.int z)) (by first
      | (rw [A_count_o ho_1])
      | (rw [hx_1, A_count_0]; exact hR.1.1)
      | (rw [hx_1, A_count_1]; exact hR.1.2.1)
      | (rw [hx_1, A_count_2]; done)
      | (rw [hx_1, A_count_3]; done)
      | (rw [hx_1, A_count_4]; done)
      | (rw [hx_1, A_count_5]; exact hR.1.2.2.2.2.2)
      | (rw [hx_1, A_count_6]; exact congrArg (fun z => z + nI 9) hR.1.2.2.1)
      | rw [hx_1, A_count_2]
      | rw [hx_1, A_count_3]
      | rw [hx_1, A_count_4]
      | fail), rfl⟩
    · refine g_tableIn2 (pc := 1) F dX4_count_1 hx_1 (by decide) (by decide) (tgt := 92) rfl rfl ?_
      refine g_aload_n (pc := 92) F dX4_count_92 rfl ?_
      refine g_getf (pc := 93) F fl_X4_12 dX4_count_93 rfl rfl ?_
      refine g_getf (pc := 96) F fl_X4_156 dX4_count_96 rfl rfl ?_
      refine g_bipush (pc := 99) F dX4_count_99 (v := nI 9) rfl ?_
      refine g_iadd (pc := 101) F dX4_count_101 ?_
      exact g_iret (pc := 102) F X0 dX4_count_102 (Nat.le_of_ble_eq_true rfl) (Nat.le_of_ble_eq_true rfl) rfl ⟨congrArg (fun z => some (Value.int z)) (by first
      | (rw [A_count_o ho_1])
      | (rw [hx_1, A_count_0]; exact hR.1.1)
      | (rw [hx_1, A_count_1]; exact hR.1.2.1)
      | (rw [hx_1, A_count_2]; done)
      | (rw [hx_1, A_count_3]; done)
      | (rw [hx_1, A_count_4]; done)
      | (rw [hx_1, A_count_5]; exact hR.1.2.2.2.2.2)
      | (rw [hx_1, A_count_6]; exact congrArg (fun z => z + nI 9) hR.1.2.2.1)
      | rw [hx_1, A_count_2]
      | rw [hx_1, A_count_3]
      | rw [hx_1, A_count_4]
      | fail), rfl⟩
  · refine g_tableOut (pc := 1) F dX4_count_1 ho_1 (tgt := 103) rfl ?_
    refine g_iconst (pc := 103) F dX4_count_103 (v := (-1 : Int32)) (by decide) ?_
    exact g_iret (pc := 104) F X0 dX4_count_104 (Nat.le_of_ble_eq_true rfl) (Nat.le_of_ble_eq_true rfl) rfl ⟨congrArg (fun z => some (Value.int z)) (by first
      | (rw [A_count_o ho_1])
      | (rw [hx_1, A_count_0]; exact hR.1.1)
      | (rw [hx_1, A_count_1]; exact hR.1.2.1)
      | (rw [hx_1, A_count_2]; done)
      | (rw [hx_1, A_count_3]; done)
      | (rw [hx_1, A_count_4]; done)
      | (rw [hx_1, A_count_5]; exact hR.1.2.2.2.2.2)
      | (rw [hx_1, A_count_6]; exact congrArg (fun z => z + nI 9) hR.1.2.2.1)
      | rw [hx_1, A_count_2]
      | rw [hx_1, A_count_3]
      | rw [hx_1, A_count_4]
      | fail), rfl⟩

set_option maxRecDepth 100000 in
set_option maxHeartbeats 800000 in
theorem m_count (s m ig ws : Nat → Int32) (hg : Int32) (T : TX) (V : VX) (hI : Iv s) (wh : Int32) : RCtr yX5_count cX5_count 4 (some .int) 7 [.ref 0, .int wh] (rW s m ig ws hg T V) (.int (A_count s wh)) := by
  have hm6 := hI.1.2
  refine Ctr.of rfl (Nat.le_of_ble_eq_true rfl) ⟨clS_of rfl, clH_of rfl⟩ (fun K F X0 => ?_)
  show Go K 0 0 0 [(0, .ref 0), (1, .int wh)] [] (rW s m ig ws hg T V)
  refine g_iconst (pc := 0) F dX5_count_0 (v := nI 0) rfl ?_
  refine g_istore_n (pc := 1) F dX5_count_1 (by decide) ?_
  refine g_iload_n (pc := 2) F dX5_count_2 rfl ?_
  rcases sw_cases 0 6 wh (by decide) with ⟨j_3, j1_3, j2_3, hx_3⟩ | ho_3
  · rcases (show j_3 = 0 ∨ j_3 = 1 ∨ j_3 = 2 ∨ j_3 = 3 ∨ j_3 = 4 ∨ j_3 = 5 ∨ j_3 = 6 by omega) with rfl | rfl | rfl | rfl | rfl | rfl | rfl
    · refine g_tableIn2 (pc := 3) F dX5_count_3 hx_3 (by decide) (by decide) (tgt := 44) rfl rfl ?_
      refine g_aload_n (pc := 44) F dX5_count_44 rfl ?_
      refine g_getf (pc := 45) F fl_X5_9 dX5_count_45 rfl rfl ?_
      refine g_iload_n (pc := 48) F dX5_count_48 rfl ?_
      refine g_iald2 (pc := 49) F dX5_count_49 rfl hx_3 (by decide) (by decide) ?_
      exact g_iret (pc := 50) F X0 dX5_count_50 (Nat.le_of_ble_eq_true rfl) (Nat.le_of_ble_eq_true rfl) rfl ⟨congrArg (fun z => some (Value.int z)) (by first
      | (rw [A_count_o ho_3])
      | rw [hx_3, A_count_0]
      | rw [hx_3, A_count_1]
      | rw [hx_3, A_count_2]
      | rw [hx_3, A_count_3]
      | rw [hx_3, A_count_4]
      | rw [hx_3, A_count_5]
      | rw [hx_3, A_count_6]
      | (rw [hx_3, A_count_5]; rfl)
      | fail), rfl⟩
    · refine g_tableIn2 (pc := 3) F dX5_count_3 hx_3 (by decide) (by decide) (tgt := 44) rfl rfl ?_
      refine g_aload_n (pc := 44) F dX5_count_44 rfl ?_
      refine g_getf (pc := 45) F fl_X5_9 dX5_count_45 rfl rfl ?_
      refine g_iload_n (pc := 48) F dX5_count_48 rfl ?_
      refine g_iald2 (pc := 49) F dX5_count_49 rfl hx_3 (by decide) (by decide) ?_
      exact g_iret (pc := 50) F X0 dX5_count_50 (Nat.le_of_ble_eq_true rfl) (Nat.le_of_ble_eq_true rfl) rfl ⟨congrArg (fun z => some (Value.int z)) (by first
      | (rw [A_count_o ho_3])
      | rw [hx_3, A_count_0]
      | rw [hx_3, A_count_1]
      | rw [hx_3, A_count_2]
      | rw [hx_3, A_count_3]
      | rw [hx_3, A_count_4]
      | rw [hx_3, A_count_5]
      | rw [hx_3, A_count_6]
      | (rw [hx_3, A_count_5]; rfl)
      | fail), rfl⟩
    · refine g_tableIn2 (pc := 3) F dX5_count_3 hx_3 (by decide) (by decide) (tgt := 51) rfl rfl ?_
      refine g_aload_n (pc := 51) F dX5_count_51 rfl ?_
      refine g_iconst (pc := 52) F dX5_count_52 (v := nI 5) rfl ?_
      refine i_readV (pc := 53) F (m_sumOf s m ig ws hg T V 5 (by decide)) mi_X5_sumOf kv_X5_197 rfl rfl dX5_count_53 (by decide) (by decide) rfl (Nat.le_of_ble_eq_true rfl) (by decide) (by decide) ?_
      exact g_iret (pc := 56) F X0 dX5_count_56 (Nat.le_of_ble_eq_true rfl) (Nat.le_of_ble_eq_true rfl) rfl ⟨congrArg (fun z => some (Value.int z)) (by first
      | (rw [A_count_o ho_3])
      | rw [hx_3, A_count_0]
      | rw [hx_3, A_count_1]
      | rw [hx_3, A_count_2]
      | rw [hx_3, A_count_3]
      | rw [hx_3, A_count_4]
      | rw [hx_3, A_count_5]
      | rw [hx_3, A_count_6]
      | (rw [hx_3, A_count_5]; rfl)
      | fail), rfl⟩
    · refine g_tableIn2 (pc := 3) F dX5_count_3 hx_3 (by decide) (by decide) (tgt := 57) rfl rfl ?_
      refine g_aload_n (pc := 57) F dX5_count_57 rfl ?_
      refine g_bipush (pc := 58) F dX5_count_58 (v := nI 15) rfl ?_
      refine i_readV (pc := 60) F (m_sumOf s m ig ws hg T V 15 (by decide)) mi_X5_sumOf kv_X5_197 rfl rfl dX5_count_60 (by decide) (by decide) rfl (Nat.le_of_ble_eq_true rfl) (by decide) (by decide) ?_
      exact g_iret (pc := 63) F X0 dX5_count_63 (Nat.le_of_ble_eq_true rfl) (Nat.le_of_ble_eq_true rfl) rfl ⟨congrArg (fun z => some (Value.int z)) (by first
      | (rw [A_count_o ho_3])
      | rw [hx_3, A_count_0]
      | rw [hx_3, A_count_1]
      | rw [hx_3, A_count_2]
      | rw [hx_3, A_count_3]
      | rw [hx_3, A_count_4]
      | rw [hx_3, A_count_5]
      | rw [hx_3, A_count_6]
      | (rw [hx_3, A_count_5]; rfl)
      | fail), rfl⟩
    · refine g_tableIn2 (pc := 3) F dX5_count_3 hx_3 (by decide) (by decide) (tgt := 64) rfl rfl ?_
      refine g_aload_n (pc := 64) F dX5_count_64 rfl ?_
      refine g_getf (pc := 65) F fl_X5_9 dX5_count_65 rfl rfl ?_
      refine g_iconst (pc := 68) F dX5_count_68 (v := (-1 : Int32)) (by decide) ?_
      refine h_readS (pc := 69) F (c_booksOf s _ hI) mi_X5_booksOf ks_X5_152 dX5_count_69 [1] rfl (by decide) (by decide) rfl rfl (Nat.le_of_ble_eq_true rfl) trivial (by decide) (by decide) ?_
      exact g_iret (pc := 72) F X0 dX5_count_72 (Nat.le_of_ble_eq_true rfl) (Nat.le_of_ble_eq_true rfl) rfl ⟨congrArg (fun z => some (Value.int z)) (by first
      | (rw [A_count_o ho_3])
      | rw [hx_3, A_count_0]
      | rw [hx_3, A_count_1]
      | rw [hx_3, A_count_2]
      | rw [hx_3, A_count_3]
      | rw [hx_3, A_count_4]
      | rw [hx_3, A_count_5]
      | rw [hx_3, A_count_6]
      | (rw [hx_3, A_count_5]; rfl)
      | fail), rfl⟩
    · refine g_tableIn2 (pc := 3) F dX5_count_3 hx_3 (by decide) (by decide) (tgt := 73) rfl rfl ?_
      refine g_iconst (pc := 73) F dX5_count_73 (v := nI 0) rfl ?_
      refine g_istore_n (pc := 74) F dX5_count_74 (by decide) ?_
      have L : ∀ i, i ≤ many s → Go K 0 0 75 [(0, .ref 0), (1, .int wh), (2, .int (it (restF s) i (nI 0))), (3, .int (nI i))] [] (rW s m ig ws hg T V) := loop_up (P := fun i => Go K 0 0 75 [(0, .ref 0), (1, .int wh), (2, .int (it (restF s) i (nI 0))), (3, .int (nI i))] [] (rW s m ig ws hg T V)) (fun i hi ih => by
        refine g_iload_n (pc := 75) F dX5_count_75 rfl ?_
        refine g_aload_n (pc := 76) F dX5_count_76 rfl ?_
        refine g_getf (pc := 77) F fl_X5_9 dX5_count_77 rfl rfl ?_
        refine g_iconst (pc := 80) F dX5_count_80 (v := nI 0) rfl ?_
        refine g_iald2 (pc := 81) F dX5_count_81 rfl rfl (by first | omega | (simp only [ix]; omega)) (by decide) ?_
        refine g_icN_ge (pc := 82) F dX5_count_82 (tgt := 106) rfl rfl hI.1.1 (by omega) (by omega) (fun c_82 => ?_) (fun c_82 => ?_)
        · obtain rfl : i = many s := by omega
          refine g_iload_n (pc := 106) F dX5_count_106 rfl ?_
          exact g_iret (pc := 107) F X0 dX5_count_107 (Nat.le_of_ble_eq_true rfl) (Nat.le_of_ble_eq_true rfl) rfl ⟨congrArg (fun z => some (Value.int z)) (by first
            | (rw [hx_3, A_count_5]; rfl)
            | fail), rfl⟩
        · refine g_iload_n (pc := 85) F dX5_count_85 rfl ?_
          refine g_aload_n (pc := 86) F dX5_count_86 rfl ?_
          refine g_getf (pc := 87) F fl_X5_9 dX5_count_87 rfl rfl ?_
          refine g_iload_n (pc := 90) F dX5_count_90 rfl ?_
          refine g_iconst (pc := 91) F dX5_count_91 (v := nI 5) rfl ?_
          refine h_readS (pc := 92) F (c_of i 5) mi_X5_of ks_X5_47 dX5_count_92 [] rfl (by decide) (by decide) rfl rfl (Nat.le_of_ble_eq_true rfl) trivial (by decide) (by decide) ?_
          refine g_iald2 (pc := 95) F dX5_count_95 rfl rfl (by first | omega | (simp only [ix]; omega)) (by decide) ?_
          refine g_iload_n (pc := 96) F dX5_count_96 rfl ?_
          refine g_ishl (pc := 97) F dX5_count_97 ?_
          refine g_ior (pc := 98) F dX5_count_98 ?_
          refine g_istore_n (pc := 99) F dX5_count_99 (by decide) ?_
          refine g_iincN (pc := 100) F dX5_count_100 rfl (by decide) ?_
          refine g_goto (pc := 103) F dX5_count_103 (tgt := 75) rfl ?_
          exact (congrArg (fun z => Go K 0 0 75 [(0, .ref 0), (1, .int wh), (2, .int z), (3, .int (nI (i + 1)))] [] (rW s m ig ws hg T V)) (it_succ (restF s) i (nI 0))).mp (ih c_82))
      exact L 0 (Nat.zero_le _)
    · refine g_tableIn2 (pc := 3) F dX5_count_3 hx_3 (by decide) (by decide) (tgt := 108) rfl rfl ?_
      refine g_aload_n (pc := 108) F dX5_count_108 rfl ?_
      refine g_getf (pc := 109) F fl_X5_9 dX5_count_109 rfl rfl ?_
      refine g_iconst (pc := 112) F dX5_count_112 (v := nI 2) rfl ?_
      refine g_iald2 (pc := 113) F dX5_count_113 rfl rfl (by first | omega | (simp only [ix]; omega)) (by decide) ?_
      refine g_bipush (pc := 114) F dX5_count_114 (v := nI 9) rfl ?_
      refine g_iadd (pc := 116) F dX5_count_116 ?_
      exact g_iret (pc := 117) F X0 dX5_count_117 (Nat.le_of_ble_eq_true rfl) (Nat.le_of_ble_eq_true rfl) rfl ⟨congrArg (fun z => some (Value.int z)) (by first
      | (rw [A_count_o ho_3])
      | rw [hx_3, A_count_0]
      | rw [hx_3, A_count_1]
      | rw [hx_3, A_count_2]
      | rw [hx_3, A_count_3]
      | rw [hx_3, A_count_4]
      | rw [hx_3, A_count_5]
      | rw [hx_3, A_count_6]
      | (rw [hx_3, A_count_5]; rfl)
      | fail), rfl⟩
  · refine g_tableOut (pc := 3) F dX5_count_3 ho_3 (tgt := 118) rfl ?_
    refine g_iconst (pc := 118) F dX5_count_118 (v := (-1 : Int32)) (by decide) ?_
    exact g_iret (pc := 119) F X0 dX5_count_119 (Nat.le_of_ble_eq_true rfl) (Nat.le_of_ble_eq_true rfl) rfl ⟨congrArg (fun z => some (Value.int z)) (by first
      | (rw [A_count_o ho_3])
      | rw [hx_3, A_count_0]
      | rw [hx_3, A_count_1]
      | rw [hx_3, A_count_2]
      | rw [hx_3, A_count_3]
      | rw [hx_3, A_count_4]
      | rw [hx_3, A_count_5]
      | rw [hx_3, A_count_6]
      | (rw [hx_3, A_count_5]; rfl)
      | fail), rfl⟩

set_option maxRecDepth 100000 in
set_option maxHeartbeats 800000 in
theorem c_corporal (b : Int32) (X Y Z : DX) (im : Int32) (S : Nat → SX) (g h : Nat → Int32) (r : Nat → Int32) (hR : Rel b X r) (hI : Iv r) (h4 : r 4 = nI 0) (c wh : Int32) : RCtr yX4_corporal cX4_corporal 3 (some .int) 7 [.ref 0, .int c, .int wh] (mW X Y Z im S g h) (.int (A_corporal r c wh)) := by
  refine Ctr.of rfl (Nat.le_of_ble_eq_true rfl) ⟨clS_of rfl, mW_cl _ _ _ _ _ _ _⟩ (fun K F X0 => ?_)
  show Go K 0 0 0 [(0, .ref 0), (1, .int c), (2, .int wh)] [] (mW X Y Z im S g h)
  refine g_aload_n (pc := 0) F dX4_corporal_0 rfl ?_
  refine g_iload_n (pc := 1) F dX4_corporal_1 rfl ?_
  refine i_readV (pc := 2) F (c_isCorporal b X Y Z im S g h r _ hR hI) mi_X4_isCorporal kv_X4_78 rfl rfl dX4_corporal_2 (by decide) (by decide) rfl (Nat.le_of_ble_eq_true rfl) (by decide) (by decide) ?_
  refine g_ifne_d (pc := 5) F dX4_corporal_5 (tgt := 10) rfl (fun c_5 => ?_) (fun c_5 => ?_)
  · have hm6 := hI.1.2
    obtain ⟨j, hj, rfl⟩ := one_ex hI c_5
    obtain ⟨eK, eF, eA, eY, eB⟩ := hR.2.2.2 j hj
    obtain ⟨hk1, hf1, ⟨ea, ha⟩, -, -, hr1⟩ := hI.2.2.1 j hj
    obtain ⟨eG, eD⟩ := hR.2.2.1 _ ha
    obtain ⟨el, hl, -⟩ := Iv_lf hI ha
    have eL : dG X (atN r j) - dD X (atN r j) = lf r (atN r j) := by rw [eG, eD]; rfl
    have eV : cnt (dK X j) (dF X j) (lf r (atN r j)) (r 1 + nI 1) = cntR r j (r 1 + nI 1) := by rw [eK, eF]; rfl
    refine g_iload_n (pc := 10) F dX4_corporal_10 rfl ?_
    rcases sw_cases 0 6 wh (by decide) with ⟨j_11, j1_11, j2_11, hx_11⟩ | ho_11
    · rcases (show j_11 = 0 ∨ j_11 = 1 ∨ j_11 = 2 ∨ j_11 = 3 ∨ j_11 = 4 ∨ j_11 = 5 ∨ j_11 = 6 by omega) with rfl | rfl | rfl | rfl | rfl | rfl | rfl
      · refine g_tableIn2 (pc := 11) F dX4_corporal_11 hx_11 (by decide) (by decide) (tgt := 52) rfl rfl ?_
        refine g_aload_n (pc := 52) F dX4_corporal_52 rfl ?_
        refine g_getf (pc := 53) F fl_X4_12 dX4_corporal_53 rfl rfl ?_
        refine g_getf (pc := 56) F fl_X4_82 dX4_corporal_56 rfl rfl ?_
        refine g_iload_n (pc := 59) F dX4_corporal_59 rfl ?_
        refine g_iald2 (pc := 60) F dX4_corporal_60 rfl rfl (by first | omega | (simp only [ix]; omega)) (by decide) ?_
        exact g_iret (pc := 61) F X0 dX4_corporal_61 (Nat.le_of_ble_eq_true rfl) (Nat.le_of_ble_eq_true rfl) rfl ⟨congrArg (fun z => some (Value.int z)) (by first
      | exact (if_neg (fun z => c_5 z.1)).symm
      | exact (if_neg (fun z => sw_out6 ho_11 z.2)).symm
      | (rw [hx_11, A_corp_k (k := 0) (by omega) c_5 (by decide)]; exact eK)
      | (rw [hx_11, A_corp_k (k := 1) (by omega) c_5 (by decide)]; exact eF)
      | (rw [hx_11, A_corp_k (k := 2) (by omega) c_5 (by decide)]; exact eA)
      | (rw [hx_11, A_corp_k (k := 3) (by omega) c_5 (by decide)]; exact eY)
      | (rw [hx_11, A_corp_k (k := 4) (by omega) c_5 (by decide)]; exact eB)
      | (rw [hx_11, A_corp_k (k := 5) (by omega) c_5 (by decide)]; exact c_113.symm)
      | (rw [hx_11, A_corp_k (k := 5) (by omega) c_5 (by decide)]; exact (hr1.resolve_right c_113).symm)
      | (rw [hx_11, A_corp_6 (by omega) c_5])
      | fail), rfl⟩
      · refine g_tableIn2 (pc := 11) F dX4_corporal_11 hx_11 (by decide) (by decide) (tgt := 62) rfl rfl ?_
        refine g_aload_n (pc := 62) F dX4_corporal_62 rfl ?_
        refine g_getf (pc := 63) F fl_X4_12 dX4_corporal_63 rfl rfl ?_
        refine g_getf (pc := 66) F fl_X4_85 dX4_corporal_66 rfl rfl ?_
        refine g_iload_n (pc := 69) F dX4_corporal_69 rfl ?_
        refine g_iald2 (pc := 70) F dX4_corporal_70 rfl rfl (by first | omega | (simp only [ix]; omega)) (by decide) ?_
        exact g_iret (pc := 71) F X0 dX4_corporal_71 (Nat.le_of_ble_eq_true rfl) (Nat.le_of_ble_eq_true rfl) rfl ⟨congrArg (fun z => some (Value.int z)) (by first
      | exact (if_neg (fun z => c_5 z.1)).symm
      | exact (if_neg (fun z => sw_out6 ho_11 z.2)).symm
      | (rw [hx_11, A_corp_k (k := 0) (by omega) c_5 (by decide)]; exact eK)
      | (rw [hx_11, A_corp_k (k := 1) (by omega) c_5 (by decide)]; exact eF)
      | (rw [hx_11, A_corp_k (k := 2) (by omega) c_5 (by decide)]; exact eA)
      | (rw [hx_11, A_corp_k (k := 3) (by omega) c_5 (by decide)]; exact eY)
      | (rw [hx_11, A_corp_k (k := 4) (by omega) c_5 (by decide)]; exact eB)
      | (rw [hx_11, A_corp_k (k := 5) (by omega) c_5 (by decide)]; exact c_113.symm)
      | (rw [hx_11, A_corp_k (k := 5) (by omega) c_5 (by decide)]; exact (hr1.resolve_right c_113).symm)
      | (rw [hx_11, A_corp_6 (by omega) c_5])
      | fail), rfl⟩
      · refine g_tableIn2 (pc := 11) F dX4_corporal_11 hx_11 (by decide) (by decide) (tgt := 72) rfl rfl ?_
        refine g_aload_n (pc := 72) F dX4_corporal_72 rfl ?_
        refine g_getf (pc := 73) F fl_X4_12 dX4_corporal_73 rfl rfl ?_
        refine g_getf (pc := 76) F fl_X4_88 dX4_corporal_76 rfl rfl ?_
        refine g_iload_n (pc := 79) F dX4_corporal_79 rfl ?_
        refine g_iald2 (pc := 80) F dX4_corporal_80 rfl rfl (by first | omega | (simp only [ix]; omega)) (by decide) ?_
        exact g_iret (pc := 81) F X0 dX4_corporal_81 (Nat.le_of_ble_eq_true rfl) (Nat.le_of_ble_eq_true rfl) rfl ⟨congrArg (fun z => some (Value.int z)) (by first
      | exact (if_neg (fun z => c_5 z.1)).symm
      | exact (if_neg (fun z => sw_out6 ho_11 z.2)).symm
      | (rw [hx_11, A_corp_k (k := 0) (by omega) c_5 (by decide)]; exact eK)
      | (rw [hx_11, A_corp_k (k := 1) (by omega) c_5 (by decide)]; exact eF)
      | (rw [hx_11, A_corp_k (k := 2) (by omega) c_5 (by decide)]; exact eA)
      | (rw [hx_11, A_corp_k (k := 3) (by omega) c_5 (by decide)]; exact eY)
      | (rw [hx_11, A_corp_k (k := 4) (by omega) c_5 (by decide)]; exact eB)
      | (rw [hx_11, A_corp_k (k := 5) (by omega) c_5 (by decide)]; exact c_113.symm)
      | (rw [hx_11, A_corp_k (k := 5) (by omega) c_5 (by decide)]; exact (hr1.resolve_right c_113).symm)
      | (rw [hx_11, A_corp_6 (by omega) c_5])
      | fail), rfl⟩
      · refine g_tableIn2 (pc := 11) F dX4_corporal_11 hx_11 (by decide) (by decide) (tgt := 82) rfl rfl ?_
        refine g_aload_n (pc := 82) F dX4_corporal_82 rfl ?_
        refine g_getf (pc := 83) F fl_X4_12 dX4_corporal_83 rfl rfl ?_
        refine g_getf (pc := 86) F fl_X4_91 dX4_corporal_86 rfl rfl ?_
        refine g_iload_n (pc := 89) F dX4_corporal_89 rfl ?_
        refine g_iald2 (pc := 90) F dX4_corporal_90 rfl rfl (by first | omega | (simp only [ix]; omega)) (by decide) ?_
        exact g_iret (pc := 91) F X0 dX4_corporal_91 (Nat.le_of_ble_eq_true rfl) (Nat.le_of_ble_eq_true rfl) rfl ⟨congrArg (fun z => some (Value.int z)) (by first
      | exact (if_neg (fun z => c_5 z.1)).symm
      | exact (if_neg (fun z => sw_out6 ho_11 z.2)).symm
      | (rw [hx_11, A_corp_k (k := 0) (by omega) c_5 (by decide)]; exact eK)
      | (rw [hx_11, A_corp_k (k := 1) (by omega) c_5 (by decide)]; exact eF)
      | (rw [hx_11, A_corp_k (k := 2) (by omega) c_5 (by decide)]; exact eA)
      | (rw [hx_11, A_corp_k (k := 3) (by omega) c_5 (by decide)]; exact eY)
      | (rw [hx_11, A_corp_k (k := 4) (by omega) c_5 (by decide)]; exact eB)
      | (rw [hx_11, A_corp_k (k := 5) (by omega) c_5 (by decide)]; exact c_113.symm)
      | (rw [hx_11, A_corp_k (k := 5) (by omega) c_5 (by decide)]; exact (hr1.resolve_right c_113).symm)
      | (rw [hx_11, A_corp_6 (by omega) c_5])
      | fail), rfl⟩
      · refine g_tableIn2 (pc := 11) F dX4_corporal_11 hx_11 (by decide) (by decide) (tgt := 92) rfl rfl ?_
        refine g_aload_n (pc := 92) F dX4_corporal_92 rfl ?_
        refine g_getf (pc := 93) F fl_X4_12 dX4_corporal_93 rfl rfl ?_
        refine g_getf (pc := 96) F fl_X4_94 dX4_corporal_96 rfl rfl ?_
        refine g_iload_n (pc := 99) F dX4_corporal_99 rfl ?_
        refine g_iald2 (pc := 100) F dX4_corporal_100 rfl rfl (by first | omega | (simp only [ix]; omega)) (by decide) ?_
        exact g_iret (pc := 101) F X0 dX4_corporal_101 (Nat.le_of_ble_eq_true rfl) (Nat.le_of_ble_eq_true rfl) rfl ⟨congrArg (fun z => some (Value.int z)) (by first
      | exact (if_neg (fun z => c_5 z.1)).symm
      | exact (if_neg (fun z => sw_out6 ho_11 z.2)).symm
      | (rw [hx_11, A_corp_k (k := 0) (by omega) c_5 (by decide)]; exact eK)
      | (rw [hx_11, A_corp_k (k := 1) (by omega) c_5 (by decide)]; exact eF)
      | (rw [hx_11, A_corp_k (k := 2) (by omega) c_5 (by decide)]; exact eA)
      | (rw [hx_11, A_corp_k (k := 3) (by omega) c_5 (by decide)]; exact eY)
      | (rw [hx_11, A_corp_k (k := 4) (by omega) c_5 (by decide)]; exact eB)
      | (rw [hx_11, A_corp_k (k := 5) (by omega) c_5 (by decide)]; exact c_113.symm)
      | (rw [hx_11, A_corp_k (k := 5) (by omega) c_5 (by decide)]; exact (hr1.resolve_right c_113).symm)
      | (rw [hx_11, A_corp_6 (by omega) c_5])
      | fail), rfl⟩
      · refine g_tableIn2 (pc := 11) F dX4_corporal_11 hx_11 (by decide) (by decide) (tgt := 102) rfl rfl ?_
        refine g_aload_n (pc := 102) F dX4_corporal_102 rfl ?_
        refine g_getf (pc := 103) F fl_X4_12 dX4_corporal_103 rfl rfl ?_
        refine g_getf (pc := 106) F fl_X4_97 dX4_corporal_106 rfl rfl ?_
        refine g_iload_n (pc := 109) F dX4_corporal_109 rfl ?_
        refine h_readS (pc := 110) F (c_hasBit _ _) mi_X4_hasBit ks_X4_100 dX4_corporal_110 [] rfl (by decide) (by decide) rfl rfl (Nat.le_of_ble_eq_true rfl) trivial (by decide) (by decide) ?_
        rw [show dR X = restR r from hR.1.2.2.2.2.2, restR_has hI hj]
        refine g_ifeq_d (pc := 113) F dX4_corporal_113 (tgt := 120) rfl (fun c_113 => ?_) (fun c_113 => ?_)
        · refine g_iconst (pc := 120) F dX4_corporal_120 (v := nI 0) rfl ?_
          exact g_iret (pc := 121) F X0 dX4_corporal_121 (Nat.le_of_ble_eq_true rfl) (Nat.le_of_ble_eq_true rfl) rfl ⟨congrArg (fun z => some (Value.int z)) (by first
      | exact (if_neg (fun z => c_5 z.1)).symm
      | exact (if_neg (fun z => sw_out6 ho_11 z.2)).symm
      | (rw [hx_11, A_corp_k (k := 0) (by omega) c_5 (by decide)]; exact eK)
      | (rw [hx_11, A_corp_k (k := 1) (by omega) c_5 (by decide)]; exact eF)
      | (rw [hx_11, A_corp_k (k := 2) (by omega) c_5 (by decide)]; exact eA)
      | (rw [hx_11, A_corp_k (k := 3) (by omega) c_5 (by decide)]; exact eY)
      | (rw [hx_11, A_corp_k (k := 4) (by omega) c_5 (by decide)]; exact eB)
      | (rw [hx_11, A_corp_k (k := 5) (by omega) c_5 (by decide)]; exact c_113.symm)
      | (rw [hx_11, A_corp_k (k := 5) (by omega) c_5 (by decide)]; exact (hr1.resolve_right c_113).symm)
      | (rw [hx_11, A_corp_6 (by omega) c_5])
      | fail), rfl⟩
        · refine g_iconst (pc := 116) F dX4_corporal_116 (v := nI 1) rfl ?_
          refine g_goto (pc := 117) F dX4_corporal_117 (tgt := 121) rfl ?_
          exact g_iret (pc := 121) F X0 dX4_corporal_121 (Nat.le_of_ble_eq_true rfl) (Nat.le_of_ble_eq_true rfl) rfl ⟨congrArg (fun z => some (Value.int z)) (by first
      | exact (if_neg (fun z => c_5 z.1)).symm
      | exact (if_neg (fun z => sw_out6 ho_11 z.2)).symm
      | (rw [hx_11, A_corp_k (k := 0) (by omega) c_5 (by decide)]; exact eK)
      | (rw [hx_11, A_corp_k (k := 1) (by omega) c_5 (by decide)]; exact eF)
      | (rw [hx_11, A_corp_k (k := 2) (by omega) c_5 (by decide)]; exact eA)
      | (rw [hx_11, A_corp_k (k := 3) (by omega) c_5 (by decide)]; exact eY)
      | (rw [hx_11, A_corp_k (k := 4) (by omega) c_5 (by decide)]; exact eB)
      | (rw [hx_11, A_corp_k (k := 5) (by omega) c_5 (by decide)]; exact c_113.symm)
      | (rw [hx_11, A_corp_k (k := 5) (by omega) c_5 (by decide)]; exact (hr1.resolve_right c_113).symm)
      | (rw [hx_11, A_corp_6 (by omega) c_5])
      | fail), rfl⟩
      · refine g_tableIn2 (pc := 11) F dX4_corporal_11 hx_11 (by decide) (by decide) (tgt := 122) rfl rfl ?_
        refine g_aload_n (pc := 122) F dX4_corporal_122 rfl ?_
        refine g_getf (pc := 123) F fl_X4_12 dX4_corporal_123 rfl rfl ?_
        refine g_getf (pc := 126) F fl_X4_82 dX4_corporal_126 rfl rfl ?_
        refine g_iload_n (pc := 129) F dX4_corporal_129 rfl ?_
        refine g_iald2 (pc := 130) F dX4_corporal_130 rfl rfl (by first | omega | (simp only [ix]; omega)) (by decide) ?_
        refine g_aload_n (pc := 131) F dX4_corporal_131 rfl ?_
        refine g_getf (pc := 132) F fl_X4_12 dX4_corporal_132 rfl rfl ?_
        refine g_getf (pc := 135) F fl_X4_85 dX4_corporal_135 rfl rfl ?_
        refine g_iload_n (pc := 138) F dX4_corporal_138 rfl ?_
        refine g_iald2 (pc := 139) F dX4_corporal_139 rfl rfl (by first | omega | (simp only [ix]; omega)) (by decide) ?_
        refine g_aload_n (pc := 140) F dX4_corporal_140 rfl ?_
        refine g_getf (pc := 141) F fl_X4_12 dX4_corporal_141 rfl rfl ?_
        refine g_aload_n (pc := 144) F dX4_corporal_144 rfl ?_
        refine g_getf (pc := 145) F fl_X4_12 dX4_corporal_145 rfl rfl ?_
        refine g_getf (pc := 148) F fl_X4_88 dX4_corporal_148 rfl rfl ?_
        refine g_iload_n (pc := 151) F dX4_corporal_151 rfl ?_
        refine g_iald2 (pc := 152) F dX4_corporal_152 rfl rfl (by first | omega | (simp only [ix]; omega)) (by decide) ?_
        rw [eA]
        refine h_readV (pc := 153) F (c_leftIn X _ (atN r j) ea ha) mi_X0_leftIn kv_X4_104 rfl rfl dX4_corporal_153 [1, 2, 3, 4, 5, 6, 7, 8] sub_now (by decide) (by decide) rfl rfl (Nat.le_of_ble_eq_true rfl) trivial (by decide) (by decide) ?_
        rw [eL]
        refine g_aload_n (pc := 156) F dX4_corporal_156 rfl ?_
        refine g_getf (pc := 157) F fl_X4_12 dX4_corporal_157 rfl rfl ?_
        refine g_getf (pc := 160) F fl_X4_108 dX4_corporal_160 rfl rfl ?_
        rw [hR.1.2.1]
        refine g_iconst (pc := 163) F dX4_corporal_163 (v := nI 1) rfl ?_
        refine g_iadd (pc := 164) F dX4_corporal_164 ?_
        refine h_readS (pc := 165) F (c_kcounts _ _ _ _ (by rw [eK]; exact hk1) (by rw [eF]; exact hf1) ⟨_, hl, el⟩) mi_X1_counts ks_X4_111 dX4_corporal_165 [] rfl (by decide) (by decide) rfl rfl (Nat.le_of_ble_eq_true rfl) trivial (by decide) (by decide) ?_
        rw [eV]
        exact g_iret (pc := 168) F X0 dX4_corporal_168 (Nat.le_of_ble_eq_true rfl) (Nat.le_of_ble_eq_true rfl) rfl ⟨congrArg (fun z => some (Value.int z)) (by first
      | exact (if_neg (fun z => c_5 z.1)).symm
      | exact (if_neg (fun z => sw_out6 ho_11 z.2)).symm
      | (rw [hx_11, A_corp_k (k := 0) (by omega) c_5 (by decide)]; exact eK)
      | (rw [hx_11, A_corp_k (k := 1) (by omega) c_5 (by decide)]; exact eF)
      | (rw [hx_11, A_corp_k (k := 2) (by omega) c_5 (by decide)]; exact eA)
      | (rw [hx_11, A_corp_k (k := 3) (by omega) c_5 (by decide)]; exact eY)
      | (rw [hx_11, A_corp_k (k := 4) (by omega) c_5 (by decide)]; exact eB)
      | (rw [hx_11, A_corp_k (k := 5) (by omega) c_5 (by decide)]; exact c_113.symm)
      | (rw [hx_11, A_corp_k (k := 5) (by omega) c_5 (by decide)]; exact (hr1.resolve_right c_113).symm)
      | (rw [hx_11, A_corp_6 (by omega) c_5])
      | fail), rfl⟩
    · refine g_tableOut (pc := 11) F dX4_corporal_11 ho_11 (tgt := 169) rfl ?_
      refine g_iconst (pc := 169) F dX4_corporal_169 (v := (-1 : Int32)) (by decide) ?_
      exact g_iret (pc := 170) F X0 dX4_corporal_170 (Nat.le_of_ble_eq_true rfl) (Nat.le_of_ble_eq_true rfl) rfl ⟨congrArg (fun z => some (Value.int z)) (by first
      | exact (if_neg (fun z => c_5 z.1)).symm
      | exact (if_neg (fun z => sw_out6 ho_11 z.2)).symm
      | (rw [hx_11, A_corp_k (k := 0) (by omega) c_5 (by decide)]; exact eK)
      | (rw [hx_11, A_corp_k (k := 1) (by omega) c_5 (by decide)]; exact eF)
      | (rw [hx_11, A_corp_k (k := 2) (by omega) c_5 (by decide)]; exact eA)
      | (rw [hx_11, A_corp_k (k := 3) (by omega) c_5 (by decide)]; exact eY)
      | (rw [hx_11, A_corp_k (k := 4) (by omega) c_5 (by decide)]; exact eB)
      | (rw [hx_11, A_corp_k (k := 5) (by omega) c_5 (by decide)]; exact c_113.symm)
      | (rw [hx_11, A_corp_k (k := 5) (by omega) c_5 (by decide)]; exact (hr1.resolve_right c_113).symm)
      | (rw [hx_11, A_corp_6 (by omega) c_5])
      | fail), rfl⟩
  · refine g_iconst (pc := 8) F dX4_corporal_8 (v := (-1 : Int32)) (by decide) ?_
    exact g_iret (pc := 9) F X0 dX4_corporal_9 (Nat.le_of_ble_eq_true rfl) (Nat.le_of_ble_eq_true rfl) rfl ⟨congrArg (fun z => some (Value.int z)) (by first
      | exact (if_neg (fun z => c_5 z.1)).symm
      | exact (if_neg (fun z => sw_out6 ho_11 z.2)).symm
      | (rw [hx_11, A_corp_k (k := 0) (by omega) c_5 (by decide)]; exact eK)
      | (rw [hx_11, A_corp_k (k := 1) (by omega) c_5 (by decide)]; exact eF)
      | (rw [hx_11, A_corp_k (k := 2) (by omega) c_5 (by decide)]; exact eA)
      | (rw [hx_11, A_corp_k (k := 3) (by omega) c_5 (by decide)]; exact eY)
      | (rw [hx_11, A_corp_k (k := 4) (by omega) c_5 (by decide)]; exact eB)
      | (rw [hx_11, A_corp_k (k := 5) (by omega) c_5 (by decide)]; exact c_113.symm)
      | (rw [hx_11, A_corp_k (k := 5) (by omega) c_5 (by decide)]; exact (hr1.resolve_right c_113).symm)
      | (rw [hx_11, A_corp_6 (by omega) c_5])
      | fail), rfl⟩

theorem k6 {k : Nat} (h : k ≤ 6) (h2 : ¬ nI k = nI 6) : k < 6 := by
  have z : ¬ k = 6 := fun z => h2 (congrArg nI z)
  omega
set_option maxRecDepth 100000 in
set_option maxHeartbeats 800000 in
theorem m_corporal (s m ig ws : Nat → Int32) (hg : Int32) (T : TX) (V : VX) (hI : Iv s) (c wh : Int32) : RCtr yX5_corporal cX5_corporal 3 (some .int) 7 [.ref 0, .int c, .int wh] (rW s m ig ws hg T V) (.int (A_corporal s c wh)) := by
  refine Ctr.of rfl (Nat.le_of_ble_eq_true rfl) ⟨clS_of rfl, clH_of rfl⟩ (fun K F X0 => ?_)
  show Go K 0 0 0 [(0, .ref 0), (1, .int c), (2, .int wh)] [] (rW s m ig ws hg T V)
  refine g_aload_n (pc := 0) F dX5_corporal_0 rfl ?_
  refine g_iload_n (pc := 1) F dX5_corporal_1 rfl ?_
  refine i_readV (pc := 2) F (m_isOne s m ig ws hg T V _ hI) mi_X5_isOne kv_X5_123 rfl rfl dX5_corporal_2 (by decide) (by decide) rfl (Nat.le_of_ble_eq_true rfl) (by decide) (by decide) ?_
  refine g_ifeq_d (pc := 5) F dX5_corporal_5 (tgt := 18) rfl (fun c_5 => ?_) (fun c_5 => ?_)
  · refine g_iconst (pc := 18) F dX5_corporal_18 (v := (-1 : Int32)) (by decide) ?_
    exact g_iret (pc := 19) F X0 dX5_corporal_19 (Nat.le_of_ble_eq_true rfl) (Nat.le_of_ble_eq_true rfl) rfl ⟨congrArg (fun z => some (Value.int z)) (by first
      | exact (if_neg (fun z => c_5 z.1)).symm
      | exact (if_neg (fun z => c_15 z.2)).symm
      | (rw [c_23, A_corp_6 (by omega) c_5])
      | (rw [A_corp_k (by omega) c_5 (k6 hw0 c_23)])
      | fail), rfl⟩
  · refine g_iload_n (pc := 8) F dX5_corporal_8 rfl ?_
    refine g_iconst (pc := 9) F dX5_corporal_9 (v := nI 0) rfl ?_
    refine g_bipush (pc := 10) F dX5_corporal_10 (v := nI 6) rfl ?_
    refine h_readS (pc := 12) F (c_isIn _ _ _) mi_X5_isIn ks_X5_43 dX5_corporal_12 [] rfl (by decide) (by decide) rfl rfl (Nat.le_of_ble_eq_true rfl) trivial (by decide) (by decide) ?_
    refine g_ifne_d (pc := 15) F dX5_corporal_15 (tgt := 20) rfl (fun c_15 => ?_) (fun c_15 => ?_)
    · have hm6 := hI.1.2
      obtain ⟨j, hj, rfl⟩ := one_ex hI c_5
      obtain ⟨w0, hw0, rfl⟩ := in_ex (by decide) c_15
      refine g_iload_n (pc := 20) F dX5_corporal_20 rfl ?_
      refine g_bipush (pc := 21) F dX5_corporal_21 (v := nI 6) rfl ?_
      refine g_ic_ne (pc := 23) F dX5_corporal_23 (tgt := 45) rfl (fun c_23 => ?_) (fun c_23 => ?_)
      · have hw6 := k6 hw0 c_23
        refine g_aload_n (pc := 45) F dX5_corporal_45 rfl ?_
        refine g_getf (pc := 46) F fl_X5_9 dX5_corporal_46 rfl rfl ?_
        refine g_iload_n (pc := 49) F dX5_corporal_49 rfl ?_
        refine g_iload_n (pc := 50) F dX5_corporal_50 rfl ?_
        refine h_readS (pc := 51) F (c_of j w0) mi_X5_of ks_X5_47 dX5_corporal_51 [] rfl (by decide) (by decide) rfl rfl (Nat.le_of_ble_eq_true rfl) trivial (by decide) (by decide) ?_
        refine g_iald2 (pc := 54) F dX5_corporal_54 rfl rfl (by first | omega | (simp only [ix]; omega)) (by decide) ?_
        exact g_iret (pc := 55) F X0 dX5_corporal_55 (Nat.le_of_ble_eq_true rfl) (Nat.le_of_ble_eq_true rfl) rfl ⟨congrArg (fun z => some (Value.int z)) (by first
      | exact (if_neg (fun z => c_5 z.1)).symm
      | exact (if_neg (fun z => c_15 z.2)).symm
      | (rw [c_23, A_corp_6 (by omega) c_5])
      | (rw [A_corp_k (by omega) c_5 (k6 hw0 c_23)])
      | fail), rfl⟩
      · refine g_aload_n (pc := 26) F dX5_corporal_26 rfl ?_
        refine g_getf (pc := 27) F fl_X5_9 dX5_corporal_27 rfl rfl ?_
        refine g_iload_n (pc := 30) F dX5_corporal_30 rfl ?_
        refine g_aload_n (pc := 31) F dX5_corporal_31 rfl ?_
        refine g_getf (pc := 32) F fl_X5_9 dX5_corporal_32 rfl rfl ?_
        refine g_iconst (pc := 35) F dX5_corporal_35 (v := nI 1) rfl ?_
        refine g_iald2 (pc := 36) F dX5_corporal_36 rfl rfl (by first | omega | (simp only [ix]; omega)) (by decide) ?_
        refine g_iconst (pc := 37) F dX5_corporal_37 (v := nI 1) rfl ?_
        refine g_iadd (pc := 38) F dX5_corporal_38 ?_
        refine h_readS (pc := 39) F (c_counts s j _ hI hj) mi_X5_counts ks_X5_77 dX5_corporal_39 [1] rfl (by decide) (by decide) rfl rfl (Nat.le_of_ble_eq_true rfl) trivial (by decide) (by decide) ?_
        refine g_goto (pc := 42) F dX5_corporal_42 (tgt := 55) rfl ?_
        exact g_iret (pc := 55) F X0 dX5_corporal_55 (Nat.le_of_ble_eq_true rfl) (Nat.le_of_ble_eq_true rfl) rfl ⟨congrArg (fun z => some (Value.int z)) (by first
      | exact (if_neg (fun z => c_5 z.1)).symm
      | exact (if_neg (fun z => c_15 z.2)).symm
      | (rw [c_23, A_corp_6 (by omega) c_5])
      | (rw [A_corp_k (by omega) c_5 (k6 hw0 c_23)])
      | fail), rfl⟩
    · refine g_iconst (pc := 18) F dX5_corporal_18 (v := (-1 : Int32)) (by decide) ?_
      exact g_iret (pc := 19) F X0 dX5_corporal_19 (Nat.le_of_ble_eq_true rfl) (Nat.le_of_ble_eq_true rfl) rfl ⟨congrArg (fun z => some (Value.int z)) (by first
      | exact (if_neg (fun z => c_5 z.1)).symm
      | exact (if_neg (fun z => c_15 z.2)).symm
      | (rw [c_23, A_corp_6 (by omega) c_5])
      | (rw [A_corp_k (by omega) c_5 (k6 hw0 c_23)])
      | fail), rfl⟩

set_option maxRecDepth 100000 in
set_option maxHeartbeats 800000 in
theorem c_dip (b : Int32) (X Y Z : DX) (im : Int32) (S : Nat → SX) (g h : Nat → Int32) (r : Nat → Int32) (hR : Rel b X r) (hI : Iv r) (h4 : r 4 = nI 0) (d wh : Int32) : RCtr yX4_dip cX4_dip 3 (some .int) 7 [.ref 0, .int d, .int wh] (mW X Y Z im S g h) (.int (A_dip r d wh)) := by
  refine Ctr.of rfl (Nat.le_of_ble_eq_true rfl) ⟨clS_of rfl, mW_cl _ _ _ _ _ _ _⟩ (fun K F X0 => ?_)
  show Go K 0 0 0 [(0, .ref 0), (1, .int d), (2, .int wh)] [] (mW X Y Z im S g h)
  refine g_iload_n (pc := 0) F dX4_dip_0 rfl ?_
  refine h_readS (pc := 1) F (c_isDip _) mi_X4_isDip ks_X4_117 dX4_dip_1 [] rfl (by decide) (by decide) rfl rfl (Nat.le_of_ble_eq_true rfl) trivial (by decide) (by decide) ?_
  refine g_ifne_d (pc := 4) F dX4_dip_4 (tgt := 9) rfl (fun c_4 => ?_) (fun c_4 => ?_)
  · obtain ⟨j, hj, rfl⟩ := dip_ex c_4
    obtain ⟨eG, eD⟩ := hR.2.2.1 j hj
    refine g_iload_n (pc := 9) F dX4_dip_9 rfl ?_
    rcases sw_cases 0 2 wh (by decide) with ⟨j_10, j1_10, j2_10, hx_10⟩ | ho_10
    · rcases (show j_10 = 0 ∨ j_10 = 1 ∨ j_10 = 2 by omega) with rfl | rfl | rfl
      · refine g_tableIn2 (pc := 10) F dX4_dip_10 hx_10 (by decide) (by decide) (tgt := 36) rfl rfl ?_
        refine g_aload_n (pc := 36) F dX4_dip_36 rfl ?_
        refine g_getf (pc := 37) F fl_X4_12 dX4_dip_37 rfl rfl ?_
        refine g_getf (pc := 40) F fl_X4_120 dX4_dip_40 rfl rfl ?_
        refine g_iload_n (pc := 43) F dX4_dip_43 rfl ?_
        refine g_iald2 (pc := 44) F dX4_dip_44 rfl rfl (by first | omega | (simp only [ix]; omega)) (by decide) ?_
        exact g_iret (pc := 45) F X0 dX4_dip_45 (Nat.le_of_ble_eq_true rfl) (Nat.le_of_ble_eq_true rfl) rfl ⟨congrArg (fun z => some (Value.int z)) (by first
      | exact (if_neg (fun z => c_4 z.1)).symm
      | exact (if_neg (fun z => sw_out2 ho_10 z.2)).symm
      | exact ((if_pos ⟨c_4, by rw [hx_10]; decide⟩).trans (by rw [hx_10, if_pos (by decide), N_nI (by omega)]; exact eG.symm)).symm
      | exact ((if_pos ⟨c_4, by rw [hx_10]; decide⟩).trans (by rw [hx_10, if_neg (by decide), if_pos rfl, N_nI (by omega)]; exact eD.symm)).symm
      | exact ((if_pos ⟨c_4, by rw [hx_10]; decide⟩).trans (by rw [hx_10, if_neg (by decide), if_neg (by decide)])).symm
      | fail), rfl⟩
      · refine g_tableIn2 (pc := 10) F dX4_dip_10 hx_10 (by decide) (by decide) (tgt := 46) rfl rfl ?_
        refine g_aload_n (pc := 46) F dX4_dip_46 rfl ?_
        refine g_getf (pc := 47) F fl_X4_12 dX4_dip_47 rfl rfl ?_
        refine g_getf (pc := 50) F fl_X4_123 dX4_dip_50 rfl rfl ?_
        refine g_iload_n (pc := 53) F dX4_dip_53 rfl ?_
        refine g_iald2 (pc := 54) F dX4_dip_54 rfl rfl (by first | omega | (simp only [ix]; omega)) (by decide) ?_
        exact g_iret (pc := 55) F X0 dX4_dip_55 (Nat.le_of_ble_eq_true rfl) (Nat.le_of_ble_eq_true rfl) rfl ⟨congrArg (fun z => some (Value.int z)) (by first
      | exact (if_neg (fun z => c_4 z.1)).symm
      | exact (if_neg (fun z => sw_out2 ho_10 z.2)).symm
      | exact ((if_pos ⟨c_4, by rw [hx_10]; decide⟩).trans (by rw [hx_10, if_pos (by decide), N_nI (by omega)]; exact eG.symm)).symm
      | exact ((if_pos ⟨c_4, by rw [hx_10]; decide⟩).trans (by rw [hx_10, if_neg (by decide), if_pos rfl, N_nI (by omega)]; exact eD.symm)).symm
      | exact ((if_pos ⟨c_4, by rw [hx_10]; decide⟩).trans (by rw [hx_10, if_neg (by decide), if_neg (by decide)])).symm
      | fail), rfl⟩
      · refine g_tableIn2 (pc := 10) F dX4_dip_10 hx_10 (by decide) (by decide) (tgt := 56) rfl rfl ?_
        refine g_aload_n (pc := 56) F dX4_dip_56 rfl ?_
        refine g_getf (pc := 57) F fl_X4_12 dX4_dip_57 rfl rfl ?_
        refine g_iload_n (pc := 60) F dX4_dip_60 rfl ?_
        refine h_readV (pc := 61) F (c_whoIsAt b X r _ hR hI) mi_X0_whoIsAt kv_X4_126 rfl rfl dX4_dip_61 [1, 2, 3, 4, 5, 6, 7, 8] sub_now (by decide) (by decide) rfl rfl (Nat.le_of_ble_eq_true rfl) trivial (by decide) (by decide) ?_
        exact g_iret (pc := 64) F X0 dX4_dip_64 (Nat.le_of_ble_eq_true rfl) (Nat.le_of_ble_eq_true rfl) rfl ⟨congrArg (fun z => some (Value.int z)) (by first
      | exact (if_neg (fun z => c_4 z.1)).symm
      | exact (if_neg (fun z => sw_out2 ho_10 z.2)).symm
      | exact ((if_pos ⟨c_4, by rw [hx_10]; decide⟩).trans (by rw [hx_10, if_pos (by decide), N_nI (by omega)]; exact eG.symm)).symm
      | exact ((if_pos ⟨c_4, by rw [hx_10]; decide⟩).trans (by rw [hx_10, if_neg (by decide), if_pos rfl, N_nI (by omega)]; exact eD.symm)).symm
      | exact ((if_pos ⟨c_4, by rw [hx_10]; decide⟩).trans (by rw [hx_10, if_neg (by decide), if_neg (by decide)])).symm
      | fail), rfl⟩
    · refine g_tableOut (pc := 10) F dX4_dip_10 ho_10 (tgt := 65) rfl ?_
      refine g_iconst (pc := 65) F dX4_dip_65 (v := (-1 : Int32)) (by decide) ?_
      exact g_iret (pc := 66) F X0 dX4_dip_66 (Nat.le_of_ble_eq_true rfl) (Nat.le_of_ble_eq_true rfl) rfl ⟨congrArg (fun z => some (Value.int z)) (by first
      | exact (if_neg (fun z => c_4 z.1)).symm
      | exact (if_neg (fun z => sw_out2 ho_10 z.2)).symm
      | exact ((if_pos ⟨c_4, by rw [hx_10]; decide⟩).trans (by rw [hx_10, if_pos (by decide), N_nI (by omega)]; exact eG.symm)).symm
      | exact ((if_pos ⟨c_4, by rw [hx_10]; decide⟩).trans (by rw [hx_10, if_neg (by decide), if_pos rfl, N_nI (by omega)]; exact eD.symm)).symm
      | exact ((if_pos ⟨c_4, by rw [hx_10]; decide⟩).trans (by rw [hx_10, if_neg (by decide), if_neg (by decide)])).symm
      | fail), rfl⟩
  · refine g_iconst (pc := 7) F dX4_dip_7 (v := (-1 : Int32)) (by decide) ?_
    exact g_iret (pc := 8) F X0 dX4_dip_8 (Nat.le_of_ble_eq_true rfl) (Nat.le_of_ble_eq_true rfl) rfl ⟨congrArg (fun z => some (Value.int z)) (by first
      | exact (if_neg (fun z => c_4 z.1)).symm
      | exact (if_neg (fun z => sw_out2 ho_10 z.2)).symm
      | exact ((if_pos ⟨c_4, by rw [hx_10]; decide⟩).trans (by rw [hx_10, if_pos (by decide), N_nI (by omega)]; exact eG.symm)).symm
      | exact ((if_pos ⟨c_4, by rw [hx_10]; decide⟩).trans (by rw [hx_10, if_neg (by decide), if_pos rfl, N_nI (by omega)]; exact eD.symm)).symm
      | exact ((if_pos ⟨c_4, by rw [hx_10]; decide⟩).trans (by rw [hx_10, if_neg (by decide), if_neg (by decide)])).symm
      | fail), rfl⟩

theorem dip_20 {w : Int32} (h : nI 2 ≤ w) : ¬ w = 0 := fun z => by subst z; exact absurd h (by decide)
theorem dip_21 {w : Int32} (h : nI 2 ≤ w) : ¬ w = nI 1 := fun z => by subst z; exact absurd h (by decide)
theorem dip_1 {w : Int32} (h : nI 0 ≤ w ∧ w ≤ nI 2) (h2 : ¬ nI 2 ≤ w) (h0 : ¬ w = 0) : w = nI 1 := by
  obtain ⟨j, hj, rfl⟩ := in_ex (by decide) h
  have h3 : ¬ 2 ≤ j := fun z => h2 ((nI_leI (by decide) (by omega)).mpr z)
  have h4 : ¬ j = 0 := fun z => h0 (by rw [z]; rfl)
  exact congrArg nI (by omega)
set_option maxRecDepth 100000 in
set_option maxHeartbeats 800000 in
theorem m_dip (s m ig ws : Nat → Int32) (hg : Int32) (T : TX) (V : VX) (hI : Iv s) (d wh : Int32) : RCtr yX5_dip cX5_dip 5 (some .int) 7 [.ref 0, .int d, .int wh] (rW s m ig ws hg T V) (.int (A_dip s d wh)) := by
  have hm6 := hI.1.2
  refine Ctr.of rfl (Nat.le_of_ble_eq_true rfl) ⟨clS_of rfl, clH_of rfl⟩ (fun K F X0 => ?_)
  show Go K 0 0 0 [(0, .ref 0), (1, .int d), (2, .int wh)] [] (rW s m ig ws hg T V)
  refine g_iload_n (pc := 0) F dX5_dip_0 rfl ?_
  refine h_readS (pc := 1) F (c_mDip _) mi_X5_isDip ks_X5_61 dX5_dip_1 [] rfl (by decide) (by decide) rfl rfl (Nat.le_of_ble_eq_true rfl) trivial (by decide) (by decide) ?_
  refine g_ifeq_d (pc := 4) F dX5_dip_4 (tgt := 16) rfl (fun c_4 => ?_) (fun c_4 => ?_)
  · refine g_iconst (pc := 16) F dX5_dip_16 (v := (-1 : Int32)) (by decide) ?_
    exact g_iret (pc := 17) F X0 dX5_dip_17 (Nat.le_of_ble_eq_true rfl) (Nat.le_of_ble_eq_true rfl) rfl ⟨congrArg (fun z => some (Value.int z)) (by first
      | exact (if_neg (fun z => c_4 z.1)).symm
      | exact (if_neg (fun z => c_13 z.2)).symm
      | exact ((if_pos ⟨c_4, c_13⟩).trans ((if_pos c_28).trans (by rw [N_nI (by omega)]))).symm
      | exact ((if_pos ⟨c_4, c_13⟩).trans ((if_neg c_28).trans ((if_pos (dip_1 c_13 c_20 c_28)).trans (by rw [N_nI (by omega)])))).symm
      | fail), rfl⟩
  · refine g_iload_n (pc := 7) F dX5_dip_7 rfl ?_
    refine g_iconst (pc := 8) F dX5_dip_8 (v := nI 0) rfl ?_
    refine g_iconst (pc := 9) F dX5_dip_9 (v := nI 2) rfl ?_
    refine h_readS (pc := 10) F (c_isIn _ _ _) mi_X5_isIn ks_X5_43 dX5_dip_10 [] rfl (by decide) (by decide) rfl rfl (Nat.le_of_ble_eq_true rfl) trivial (by decide) (by decide) ?_
    refine g_ifne_d (pc := 13) F dX5_dip_13 (tgt := 18) rfl (fun c_13 => ?_) (fun c_13 => ?_)
    · obtain ⟨j, hj, rfl⟩ := dip_ex c_4
      refine g_iload_n (pc := 18) F dX5_dip_18 rfl ?_
      refine g_iconst (pc := 19) F dX5_dip_19 (v := nI 2) rfl ?_
      refine g_ic_ge (pc := 20) F dX5_dip_20 (tgt := 41) rfl (fun c_20 => ?_) (fun c_20 => ?_)
      · refine g_iconst (pc := 41) F dX5_dip_41 (v := nI 0) rfl ?_
        refine g_istore_n (pc := 42) F dX5_dip_42 (by decide) ?_
        refine g_iconst (pc := 43) F dX5_dip_43 (v := nI 0) rfl ?_
        refine g_istore (pc := 44) F dX5_dip_44 (by decide) ?_
        have L : ∀ i, i ≤ many s → Go K 0 0 46 [(0, .ref 0), (1, .int (nI j)), (2, .int wh), (3, .int (it (fun c z => z ||| (if s (ix c 2) = nI j then nI 1 <<< (nI c &&& 31) else nI 0)) i (nI 0))), (4, .int (nI i))] [] (rW s m ig ws hg T V) := loop_up (P := fun i => Go K 0 0 46 [(0, .ref 0), (1, .int (nI j)), (2, .int wh), (3, .int (it (fun c z => z ||| (if s (ix c 2) = nI j then nI 1 <<< (nI c &&& 31) else nI 0)) i (nI 0))), (4, .int (nI i))] [] (rW s m ig ws hg T V)) (fun i hi ih => by
          refine g_iload (pc := 46) F dX5_dip_46 rfl ?_
          refine g_aload_n (pc := 48) F dX5_dip_48 rfl ?_
          refine g_getf (pc := 49) F fl_X5_9 dX5_dip_49 rfl rfl ?_
          refine g_iconst (pc := 52) F dX5_dip_52 (v := nI 0) rfl ?_
          refine g_iald2 (pc := 53) F dX5_dip_53 rfl rfl (by first | omega | (simp only [ix]; omega)) (by decide) ?_
          refine g_icN_ge (pc := 54) F dX5_dip_54 (tgt := 89) rfl rfl hI.1.1 (by omega) (by omega) (fun c_54 => ?_) (fun c_54 => ?_)
          · obtain rfl : i = many s := by omega
            refine g_iload_n (pc := 89) F dX5_dip_89 rfl ?_
            exact g_iret (pc := 90) F X0 dX5_dip_90 (Nat.le_of_ble_eq_true rfl) (Nat.le_of_ble_eq_true rfl) rfl ⟨congrArg (fun z => some (Value.int z)) (by first
              | exact ((if_pos ⟨c_4, c_13⟩).trans ((if_neg (dip_20 c_20)).trans (if_neg (dip_21 c_20)))).symm
              | fail), rfl⟩
          · refine g_iload_n (pc := 57) F dX5_dip_57 rfl ?_
            refine g_aload_n (pc := 58) F dX5_dip_58 rfl ?_
            refine g_getf (pc := 59) F fl_X5_9 dX5_dip_59 rfl rfl ?_
            refine g_iload (pc := 62) F dX5_dip_62 rfl ?_
            refine g_iconst (pc := 64) F dX5_dip_64 (v := nI 2) rfl ?_
            refine h_readS (pc := 65) F (c_of i 2) mi_X5_of ks_X5_47 dX5_dip_65 [] rfl (by decide) (by decide) rfl rfl (Nat.le_of_ble_eq_true rfl) trivial (by decide) (by decide) ?_
            refine g_iald2 (pc := 68) F dX5_dip_68 rfl rfl (by first | omega | (simp only [ix]; omega)) (by decide) ?_
            refine g_iload_n (pc := 69) F dX5_dip_69 rfl ?_
            refine g_ic_ne (pc := 70) F dX5_dip_70 (tgt := 80) rfl (fun c_70 => ?_) (fun c_70 => ?_)
            · refine g_iconst (pc := 80) F dX5_dip_80 (v := nI 0) rfl ?_
              refine g_ior (pc := 81) F dX5_dip_81 ?_
              refine g_istore_n (pc := 82) F dX5_dip_82 (by decide) ?_
              refine g_iincN (pc := 83) F dX5_dip_83 rfl (by decide) ?_
              refine g_goto (pc := 86) F dX5_dip_86 (tgt := 46) rfl ?_
              first
                | exact (congrArg (fun z => Go K 0 0 46 [(0, .ref 0), (1, .int (nI j)), (2, .int wh), (3, .int z), (4, .int (nI (i + 1)))] [] (rW s m ig ws hg T V)) ((it_succ (fun c z => z ||| (if s (ix c 2) = nI j then nI 1 <<< (nI c &&& 31) else nI 0)) i (nI 0)).trans (congrArg (fun z => it (fun c z => z ||| (if s (ix c 2) = nI j then nI 1 <<< (nI c &&& 31) else nI 0)) i (nI 0) ||| z) (if_pos c_70)))).mp (ih c_54)
                | exact (congrArg (fun z => Go K 0 0 46 [(0, .ref 0), (1, .int (nI j)), (2, .int wh), (3, .int z), (4, .int (nI (i + 1)))] [] (rW s m ig ws hg T V)) ((it_succ (fun c z => z ||| (if s (ix c 2) = nI j then nI 1 <<< (nI c &&& 31) else nI 0)) i (nI 0)).trans (congrArg (fun z => it (fun c z => z ||| (if s (ix c 2) = nI j then nI 1 <<< (nI c &&& 31) else nI 0)) i (nI 0) ||| z) (if_neg c_70)))).mp (ih c_54)
                | fail
            · refine g_iconst (pc := 73) F dX5_dip_73 (v := nI 1) rfl ?_
              refine g_iload (pc := 74) F dX5_dip_74 rfl ?_
              refine g_ishl (pc := 76) F dX5_dip_76 ?_
              refine g_goto (pc := 77) F dX5_dip_77 (tgt := 81) rfl ?_
              refine g_ior (pc := 81) F dX5_dip_81 ?_
              refine g_istore_n (pc := 82) F dX5_dip_82 (by decide) ?_
              refine g_iincN (pc := 83) F dX5_dip_83 rfl (by decide) ?_
              refine g_goto (pc := 86) F dX5_dip_86 (tgt := 46) rfl ?_
              first
                | exact (congrArg (fun z => Go K 0 0 46 [(0, .ref 0), (1, .int (nI j)), (2, .int wh), (3, .int z), (4, .int (nI (i + 1)))] [] (rW s m ig ws hg T V)) ((it_succ (fun c z => z ||| (if s (ix c 2) = nI j then nI 1 <<< (nI c &&& 31) else nI 0)) i (nI 0)).trans (congrArg (fun z => it (fun c z => z ||| (if s (ix c 2) = nI j then nI 1 <<< (nI c &&& 31) else nI 0)) i (nI 0) ||| z) (if_pos c_70)))).mp (ih c_54)
                | exact (congrArg (fun z => Go K 0 0 46 [(0, .ref 0), (1, .int (nI j)), (2, .int wh), (3, .int z), (4, .int (nI (i + 1)))] [] (rW s m ig ws hg T V)) ((it_succ (fun c z => z ||| (if s (ix c 2) = nI j then nI 1 <<< (nI c &&& 31) else nI 0)) i (nI 0)).trans (congrArg (fun z => it (fun c z => z ||| (if s (ix c 2) = nI j then nI 1 <<< (nI c &&& 31) else nI 0)) i (nI 0) ||| z) (if_neg c_70)))).mp (ih c_54)
                | fail)
        exact L 0 (Nat.zero_le _)
      · refine g_aload_n (pc := 23) F dX5_dip_23 rfl ?_
        refine g_getf (pc := 24) F fl_X5_9 dX5_dip_24 rfl rfl ?_
        refine g_iload_n (pc := 27) F dX5_dip_27 rfl ?_
        refine g_if_ne (pc := 28) F dX5_dip_28 (tgt := 35) rfl (fun c_28 => ?_) (fun c_28 => ?_)
        · refine g_bipush (pc := 35) F dX5_dip_35 (v := nI 15) rfl ?_
          refine g_iload_n (pc := 37) F dX5_dip_37 rfl ?_
          refine g_iaddN (pc := 38) F dX5_dip_38 ?_
          refine g_iald2 (pc := 39) F dX5_dip_39 rfl rfl (by first | omega | (simp only [ix]; omega)) (by decide) ?_
          exact g_iret (pc := 40) F X0 dX5_dip_40 (Nat.le_of_ble_eq_true rfl) (Nat.le_of_ble_eq_true rfl) rfl ⟨congrArg (fun z => some (Value.int z)) (by first
      | exact (if_neg (fun z => c_4 z.1)).symm
      | exact (if_neg (fun z => c_13 z.2)).symm
      | exact ((if_pos ⟨c_4, c_13⟩).trans ((if_pos c_28).trans (by rw [N_nI (by omega)]))).symm
      | exact ((if_pos ⟨c_4, c_13⟩).trans ((if_neg c_28).trans ((if_pos (dip_1 c_13 c_20 c_28)).trans (by rw [N_nI (by omega)])))).symm
      | fail), rfl⟩
        · refine g_iconst (pc := 31) F dX5_dip_31 (v := nI 5) rfl ?_
          refine g_goto (pc := 32) F dX5_dip_32 (tgt := 37) rfl ?_
          refine g_iload_n (pc := 37) F dX5_dip_37 rfl ?_
          refine g_iaddN (pc := 38) F dX5_dip_38 ?_
          refine g_iald2 (pc := 39) F dX5_dip_39 rfl rfl (by first | omega | (simp only [ix]; omega)) (by decide) ?_
          exact g_iret (pc := 40) F X0 dX5_dip_40 (Nat.le_of_ble_eq_true rfl) (Nat.le_of_ble_eq_true rfl) rfl ⟨congrArg (fun z => some (Value.int z)) (by first
      | exact (if_neg (fun z => c_4 z.1)).symm
      | exact (if_neg (fun z => c_13 z.2)).symm
      | exact ((if_pos ⟨c_4, c_13⟩).trans ((if_pos c_28).trans (by rw [N_nI (by omega)]))).symm
      | exact ((if_pos ⟨c_4, c_13⟩).trans ((if_neg c_28).trans ((if_pos (dip_1 c_13 c_20 c_28)).trans (by rw [N_nI (by omega)])))).symm
      | fail), rfl⟩
    · refine g_iconst (pc := 16) F dX5_dip_16 (v := (-1 : Int32)) (by decide) ?_
      exact g_iret (pc := 17) F X0 dX5_dip_17 (Nat.le_of_ble_eq_true rfl) (Nat.le_of_ble_eq_true rfl) rfl ⟨congrArg (fun z => some (Value.int z)) (by first
      | exact (if_neg (fun z => c_4 z.1)).symm
      | exact (if_neg (fun z => c_13 z.2)).symm
      | exact ((if_pos ⟨c_4, c_13⟩).trans ((if_pos c_28).trans (by rw [N_nI (by omega)]))).symm
      | exact ((if_pos ⟨c_4, c_13⟩).trans ((if_neg c_28).trans ((if_pos (dip_1 c_13 c_20 c_28)).trans (by rw [N_nI (by omega)])))).symm
      | fail), rfl⟩

