/-! forged, judge, told -/
theorem dip_iff {i : Nat} (h : i < 2 ^ 31) : dipP (nI i) ↔ i < 10 := by
  constructor
  · intro z
    have := (nI_leI h (by decide)).mp z.2
    omega
  · exact fun z => ⟨(nI_leI (by decide) h).mpr (Nat.zero_le _), (nI_leI h (by decide)).mpr (by omega)⟩
abbrev fgP (r : Nat → Int32) (T : TX) (j k : Nat) : Prop := ¬ (k < 10 ∧ nI 0 ≤ tE T (100 * j + k) ∧ tE T (100 * j + k) ≤ r (5 + k))
/-- element k lets v pass -/
abbrev okT (T : TX) (j k : Nat) (v : Int32) : Prop := tE T (100 * j + k) = lst (tS T j) ∨ tE T (100 * j + k) = v
abbrev jgP (r : Nat → Int32) (T : TX) (j k : Nat) : Prop := ¬ okT T j k (booksR (daysR r k) (-1))
def S_forged (r : Nat → Int32) (T : TX) (d : Int32) : Int32 := if wrong T d (-1) = 0 then seekN (fgP r T (N d)) (N (tN T (N d))) 0 else wrong T d (-1)
def S_judge (r : Nat → Int32) (T : TX) (d : Int32) : Int32 := if wrong T d (-1) = 0 then seekN (jgP r T (N d)) (N (tN T (N d))) 0 else wrong T d (-1)
theorem S_forged_of {r : Nat → Int32} {T : TX} {j n : Nat} (hj : j < 8) (hw : wrong T (nI j) (-1) = 0) (hn : n ≤ 100) (en : tN T j = nI n) : S_forged r T (nI j) = seekN (fgP r T j) (n - 0) 0 := by
  unfold S_forged
  rw [if_pos hw, N_nI (by omega), en, N_nI (by omega)]
  rfl
theorem S_judge_of {r : Nat → Int32} {T : TX} {j n : Nat} (hj : j < 8) (hw : wrong T (nI j) (-1) = 0) (hn : n ≤ 100) (en : tN T j = nI n) : S_judge r T (nI j) = seekN (jgP r T j) (n - 0) 0 := by
  unfold S_judge
  rw [if_pos hw, N_nI (by omega), en, N_nI (by omega)]
  rfl
theorem skp_iff {U : SX} {T : TX} {j k : Nat} (h : RS1 U T j) (hk : k < 100) : skp U k = true ↔ tE T (100 * j + k) = lst (tS T j) := by
  unfold skp
  rw [h.2.2.2.2.1 k hk, h.2.2.1]
  exact decide_eq_true_iff
theorem ok_iff {U : SX} {T : TX} {j k : Nat} {v : Int32} (h : RS1 U T j) (hk : k < 100) : (skp U k = true ∨ sE U k = v) ↔ okT T j k v := by
  rw [skp_iff h hk, h.2.2.2.2.1 k hk]
set_option maxRecDepth 100000 in
set_option maxHeartbeats 800000 in
theorem m_leastOf (so : Int32) : RCtr yX5_leastOf cX5_leastOf 1 (some .int) 0 [.int so] ([]) (.int (lst so)) := by
  refine Ctr.of rfl (Nat.le_of_ble_eq_true rfl) ⟨clS_of rfl, clH_of rfl⟩ (fun K F X0 => ?_)
  show Go K 0 0 0 [(0, .int so)] [] ([])
  refine g_iload_n (pc := 0) F dX5_leastOf_0 rfl ?_
  refine g_if_ne (pc := 1) F dX5_leastOf_1 (tgt := 9) rfl (fun c_1 => ?_) (fun c_1 => ?_)
  · refine g_iload_n (pc := 9) F dX5_leastOf_9 rfl ?_
    refine g_iconst (pc := 10) F dX5_leastOf_10 (v := nI 1) rfl ?_
    refine g_ic_ne (pc := 11) F dX5_leastOf_11 (tgt := 20) rfl (fun c_11 => ?_) (fun c_11 => ?_)
    · refine g_ldc (pc := 20) F dX5_leastOf_20 kc_X5_176 ?_
      exact g_iret (pc := 22) F X0 dX5_leastOf_22 (Nat.le_of_ble_eq_true rfl) (Nat.le_of_ble_eq_true rfl) rfl ⟨congrArg (fun z => some (Value.int z)) (by unfold lst; first | exact (if_pos c_1).symm | (rw [if_neg c_1]; first | exact (if_pos c_11).symm | exact (if_neg c_11).symm | fail) | fail), rfl⟩
    · refine g_sipush (pc := 14) F dX5_leastOf_14 (v := (-32768 : Int32)) (by decide) ?_
      refine g_goto (pc := 17) F dX5_leastOf_17 (tgt := 22) rfl ?_
      exact g_iret (pc := 22) F X0 dX5_leastOf_22 (Nat.le_of_ble_eq_true rfl) (Nat.le_of_ble_eq_true rfl) rfl ⟨congrArg (fun z => some (Value.int z)) (by unfold lst; first | exact (if_pos c_1).symm | (rw [if_neg c_1]; first | exact (if_pos c_11).symm | exact (if_neg c_11).symm | fail) | fail), rfl⟩
  · refine g_bipush (pc := 4) F dX5_leastOf_4 (v := (-128 : Int32)) (by decide) ?_
    refine g_goto (pc := 6) F dX5_leastOf_6 (tgt := 22) rfl ?_
    exact g_iret (pc := 22) F X0 dX5_leastOf_22 (Nat.le_of_ble_eq_true rfl) (Nat.le_of_ble_eq_true rfl) rfl ⟨congrArg (fun z => some (Value.int z)) (by unfold lst; first | exact (if_pos c_1).symm | (rw [if_neg c_1]; first | exact (if_pos c_11).symm | exact (if_neg c_11).symm | fail) | fail), rfl⟩

set_option maxRecDepth 100000 in
set_option maxHeartbeats 800000 in
theorem c_forged_no (b : Int32) (X Y Z : DX) (im : Int32) (S : Nat → SX) (g h : Nat → Int32) (r : Nat → Int32) (hR : Rel b X r) (hI : Iv r) (h4 : r 4 = nI 0) (T : TX) (hS : RS S T) (d : Int32) (hd : ¬ shP d) : Ctr yX4_forged cX4_forged 5 (some .int) 7 0 0 [.ref 0, .int d] (mW X Y Z im S g h) (Look (.int (S_forged r T d)) X Z im S) := by
  refine Ctr.of rfl (Nat.le_of_ble_eq_true rfl) ⟨clS_of rfl, mW_cl _ _ _ _ _ _ _⟩ (fun K F X0 => ?_)
  show Go K 0 0 0 [(0, .ref 0), (1, .int d)] [] (mW X Y Z im S g h)
  refine g_aload_n (pc := 0) F dX4_forged_0 rfl ?_
  refine g_iload_n (pc := 1) F dX4_forged_1 rfl ?_
  refine i_readV (pc := 2) F (c_shelfNone X Y Z im S g h _ hd) mi_X4_shelfOrNull kv_X4_40 rfl rfl dX4_forged_2 (by decide) (by decide) rfl (Nat.le_of_ble_eq_true rfl) (by decide) (by decide) ?_
  refine g_astore_nN (pc := 5) F dX4_forged_5 (by decide) ?_
  refine g_aload_nN (pc := 6) F dX4_forged_6 rfl ?_
  refine g_iconst (pc := 7) F dX4_forged_7 (v := nI 2) rfl ?_
  refine h_readS (pc := 8) F (c_refusalN _) mi_X4_refusalUnless ks_X4_133 dX4_forged_8 [] rfl (by decide) (by decide) rfl rfl (Nat.le_of_ble_eq_true rfl) trivial (by decide) (by decide) ?_
  refine g_istore_n (pc := 11) F dX4_forged_11 (by decide) ?_
  refine g_aload_nN (pc := 12) F dX4_forged_12 rfl ?_
  refine g_ifnullN (pc := 13) F dX4_forged_13 (tgt := 20) rfl ?_
  refine g_iload_n (pc := 20) F dX4_forged_20 rfl ?_
  exact g_iret (pc := 21) F X0 dX4_forged_21 (Nat.le_of_ble_eq_true rfl) (Nat.le_of_ble_eq_true rfl) rfl ⟨congrArg (fun z => some (Value.int z)) ((if_neg (fun z => absurd ((wrong_no hd).symm.trans z) (by decide))).trans (wrong_no hd)).symm, Y, g, h, rfl⟩

set_option maxRecDepth 100000 in
set_option maxHeartbeats 800000 in
theorem c_forged_in (b : Int32) (X Y Z : DX) (im : Int32) (S : Nat → SX) (g h : Nat → Int32) (r : Nat → Int32) (hR : Rel b X r) (hI : Iv r) (h4 : r 4 = nI 0) (T : TX) (hS : RS S T) (d : Int32) (j : Nat) (hd : d = nI j) (hj : j < 8) : Ctr yX4_forged cX4_forged 5 (some .int) 7 0 0 [.ref 0, .int d] (mW X Y Z im S g h) (Look (.int (S_forged r T d)) X Z im S) := by
  subst hd
  have hw := wrong_in hS hj
  have hU := hS j hj
  obtain ⟨n9, hn9, en1, em1⟩ := hU.2.2.2.1
  refine Ctr.of rfl (Nat.le_of_ble_eq_true rfl) ⟨clS_of rfl, mW_cl _ _ _ _ _ _ _⟩ (fun K F X0 => ?_)
  show Go K 0 0 0 [(0, .ref 0), (1, .int (nI j))] [] (mW X Y Z im S g h)
  refine g_aload_n (pc := 0) F dX4_forged_0 rfl ?_
  refine g_iload_n (pc := 1) F dX4_forged_1 rfl ?_
  refine i_readV (pc := 2) F (c_shelfSome X Y Z im S g h _ j rfl hj) mi_X4_shelfOrNull kv_X4_40 rfl rfl dX4_forged_2 (by decide) (by decide) rfl (Nat.le_of_ble_eq_true rfl) (by decide) (by decide) ?_
  refine g_astore_n (pc := 5) F dX4_forged_5 (by decide) ?_
  refine g_aload_n (pc := 6) F dX4_forged_6 rfl ?_
  refine g_iconst (pc := 7) F dX4_forged_7 (v := nI 2) rfl ?_
  refine h_readS (pc := 8) F (c_refusal (S j) _) mi_X4_refusalUnless ks_X4_133 dX4_forged_8 [28 + 2 * j, 28 + 2 * j + 1] (mW_sub hj) (by decide) (by decide) (mW_nd hj) rfl (Nat.le_of_ble_eq_true rfl) trivial (by decide) (by decide) ?_
  refine g_istore_n (pc := 11) F dX4_forged_11 (by decide) ?_
  refine g_aload_n (pc := 12) F dX4_forged_12 rfl ?_
  refine g_ifnull (pc := 13) F dX4_forged_13 ?_
  refine g_iload_n (pc := 16) F dX4_forged_16 rfl ?_
  refine g_if_eq (pc := 17) F dX4_forged_17 (tgt := 22) rfl (fun c_17 => ?_) (fun c_17 => ?_)
  · refine g_iconst (pc := 22) F dX4_forged_22 (v := nI 0) rfl ?_
    refine g_istore (pc := 23) F dX4_forged_23 (by decide) ?_
    have L : ∀ i, i ≤ n9 → S_forged r T (nI j) = seekN (fgP r T j) (n9 - i) i → Go K 0 0 25 [(0, .ref 0), (1, .int (nI j)), (2, .ref (28 + 2 * j)), (3, .int (refU (sH (S j)) (nI 2))), (4, .int (nI i))] [] (mW X Y Z im S g h) := loop_up (P := fun i => S_forged r T (nI j) = seekN (fgP r T j) (n9 - i) i → Go K 0 0 25 [(0, .ref 0), (1, .int (nI j)), (2, .ref (28 + 2 * j)), (3, .int (refU (sH (S j)) (nI 2))), (4, .int (nI i))] [] (mW X Y Z im S g h)) (fun i hi ih => by
      intro he
      refine g_iload (pc := 25) F dX4_forged_25 rfl ?_
      refine g_aload_n (pc := 27) F dX4_forged_27 rfl ?_
      refine g_getf (pc := 28) F fl_X4_61 dX4_forged_28 (mW_sh hj) rfl ?_
      refine g_icN_ge (pc := 31) F dX4_forged_31 (tgt := 74) rfl rfl em1 (by omega) (by omega) (fun c_31 => ?_) (fun c_31 => ?_)
      · obtain rfl : i = n9 := by omega
        refine g_bipush (pc := 74) F dX4_forged_74 (v := (-4 : Int32)) (by decide) ?_
        exact g_iret (pc := 76) F X0 dX4_forged_76 (Nat.le_of_ble_eq_true rfl) (Nat.le_of_ble_eq_true rfl) rfl ⟨congrArg (fun z => some (Value.int z)) (seekK_end he).symm, Y, g, h, rfl⟩
      · refine g_iload (pc := 34) F dX4_forged_34 rfl ?_
        refine g_bipush (pc := 36) F dX4_forged_36 (v := nI 10) rfl ?_
        refine g_icN_ge (pc := 38) F dX4_forged_38 (tgt := 65) rfl rfl rfl (by omega) (by omega) (fun c_38 => ?_) (fun c_38 => ?_)
        · refine g_iload (pc := 65) F dX4_forged_65 rfl ?_
          exact g_iret (pc := 67) F X0 dX4_forged_67 (Nat.le_of_ble_eq_true rfl) (Nat.le_of_ble_eq_true rfl) rfl (by first
          | exact ⟨congrArg (fun z => some (Value.int z)) (seekK_yes (by omega) he (fun z => absurd z.1 (by omega))).symm, Y, g, h, rfl⟩
          | exact ⟨congrArg (fun z => some (Value.int z)) (seekK_yes (by omega) he (fun z => c_62 (by rw [hU.2.2.2.2.1 i (by omega), (hR.2.2.1 i c_38).1]; exact z.2))).symm, Y, g, h, rfl⟩
          | fail)
        · refine g_aload_n (pc := 41) F dX4_forged_41 rfl ?_
          refine g_getf (pc := 42) F fl_X4_231 dX4_forged_42 (mW_sh hj) rfl ?_
          refine g_iload (pc := 45) F dX4_forged_45 rfl ?_
          refine g_iald2 (pc := 47) F dX4_forged_47 (mW_el hj) rfl (by omega) (by decide) ?_
          refine g_iconst (pc := 48) F dX4_forged_48 (v := nI 0) rfl ?_
          refine g_aload_n (pc := 49) F dX4_forged_49 rfl ?_
          refine g_getf (pc := 50) F fl_X4_12 dX4_forged_50 rfl rfl ?_
          refine g_getf (pc := 53) F fl_X4_120 dX4_forged_53 rfl rfl ?_
          refine g_iload (pc := 56) F dX4_forged_56 rfl ?_
          refine g_iald2 (pc := 58) F dX4_forged_58 rfl rfl (by first | omega | (simp only [ix]; omega)) (by decide) ?_
          refine h_readS (pc := 59) F (c_isWithin _ _ _) mi_X4_isWithin ks_X4_129 dX4_forged_59 [] rfl (by decide) (by decide) rfl rfl (Nat.le_of_ble_eq_true rfl) trivial (by decide) (by decide) ?_
          refine g_ifne_d (pc := 62) F dX4_forged_62 (tgt := 68) rfl (fun c_62 => ?_) (fun c_62 => ?_)
          · refine g_iincN (pc := 68) F dX4_forged_68 rfl (by decide) ?_
            refine g_goto (pc := 71) F dX4_forged_71 (tgt := 25) rfl ?_
            exact ih c_31 (seekK_no c_31 he (fun z => z ⟨c_38, by rw [hU.2.2.2.2.1 i (by omega), (hR.2.2.1 i c_38).1] at c_62; exact c_62⟩))
          · refine g_iload (pc := 65) F dX4_forged_65 rfl ?_
            exact g_iret (pc := 67) F X0 dX4_forged_67 (Nat.le_of_ble_eq_true rfl) (Nat.le_of_ble_eq_true rfl) rfl (by first
          | exact ⟨congrArg (fun z => some (Value.int z)) (seekK_yes (by omega) he (fun z => absurd z.1 (by omega))).symm, Y, g, h, rfl⟩
          | exact ⟨congrArg (fun z => some (Value.int z)) (seekK_yes (by omega) he (fun z => c_62 (by rw [hU.2.2.2.2.1 i (by omega), (hR.2.2.1 i c_38).1]; exact z.2))).symm, Y, g, h, rfl⟩
          | fail))
    exact L 0 (Nat.zero_le _) (S_forged_of hj (hw.trans c_17) hn9 en1)
  · refine g_iload_n (pc := 20) F dX4_forged_20 rfl ?_
    exact g_iret (pc := 21) F X0 dX4_forged_21 (Nat.le_of_ble_eq_true rfl) (Nat.le_of_ble_eq_true rfl) rfl ⟨congrArg (fun z => some (Value.int z)) ((if_neg (fun z => c_17 (hw.symm.trans z))).trans hw).symm, Y, g, h, rfl⟩

theorem c_forged (b : Int32) (X Y Z : DX) (im : Int32) (S : Nat → SX) (g h : Nat → Int32) (r : Nat → Int32) (hR : Rel b X r) (hI : Iv r) (h4 : r 4 = nI 0) (T : TX) (hS : RS S T) (d : Int32) : Ctr yX4_forged cX4_forged 5 (some .int) 7 0 0 [.ref 0, .int d] (mW X Y Z im S g h) (Look (.int (S_forged r T d)) X Z im S) := by
  by_cases hd : shP d
  · obtain ⟨j, hj, e⟩ := sh_ex hd
    exact c_forged_in b X Y Z im S g h r hR hI h4 T hS d j e hj
  · exact c_forged_no b X Y Z im S g h r hR hI h4 T hS d hd

set_option maxRecDepth 100000 in
set_option maxHeartbeats 800000 in
theorem m_forged (s m ig ws : Nat → Int32) (hg : Int32) (T : TX) (V : VX) (hI : Iv s) (hT : IT T) (d : Int32) : Ctr yX5_forged cX5_forged 4 (some .int) 7 0 0 [.ref 0, .int d] (rW s m ig ws hg T V) (LookR (.int (S_forged s T d)) s ig ws hg T) := by
  refine Ctr.of rfl (Nat.le_of_ble_eq_true rfl) ⟨clS_of rfl, clH_of rfl⟩ (fun K F X0 => ?_)
  show Go K 0 0 0 [(0, .ref 0), (1, .int d)] [] (rW s m ig ws hg T V)
  refine g_aload_n (pc := 0) F dX5_forged_0 rfl ?_
  refine g_iload_n (pc := 1) F dX5_forged_1 rfl ?_
  refine g_iconst (pc := 2) F dX5_forged_2 (v := (-1 : Int32)) (by decide) ?_
  refine i_readV (pc := 3) F (m_wrongRow s m ig ws hg T V _ _) mi_X5_wrongRow kv_X5_133 rfl rfl dX5_forged_3 (by decide) (by decide) rfl (Nat.le_of_ble_eq_true rfl) (by decide) (by decide) ?_
  refine g_istore_n (pc := 6) F dX5_forged_6 (by decide) ?_
  refine g_iload_n (pc := 7) F dX5_forged_7 rfl ?_
  refine g_if_eq (pc := 8) F dX5_forged_8 (tgt := 13) rfl (fun c_8 => ?_) (fun c_8 => ?_)
  · obtain ⟨hsh, hk2⟩ := wrong_0 c_8
    obtain ⟨j, hj, rfl⟩ := sh_ex hsh
    obtain ⟨n9, hn9, en1⟩ := hT j hj
    refine g_iconst (pc := 13) F dX5_forged_13 (v := nI 0) rfl ?_
    refine g_istore_n (pc := 14) F dX5_forged_14 (by decide) ?_
    have L : ∀ i, i ≤ n9 → S_forged s T (nI j) = seekN (fgP s T j) (n9 - i) i → Go K 0 0 15 [(0, .ref 0), (1, .int (nI j)), (2, .int (wrong T (nI j) (-1))), (3, .int (nI i))] [] (rW s m ig ws hg T V) := loop_up (P := fun i => S_forged s T (nI j) = seekN (fgP s T j) (n9 - i) i → Go K 0 0 15 [(0, .ref 0), (1, .int (nI j)), (2, .int (wrong T (nI j) (-1))), (3, .int (nI i))] [] (rW s m ig ws hg T V)) (fun i hi ih => by
      intro he
      refine g_iload_n (pc := 15) F dX5_forged_15 rfl ?_
      refine g_aload_n (pc := 16) F dX5_forged_16 rfl ?_
      refine g_getf (pc := 17) F fl_X5_37 dX5_forged_17 rfl rfl ?_
      refine g_iload_n (pc := 20) F dX5_forged_20 rfl ?_
      refine g_iald2 (pc := 21) F dX5_forged_21 rfl rfl (by first | omega | (simp only [ix]; omega)) (by decide) ?_
      refine g_icN_ge (pc := 22) F dX5_forged_22 (tgt := 66) rfl rfl en1 (by omega) (by omega) (fun c_22 => ?_) (fun c_22 => ?_)
      · obtain rfl : i = n9 := by omega
        refine g_bipush (pc := 66) F dX5_forged_66 (v := (-4 : Int32)) (by decide) ?_
        exact g_iret (pc := 68) F X0 dX5_forged_68 (Nat.le_of_ble_eq_true rfl) (Nat.le_of_ble_eq_true rfl) rfl ⟨congrArg (fun z => some (Value.int z)) (seekK_end he).symm, m, V, rfl⟩
      · refine g_iload_n (pc := 25) F dX5_forged_25 rfl ?_
        refine h_readS (pc := 26) F (c_mDip _) mi_X5_isDip ks_X5_61 dX5_forged_26 [] rfl (by decide) (by decide) rfl rfl (Nat.le_of_ble_eq_true rfl) trivial (by decide) (by decide) ?_
        refine g_ifeq_d (pc := 29) F dX5_forged_29 (tgt := 58) rfl (fun c_29 => ?_) (fun c_29 => ?_)
        · refine g_iload_n (pc := 58) F dX5_forged_58 rfl ?_
          exact g_iret (pc := 59) F X0 dX5_forged_59 (Nat.le_of_ble_eq_true rfl) (Nat.le_of_ble_eq_true rfl) rfl (by first
          | exact ⟨congrArg (fun z => some (Value.int z)) (seekK_yes (by omega) he (fun z => c_29 ((dip_iff (by omega)).mpr z.1))).symm, m, V, rfl⟩
          | exact ⟨congrArg (fun z => some (Value.int z)) (seekK_yes (by omega) he (fun z => c_55 z.2)).symm, m, V, rfl⟩
          | fail)
        · have hi10 := (dip_iff (i := i) (by omega)).mp c_29
          refine g_aload_n (pc := 32) F dX5_forged_32 rfl ?_
          refine g_getf (pc := 33) F fl_X5_40 dX5_forged_33 rfl rfl ?_
          refine g_bipush (pc := 36) F dX5_forged_36 (v := nI 100) rfl ?_
          refine g_iload_n (pc := 38) F dX5_forged_38 rfl ?_
          refine g_imulN (pc := 39) F dX5_forged_39 ?_
          refine g_iload_n (pc := 40) F dX5_forged_40 rfl ?_
          refine g_iaddN (pc := 41) F dX5_forged_41 ?_
          refine g_iald2 (pc := 42) F dX5_forged_42 rfl rfl (by first | omega | (simp only [ix]; omega)) (by decide) ?_
          refine g_iconst (pc := 43) F dX5_forged_43 (v := nI 0) rfl ?_
          refine g_aload_n (pc := 44) F dX5_forged_44 rfl ?_
          refine g_getf (pc := 45) F fl_X5_9 dX5_forged_45 rfl rfl ?_
          refine g_iconst (pc := 48) F dX5_forged_48 (v := nI 5) rfl ?_
          refine g_iload_n (pc := 49) F dX5_forged_49 rfl ?_
          refine g_iaddN (pc := 50) F dX5_forged_50 ?_
          refine g_iald2 (pc := 51) F dX5_forged_51 rfl rfl (by first | omega | (simp only [ix]; omega)) (by decide) ?_
          refine h_readS (pc := 52) F (c_isIn _ _ _) mi_X5_isIn ks_X5_43 dX5_forged_52 [] rfl (by decide) (by decide) rfl rfl (Nat.le_of_ble_eq_true rfl) trivial (by decide) (by decide) ?_
          refine g_ifne_d (pc := 55) F dX5_forged_55 (tgt := 60) rfl (fun c_55 => ?_) (fun c_55 => ?_)
          · refine g_iincN (pc := 60) F dX5_forged_60 rfl (by decide) ?_
            refine g_goto (pc := 63) F dX5_forged_63 (tgt := 15) rfl ?_
            exact ih c_22 (seekK_no c_22 he (fun z => z ⟨hi10, c_55⟩))
          · refine g_iload_n (pc := 58) F dX5_forged_58 rfl ?_
            exact g_iret (pc := 59) F X0 dX5_forged_59 (Nat.le_of_ble_eq_true rfl) (Nat.le_of_ble_eq_true rfl) rfl (by first
          | exact ⟨congrArg (fun z => some (Value.int z)) (seekK_yes (by omega) he (fun z => c_29 ((dip_iff (by omega)).mpr z.1))).symm, m, V, rfl⟩
          | exact ⟨congrArg (fun z => some (Value.int z)) (seekK_yes (by omega) he (fun z => c_55 z.2)).symm, m, V, rfl⟩
          | fail))
    exact L 0 (Nat.zero_le _) (S_forged_of hj c_8 hn9 en1)
  · refine g_iload_n (pc := 11) F dX5_forged_11 rfl ?_
    exact g_iret (pc := 12) F X0 dX5_forged_12 (Nat.le_of_ble_eq_true rfl) (Nat.le_of_ble_eq_true rfl) rfl ⟨congrArg (fun z => some (Value.int z)) (if_neg c_8).symm, m, V, rfl⟩

set_option maxRecDepth 100000 in
set_option maxHeartbeats 800000 in
theorem c_judge_no (b : Int32) (X Y Z : DX) (im : Int32) (S : Nat → SX) (g h : Nat → Int32) (r : Nat → Int32) (hR : Rel b X r) (hI : Iv r) (h4 : r 4 = nI 0) (T : TX) (hS : RS S T) (d : Int32) (hd : ¬ shP d) : Ctr yX4_judge cX4_judge 5 (some .int) 7 0 0 [.ref 0, .int d] (mW X Y Z im S g h) (Look (.int (S_judge r T d)) X Z im S) := by
  refine Ctr.of rfl (Nat.le_of_ble_eq_true rfl) ⟨clS_of rfl, mW_cl _ _ _ _ _ _ _⟩ (fun K F X0 => ?_)
  show Go K 0 0 0 [(0, .ref 0), (1, .int d)] [] (mW X Y Z im S g h)
  refine g_aload_n (pc := 0) F dX4_judge_0 rfl ?_
  refine g_iload_n (pc := 1) F dX4_judge_1 rfl ?_
  refine i_readV (pc := 2) F (c_shelfNone X Y Z im S g h _ hd) mi_X4_shelfOrNull kv_X4_40 rfl rfl dX4_judge_2 (by decide) (by decide) rfl (Nat.le_of_ble_eq_true rfl) (by decide) (by decide) ?_
  refine g_astore_nN (pc := 5) F dX4_judge_5 (by decide) ?_
  refine g_aload_nN (pc := 6) F dX4_judge_6 rfl ?_
  refine g_iconst (pc := 7) F dX4_judge_7 (v := nI 2) rfl ?_
  refine h_readS (pc := 8) F (c_refusalN _) mi_X4_refusalUnless ks_X4_133 dX4_judge_8 [] rfl (by decide) (by decide) rfl rfl (Nat.le_of_ble_eq_true rfl) trivial (by decide) (by decide) ?_
  refine g_istore_n (pc := 11) F dX4_judge_11 (by decide) ?_
  refine g_aload_nN (pc := 12) F dX4_judge_12 rfl ?_
  refine g_ifnullN (pc := 13) F dX4_judge_13 (tgt := 20) rfl ?_
  refine g_iload_n (pc := 20) F dX4_judge_20 rfl ?_
  exact g_iret (pc := 21) F X0 dX4_judge_21 (Nat.le_of_ble_eq_true rfl) (Nat.le_of_ble_eq_true rfl) rfl ⟨congrArg (fun z => some (Value.int z)) ((if_neg (fun z => absurd ((wrong_no hd).symm.trans z) (by decide))).trans (wrong_no hd)).symm, Y, g, h, rfl⟩

set_option maxRecDepth 100000 in
set_option maxHeartbeats 800000 in
theorem c_judge_in (b : Int32) (X Y Z : DX) (im : Int32) (S : Nat → SX) (g h : Nat → Int32) (r : Nat → Int32) (hR : Rel b X r) (hI : Iv r) (h4 : r 4 = nI 0) (T : TX) (hS : RS S T) (d : Int32) (j : Nat) (hd : d = nI j) (hj : j < 8) : Ctr yX4_judge cX4_judge 5 (some .int) 7 0 0 [.ref 0, .int d] (mW X Y Z im S g h) (Look (.int (S_judge r T d)) X Z im S) := by
  subst hd
  have hw := wrong_in hS hj
  have hU := hS j hj
  obtain ⟨n9, hn9, en1, em1⟩ := hU.2.2.2.1
  refine Ctr.of rfl (Nat.le_of_ble_eq_true rfl) ⟨clS_of rfl, mW_cl _ _ _ _ _ _ _⟩ (fun K F X0 => ?_)
  show Go K 0 0 0 [(0, .ref 0), (1, .int (nI j))] [] (mW X Y Z im S g h)
  refine g_aload_n (pc := 0) F dX4_judge_0 rfl ?_
  refine g_iload_n (pc := 1) F dX4_judge_1 rfl ?_
  refine i_readV (pc := 2) F (c_shelfSome X Y Z im S g h _ j rfl hj) mi_X4_shelfOrNull kv_X4_40 rfl rfl dX4_judge_2 (by decide) (by decide) rfl (Nat.le_of_ble_eq_true rfl) (by decide) (by decide) ?_
  refine g_astore_n (pc := 5) F dX4_judge_5 (by decide) ?_
  refine g_aload_n (pc := 6) F dX4_judge_6 rfl ?_
  refine g_iconst (pc := 7) F dX4_judge_7 (v := nI 2) rfl ?_
  refine h_readS (pc := 8) F (c_refusal (S j) _) mi_X4_refusalUnless ks_X4_133 dX4_judge_8 [28 + 2 * j, 28 + 2 * j + 1] (mW_sub hj) (by decide) (by decide) (mW_nd hj) rfl (Nat.le_of_ble_eq_true rfl) trivial (by decide) (by decide) ?_
  refine g_istore_n (pc := 11) F dX4_judge_11 (by decide) ?_
  refine g_aload_n (pc := 12) F dX4_judge_12 rfl ?_
  refine g_ifnull (pc := 13) F dX4_judge_13 ?_
  refine g_iload_n (pc := 16) F dX4_judge_16 rfl ?_
  refine g_if_eq (pc := 17) F dX4_judge_17 (tgt := 22) rfl (fun c_17 => ?_) (fun c_17 => ?_)
  · refine g_aload_n (pc := 22) F dX4_judge_22 rfl ?_
    refine g_getf (pc := 23) F fl_X4_16 dX4_judge_23 rfl rfl ?_
    refine g_aload_n (pc := 26) F dX4_judge_26 rfl ?_
    refine g_getf (pc := 27) F fl_X4_12 dX4_judge_27 rfl rfl ?_
    refine h_callV (pc := 30) F (c_becomes b Y X r hR hI h4) mi_X0_becomes kv_X4_57 rfl rfl dX4_judge_30 [9, 10, 11, 12, 13, 14, 15, 16, 1, 2, 3, 4, 5, 6, 7, 8] sub_mn (by decide) (by decide) rfl rfl (Nat.le_of_ble_eq_true rfl) (by decide) (by decide) ?_
    rintro _ _ ⟨rfl, Y2, rfl, hY2⟩ -
    rw [place_mn]
    refine g_iconst (pc := 33) F dX4_judge_33 (v := nI 0) rfl ?_
    refine g_istore (pc := 34) F dX4_judge_34 (by decide) ?_
    have L : ∀ i, i ≤ n9 → S_judge r T (nI j) = seekN (jgP r T j) (n9 - i) i → ∀ Ya, Rel (nI 0 - r 3) Ya (daysR r i) → Go K 0 0 36 [(0, .ref 0), (1, .int (nI j)), (2, .ref (28 + 2 * j)), (3, .int (refU (sH (S j)) (nI 2))), (4, .int (nI i))] [] (mW X Ya Z im S g h) := loop_up (P := fun i => S_judge r T (nI j) = seekN (jgP r T j) (n9 - i) i → ∀ Ya, Rel (nI 0 - r 3) Ya (daysR r i) → Go K 0 0 36 [(0, .ref 0), (1, .int (nI j)), (2, .ref (28 + 2 * j)), (3, .int (refU (sH (S j)) (nI 2))), (4, .int (nI i))] [] (mW X Ya Z im S g h)) (fun i hi ih => by
      intro he Ya hRa
      have hIa : Iv (daysR r i) := (daysR_ok hI i).1
      refine g_iload (pc := 36) F dX4_judge_36 rfl ?_
      refine g_aload_n (pc := 38) F dX4_judge_38 rfl ?_
      refine g_getf (pc := 39) F fl_X4_61 dX4_judge_39 (mW_sh hj) rfl ?_
      refine g_icN_ge (pc := 42) F dX4_judge_42 (tgt := 77) rfl rfl em1 (by omega) (by omega) (fun c_42 => ?_) (fun c_42 => ?_)
      · obtain rfl : i = n9 := by omega
        refine g_bipush (pc := 77) F dX4_judge_77 (v := (-4 : Int32)) (by decide) ?_
        exact g_iret (pc := 79) F X0 dX4_judge_79 (Nat.le_of_ble_eq_true rfl) (Nat.le_of_ble_eq_true rfl) rfl ⟨congrArg (fun z => some (Value.int z)) (seekK_end he).symm, Ya, g, h, rfl⟩
      · refine g_aload_n (pc := 45) F dX4_judge_45 rfl ?_
        refine g_iload (pc := 46) F dX4_judge_46 rfl ?_
        refine g_aload_n (pc := 48) F dX4_judge_48 rfl ?_
        refine g_getf (pc := 49) F fl_X4_16 dX4_judge_49 rfl rfl ?_
        refine h_readV (pc := 52) F (c_allBooks _ Ya _ hRa hIa) mi_X0_allBooks kv_X4_163 rfl rfl dX4_judge_52 [9, 10, 11, 12, 13, 14, 15, 16] sub_mind (by decide) (by decide) rfl rfl (Nat.le_of_ble_eq_true rfl) trivial (by decide) (by decide) ?_
        refine h_readV (pc := 55) F (c_allows (S j) _ _ i rfl (by omega)) mi_X2_allows kv_X4_234 rfl rfl dX4_judge_55 [28 + 2 * j, 28 + 2 * j + 1] (mW_sub hj) (by decide) (by decide) (mW_nd hj) rfl (Nat.le_of_ble_eq_true rfl) trivial (by decide) (by decide) ?_
        refine g_ifne_d (pc := 58) F dX4_judge_58 (tgt := 64) rfl (fun c_58 => ?_) (fun c_58 => ?_)
        · refine g_aload_n (pc := 64) F dX4_judge_64 rfl ?_
          refine g_getf (pc := 65) F fl_X4_16 dX4_judge_65 rfl rfl ?_
          refine h_callV (pc := 68) F (c_passDay _ Ya _ hRa hIa) mi_X0_passDay kv_X4_182 rfl rfl dX4_judge_68 [9, 10, 11, 12, 13, 14, 15, 16] sub_mind (by decide) (by decide) rfl rfl (Nat.le_of_ble_eq_true rfl) (by decide) (by decide) ?_
          rintro _ _ ⟨rfl, Y3, rfl, hY3⟩ -
          rw [place_mind]
          refine g_iincN (pc := 71) F dX4_judge_71 rfl (by decide) ?_
          refine g_goto (pc := 74) F dX4_judge_74 (tgt := 36) rfl ?_
          exact ih c_42 (seekK_no c_42 he (fun z => z ((ok_iff hU (by omega)).mp c_58))) Y3 hY3
        · refine g_iload (pc := 61) F dX4_judge_61 rfl ?_
          exact g_iret (pc := 63) F X0 dX4_judge_63 (Nat.le_of_ble_eq_true rfl) (Nat.le_of_ble_eq_true rfl) rfl ⟨congrArg (fun z => some (Value.int z)) (seekK_yes (by omega) he (fun z => c_58 ((ok_iff hU (by omega)).mpr z))).symm, Ya, g, h, rfl⟩)
    exact L 0 (Nat.zero_le _) (S_judge_of hj (hw.trans c_17) hn9 en1) Y2 hY2
  · refine g_iload_n (pc := 20) F dX4_judge_20 rfl ?_
    exact g_iret (pc := 21) F X0 dX4_judge_21 (Nat.le_of_ble_eq_true rfl) (Nat.le_of_ble_eq_true rfl) rfl ⟨congrArg (fun z => some (Value.int z)) ((if_neg (fun z => c_17 (hw.symm.trans z))).trans hw).symm, Y, g, h, rfl⟩

theorem c_judge (b : Int32) (X Y Z : DX) (im : Int32) (S : Nat → SX) (g h : Nat → Int32) (r : Nat → Int32) (hR : Rel b X r) (hI : Iv r) (h4 : r 4 = nI 0) (T : TX) (hS : RS S T) (d : Int32) : Ctr yX4_judge cX4_judge 5 (some .int) 7 0 0 [.ref 0, .int d] (mW X Y Z im S g h) (Look (.int (S_judge r T d)) X Z im S) := by
  by_cases hd : shP d
  · obtain ⟨j, hj, e⟩ := sh_ex hd
    exact c_judge_in b X Y Z im S g h r hR hI h4 T hS d j e hj
  · exact c_judge_no b X Y Z im S g h r hR hI h4 T hS d hd

set_option maxRecDepth 100000 in
set_option maxHeartbeats 800000 in
theorem m_judge (s m ig ws : Nat → Int32) (hg : Int32) (T : TX) (V : VX) (hI : Iv s) (hT : IT T) (d : Int32) : Ctr yX5_judge cX5_judge 5 (some .int) 7 0 0 [.ref 0, .int d] (rW s m ig ws hg T V) (LookR (.int (S_judge s T d)) s ig ws hg T) := by
  refine Ctr.of rfl (Nat.le_of_ble_eq_true rfl) ⟨clS_of rfl, clH_of rfl⟩ (fun K F X0 => ?_)
  show Go K 0 0 0 [(0, .ref 0), (1, .int d)] [] (rW s m ig ws hg T V)
  refine g_aload_n (pc := 0) F dX5_judge_0 rfl ?_
  refine g_iload_n (pc := 1) F dX5_judge_1 rfl ?_
  refine g_iconst (pc := 2) F dX5_judge_2 (v := (-1 : Int32)) (by decide) ?_
  refine i_readV (pc := 3) F (m_wrongRow s m ig ws hg T V _ _) mi_X5_wrongRow kv_X5_133 rfl rfl dX5_judge_3 (by decide) (by decide) rfl (Nat.le_of_ble_eq_true rfl) (by decide) (by decide) ?_
  refine g_istore_n (pc := 6) F dX5_judge_6 (by decide) ?_
  refine g_iload_n (pc := 7) F dX5_judge_7 rfl ?_
  refine g_if_eq (pc := 8) F dX5_judge_8 (tgt := 13) rfl (fun c_8 => ?_) (fun c_8 => ?_)
  · obtain ⟨hsh, hk2⟩ := wrong_0 c_8
    obtain ⟨j, hj, rfl⟩ := sh_ex hsh
    obtain ⟨n9, hn9, en1⟩ := hT j hj
    refine g_aload_n (pc := 13) F dX5_judge_13 rfl ?_
    refine g_getf (pc := 14) F fl_X5_9 dX5_judge_14 rfl rfl ?_
    refine g_aload_n (pc := 17) F dX5_judge_17 rfl ?_
    refine g_getf (pc := 18) F fl_X5_13 dX5_judge_18 rfl rfl ?_
    refine h_callS (pc := 21) F (c_copyAll s m) mi_X5_copies ks_X5_140 dX5_judge_21 [1, 2] rfl (by decide) (by decide) rfl rfl (Nat.le_of_ble_eq_true rfl) (by decide) (by decide) ?_
    rintro _ _ ⟨rfl, rfl⟩ -
    refine g_iconst (pc := 24) F dX5_judge_24 (v := nI 0) rfl ?_
    refine g_istore_n (pc := 25) F dX5_judge_25 (by decide) ?_
    have L : ∀ i, i ≤ n9 → S_judge s T (nI j) = seekN (jgP s T j) (n9 - i) i → ∀ ma, ma = daysR s i → Go K 0 0 26 [(0, .ref 0), (1, .int (nI j)), (2, .int (wrong T (nI j) (-1))), (3, .int (nI i))] [] (rW s ma ig ws hg T V) := loop_up (P := fun i => S_judge s T (nI j) = seekN (jgP s T j) (n9 - i) i → ∀ ma, ma = daysR s i → Go K 0 0 26 [(0, .ref 0), (1, .int (nI j)), (2, .int (wrong T (nI j) (-1))), (3, .int (nI i))] [] (rW s ma ig ws hg T V)) (fun i hi ih => by
      intro he ma hm
      have hIa : Iv ma := by rw [hm]; exact (daysR_ok hI i).1
      refine g_iload_n (pc := 26) F dX5_judge_26 rfl ?_
      refine g_aload_n (pc := 27) F dX5_judge_27 rfl ?_
      refine g_getf (pc := 28) F fl_X5_37 dX5_judge_28 rfl rfl ?_
      refine g_iload_n (pc := 31) F dX5_judge_31 rfl ?_
      refine g_iald2 (pc := 32) F dX5_judge_32 rfl rfl (by first | omega | (simp only [ix]; omega)) (by decide) ?_
      refine g_icN_ge (pc := 33) F dX5_judge_33 (tgt := 92) rfl rfl en1 (by omega) (by omega) (fun c_33 => ?_) (fun c_33 => ?_)
      · obtain rfl : i = n9 := by omega
        refine g_bipush (pc := 92) F dX5_judge_92 (v := (-4 : Int32)) (by decide) ?_
        exact g_iret (pc := 94) F X0 dX5_judge_94 (Nat.le_of_ble_eq_true rfl) (Nat.le_of_ble_eq_true rfl) rfl ⟨congrArg (fun z => some (Value.int z)) (seekK_end he).symm, ma, V, rfl⟩
      · refine g_aload_n (pc := 36) F dX5_judge_36 rfl ?_
        refine g_getf (pc := 37) F fl_X5_40 dX5_judge_37 rfl rfl ?_
        refine g_bipush (pc := 40) F dX5_judge_40 (v := nI 100) rfl ?_
        refine g_iload_n (pc := 42) F dX5_judge_42 rfl ?_
        refine g_imulN (pc := 43) F dX5_judge_43 ?_
        refine g_iload_n (pc := 44) F dX5_judge_44 rfl ?_
        refine g_iaddN (pc := 45) F dX5_judge_45 ?_
        refine g_iald2 (pc := 46) F dX5_judge_46 rfl rfl (by first | omega | (simp only [ix]; omega)) (by decide) ?_
        refine g_istore (pc := 47) F dX5_judge_47 (by decide) ?_
        refine g_iload (pc := 49) F dX5_judge_49 rfl ?_
        refine g_aload_n (pc := 51) F dX5_judge_51 rfl ?_
        refine g_getf (pc := 52) F fl_X5_34 dX5_judge_52 rfl rfl ?_
        refine g_iload_n (pc := 55) F dX5_judge_55 rfl ?_
        refine g_iald2 (pc := 56) F dX5_judge_56 rfl rfl (by first | omega | (simp only [ix]; omega)) (by decide) ?_
        refine h_readS (pc := 57) F (m_leastOf _) mi_X5_leastOf ks_X5_177 dX5_judge_57 [] rfl (by decide) (by decide) rfl rfl (Nat.le_of_ble_eq_true rfl) trivial (by decide) (by decide) ?_
        refine g_ic_eq (pc := 60) F dX5_judge_60 (tgt := 78) rfl (fun c_60 => ?_) (fun c_60 => ?_)
        · refine g_aload_n (pc := 78) F dX5_judge_78 rfl ?_
          refine g_getf (pc := 79) F fl_X5_13 dX5_judge_79 rfl rfl ?_
          refine g_iconst (pc := 82) F dX5_judge_82 (v := nI 1) rfl ?_
          refine h_callS (pc := 83) F (c_daysOn ma _ 1 hIa rfl (by omega)) mi_X5_daysOn ks_X5_130 dX5_judge_83 [2] rfl (by decide) (by decide) rfl rfl (Nat.le_of_ble_eq_true rfl) (by decide) (by decide) ?_
          rintro _ _ ⟨rfl, rfl⟩ -
          refine g_iincN (pc := 86) F dX5_judge_86 rfl (by decide) ?_
          refine g_goto (pc := 89) F dX5_judge_89 (tgt := 26) rfl ?_
          refine g_less [0, 1, 2, 3] rfl ?_
          exact ih c_33 (seekK_no c_33 he (fun z => z (by first | exact Or.inl c_60 | exact Or.inr (by rw [hm] at c_73; exact c_73) | fail))) _ (by rw [hm]; exact days_one s i)
        · refine g_iload (pc := 63) F dX5_judge_63 rfl ?_
          refine g_aload_n (pc := 65) F dX5_judge_65 rfl ?_
          refine g_getf (pc := 66) F fl_X5_13 dX5_judge_66 rfl rfl ?_
          refine g_iconst (pc := 69) F dX5_judge_69 (v := (-1 : Int32)) (by decide) ?_
          refine h_readS (pc := 70) F (c_booksOf ma _ hIa) mi_X5_booksOf ks_X5_152 dX5_judge_70 [2] rfl (by decide) (by decide) rfl rfl (Nat.le_of_ble_eq_true rfl) trivial (by decide) (by decide) ?_
          refine g_ic_eq (pc := 73) F dX5_judge_73 (tgt := 78) rfl (fun c_73 => ?_) (fun c_73 => ?_)
          · refine g_aload_n (pc := 78) F dX5_judge_78 rfl ?_
            refine g_getf (pc := 79) F fl_X5_13 dX5_judge_79 rfl rfl ?_
            refine g_iconst (pc := 82) F dX5_judge_82 (v := nI 1) rfl ?_
            refine h_callS (pc := 83) F (c_daysOn ma _ 1 hIa rfl (by omega)) mi_X5_daysOn ks_X5_130 dX5_judge_83 [2] rfl (by decide) (by decide) rfl rfl (Nat.le_of_ble_eq_true rfl) (by decide) (by decide) ?_
            rintro _ _ ⟨rfl, rfl⟩ -
            refine g_iincN (pc := 86) F dX5_judge_86 rfl (by decide) ?_
            refine g_goto (pc := 89) F dX5_judge_89 (tgt := 26) rfl ?_
            refine g_less [0, 1, 2, 3] rfl ?_
            exact ih c_33 (seekK_no c_33 he (fun z => z (by first | exact Or.inl c_60 | exact Or.inr (by rw [hm] at c_73; exact c_73) | fail))) _ (by rw [hm]; exact days_one s i)
          · refine g_iload_n (pc := 76) F dX5_judge_76 rfl ?_
            exact g_iret (pc := 77) F X0 dX5_judge_77 (Nat.le_of_ble_eq_true rfl) (Nat.le_of_ble_eq_true rfl) rfl ⟨congrArg (fun z => some (Value.int z)) (seekK_yes (by omega) he (fun z => z.elim c_60 (fun z => c_73 (by rw [hm]; exact z)))).symm, ma, V, rfl⟩)
    exact L 0 (Nat.zero_le _) (S_judge_of hj c_8 hn9 en1) s rfl
  · refine g_iload_n (pc := 11) F dX5_judge_11 rfl ?_
    exact g_iret (pc := 12) F X0 dX5_judge_12 (Nat.le_of_ble_eq_true rfl) (Nat.le_of_ble_eq_true rfl) rfl ⟨congrArg (fun z => some (Value.int z)) (if_neg c_8).symm, m, V, rfl⟩

/-- all n elements let pass what place a of the row is, day by day -/
abbrev TOLD (T : TX) (j n : Nat) (r : Nat → Int32) (a : Nat) : Prop := ∀ k, k < n → okT T j k (daysR r k a)
theorem bI_y {P : Prop} [Decidable P] (h : P) : nI 1 = bI (decide P) := by rw [decide_eq_true h]; rfl
theorem bI_n {P : Prop} [Decidable P] (h : ¬ P) : nI 0 = bI (decide P) := by rw [decide_eq_false h]; rfl
set_option maxRecDepth 100000 in
set_option maxHeartbeats 800000 in
theorem m_isTold (s m ig ws : Nat → Int32) (hg : Int32) (T : TX) (V : VX) (hIm : Iv m) (j : Nat) (hj : j < 8) (n9 : Nat) (hn9 : n9 ≤ 100) (en1 : tN T j = nI n9) (x : Int32) (a : Nat) (hx : x = nI a) (ha : a < 61) : Ctr yX5_isTold cX5_isTold 5 (some .boolean) 6 0 0 [.ref 0, .int (nI j), .int x] (rW s m ig ws hg T V) (fun v hh => v = some (.int (bI (decide (TOLD T j n9 m a)))) ∧ ∃ m2, hh = rW s m2 ig ws hg T V) := by
  subst hx
  refine Ctr.of rfl (Nat.le_of_ble_eq_true rfl) ⟨clS_of rfl, clH_of rfl⟩ (fun K F X0 => ?_)
  show Go K 0 0 0 [(0, .ref 0), (1, .int (nI j)), (2, .int (nI a))] [] (rW s m ig ws hg T V)
  refine g_iconst (pc := 0) F dX5_isTold_0 (v := nI 0) rfl ?_
  refine g_istore_n (pc := 1) F dX5_isTold_1 (by decide) ?_
  have L : ∀ i, i ≤ n9 → (∀ k, k < i → okT T j k (daysR m k a)) → ∀ ma, ma = daysR m i → Go K 0 0 2 [(0, .ref 0), (1, .int (nI j)), (2, .int (nI a)), (3, .int (nI i))] [] (rW s ma ig ws hg T V) := loop_up (P := fun i => (∀ k, k < i → okT T j k (daysR m k a)) → ∀ ma, ma = daysR m i → Go K 0 0 2 [(0, .ref 0), (1, .int (nI j)), (2, .int (nI a)), (3, .int (nI i))] [] (rW s ma ig ws hg T V)) (fun i hi ih => by
    intro he ma hm
    have hIa : Iv ma := by rw [hm]; exact (daysR_ok hIm i).1
    refine g_iload_n (pc := 2) F dX5_isTold_2 rfl ?_
    refine g_aload_n (pc := 3) F dX5_isTold_3 rfl ?_
    refine g_getf (pc := 4) F fl_X5_37 dX5_isTold_4 rfl rfl ?_
    refine g_iload_n (pc := 7) F dX5_isTold_7 rfl ?_
    refine g_iald2 (pc := 8) F dX5_isTold_8 rfl rfl (by first | omega | (simp only [ix]; omega)) (by decide) ?_
    refine g_icN_ge (pc := 9) F dX5_isTold_9 (tgt := 66) rfl rfl en1 (by omega) (by omega) (fun c_9 => ?_) (fun c_9 => ?_)
    · obtain rfl : i = n9 := by omega
      refine g_iconst (pc := 66) F dX5_isTold_66 (v := nI 1) rfl ?_
      exact g_zret (pc := 67) F X0 dX5_isTold_67 (by first | exact bI_nar _ | rfl) (Nat.le_of_ble_eq_true rfl) (Nat.le_of_ble_eq_true rfl) rfl ⟨congrArg (fun z => some (Value.int z)) (bI_y he), ma, rfl⟩
    · refine g_aload_n (pc := 12) F dX5_isTold_12 rfl ?_
      refine g_getf (pc := 13) F fl_X5_40 dX5_isTold_13 rfl rfl ?_
      refine g_bipush (pc := 16) F dX5_isTold_16 (v := nI 100) rfl ?_
      refine g_iload_n (pc := 18) F dX5_isTold_18 rfl ?_
      refine g_imulN (pc := 19) F dX5_isTold_19 ?_
      refine g_iload_n (pc := 20) F dX5_isTold_20 rfl ?_
      refine g_iaddN (pc := 21) F dX5_isTold_21 ?_
      refine g_iald2 (pc := 22) F dX5_isTold_22 rfl rfl (by first | omega | (simp only [ix]; omega)) (by decide) ?_
      refine g_istore (pc := 23) F dX5_isTold_23 (by decide) ?_
      refine g_iload (pc := 25) F dX5_isTold_25 rfl ?_
      refine g_aload_n (pc := 27) F dX5_isTold_27 rfl ?_
      refine g_getf (pc := 28) F fl_X5_34 dX5_isTold_28 rfl rfl ?_
      refine g_iload_n (pc := 31) F dX5_isTold_31 rfl ?_
      refine g_iald2 (pc := 32) F dX5_isTold_32 rfl rfl (by first | omega | (simp only [ix]; omega)) (by decide) ?_
      refine h_readS (pc := 33) F (m_leastOf _) mi_X5_leastOf ks_X5_177 dX5_isTold_33 [] rfl (by decide) (by decide) rfl rfl (Nat.le_of_ble_eq_true rfl) trivial (by decide) (by decide) ?_
      refine g_ic_eq (pc := 36) F dX5_isTold_36 (tgt := 52) rfl (fun c_36 => ?_) (fun c_36 => ?_)
      · refine g_aload_n (pc := 52) F dX5_isTold_52 rfl ?_
        refine g_getf (pc := 53) F fl_X5_13 dX5_isTold_53 rfl rfl ?_
        refine g_iconst (pc := 56) F dX5_isTold_56 (v := nI 1) rfl ?_
        refine h_callS (pc := 57) F (c_daysOn ma _ 1 hIa rfl (by omega)) mi_X5_daysOn ks_X5_130 dX5_isTold_57 [2] rfl (by decide) (by decide) rfl rfl (Nat.le_of_ble_eq_true rfl) (by decide) (by decide) ?_
        rintro _ _ ⟨rfl, rfl⟩ -
        refine g_iincN (pc := 60) F dX5_isTold_60 rfl (by decide) ?_
        refine g_goto (pc := 63) F dX5_isTold_63 (tgt := 2) rfl ?_
        refine g_less [0, 1, 2, 3] rfl ?_
        exact ih c_9 (fun k hk => (Nat.lt_succ_iff_lt_or_eq.mp hk).elim (he k) (fun e => by rw [e]; first | exact Or.inl c_36 | exact Or.inr (by rw [hm] at c_47; exact c_47) | fail)) _ (by rw [hm]; exact days_one m i)
      · refine g_iload (pc := 39) F dX5_isTold_39 rfl ?_
        refine g_aload_n (pc := 41) F dX5_isTold_41 rfl ?_
        refine g_getf (pc := 42) F fl_X5_13 dX5_isTold_42 rfl rfl ?_
        refine g_iload_n (pc := 45) F dX5_isTold_45 rfl ?_
        refine g_iald2 (pc := 46) F dX5_isTold_46 rfl rfl ha (by decide) ?_
        refine g_ic_eq (pc := 47) F dX5_isTold_47 (tgt := 52) rfl (fun c_47 => ?_) (fun c_47 => ?_)
        · refine g_aload_n (pc := 52) F dX5_isTold_52 rfl ?_
          refine g_getf (pc := 53) F fl_X5_13 dX5_isTold_53 rfl rfl ?_
          refine g_iconst (pc := 56) F dX5_isTold_56 (v := nI 1) rfl ?_
          refine h_callS (pc := 57) F (c_daysOn ma _ 1 hIa rfl (by omega)) mi_X5_daysOn ks_X5_130 dX5_isTold_57 [2] rfl (by decide) (by decide) rfl rfl (Nat.le_of_ble_eq_true rfl) (by decide) (by decide) ?_
          rintro _ _ ⟨rfl, rfl⟩ -
          refine g_iincN (pc := 60) F dX5_isTold_60 rfl (by decide) ?_
          refine g_goto (pc := 63) F dX5_isTold_63 (tgt := 2) rfl ?_
          refine g_less [0, 1, 2, 3] rfl ?_
          exact ih c_9 (fun k hk => (Nat.lt_succ_iff_lt_or_eq.mp hk).elim (he k) (fun e => by rw [e]; first | exact Or.inl c_36 | exact Or.inr (by rw [hm] at c_47; exact c_47) | fail)) _ (by rw [hm]; exact days_one m i)
        · refine g_iconst (pc := 50) F dX5_isTold_50 (v := nI 0) rfl ?_
          exact g_zret (pc := 51) F X0 dX5_isTold_51 (by first | exact bI_nar _ | rfl) (Nat.le_of_ble_eq_true rfl) (Nat.le_of_ble_eq_true rfl) rfl ⟨congrArg (fun z => some (Value.int z)) (bI_n (fun z => (z i c_9).elim c_36 (fun z => c_47 (by rw [hm]; exact z)))), ma, rfl⟩)
  exact L 0 (Nat.zero_le _) (fun k hk => absurd hk (Nat.not_lt_zero k)) m rfl

theorem clS_told {X Y Z : DX} {im : Int32} {S : Nat → SX} {g h : Nat → Int32} {j : Nat} {x y : Int32} (hj : j < 8) : clS (mW X Y Z im S g h).length [.ref 0, .ref (28 + 2 * j), .int x, .int y] := by
  show clS 44 _
  intro v hv
  rcases List.mem_cons.mp hv with rfl | hv
  · exact (show (0 : Nat) < 44 by decide)
  rcases List.mem_cons.mp hv with rfl | hv
  · exact (show 28 + 2 * j < 44 by omega)
  rcases List.mem_cons.mp hv with rfl | hv
  · trivial
  rcases List.mem_cons.mp hv with rfl | hv
  · trivial
  · exact absurd hv List.not_mem_nil
theorem clS_told2 {X Y Z : DX} {im : Int32} {S : Nat → SX} {g h : Nat → Int32} {j : Nat} {x y z : Int32} (hj : j < 8) : clS (mW X Y Z im S g h).length [.ref 0, .ref (28 + 2 * j), .int x, .int y, .int z] := by
  show clS 44 _
  intro v hv
  rcases List.mem_cons.mp hv with rfl | hv
  · exact (show (0 : Nat) < 44 by decide)
  rcases List.mem_cons.mp hv with rfl | hv
  · exact (show 28 + 2 * j < 44 by omega)
  rcases List.mem_cons.mp hv with rfl | hv
  · trivial
  rcases List.mem_cons.mp hv with rfl | hv
  · trivial
  rcases List.mem_cons.mp hv with rfl | hv
  · trivial
  · exact absurd hv List.not_mem_nil
set_option maxRecDepth 100000 in
set_option maxHeartbeats 800000 in
theorem c_bookTold (b2 : Int32) (X Y Z : DX) (im : Int32) (S : Nat → SX) (g h : Nat → Int32) (r0 : Nat → Int32) (hY : Rel b2 Y r0) (hI0 : Iv r0) (T : TX) (hS : RS S T) (j : Nat) (hj : j < 8) (n9 : Nat) (hn9 : n9 ≤ 100) (c : Nat) (hc : c < many r0) : Ctr yX4_isBookInMindAsTold cX4_isBookInMindAsTold 5 (some .boolean) 6 0 0 [.ref 0, .ref (28 + 2 * j), .int (nI (bhd (skp (S j)) n9)), .int (nI c)] (mW X Y Z im S g h) (fun v hh => v = some (.int (bI (decide (TOLD T j n9 r0 (ix c 4))))) ∧ ∃ Y2, hh = mW X Y2 Z im S g h) := by
  have hU := hS j hj
  have hle := bhd_le (skp (S j)) n9
  have hm6 := hI0.1.2
  refine Ctr.of rfl (Nat.le_of_ble_eq_true rfl) ⟨clS_told hj, mW_cl _ _ _ _ _ _ _⟩ (fun K F X0 => ?_)
  show Go K 0 0 0 [(0, .ref 0), (1, .ref (28 + 2 * j)), (2, .int (nI (bhd (skp (S j)) n9))), (3, .int (nI c))] [] (mW X Y Z im S g h)
  refine g_iconst (pc := 0) F dX4_isBookInMindAsTold_0 (v := nI 0) rfl ?_
  refine g_istore (pc := 1) F dX4_isBookInMindAsTold_1 (by decide) ?_
  have L : ∀ i, i ≤ bhd (skp (S j)) n9 → (∀ k, k < i → okT T j k (daysR r0 k (ix c 4))) → ∀ Ya, Rel b2 Ya (daysR r0 i) → Go K 0 0 3 [(0, .ref 0), (1, .ref (28 + 2 * j)), (2, .int (nI (bhd (skp (S j)) n9))), (3, .int (nI c)), (4, .int (nI i))] [] (mW X Ya Z im S g h) := loop_up (P := fun i => (∀ k, k < i → okT T j k (daysR r0 k (ix c 4))) → ∀ Ya, Rel b2 Ya (daysR r0 i) → Go K 0 0 3 [(0, .ref 0), (1, .ref (28 + 2 * j)), (2, .int (nI (bhd (skp (S j)) n9))), (3, .int (nI c)), (4, .int (nI i))] [] (mW X Ya Z im S g h)) (fun i hi ih => by
    intro he Ya hRa
    have hIa : Iv (daysR r0 i) := (daysR_ok hI0 i).1
    have hma : many (daysR r0 i) = many r0 := many_of (daysR_ok hI0 i).2.1
    have eD : dB Ya c = daysR r0 i (ix c 4) := (hRa.2.2.2 c (by rw [hma]; exact hc)).2.2.2.2
    refine g_iload (pc := 3) F dX4_isBookInMindAsTold_3 rfl ?_
    refine g_iload_n (pc := 5) F dX4_isBookInMindAsTold_5 rfl ?_
    refine g_icN_ge (pc := 6) F dX4_isBookInMindAsTold_6 (tgt := 42) rfl rfl rfl (by omega) (by omega) (fun c_6 => ?_) (fun c_6 => ?_)
    · obtain rfl : i = bhd (skp (S j)) n9 := by omega
      refine g_iconst (pc := 42) F dX4_isBookInMindAsTold_42 (v := nI 1) rfl ?_
      exact g_zret (pc := 43) F X0 dX4_isBookInMindAsTold_43 (by first | exact bI_nar _ | rfl) (Nat.le_of_ble_eq_true rfl) (Nat.le_of_ble_eq_true rfl) rfl ⟨congrArg (fun z => some (Value.int z)) (bI_y (fun k hk => (Nat.lt_or_ge k (bhd (skp (S j)) n9)).elim (he k) (fun z => Or.inl ((skp_iff hU (by omega)).mp (bhd_skip _ _ _ z hk))))), Ya, rfl⟩
    · refine g_aload_n (pc := 9) F dX4_isBookInMindAsTold_9 rfl ?_
      refine g_iload (pc := 10) F dX4_isBookInMindAsTold_10 rfl ?_
      refine g_aload_n (pc := 12) F dX4_isBookInMindAsTold_12 rfl ?_
      refine g_getf (pc := 13) F fl_X4_16 dX4_isBookInMindAsTold_13 rfl rfl ?_
      refine g_getf (pc := 16) F fl_X4_94 dX4_isBookInMindAsTold_16 rfl rfl ?_
      refine g_iload_n (pc := 19) F dX4_isBookInMindAsTold_19 rfl ?_
      refine g_iald2 (pc := 20) F dX4_isBookInMindAsTold_20 rfl rfl (by omega) (by decide) ?_
      refine h_readV (pc := 21) F (c_allows (S j) _ _ i rfl (by omega)) mi_X2_allows kv_X4_234 rfl rfl dX4_isBookInMindAsTold_21 [28 + 2 * j, 28 + 2 * j + 1] (mW_sub hj) (by decide) (by decide) (mW_nd hj) rfl (Nat.le_of_ble_eq_true rfl) trivial (by decide) (by decide) ?_
      refine g_ifne_d (pc := 24) F dX4_isBookInMindAsTold_24 (tgt := 29) rfl (fun c_24 => ?_) (fun c_24 => ?_)
      · refine g_aload_n (pc := 29) F dX4_isBookInMindAsTold_29 rfl ?_
        refine g_getf (pc := 30) F fl_X4_16 dX4_isBookInMindAsTold_30 rfl rfl ?_
        refine h_callV (pc := 33) F (c_passDay _ Ya _ hRa hIa) mi_X0_passDay kv_X4_182 rfl rfl dX4_isBookInMindAsTold_33 [9, 10, 11, 12, 13, 14, 15, 16] sub_mind (by decide) (by decide) rfl rfl (Nat.le_of_ble_eq_true rfl) (by decide) (by decide) ?_
        rintro _ _ ⟨rfl, Y3, rfl, hY3⟩ -
        rw [place_mind]
        refine g_iincN (pc := 36) F dX4_isBookInMindAsTold_36 rfl (by decide) ?_
        refine g_goto (pc := 39) F dX4_isBookInMindAsTold_39 (tgt := 3) rfl ?_
        exact ih c_6 (fun k hk => (Nat.lt_succ_iff_lt_or_eq.mp hk).elim (he k) (fun e => by rw [e]; rw [eD] at c_24; exact (ok_iff hU (by omega)).mp c_24)) Y3 hY3
      · refine g_iconst (pc := 27) F dX4_isBookInMindAsTold_27 (v := nI 0) rfl ?_
        exact g_zret (pc := 28) F X0 dX4_isBookInMindAsTold_28 (by first | exact bI_nar _ | rfl) (Nat.le_of_ble_eq_true rfl) (Nat.le_of_ble_eq_true rfl) rfl ⟨congrArg (fun z => some (Value.int z)) (bI_n (fun z => c_24 ((ok_iff hU (by omega)).mpr (by rw [eD]; exact z i (by omega))))), Ya, rfl⟩)
  exact L 0 (Nat.zero_le _) (fun k hk => absurd hk (Nat.not_lt_zero k)) Y hY

set_option maxRecDepth 100000 in
set_option maxHeartbeats 800000 in
theorem c_doneTold (b : Int32) (X Y Z : DX) (im : Int32) (S : Nat → SX) (g h : Nat → Int32) (r : Nat → Int32) (hR : Rel b X r) (hI : Iv r) (h4 : r 4 = nI 0) (T : TX) (hS : RS S T) (j : Nat) (hj : j < 8) (n9 : Nat) (hn9 : n9 ≤ 100) (e : Nat) (hd : e < 10) (u : Nat) (hI2 : Iv (upd r (5 + e) (nI u))) : Ctr yX4_isDoneAsTold cX4_isDoneAsTold 6 (some .boolean) 6 0 0 [.ref 0, .ref (28 + 2 * j), .int (nI (bhd (skp (S j)) n9)), .int (nI e), .int (nI u)] (mW X Y Z im S g h) (fun v hh => v = some (.int (bI (decide (TOLD T j n9 (upd r (5 + e) (nI u)) (15 + e))))) ∧ ∃ Y2, hh = mW X Y2 Z im S g h) := by
  have hU := hS j hj
  have hle := bhd_le (skp (S j)) n9
  refine Ctr.of rfl (Nat.le_of_ble_eq_true rfl) ⟨clS_told2 hj, mW_cl _ _ _ _ _ _ _⟩ (fun K F X0 => ?_)
  show Go K 0 0 0 [(0, .ref 0), (1, .ref (28 + 2 * j)), (2, .int (nI (bhd (skp (S j)) n9))), (3, .int (nI e)), (4, .int (nI u))] [] (mW X Y Z im S g h)
  refine g_aload_n (pc := 0) F dX4_isDoneAsTold_0 rfl ?_
  refine g_getf (pc := 1) F fl_X4_16 dX4_isDoneAsTold_1 rfl rfl ?_
  refine g_aload_n (pc := 4) F dX4_isDoneAsTold_4 rfl ?_
  refine g_getf (pc := 5) F fl_X4_12 dX4_isDoneAsTold_5 rfl rfl ?_
  refine h_callV (pc := 8) F (c_becomes b Y X r hR hI h4) mi_X0_becomes kv_X4_57 rfl rfl dX4_isDoneAsTold_8 [9, 10, 11, 12, 13, 14, 15, 16, 1, 2, 3, 4, 5, 6, 7, 8] sub_mn (by decide) (by decide) rfl rfl (Nat.le_of_ble_eq_true rfl) (by decide) (by decide) ?_
  rintro _ _ ⟨rfl, Y2, rfl, hY2⟩ -
  rw [place_mn]
  refine g_aload_n (pc := 11) F dX4_isDoneAsTold_11 rfl ?_
  refine g_getf (pc := 12) F fl_X4_16 dX4_isDoneAsTold_12 rfl rfl ?_
  refine g_getf (pc := 15) F fl_X4_120 dX4_isDoneAsTold_15 rfl rfl ?_
  refine g_iload_n (pc := 18) F dX4_isDoneAsTold_18 rfl ?_
  refine g_iload (pc := 19) F dX4_isDoneAsTold_19 rfl ?_
  refine g_iast2 (pc := 21) F dX4_isDoneAsTold_21 rfl rfl (by first | omega | (simp only [ix]; omega)) (by decide) ?_
  show Go K 0 0 22 _ _ (mW X (sG Y2 (upd (dG Y2) e (nI u))) Z im S g h)
  refine g_iconst (pc := 22) F dX4_isDoneAsTold_22 (v := nI 0) rfl ?_
  refine g_istore (pc := 23) F dX4_isDoneAsTold_23 (by decide) ?_
  have L : ∀ i, i ≤ bhd (skp (S j)) n9 → (∀ k, k < i → okT T j k (daysR (upd r (5 + e) (nI u)) k (15 + e))) → ∀ Ya, Rel (nI 0 - r 3) Ya (daysR (upd r (5 + e) (nI u)) i) → Go K 0 0 25 [(0, .ref 0), (1, .ref (28 + 2 * j)), (2, .int (nI (bhd (skp (S j)) n9))), (3, .int (nI e)), (4, .int (nI u)), (5, .int (nI i))] [] (mW X Ya Z im S g h) := loop_up (P := fun i => (∀ k, k < i → okT T j k (daysR (upd r (5 + e) (nI u)) k (15 + e))) → ∀ Ya, Rel (nI 0 - r 3) Ya (daysR (upd r (5 + e) (nI u)) i) → Go K 0 0 25 [(0, .ref 0), (1, .ref (28 + 2 * j)), (2, .int (nI (bhd (skp (S j)) n9))), (3, .int (nI e)), (4, .int (nI u)), (5, .int (nI i))] [] (mW X Ya Z im S g h)) (fun i hi ih => by
    intro he Ya hRa
    have hIa : Iv (daysR (upd r (5 + e) (nI u)) i) := (daysR_ok hI2 i).1
    have eD : dD Ya e = daysR (upd r (5 + e) (nI u)) i (15 + e) := (hRa.2.2.1 e hd).2
    refine g_iload (pc := 25) F dX4_isDoneAsTold_25 rfl ?_
    refine g_iload_n (pc := 27) F dX4_isDoneAsTold_27 rfl ?_
    refine g_icN_ge (pc := 28) F dX4_isDoneAsTold_28 (tgt := 64) rfl rfl rfl (by omega) (by omega) (fun c_28 => ?_) (fun c_28 => ?_)
    · obtain rfl : i = bhd (skp (S j)) n9 := by omega
      refine g_iconst (pc := 64) F dX4_isDoneAsTold_64 (v := nI 1) rfl ?_
      exact g_zret (pc := 65) F X0 dX4_isDoneAsTold_65 (by first | exact bI_nar _ | rfl) (Nat.le_of_ble_eq_true rfl) (Nat.le_of_ble_eq_true rfl) rfl ⟨congrArg (fun z => some (Value.int z)) (bI_y (fun k hk => (Nat.lt_or_ge k (bhd (skp (S j)) n9)).elim (he k) (fun z => Or.inl ((skp_iff hU (by omega)).mp (bhd_skip _ _ _ z hk))))), Ya, rfl⟩
    · refine g_aload_n (pc := 31) F dX4_isDoneAsTold_31 rfl ?_
      refine g_iload (pc := 32) F dX4_isDoneAsTold_32 rfl ?_
      refine g_aload_n (pc := 34) F dX4_isDoneAsTold_34 rfl ?_
      refine g_getf (pc := 35) F fl_X4_16 dX4_isDoneAsTold_35 rfl rfl ?_
      refine g_getf (pc := 38) F fl_X4_123 dX4_isDoneAsTold_38 rfl rfl ?_
      refine g_iload_n (pc := 41) F dX4_isDoneAsTold_41 rfl ?_
      refine g_iald2 (pc := 42) F dX4_isDoneAsTold_42 rfl rfl (by omega) (by decide) ?_
      refine h_readV (pc := 43) F (c_allows (S j) _ _ i rfl (by omega)) mi_X2_allows kv_X4_234 rfl rfl dX4_isDoneAsTold_43 [28 + 2 * j, 28 + 2 * j + 1] (mW_sub hj) (by decide) (by decide) (mW_nd hj) rfl (Nat.le_of_ble_eq_true rfl) trivial (by decide) (by decide) ?_
      refine g_ifne_d (pc := 46) F dX4_isDoneAsTold_46 (tgt := 51) rfl (fun c_46 => ?_) (fun c_46 => ?_)
      · refine g_aload_n (pc := 51) F dX4_isDoneAsTold_51 rfl ?_
        refine g_getf (pc := 52) F fl_X4_16 dX4_isDoneAsTold_52 rfl rfl ?_
        refine h_callV (pc := 55) F (c_passDay _ Ya _ hRa hIa) mi_X0_passDay kv_X4_182 rfl rfl dX4_isDoneAsTold_55 [9, 10, 11, 12, 13, 14, 15, 16] sub_mind (by decide) (by decide) rfl rfl (Nat.le_of_ble_eq_true rfl) (by decide) (by decide) ?_
        rintro _ _ ⟨rfl, Y3, rfl, hY3⟩ -
        rw [place_mind]
        refine g_iincN (pc := 58) F dX4_isDoneAsTold_58 rfl (by decide) ?_
        refine g_goto (pc := 61) F dX4_isDoneAsTold_61 (tgt := 25) rfl ?_
        exact ih c_28 (fun k hk => (Nat.lt_succ_iff_lt_or_eq.mp hk).elim (he k) (fun e => by rw [e]; rw [eD] at c_46; exact (ok_iff hU (by omega)).mp c_46)) Y3 hY3
      · refine g_iconst (pc := 49) F dX4_isDoneAsTold_49 (v := nI 0) rfl ?_
        exact g_zret (pc := 50) F X0 dX4_isDoneAsTold_50 (by first | exact bI_nar _ | rfl) (Nat.le_of_ble_eq_true rfl) (Nat.le_of_ble_eq_true rfl) rfl ⟨congrArg (fun z => some (Value.int z)) (bI_n (fun z => c_46 ((ok_iff hU (by omega)).mpr (by rw [eD]; exact z i (by omega))))), Ya, rfl⟩)
  exact L 0 (Nat.zero_le _) (fun k hk => absurd hk (Nat.not_lt_zero k)) _ (Rel_grain hY2 hd)

