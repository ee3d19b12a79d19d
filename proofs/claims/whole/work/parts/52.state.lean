/-! what changes the desert, what is told of it -/
/-- the answer, and the desert that now stands to r -/
def Stt (A : Value) (r : Nat → Int32) (Z : DX) (im : Int32) (S : Nat → SX) : Option Value → Hp → Prop := fun v hh => v = some A ∧ ∃ b X Y g h, hh = mW X Y Z im S g h ∧ Rel b X r
def SttR (A : Value) (s i : Nat → Int32) (hi : Int32) (T : TX) : Option Value → Hp → Prop := fun v hh => v = some A ∧ ∃ m w V, hh = rW s m i w hi T V
def A_fills (r : Nat → Int32) (d v : Int32) : Int32 := if dipP d ∧ (nI 0 ≤ v ∧ v ≤ nI 999) then r (5 + N d) else (-1)
def R_fills (r : Nat → Int32) (d v : Int32) : Nat → Int32 := if dipP d ∧ (nI 0 ≤ v ∧ v ≤ nI 999) then fillR r (N d) v else r
def A_blows (r : Nat → Int32) (v : Int32) : Int32 := if (-9 : Int32) ≤ v ∧ v ≤ nI 9 then r 2 else 1000000001
def R_blows (r : Nat → Int32) (v : Int32) : Nat → Int32 := if (-9 : Int32) ≤ v ∧ v ≤ nI 9 then upd r 2 v else r
def A_rests (r : Nat → Int32) (c : Int32) : Int32 := if oneP r c then turnR r (N c) (ix (N c) 5) else (-1)
def R_rests (r : Nat → Int32) (c : Int32) : Nat → Int32 := if oneP r c then turnR r (N c) else r
def A_moves (r : Nat → Int32) (c d : Int32) : Int32 := if oneP r c ∧ dipP d then r (ix (N c) 2) else (-1)
def R_moves (r : Nat → Int32) (c d : Int32) : Nat → Int32 := if oneP r c ∧ dipP d then upd r (ix (N c) 2) d else r
def dayP (n : Int32) : Prop := nI 1 ≤ n ∧ n ≤ nI 60
def A_days (r : Nat → Int32) (n : Int32) : Int32 := if nI 1 ≤ n ∧ n ≤ nI 60 then (if r 1 + n ≤ nI 999 then booksR (daysR r (N n)) (-1) else (-3)) else (-1)
def R_days (r : Nat → Int32) (n : Int32) : Nat → Int32 := if nI 1 ≤ n ∧ n ≤ nI 60 then (if r 1 + n ≤ nI 999 then daysR r (N n) else r) else r
theorem day_ex {n : Int32} (h : nI 1 ≤ n ∧ n ≤ nI 60) : ∃ j, j ≤ 60 ∧ n = nI j := in_ex (by decide) ⟨Int32.le_trans (by decide) h.1, h.2⟩
set_option maxRecDepth 100000 in
set_option maxHeartbeats 800000 in
theorem c_fills (b : Int32) (X Y Z : DX) (im : Int32) (S : Nat → SX) (g h : Nat → Int32) (r : Nat → Int32) (hR : Rel b X r) (hI : Iv r) (h4 : r 4 = nI 0) (d v : Int32) : Ctr yX4_fills cX4_fills 4 (some .int) 7 0 0 [.ref 0, .int d, .int v] (mW X Y Z im S g h) (Stt (.int (A_fills r d v)) (R_fills r d v) Z im S) := by
  refine Ctr.of rfl (Nat.le_of_ble_eq_true rfl) ⟨clS_of rfl, mW_cl _ _ _ _ _ _ _⟩ (fun K F X0 => ?_)
  show Go K 0 0 0 [(0, .ref 0), (1, .int d), (2, .int v)] [] (mW X Y Z im S g h)
  refine g_iload_n (pc := 0) F dX4_fills_0 rfl ?_
  refine h_readS (pc := 1) F (c_isDip _) mi_X4_isDip ks_X4_117 dX4_fills_1 [] rfl (by decide) (by decide) rfl rfl (Nat.le_of_ble_eq_true rfl) trivial (by decide) (by decide) ?_
  refine g_ifeq_d (pc := 4) F dX4_fills_4 (tgt := 18) rfl (fun c_4 => ?_) (fun c_4 => ?_)
  · refine g_iconst (pc := 18) F dX4_fills_18 (v := (-1 : Int32)) (by decide) ?_
    exact g_iret (pc := 19) F X0 dX4_fills_19 (Nat.le_of_ble_eq_true rfl) (Nat.le_of_ble_eq_true rfl) rfl (by first
      | exact ⟨congrArg (fun z => some (Value.int z)) (if_neg (fun z => c_4 z.1)).symm, b, X, Y, g, h, rfl, (congrArg (Rel b X) (if_neg (fun z => c_4 z.1))).mpr hR⟩
      | exact ⟨congrArg (fun z => some (Value.int z)) (if_neg (fun z => c_15 z.2)).symm, b, X, Y, g, h, rfl, (congrArg (Rel b X) (if_neg (fun z => c_15 z.2))).mpr hR⟩
      | exact ⟨congrArg (fun z => some (Value.int z)) ((if_pos ⟨c_4, c_15⟩).trans (by rw [N_nI (by omega)]; exact (hR.2.2.1 j hj).1.symm)).symm, b, P2, Y, g, h, rfl, (congrArg (Rel b P2) ((if_pos ⟨c_4, c_15⟩).trans (by rw [N_nI (by omega)]))).mpr hR2⟩
      | fail)
  · refine g_iload_n (pc := 7) F dX4_fills_7 rfl ?_
    refine g_iconst (pc := 8) F dX4_fills_8 (v := nI 0) rfl ?_
    refine g_sipush (pc := 9) F dX4_fills_9 (v := nI 999) rfl ?_
    refine h_readS (pc := 12) F (c_isWithin _ _ _) mi_X4_isWithin ks_X4_129 dX4_fills_12 [] rfl (by decide) (by decide) rfl rfl (Nat.le_of_ble_eq_true rfl) trivial (by decide) (by decide) ?_
    refine g_ifne_d (pc := 15) F dX4_fills_15 (tgt := 20) rfl (fun c_15 => ?_) (fun c_15 => ?_)
    · obtain ⟨j, hj, rfl⟩ := dip_ex c_4
      refine g_aload_n (pc := 20) F dX4_fills_20 rfl ?_
      refine g_getf (pc := 21) F fl_X4_12 dX4_fills_21 rfl rfl ?_
      refine g_getf (pc := 24) F fl_X4_120 dX4_fills_24 rfl rfl ?_
      refine g_iload_n (pc := 27) F dX4_fills_27 rfl ?_
      refine g_iald2 (pc := 28) F dX4_fills_28 rfl rfl (by first | omega | (simp only [ix]; omega)) (by decide) ?_
      refine g_istore_n (pc := 29) F dX4_fills_29 (by decide) ?_
      refine g_aload_n (pc := 30) F dX4_fills_30 rfl ?_
      refine g_getf (pc := 31) F fl_X4_12 dX4_fills_31 rfl rfl ?_
      refine g_iload_n (pc := 34) F dX4_fills_34 rfl ?_
      refine g_iload_n (pc := 35) F dX4_fills_35 rfl ?_
      refine h_callV (pc := 36) F (c_refill b X r _ _ j hR rfl hj) mi_X0_refill kv_X4_151 rfl rfl dX4_fills_36 [1, 2, 3, 4, 5, 6, 7, 8] sub_now (by decide) (by decide) rfl rfl (Nat.le_of_ble_eq_true rfl) (by decide) (by decide) ?_
      rintro _ _ ⟨rfl, P2, rfl, hR2⟩ -
      rw [place_now]
      refine g_iload_n (pc := 39) F dX4_fills_39 rfl ?_
      exact g_iret (pc := 40) F X0 dX4_fills_40 (Nat.le_of_ble_eq_true rfl) (Nat.le_of_ble_eq_true rfl) rfl (by first
      | exact ⟨congrArg (fun z => some (Value.int z)) (if_neg (fun z => c_4 z.1)).symm, b, X, Y, g, h, rfl, (congrArg (Rel b X) (if_neg (fun z => c_4 z.1))).mpr hR⟩
      | exact ⟨congrArg (fun z => some (Value.int z)) (if_neg (fun z => c_15 z.2)).symm, b, X, Y, g, h, rfl, (congrArg (Rel b X) (if_neg (fun z => c_15 z.2))).mpr hR⟩
      | exact ⟨congrArg (fun z => some (Value.int z)) ((if_pos ⟨c_4, c_15⟩).trans (by rw [N_nI (by omega)]; exact (hR.2.2.1 j hj).1.symm)).symm, b, P2, Y, g, h, rfl, (congrArg (Rel b P2) ((if_pos ⟨c_4, c_15⟩).trans (by rw [N_nI (by omega)]))).mpr hR2⟩
      | fail)
    · refine g_iconst (pc := 18) F dX4_fills_18 (v := (-1 : Int32)) (by decide) ?_
      exact g_iret (pc := 19) F X0 dX4_fills_19 (Nat.le_of_ble_eq_true rfl) (Nat.le_of_ble_eq_true rfl) rfl (by first
      | exact ⟨congrArg (fun z => some (Value.int z)) (if_neg (fun z => c_4 z.1)).symm, b, X, Y, g, h, rfl, (congrArg (Rel b X) (if_neg (fun z => c_4 z.1))).mpr hR⟩
      | exact ⟨congrArg (fun z => some (Value.int z)) (if_neg (fun z => c_15 z.2)).symm, b, X, Y, g, h, rfl, (congrArg (Rel b X) (if_neg (fun z => c_15 z.2))).mpr hR⟩
      | exact ⟨congrArg (fun z => some (Value.int z)) ((if_pos ⟨c_4, c_15⟩).trans (by rw [N_nI (by omega)]; exact (hR.2.2.1 j hj).1.symm)).symm, b, P2, Y, g, h, rfl, (congrArg (Rel b P2) ((if_pos ⟨c_4, c_15⟩).trans (by rw [N_nI (by omega)]))).mpr hR2⟩
      | fail)

set_option maxRecDepth 100000 in
set_option maxHeartbeats 800000 in
theorem m_fills (s m ig ws : Nat → Int32) (hg : Int32) (T : TX) (V : VX) (hI : Iv s) (d v : Int32) : Ctr yX5_fills cX5_fills 4 (some .int) 7 0 0 [.ref 0, .int d, .int v] (rW s m ig ws hg T V) (SttR (.int (A_fills s d v)) (R_fills s d v) ig hg T) := by
  refine Ctr.of rfl (Nat.le_of_ble_eq_true rfl) ⟨clS_of rfl, clH_of rfl⟩ (fun K F X0 => ?_)
  show Go K 0 0 0 [(0, .ref 0), (1, .int d), (2, .int v)] [] (rW s m ig ws hg T V)
  refine g_iload_n (pc := 0) F dX5_fills_0 rfl ?_
  refine h_readS (pc := 1) F (c_mDip _) mi_X5_isDip ks_X5_61 dX5_fills_1 [] rfl (by decide) (by decide) rfl rfl (Nat.le_of_ble_eq_true rfl) trivial (by decide) (by decide) ?_
  refine g_ifeq_d (pc := 4) F dX5_fills_4 (tgt := 18) rfl (fun c_4 => ?_) (fun c_4 => ?_)
  · refine g_iconst (pc := 18) F dX5_fills_18 (v := (-1 : Int32)) (by decide) ?_
    exact g_iret (pc := 19) F X0 dX5_fills_19 (Nat.le_of_ble_eq_true rfl) (Nat.le_of_ble_eq_true rfl) rfl (by first
      | exact ⟨congrArg (fun z => some (Value.int z)) (if_neg (fun z => c_4 z.1)).symm, m, ws, V, (congrArg (fun z => rW z m ig ws hg T V) (if_neg (fun z => c_4 z.1))).symm⟩
      | exact ⟨congrArg (fun z => some (Value.int z)) (if_neg (fun z => c_15 z.2)).symm, m, ws, V, (congrArg (fun z => rW z m ig ws hg T V) (if_neg (fun z => c_15 z.2))).symm⟩
      | exact ⟨congrArg (fun z => some (Value.int z)) ((if_pos ⟨c_4, c_15⟩).trans (by rw [N_nI (by omega)])).symm, m, ws, V, (congrArg (fun z => rW z m ig ws hg T V) ((if_pos ⟨c_4, c_15⟩).trans (by rw [N_nI (by omega)]))).symm⟩
      | fail)
  · refine g_iload_n (pc := 7) F dX5_fills_7 rfl ?_
    refine g_iconst (pc := 8) F dX5_fills_8 (v := nI 0) rfl ?_
    refine g_sipush (pc := 9) F dX5_fills_9 (v := nI 999) rfl ?_
    refine h_readS (pc := 12) F (c_isIn _ _ _) mi_X5_isIn ks_X5_43 dX5_fills_12 [] rfl (by decide) (by decide) rfl rfl (Nat.le_of_ble_eq_true rfl) trivial (by decide) (by decide) ?_
    refine g_ifne_d (pc := 15) F dX5_fills_15 (tgt := 20) rfl (fun c_15 => ?_) (fun c_15 => ?_)
    · obtain ⟨j, hj, rfl⟩ := dip_ex c_4
      refine g_aload_n (pc := 20) F dX5_fills_20 rfl ?_
      refine g_getf (pc := 21) F fl_X5_9 dX5_fills_21 rfl rfl ?_
      refine g_iconst (pc := 24) F dX5_fills_24 (v := nI 5) rfl ?_
      refine g_iload_n (pc := 25) F dX5_fills_25 rfl ?_
      refine g_iaddN (pc := 26) F dX5_fills_26 ?_
      refine g_iald2 (pc := 27) F dX5_fills_27 rfl rfl (by first | omega | (simp only [ix]; omega)) (by decide) ?_
      refine g_istore_n (pc := 28) F dX5_fills_28 (by decide) ?_
      refine g_aload_n (pc := 29) F dX5_fills_29 rfl ?_
      refine g_getf (pc := 30) F fl_X5_9 dX5_fills_30 rfl rfl ?_
      refine g_iload_n (pc := 33) F dX5_fills_33 rfl ?_
      refine g_iload_n (pc := 34) F dX5_fills_34 rfl ?_
      refine h_callS (pc := 35) F (c_fillsIn s _ j v rfl hj) mi_X5_fillsIn ks_X5_120 dX5_fills_35 [1] rfl (by decide) (by decide) rfl rfl (Nat.le_of_ble_eq_true rfl) (by decide) (by decide) ?_
      rintro _ _ ⟨rfl, rfl⟩ -
      refine g_iload_n (pc := 38) F dX5_fills_38 rfl ?_
      exact g_iret (pc := 39) F X0 dX5_fills_39 (Nat.le_of_ble_eq_true rfl) (Nat.le_of_ble_eq_true rfl) rfl (by first
      | exact ⟨congrArg (fun z => some (Value.int z)) (if_neg (fun z => c_4 z.1)).symm, m, ws, V, (congrArg (fun z => rW z m ig ws hg T V) (if_neg (fun z => c_4 z.1))).symm⟩
      | exact ⟨congrArg (fun z => some (Value.int z)) (if_neg (fun z => c_15 z.2)).symm, m, ws, V, (congrArg (fun z => rW z m ig ws hg T V) (if_neg (fun z => c_15 z.2))).symm⟩
      | exact ⟨congrArg (fun z => some (Value.int z)) ((if_pos ⟨c_4, c_15⟩).trans (by rw [N_nI (by omega)])).symm, m, ws, V, (congrArg (fun z => rW z m ig ws hg T V) ((if_pos ⟨c_4, c_15⟩).trans (by rw [N_nI (by omega)]))).symm⟩
      | fail)
    · refine g_iconst (pc := 18) F dX5_fills_18 (v := (-1 : Int32)) (by decide) ?_
      exact g_iret (pc := 19) F X0 dX5_fills_19 (Nat.le_of_ble_eq_true rfl) (Nat.le_of_ble_eq_true rfl) rfl (by first
      | exact ⟨congrArg (fun z => some (Value.int z)) (if_neg (fun z => c_4 z.1)).symm, m, ws, V, (congrArg (fun z => rW z m ig ws hg T V) (if_neg (fun z => c_4 z.1))).symm⟩
      | exact ⟨congrArg (fun z => some (Value.int z)) (if_neg (fun z => c_15 z.2)).symm, m, ws, V, (congrArg (fun z => rW z m ig ws hg T V) (if_neg (fun z => c_15 z.2))).symm⟩
      | exact ⟨congrArg (fun z => some (Value.int z)) ((if_pos ⟨c_4, c_15⟩).trans (by rw [N_nI (by omega)])).symm, m, ws, V, (congrArg (fun z => rW z m ig ws hg T V) ((if_pos ⟨c_4, c_15⟩).trans (by rw [N_nI (by omega)]))).symm⟩
      | fail)

set_option maxRecDepth 100000 in
set_option maxHeartbeats 800000 in
theorem c_blows (b : Int32) (X Y Z : DX) (im : Int32) (S : Nat → SX) (g h : Nat → Int32) (r : Nat → Int32) (hR : Rel b X r) (hI : Iv r) (h4 : r 4 = nI 0) (v : Int32) : Ctr yX4_blows cX4_blows 3 (some .int) 7 0 0 [.ref 0, .int v] (mW X Y Z im S g h) (Stt (.int (A_blows r v)) (R_blows r v) Z im S) := by
  refine Ctr.of rfl (Nat.le_of_ble_eq_true rfl) ⟨clS_of rfl, mW_cl _ _ _ _ _ _ _⟩ (fun K F X0 => ?_)
  show Go K 0 0 0 [(0, .ref 0), (1, .int v)] [] (mW X Y Z im S g h)
  refine g_iload_n (pc := 0) F dX4_blows_0 rfl ?_
  refine g_bipush (pc := 1) F dX4_blows_1 (v := (-9 : Int32)) (by decide) ?_
  refine g_bipush (pc := 3) F dX4_blows_3 (v := nI 9) rfl ?_
  refine h_readS (pc := 5) F (c_isWithin _ _ _) mi_X4_isWithin ks_X4_129 dX4_blows_5 [] rfl (by decide) (by decide) rfl rfl (Nat.le_of_ble_eq_true rfl) trivial (by decide) (by decide) ?_
  refine g_ifne_d (pc := 8) F dX4_blows_8 (tgt := 14) rfl (fun c_8 => ?_) (fun c_8 => ?_)
  · refine g_aload_n (pc := 14) F dX4_blows_14 rfl ?_
    refine g_getf (pc := 15) F fl_X4_12 dX4_blows_15 rfl rfl ?_
    refine g_getf (pc := 18) F fl_X4_156 dX4_blows_18 rfl rfl ?_
    refine g_istore_n (pc := 21) F dX4_blows_21 (by decide) ?_
    refine g_aload_n (pc := 22) F dX4_blows_22 rfl ?_
    refine g_getf (pc := 23) F fl_X4_12 dX4_blows_23 rfl rfl ?_
    refine g_iload_n (pc := 26) F dX4_blows_26 rfl ?_
    refine g_putf (pc := 27) F fl_X4_156 dX4_blows_27 rfl (Nat.le_of_ble_eq_true rfl) ?_
    refine g_iload_n (pc := 30) F dX4_blows_30 rfl ?_
    exact g_iret (pc := 31) F X0 dX4_blows_31 (Nat.le_of_ble_eq_true rfl) (Nat.le_of_ble_eq_true rfl) rfl (by first
      | exact ⟨congrArg (fun z => some (Value.int z)) (if_neg (fun z => c_8 z)).symm, b, X, Y, g, h, rfl, (congrArg (Rel b X) (if_neg (fun z => c_8 z))).mpr hR⟩
      | exact ⟨congrArg (fun z => some (Value.int z)) ((if_pos c_8).trans hR.1.2.2.1.symm).symm, b, sWi X v, Y, g, h, rfl, (congrArg (Rel b (sWi X v)) (if_pos c_8)).mpr (Rel_wind hR)⟩
      | fail)
  · refine g_ldc (pc := 11) F dX4_blows_11 kc_X4_155 ?_
    exact g_iret (pc := 13) F X0 dX4_blows_13 (Nat.le_of_ble_eq_true rfl) (Nat.le_of_ble_eq_true rfl) rfl (by first
      | exact ⟨congrArg (fun z => some (Value.int z)) (if_neg (fun z => c_8 z)).symm, b, X, Y, g, h, rfl, (congrArg (Rel b X) (if_neg (fun z => c_8 z))).mpr hR⟩
      | exact ⟨congrArg (fun z => some (Value.int z)) ((if_pos c_8).trans hR.1.2.2.1.symm).symm, b, sWi X v, Y, g, h, rfl, (congrArg (Rel b (sWi X v)) (if_pos c_8)).mpr (Rel_wind hR)⟩
      | fail)

set_option maxRecDepth 100000 in
set_option maxHeartbeats 800000 in
theorem m_blows (s m ig ws : Nat → Int32) (hg : Int32) (T : TX) (V : VX) (hI : Iv s) (v : Int32) : Ctr yX5_blows cX5_blows 3 (some .int) 7 0 0 [.ref 0, .int v] (rW s m ig ws hg T V) (SttR (.int (A_blows s v)) (R_blows s v) ig hg T) := by
  refine Ctr.of rfl (Nat.le_of_ble_eq_true rfl) ⟨clS_of rfl, clH_of rfl⟩ (fun K F X0 => ?_)
  show Go K 0 0 0 [(0, .ref 0), (1, .int v)] [] (rW s m ig ws hg T V)
  refine g_iload_n (pc := 0) F dX5_blows_0 rfl ?_
  refine g_bipush (pc := 1) F dX5_blows_1 (v := (-9 : Int32)) (by decide) ?_
  refine g_bipush (pc := 3) F dX5_blows_3 (v := nI 9) rfl ?_
  refine h_readS (pc := 5) F (c_isIn _ _ _) mi_X5_isIn ks_X5_43 dX5_blows_5 [] rfl (by decide) (by decide) rfl rfl (Nat.le_of_ble_eq_true rfl) trivial (by decide) (by decide) ?_
  refine g_ifne_d (pc := 8) F dX5_blows_8 (tgt := 14) rfl (fun c_8 => ?_) (fun c_8 => ?_)
  · refine g_aload_n (pc := 14) F dX5_blows_14 rfl ?_
    refine g_getf (pc := 15) F fl_X5_9 dX5_blows_15 rfl rfl ?_
    refine g_iconst (pc := 18) F dX5_blows_18 (v := nI 2) rfl ?_
    refine g_iald2 (pc := 19) F dX5_blows_19 rfl rfl (by first | omega | (simp only [ix]; omega)) (by decide) ?_
    refine g_istore_n (pc := 20) F dX5_blows_20 (by decide) ?_
    refine g_aload_n (pc := 21) F dX5_blows_21 rfl ?_
    refine g_getf (pc := 22) F fl_X5_9 dX5_blows_22 rfl rfl ?_
    refine g_iconst (pc := 25) F dX5_blows_25 (v := nI 2) rfl ?_
    refine g_iload_n (pc := 26) F dX5_blows_26 rfl ?_
    refine g_iast2 (pc := 27) F dX5_blows_27 rfl rfl (by first | omega | (simp only [ix]; omega)) (by decide) ?_
    refine g_iload_n (pc := 28) F dX5_blows_28 rfl ?_
    exact g_iret (pc := 29) F X0 dX5_blows_29 (Nat.le_of_ble_eq_true rfl) (Nat.le_of_ble_eq_true rfl) rfl (by first
      | exact ⟨congrArg (fun z => some (Value.int z)) (if_neg (fun z => c_8 z)).symm, m, ws, V, (congrArg (fun z => rW z m ig ws hg T V) (if_neg (fun z => c_8 z))).symm⟩
      | exact ⟨congrArg (fun z => some (Value.int z)) (if_pos c_8).symm, m, ws, V, (congrArg (fun z => rW z m ig ws hg T V) (if_pos c_8)).symm⟩
      | fail)
  · refine g_ldc (pc := 11) F dX5_blows_11 kc_X5_151 ?_
    exact g_iret (pc := 13) F X0 dX5_blows_13 (Nat.le_of_ble_eq_true rfl) (Nat.le_of_ble_eq_true rfl) rfl (by first
      | exact ⟨congrArg (fun z => some (Value.int z)) (if_neg (fun z => c_8 z)).symm, m, ws, V, (congrArg (fun z => rW z m ig ws hg T V) (if_neg (fun z => c_8 z))).symm⟩
      | exact ⟨congrArg (fun z => some (Value.int z)) (if_pos c_8).symm, m, ws, V, (congrArg (fun z => rW z m ig ws hg T V) (if_pos c_8)).symm⟩
      | fail)

theorem rs_one {x : Int32} (h : x = nI 1) : x = nI 1 := h
theorem rs_zero {x y : Int32} (h : y = nI 0 ∨ y = nI 1) (h2 : ¬ upd (fun _ => x) 0 y 0 = nI 1) : y = nI 0 := h.resolve_right h2
theorem turnR_at {r : Nat → Int32} {c : Nat} : turnR r c (ix c 5) = r (ix c 5) ^^^ nI 1 := upd_at _ _ _
set_option maxRecDepth 100000 in
set_option maxHeartbeats 800000 in
theorem c_rests (b : Int32) (X Y Z : DX) (im : Int32) (S : Nat → SX) (g h : Nat → Int32) (r : Nat → Int32) (hR : Rel b X r) (hI : Iv r) (h4 : r 4 = nI 0) (c : Int32) : Ctr yX4_rests cX4_rests 2 (some .int) 7 0 0 [.ref 0, .int c] (mW X Y Z im S g h) (Stt (.int (A_rests r c)) (R_rests r c) Z im S) := by
  refine Ctr.of rfl (Nat.le_of_ble_eq_true rfl) ⟨clS_of rfl, mW_cl _ _ _ _ _ _ _⟩ (fun K F X0 => ?_)
  show Go K 0 0 0 [(0, .ref 0), (1, .int c)] [] (mW X Y Z im S g h)
  refine g_aload_n (pc := 0) F dX4_rests_0 rfl ?_
  refine g_iload_n (pc := 1) F dX4_rests_1 rfl ?_
  refine i_readV (pc := 2) F (c_isCorporal b X Y Z im S g h r _ hR hI) mi_X4_isCorporal kv_X4_78 rfl rfl dX4_rests_2 (by decide) (by decide) rfl (Nat.le_of_ble_eq_true rfl) (by decide) (by decide) ?_
  refine g_ifne_d (pc := 5) F dX4_rests_5 (tgt := 10) rfl (fun c_5 => ?_) (fun c_5 => ?_)
  · have hm6 := hI.1.2
    obtain ⟨j, hj, rfl⟩ := one_ex hI c_5
    refine g_aload_n (pc := 10) F dX4_rests_10 rfl ?_
    refine g_getf (pc := 11) F fl_X4_12 dX4_rests_11 rfl rfl ?_
    refine g_iload_n (pc := 14) F dX4_rests_14 rfl ?_
    refine h_callV (pc := 15) F (c_turnRest b X r _ j hR hI rfl hj h4) mi_X0_turnRest kv_X4_159 rfl rfl dX4_rests_15 [1, 2, 3, 4, 5, 6, 7, 8] sub_now (by decide) (by decide) rfl rfl (Nat.le_of_ble_eq_true rfl) (by decide) (by decide) ?_
    rintro _ _ ⟨rfl, P2, rfl, hR2⟩ -
    rw [place_now]
    refine g_aload_n (pc := 18) F dX4_rests_18 rfl ?_
    refine g_getf (pc := 19) F fl_X4_12 dX4_rests_19 rfl rfl ?_
    refine g_getf (pc := 22) F fl_X4_97 dX4_rests_22 rfl rfl ?_
    refine g_iload_n (pc := 25) F dX4_rests_25 rfl ?_
    refine h_readS (pc := 26) F (c_hasBit _ _) mi_X4_hasBit ks_X4_100 dX4_rests_26 [] rfl (by decide) (by decide) rfl rfl (Nat.le_of_ble_eq_true rfl) trivial (by decide) (by decide) ?_
    rw [show dR P2 = restR (turnR r j) from hR2.1.2.2.2.2.2, restR_has (Iv_turn hI hj) (by rw [show many (turnR r j) = many r from many_upd (by simp only [ix]; omega)]; exact hj)]
    refine g_ifeq_d (pc := 29) F dX4_rests_29 (tgt := 36) rfl (fun c_29 => ?_) (fun c_29 => ?_)
    · refine g_iconst (pc := 36) F dX4_rests_36 (v := nI 0) rfl ?_
      exact g_iret (pc := 37) F X0 dX4_rests_37 (Nat.le_of_ble_eq_true rfl) (Nat.le_of_ble_eq_true rfl) rfl (by first
      | exact ⟨congrArg (fun z => some (Value.int z)) (if_neg (fun z => c_5 z)).symm, b, X, Y, g, h, rfl, (congrArg (Rel b X) (if_neg (fun z => c_5 z))).mpr hR⟩
      | exact ⟨congrArg (fun z => some (Value.int z)) ((if_pos c_5).trans (by rw [N_nI (by omega)]; exact c_29)).symm, b, P2, Y, g, h, rfl, (congrArg (Rel b P2) ((if_pos c_5).trans (by rw [N_nI (by omega)]))).mpr hR2⟩
      | exact ⟨congrArg (fun z => some (Value.int z)) ((if_pos c_5).trans (by rw [N_nI (by omega)]; exact turnR_at.trans ((turn_01 (hI.2.2.1 j hj).2.2.2.2.2).resolve_right (fun z => c_29 (turnR_at.trans z))))).symm, b, P2, Y, g, h, rfl, (congrArg (Rel b P2) ((if_pos c_5).trans (by rw [N_nI (by omega)]))).mpr hR2⟩
      | fail)
    · refine g_iconst (pc := 32) F dX4_rests_32 (v := nI 1) rfl ?_
      refine g_goto (pc := 33) F dX4_rests_33 (tgt := 37) rfl ?_
      exact g_iret (pc := 37) F X0 dX4_rests_37 (Nat.le_of_ble_eq_true rfl) (Nat.le_of_ble_eq_true rfl) rfl (by first
      | exact ⟨congrArg (fun z => some (Value.int z)) (if_neg (fun z => c_5 z)).symm, b, X, Y, g, h, rfl, (congrArg (Rel b X) (if_neg (fun z => c_5 z))).mpr hR⟩
      | exact ⟨congrArg (fun z => some (Value.int z)) ((if_pos c_5).trans (by rw [N_nI (by omega)]; exact c_29)).symm, b, P2, Y, g, h, rfl, (congrArg (Rel b P2) ((if_pos c_5).trans (by rw [N_nI (by omega)]))).mpr hR2⟩
      | exact ⟨congrArg (fun z => some (Value.int z)) ((if_pos c_5).trans (by rw [N_nI (by omega)]; exact turnR_at.trans ((turn_01 (hI.2.2.1 j hj).2.2.2.2.2).resolve_right (fun z => c_29 (turnR_at.trans z))))).symm, b, P2, Y, g, h, rfl, (congrArg (Rel b P2) ((if_pos c_5).trans (by rw [N_nI (by omega)]))).mpr hR2⟩
      | fail)
  · refine g_iconst (pc := 8) F dX4_rests_8 (v := (-1 : Int32)) (by decide) ?_
    exact g_iret (pc := 9) F X0 dX4_rests_9 (Nat.le_of_ble_eq_true rfl) (Nat.le_of_ble_eq_true rfl) rfl (by first
      | exact ⟨congrArg (fun z => some (Value.int z)) (if_neg (fun z => c_5 z)).symm, b, X, Y, g, h, rfl, (congrArg (Rel b X) (if_neg (fun z => c_5 z))).mpr hR⟩
      | exact ⟨congrArg (fun z => some (Value.int z)) ((if_pos c_5).trans (by rw [N_nI (by omega)]; exact c_29)).symm, b, P2, Y, g, h, rfl, (congrArg (Rel b P2) ((if_pos c_5).trans (by rw [N_nI (by omega)]))).mpr hR2⟩
      | exact ⟨congrArg (fun z => some (Value.int z)) ((if_pos c_5).trans (by rw [N_nI (by omega)]; exact turnR_at.trans ((turn_01 (hI.2.2.1 j hj).2.2.2.2.2).resolve_right (fun z => c_29 (turnR_at.trans z))))).symm, b, P2, Y, g, h, rfl, (congrArg (Rel b P2) ((if_pos c_5).trans (by rw [N_nI (by omega)]))).mpr hR2⟩
      | fail)

set_option maxRecDepth 100000 in
set_option maxHeartbeats 800000 in
theorem m_rests (s m ig ws : Nat → Int32) (hg : Int32) (T : TX) (V : VX) (hI : Iv s) (c : Int32) : Ctr yX5_rests cX5_rests 2 (some .int) 7 0 0 [.ref 0, .int c] (rW s m ig ws hg T V) (SttR (.int (A_rests s c)) (R_rests s c) ig hg T) := by
  refine Ctr.of rfl (Nat.le_of_ble_eq_true rfl) ⟨clS_of rfl, clH_of rfl⟩ (fun K F X0 => ?_)
  show Go K 0 0 0 [(0, .ref 0), (1, .int c)] [] (rW s m ig ws hg T V)
  refine g_aload_n (pc := 0) F dX5_rests_0 rfl ?_
  refine g_iload_n (pc := 1) F dX5_rests_1 rfl ?_
  refine i_readV (pc := 2) F (m_isOne s m ig ws hg T V _ hI) mi_X5_isOne kv_X5_123 rfl rfl dX5_rests_2 (by decide) (by decide) rfl (Nat.le_of_ble_eq_true rfl) (by decide) (by decide) ?_
  refine g_ifne_d (pc := 5) F dX5_rests_5 (tgt := 10) rfl (fun c_5 => ?_) (fun c_5 => ?_)
  · have hm6 := hI.1.2
    obtain ⟨j, hj, rfl⟩ := one_ex hI c_5
    refine g_aload_n (pc := 10) F dX5_rests_10 rfl ?_
    refine g_getf (pc := 11) F fl_X5_9 dX5_rests_11 rfl rfl ?_
    refine g_iload_n (pc := 14) F dX5_rests_14 rfl ?_
    refine g_iconst (pc := 15) F dX5_rests_15 (v := nI 5) rfl ?_
    refine h_readS (pc := 16) F (c_of j 5) mi_X5_of ks_X5_47 dX5_rests_16 [] rfl (by decide) (by decide) rfl rfl (Nat.le_of_ble_eq_true rfl) trivial (by decide) (by decide) ?_
    refine g_dup2 (pc := 19) F dX5_rests_19 rfl rfl ?_
    refine g_iald2 (pc := 20) F dX5_rests_20 rfl rfl (by first | omega | (simp only [ix]; omega)) (by decide) ?_
    refine g_iconst (pc := 21) F dX5_rests_21 (v := nI 1) rfl ?_
    refine g_ixor (pc := 22) F dX5_rests_22 ?_
    refine g_iast2 (pc := 23) F dX5_rests_23 rfl rfl (by first | omega | (simp only [ix]; omega)) (by decide) ?_
    refine g_aload_n (pc := 24) F dX5_rests_24 rfl ?_
    refine g_getf (pc := 25) F fl_X5_9 dX5_rests_25 rfl rfl ?_
    refine g_iload_n (pc := 28) F dX5_rests_28 rfl ?_
    refine g_iconst (pc := 29) F dX5_rests_29 (v := nI 5) rfl ?_
    refine h_readS (pc := 30) F (c_of j 5) mi_X5_of ks_X5_47 dX5_rests_30 [] rfl (by decide) (by decide) rfl rfl (Nat.le_of_ble_eq_true rfl) trivial (by decide) (by decide) ?_
    refine g_iald2 (pc := 33) F dX5_rests_33 rfl rfl (by first | omega | (simp only [ix]; omega)) (by decide) ?_
    exact g_iret (pc := 34) F X0 dX5_rests_34 (Nat.le_of_ble_eq_true rfl) (Nat.le_of_ble_eq_true rfl) rfl (by first
      | exact ⟨congrArg (fun z => some (Value.int z)) (if_neg (fun z => c_5 z)).symm, m, ws, V, (congrArg (fun z => rW z m ig ws hg T V) (if_neg (fun z => c_5 z))).symm⟩
      | exact ⟨congrArg (fun z => some (Value.int z)) ((if_pos c_5).trans (by rw [N_nI (by omega)]; rfl)).symm, m, ws, V, (congrArg (fun z => rW z m ig ws hg T V) ((if_pos c_5).trans (by rw [N_nI (by omega)]; rfl))).symm⟩
      | fail)
  · refine g_iconst (pc := 8) F dX5_rests_8 (v := (-1 : Int32)) (by decide) ?_
    exact g_iret (pc := 9) F X0 dX5_rests_9 (Nat.le_of_ble_eq_true rfl) (Nat.le_of_ble_eq_true rfl) rfl (by first
      | exact ⟨congrArg (fun z => some (Value.int z)) (if_neg (fun z => c_5 z)).symm, m, ws, V, (congrArg (fun z => rW z m ig ws hg T V) (if_neg (fun z => c_5 z))).symm⟩
      | exact ⟨congrArg (fun z => some (Value.int z)) ((if_pos c_5).trans (by rw [N_nI (by omega)]; rfl)).symm, m, ws, V, (congrArg (fun z => rW z m ig ws hg T V) ((if_pos c_5).trans (by rw [N_nI (by omega)]; rfl))).symm⟩
      | fail)

set_option maxRecDepth 100000 in
set_option maxHeartbeats 800000 in
theorem c_moves (b : Int32) (X Y Z : DX) (im : Int32) (S : Nat → SX) (g h : Nat → Int32) (r : Nat → Int32) (hR : Rel b X r) (hI : Iv r) (h4 : r 4 = nI 0) (c d : Int32) : Ctr yX4_moves cX4_moves 4 (some .int) 7 0 0 [.ref 0, .int c, .int d] (mW X Y Z im S g h) (Stt (.int (A_moves r c d)) (R_moves r c d) Z im S) := by
  refine Ctr.of rfl (Nat.le_of_ble_eq_true rfl) ⟨clS_of rfl, mW_cl _ _ _ _ _ _ _⟩ (fun K F X0 => ?_)
  show Go K 0 0 0 [(0, .ref 0), (1, .int c), (2, .int d)] [] (mW X Y Z im S g h)
  refine g_aload_n (pc := 0) F dX4_moves_0 rfl ?_
  refine g_iload_n (pc := 1) F dX4_moves_1 rfl ?_
  refine i_readV (pc := 2) F (c_isCorporal b X Y Z im S g h r _ hR hI) mi_X4_isCorporal kv_X4_78 rfl rfl dX4_moves_2 (by decide) (by decide) rfl (Nat.le_of_ble_eq_true rfl) (by decide) (by decide) ?_
  refine g_ifeq_d (pc := 5) F dX4_moves_5 (tgt := 15) rfl (fun c_5 => ?_) (fun c_5 => ?_)
  · refine g_iconst (pc := 15) F dX4_moves_15 (v := (-1 : Int32)) (by decide) ?_
    exact g_iret (pc := 16) F X0 dX4_moves_16 (Nat.le_of_ble_eq_true rfl) (Nat.le_of_ble_eq_true rfl) rfl (by first
      | exact ⟨congrArg (fun z => some (Value.int z)) (if_neg (fun z => c_5 z.1)).symm, b, X, Y, g, h, rfl, (congrArg (Rel b X) (if_neg (fun z => c_5 z.1))).mpr hR⟩
      | exact ⟨congrArg (fun z => some (Value.int z)) (if_neg (fun z => c_12 z.2)).symm, b, X, Y, g, h, rfl, (congrArg (Rel b X) (if_neg (fun z => c_12 z.2))).mpr hR⟩
      | exact ⟨congrArg (fun z => some (Value.int z)) ((if_pos ⟨c_5, c_12⟩).trans (by rw [N_nI (by omega)]; exact (hR.2.2.2 j hj).2.2.1.symm)).symm, b, sA X (upd (dA X) j d), Y, g, h, rfl, (congrArg (Rel b (sA X (upd (dA X) j d))) ((if_pos ⟨c_5, c_12⟩).trans (by rw [N_nI (by omega)]))).mpr (Rel_at hR)⟩
      | fail)
  · refine g_iload_n (pc := 8) F dX4_moves_8 rfl ?_
    refine h_readS (pc := 9) F (c_isDip _) mi_X4_isDip ks_X4_117 dX4_moves_9 [] rfl (by decide) (by decide) rfl rfl (Nat.le_of_ble_eq_true rfl) trivial (by decide) (by decide) ?_
    refine g_ifne_d (pc := 12) F dX4_moves_12 (tgt := 17) rfl (fun c_12 => ?_) (fun c_12 => ?_)
    · have hm6 := hI.1.2
      obtain ⟨j, hj, rfl⟩ := one_ex hI c_5
      refine g_aload_n (pc := 17) F dX4_moves_17 rfl ?_
      refine g_getf (pc := 18) F fl_X4_12 dX4_moves_18 rfl rfl ?_
      refine g_getf (pc := 21) F fl_X4_88 dX4_moves_21 rfl rfl ?_
      refine g_iload_n (pc := 24) F dX4_moves_24 rfl ?_
      refine g_iald2 (pc := 25) F dX4_moves_25 rfl rfl (by first | omega | (simp only [ix]; omega)) (by decide) ?_
      refine g_istore_n (pc := 26) F dX4_moves_26 (by decide) ?_
      refine g_aload_n (pc := 27) F dX4_moves_27 rfl ?_
      refine g_getf (pc := 28) F fl_X4_12 dX4_moves_28 rfl rfl ?_
      refine g_getf (pc := 31) F fl_X4_88 dX4_moves_31 rfl rfl ?_
      refine g_iload_n (pc := 34) F dX4_moves_34 rfl ?_
      refine g_iload_n (pc := 35) F dX4_moves_35 rfl ?_
      refine g_iast2 (pc := 36) F dX4_moves_36 rfl rfl (by first | omega | (simp only [ix]; omega)) (by decide) ?_
      refine g_iload_n (pc := 37) F dX4_moves_37 rfl ?_
      exact g_iret (pc := 38) F X0 dX4_moves_38 (Nat.le_of_ble_eq_true rfl) (Nat.le_of_ble_eq_true rfl) rfl (by first
      | exact ⟨congrArg (fun z => some (Value.int z)) (if_neg (fun z => c_5 z.1)).symm, b, X, Y, g, h, rfl, (congrArg (Rel b X) (if_neg (fun z => c_5 z.1))).mpr hR⟩
      | exact ⟨congrArg (fun z => some (Value.int z)) (if_neg (fun z => c_12 z.2)).symm, b, X, Y, g, h, rfl, (congrArg (Rel b X) (if_neg (fun z => c_12 z.2))).mpr hR⟩
      | exact ⟨congrArg (fun z => some (Value.int z)) ((if_pos ⟨c_5, c_12⟩).trans (by rw [N_nI (by omega)]; exact (hR.2.2.2 j hj).2.2.1.symm)).symm, b, sA X (upd (dA X) j d), Y, g, h, rfl, (congrArg (Rel b (sA X (upd (dA X) j d))) ((if_pos ⟨c_5, c_12⟩).trans (by rw [N_nI (by omega)]))).mpr (Rel_at hR)⟩
      | fail)
    · refine g_iconst (pc := 15) F dX4_moves_15 (v := (-1 : Int32)) (by decide) ?_
      exact g_iret (pc := 16) F X0 dX4_moves_16 (Nat.le_of_ble_eq_true rfl) (Nat.le_of_ble_eq_true rfl) rfl (by first
      | exact ⟨congrArg (fun z => some (Value.int z)) (if_neg (fun z => c_5 z.1)).symm, b, X, Y, g, h, rfl, (congrArg (Rel b X) (if_neg (fun z => c_5 z.1))).mpr hR⟩
      | exact ⟨congrArg (fun z => some (Value.int z)) (if_neg (fun z => c_12 z.2)).symm, b, X, Y, g, h, rfl, (congrArg (Rel b X) (if_neg (fun z => c_12 z.2))).mpr hR⟩
      | exact ⟨congrArg (fun z => some (Value.int z)) ((if_pos ⟨c_5, c_12⟩).trans (by rw [N_nI (by omega)]; exact (hR.2.2.2 j hj).2.2.1.symm)).symm, b, sA X (upd (dA X) j d), Y, g, h, rfl, (congrArg (Rel b (sA X (upd (dA X) j d))) ((if_pos ⟨c_5, c_12⟩).trans (by rw [N_nI (by omega)]))).mpr (Rel_at hR)⟩
      | fail)

set_option maxRecDepth 100000 in
set_option maxHeartbeats 800000 in
theorem m_moves (s m ig ws : Nat → Int32) (hg : Int32) (T : TX) (V : VX) (hI : Iv s) (c d : Int32) : Ctr yX5_moves cX5_moves 4 (some .int) 7 0 0 [.ref 0, .int c, .int d] (rW s m ig ws hg T V) (SttR (.int (A_moves s c d)) (R_moves s c d) ig hg T) := by
  refine Ctr.of rfl (Nat.le_of_ble_eq_true rfl) ⟨clS_of rfl, clH_of rfl⟩ (fun K F X0 => ?_)
  show Go K 0 0 0 [(0, .ref 0), (1, .int c), (2, .int d)] [] (rW s m ig ws hg T V)
  refine g_aload_n (pc := 0) F dX5_moves_0 rfl ?_
  refine g_iload_n (pc := 1) F dX5_moves_1 rfl ?_
  refine i_readV (pc := 2) F (m_isOne s m ig ws hg T V _ hI) mi_X5_isOne kv_X5_123 rfl rfl dX5_moves_2 (by decide) (by decide) rfl (Nat.le_of_ble_eq_true rfl) (by decide) (by decide) ?_
  refine g_ifeq_d (pc := 5) F dX5_moves_5 (tgt := 15) rfl (fun c_5 => ?_) (fun c_5 => ?_)
  · refine g_iconst (pc := 15) F dX5_moves_15 (v := (-1 : Int32)) (by decide) ?_
    exact g_iret (pc := 16) F X0 dX5_moves_16 (Nat.le_of_ble_eq_true rfl) (Nat.le_of_ble_eq_true rfl) rfl (by first
      | exact ⟨congrArg (fun z => some (Value.int z)) (if_neg (fun z => c_5 z.1)).symm, m, ws, V, (congrArg (fun z => rW z m ig ws hg T V) (if_neg (fun z => c_5 z.1))).symm⟩
      | exact ⟨congrArg (fun z => some (Value.int z)) (if_neg (fun z => c_12 z.2)).symm, m, ws, V, (congrArg (fun z => rW z m ig ws hg T V) (if_neg (fun z => c_12 z.2))).symm⟩
      | exact ⟨congrArg (fun z => some (Value.int z)) ((if_pos ⟨c_5, c_12⟩).trans (by rw [N_nI (by omega)])).symm, m, ws, V, (congrArg (fun z => rW z m ig ws hg T V) ((if_pos ⟨c_5, c_12⟩).trans (by rw [N_nI (by omega)]))).symm⟩
      | fail)
  · refine g_iload_n (pc := 8) F dX5_moves_8 rfl ?_
    refine h_readS (pc := 9) F (c_mDip _) mi_X5_isDip ks_X5_61 dX5_moves_9 [] rfl (by decide) (by decide) rfl rfl (Nat.le_of_ble_eq_true rfl) trivial (by decide) (by decide) ?_
    refine g_ifne_d (pc := 12) F dX5_moves_12 (tgt := 17) rfl (fun c_12 => ?_) (fun c_12 => ?_)
    · have hm6 := hI.1.2
      obtain ⟨j, hj, rfl⟩ := one_ex hI c_5
      refine g_aload_n (pc := 17) F dX5_moves_17 rfl ?_
      refine g_getf (pc := 18) F fl_X5_9 dX5_moves_18 rfl rfl ?_
      refine g_iload_n (pc := 21) F dX5_moves_21 rfl ?_
      refine g_iconst (pc := 22) F dX5_moves_22 (v := nI 2) rfl ?_
      refine h_readS (pc := 23) F (c_of j 2) mi_X5_of ks_X5_47 dX5_moves_23 [] rfl (by decide) (by decide) rfl rfl (Nat.le_of_ble_eq_true rfl) trivial (by decide) (by decide) ?_
      refine g_iald2 (pc := 26) F dX5_moves_26 rfl rfl (by first | omega | (simp only [ix]; omega)) (by decide) ?_
      refine g_istore_n (pc := 27) F dX5_moves_27 (by decide) ?_
      refine g_aload_n (pc := 28) F dX5_moves_28 rfl ?_
      refine g_getf (pc := 29) F fl_X5_9 dX5_moves_29 rfl rfl ?_
      refine g_iload_n (pc := 32) F dX5_moves_32 rfl ?_
      refine g_iconst (pc := 33) F dX5_moves_33 (v := nI 2) rfl ?_
      refine h_readS (pc := 34) F (c_of j 2) mi_X5_of ks_X5_47 dX5_moves_34 [] rfl (by decide) (by decide) rfl rfl (Nat.le_of_ble_eq_true rfl) trivial (by decide) (by decide) ?_
      refine g_iload_n (pc := 37) F dX5_moves_37 rfl ?_
      refine g_iast2 (pc := 38) F dX5_moves_38 rfl rfl (by first | omega | (simp only [ix]; omega)) (by decide) ?_
      refine g_iload_n (pc := 39) F dX5_moves_39 rfl ?_
      exact g_iret (pc := 40) F X0 dX5_moves_40 (Nat.le_of_ble_eq_true rfl) (Nat.le_of_ble_eq_true rfl) rfl (by first
      | exact ⟨congrArg (fun z => some (Value.int z)) (if_neg (fun z => c_5 z.1)).symm, m, ws, V, (congrArg (fun z => rW z m ig ws hg T V) (if_neg (fun z => c_5 z.1))).symm⟩
      | exact ⟨congrArg (fun z => some (Value.int z)) (if_neg (fun z => c_12 z.2)).symm, m, ws, V, (congrArg (fun z => rW z m ig ws hg T V) (if_neg (fun z => c_12 z.2))).symm⟩
      | exact ⟨congrArg (fun z => some (Value.int z)) ((if_pos ⟨c_5, c_12⟩).trans (by rw [N_nI (by omega)])).symm, m, ws, V, (congrArg (fun z => rW z m ig ws hg T V) ((if_pos ⟨c_5, c_12⟩).trans (by rw [N_nI (by omega)]))).symm⟩
      | fail)
    · refine g_iconst (pc := 15) F dX5_moves_15 (v := (-1 : Int32)) (by decide) ?_
      exact g_iret (pc := 16) F X0 dX5_moves_16 (Nat.le_of_ble_eq_true rfl) (Nat.le_of_ble_eq_true rfl) rfl (by first
      | exact ⟨congrArg (fun z => some (Value.int z)) (if_neg (fun z => c_5 z.1)).symm, m, ws, V, (congrArg (fun z => rW z m ig ws hg T V) (if_neg (fun z => c_5 z.1))).symm⟩
      | exact ⟨congrArg (fun z => some (Value.int z)) (if_neg (fun z => c_12 z.2)).symm, m, ws, V, (congrArg (fun z => rW z m ig ws hg T V) (if_neg (fun z => c_12 z.2))).symm⟩
      | exact ⟨congrArg (fun z => some (Value.int z)) ((if_pos ⟨c_5, c_12⟩).trans (by rw [N_nI (by omega)])).symm, m, ws, V, (congrArg (fun z => rW z m ig ws hg T V) ((if_pos ⟨c_5, c_12⟩).trans (by rw [N_nI (by omega)]))).symm⟩
      | fail)

set_option maxRecDepth 100000 in
set_option maxHeartbeats 800000 in
theorem c_flood (b : Int32) (X Y Z : DX) (im : Int32) (S : Nat → SX) (g h : Nat → Int32) (r : Nat → Int32) (hR : Rel b X r) (hI : Iv r) (h4 : r 4 = nI 0) : Ctr yX4_flood cX4_flood 2 (some .int) 7 0 0 [.ref 0] (mW X Y Z im S g h) (Stt (.int (booksR r (-1))) (floodR r) Z im S) := by
  refine Ctr.of rfl (Nat.le_of_ble_eq_true rfl) ⟨clS_of rfl, mW_cl _ _ _ _ _ _ _⟩ (fun K F X0 => ?_)
  show Go K 0 0 0 [(0, .ref 0)] [] (mW X Y Z im S g h)
  refine g_aload_n (pc := 0) F dX4_flood_0 rfl ?_
  refine g_getf (pc := 1) F fl_X4_12 dX4_flood_1 rfl rfl ?_
  refine h_readV (pc := 4) F (c_allBooks b X r hR hI) mi_X0_allBooks kv_X4_163 rfl rfl dX4_flood_4 [1, 2, 3, 4, 5, 6, 7, 8] sub_now (by decide) (by decide) rfl rfl (Nat.le_of_ble_eq_true rfl) trivial (by decide) (by decide) ?_
  refine g_istore_n (pc := 7) F dX4_flood_7 (by decide) ?_
  refine g_aload_n (pc := 8) F dX4_flood_8 rfl ?_
  refine g_getf (pc := 9) F fl_X4_12 dX4_flood_9 rfl rfl ?_
  refine h_callV (pc := 12) F (c_setBack b X r hR hI) mi_X0_setBack kv_X4_167 rfl rfl dX4_flood_12 [1, 2, 3, 4, 5, 6, 7, 8] sub_now (by decide) (by decide) rfl rfl (Nat.le_of_ble_eq_true rfl) (by decide) (by decide) ?_
  rintro _ _ ⟨rfl, P2, rfl, hR2⟩ -
  rw [place_now]
  refine g_iload_n (pc := 15) F dX4_flood_15 rfl ?_
  exact g_iret (pc := 16) F X0 dX4_flood_16 (Nat.le_of_ble_eq_true rfl) (Nat.le_of_ble_eq_true rfl) rfl ⟨rfl, b, P2, Y, g, h, rfl, hR2⟩

set_option maxRecDepth 100000 in
set_option maxHeartbeats 800000 in
theorem m_flood (s m ig ws : Nat → Int32) (hg : Int32) (T : TX) (V : VX) (hI : Iv s) : Ctr yX5_flood cX5_flood 2 (some .int) 7 0 0 [.ref 0] (rW s m ig ws hg T V) (SttR (.int (booksR s (-1))) (floodR s) ig hg T) := by
  refine Ctr.of rfl (Nat.le_of_ble_eq_true rfl) ⟨clS_of rfl, clH_of rfl⟩ (fun K F X0 => ?_)
  show Go K 0 0 0 [(0, .ref 0)] [] (rW s m ig ws hg T V)
  refine g_aload_n (pc := 0) F dX5_flood_0 rfl ?_
  refine g_getf (pc := 1) F fl_X5_9 dX5_flood_1 rfl rfl ?_
  refine g_iconst (pc := 4) F dX5_flood_4 (v := (-1 : Int32)) (by decide) ?_
  refine h_readS (pc := 5) F (c_booksOf s _ hI) mi_X5_booksOf ks_X5_152 dX5_flood_5 [1] rfl (by decide) (by decide) rfl rfl (Nat.le_of_ble_eq_true rfl) trivial (by decide) (by decide) ?_
  refine g_istore_n (pc := 8) F dX5_flood_8 (by decide) ?_
  refine g_aload_n (pc := 9) F dX5_flood_9 rfl ?_
  refine g_getf (pc := 10) F fl_X5_9 dX5_flood_10 rfl rfl ?_
  refine h_callS (pc := 13) F (c_floods s hI) mi_X5_floods ks_X5_126 dX5_flood_13 [1] rfl (by decide) (by decide) rfl rfl (Nat.le_of_ble_eq_true rfl) (by decide) (by decide) ?_
  rintro _ _ ⟨rfl, rfl⟩ -
  refine g_iload_n (pc := 16) F dX5_flood_16 rfl ?_
  exact g_iret (pc := 17) F X0 dX5_flood_17 (Nat.le_of_ble_eq_true rfl) (Nat.le_of_ble_eq_true rfl) rfl ⟨rfl, m, ws, V, rfl⟩

set_option maxRecDepth 100000 in
set_option maxHeartbeats 800000 in
theorem c_days (b : Int32) (X Y Z : DX) (im : Int32) (S : Nat → SX) (g h : Nat → Int32) (r : Nat → Int32) (hR : Rel b X r) (hI : Iv r) (h4 : r 4 = nI 0) (n : Int32) : Ctr yX4_days cX4_days 2 (some .int) 7 0 0 [.ref 0, .int n] (mW X Y Z im S g h) (Stt (.int (A_days r n)) (R_days r n) Z im S) := by
  refine Ctr.of rfl (Nat.le_of_ble_eq_true rfl) ⟨clS_of rfl, mW_cl _ _ _ _ _ _ _⟩ (fun K F X0 => ?_)
  show Go K 0 0 0 [(0, .ref 0), (1, .int n)] [] (mW X Y Z im S g h)
  refine g_iload_n (pc := 0) F dX4_days_0 rfl ?_
  refine g_iconst (pc := 1) F dX4_days_1 (v := nI 1) rfl ?_
  refine g_bipush (pc := 2) F dX4_days_2 (v := nI 60) rfl ?_
  refine h_readS (pc := 4) F (c_isWithin _ _ _) mi_X4_isWithin ks_X4_129 dX4_days_4 [] rfl (by decide) (by decide) rfl rfl (Nat.le_of_ble_eq_true rfl) trivial (by decide) (by decide) ?_
  refine g_ifne_d (pc := 7) F dX4_days_7 (tgt := 12) rfl (fun c_7 => ?_) (fun c_7 => ?_)
  · obtain ⟨j, hj, rfl⟩ := day_ex c_7
    refine g_aload_n (pc := 12) F dX4_days_12 rfl ?_
    refine g_getf (pc := 13) F fl_X4_12 dX4_days_13 rfl rfl ?_
    refine g_getf (pc := 16) F fl_X4_108 dX4_days_16 rfl rfl ?_
    rw [hR.1.2.1]
    refine g_iload_n (pc := 19) F dX4_days_19 rfl ?_
    refine g_iadd (pc := 20) F dX4_days_20 ?_
    refine g_sipush (pc := 21) F dX4_days_21 (v := nI 999) rfl ?_
    refine g_ic_le (pc := 24) F dX4_days_24 (tgt := 30) rfl (fun c_24 => ?_) (fun c_24 => ?_)
    · refine g_aload_n (pc := 30) F dX4_days_30 rfl ?_
      refine g_getf (pc := 31) F fl_X4_12 dX4_days_31 rfl rfl ?_
      refine g_iload_n (pc := 34) F dX4_days_34 rfl ?_
      refine h_callV (pc := 35) F (c_passDays b X r _ j hR hI rfl (by omega)) mi_X0_passDays kv_X4_170 rfl rfl dX4_days_35 [1, 2, 3, 4, 5, 6, 7, 8] sub_now (by decide) (by decide) rfl rfl (Nat.le_of_ble_eq_true rfl) (by decide) (by decide) ?_
      rintro _ _ ⟨rfl, P2, rfl, hR2⟩ -
      rw [place_now]
      refine g_aload_n (pc := 38) F dX4_days_38 rfl ?_
      refine g_getf (pc := 39) F fl_X4_12 dX4_days_39 rfl rfl ?_
      refine h_readV (pc := 42) F (c_allBooks b P2 _ hR2 (daysR_ok hI j).1) mi_X0_allBooks kv_X4_163 rfl rfl dX4_days_42 [1, 2, 3, 4, 5, 6, 7, 8] sub_now (by decide) (by decide) rfl rfl (Nat.le_of_ble_eq_true rfl) trivial (by decide) (by decide) ?_
      exact g_iret (pc := 45) F X0 dX4_days_45 (Nat.le_of_ble_eq_true rfl) (Nat.le_of_ble_eq_true rfl) rfl (by first
      | exact ⟨congrArg (fun z => some (Value.int z)) (if_neg (fun z => c_7 z)).symm, b, X, Y, g, h, rfl, (congrArg (Rel b X) (if_neg (fun z => c_7 z))).mpr hR⟩
      | exact ⟨congrArg (fun z => some (Value.int z)) ((if_pos c_7).trans (if_neg c_24)).symm, b, X, Y, g, h, rfl, (congrArg (Rel b X) ((if_pos c_7).trans (if_neg c_24))).mpr hR⟩
      | exact ⟨congrArg (fun z => some (Value.int z)) ((if_pos c_7).trans ((if_pos c_24).trans (by rw [N_nI (by omega)]))).symm, b, P2, Y, g, h, rfl, (congrArg (Rel b P2) ((if_pos c_7).trans ((if_pos c_24).trans (by rw [N_nI (by omega)])))).mpr hR2⟩
      | fail)
    · refine g_bipush (pc := 27) F dX4_days_27 (v := (-3 : Int32)) (by decide) ?_
      exact g_iret (pc := 29) F X0 dX4_days_29 (Nat.le_of_ble_eq_true rfl) (Nat.le_of_ble_eq_true rfl) rfl (by first
      | exact ⟨congrArg (fun z => some (Value.int z)) (if_neg (fun z => c_7 z)).symm, b, X, Y, g, h, rfl, (congrArg (Rel b X) (if_neg (fun z => c_7 z))).mpr hR⟩
      | exact ⟨congrArg (fun z => some (Value.int z)) ((if_pos c_7).trans (if_neg c_24)).symm, b, X, Y, g, h, rfl, (congrArg (Rel b X) ((if_pos c_7).trans (if_neg c_24))).mpr hR⟩
      | exact ⟨congrArg (fun z => some (Value.int z)) ((if_pos c_7).trans ((if_pos c_24).trans (by rw [N_nI (by omega)]))).symm, b, P2, Y, g, h, rfl, (congrArg (Rel b P2) ((if_pos c_7).trans ((if_pos c_24).trans (by rw [N_nI (by omega)])))).mpr hR2⟩
      | fail)
  · refine g_iconst (pc := 10) F dX4_days_10 (v := (-1 : Int32)) (by decide) ?_
    exact g_iret (pc := 11) F X0 dX4_days_11 (Nat.le_of_ble_eq_true rfl) (Nat.le_of_ble_eq_true rfl) rfl (by first
      | exact ⟨congrArg (fun z => some (Value.int z)) (if_neg (fun z => c_7 z)).symm, b, X, Y, g, h, rfl, (congrArg (Rel b X) (if_neg (fun z => c_7 z))).mpr hR⟩
      | exact ⟨congrArg (fun z => some (Value.int z)) ((if_pos c_7).trans (if_neg c_24)).symm, b, X, Y, g, h, rfl, (congrArg (Rel b X) ((if_pos c_7).trans (if_neg c_24))).mpr hR⟩
      | exact ⟨congrArg (fun z => some (Value.int z)) ((if_pos c_7).trans ((if_pos c_24).trans (by rw [N_nI (by omega)]))).symm, b, P2, Y, g, h, rfl, (congrArg (Rel b P2) ((if_pos c_7).trans ((if_pos c_24).trans (by rw [N_nI (by omega)])))).mpr hR2⟩
      | fail)

set_option maxRecDepth 100000 in
set_option maxHeartbeats 800000 in
theorem m_days (s m ig ws : Nat → Int32) (hg : Int32) (T : TX) (V : VX) (hI : Iv s) (n : Int32) : Ctr yX5_days cX5_days 2 (some .int) 7 0 0 [.ref 0, .int n] (rW s m ig ws hg T V) (SttR (.int (A_days s n)) (R_days s n) ig hg T) := by
  refine Ctr.of rfl (Nat.le_of_ble_eq_true rfl) ⟨clS_of rfl, clH_of rfl⟩ (fun K F X0 => ?_)
  show Go K 0 0 0 [(0, .ref 0), (1, .int n)] [] (rW s m ig ws hg T V)
  refine g_iload_n (pc := 0) F dX5_days_0 rfl ?_
  refine g_iconst (pc := 1) F dX5_days_1 (v := nI 1) rfl ?_
  refine g_bipush (pc := 2) F dX5_days_2 (v := nI 60) rfl ?_
  refine h_readS (pc := 4) F (c_isIn _ _ _) mi_X5_isIn ks_X5_43 dX5_days_4 [] rfl (by decide) (by decide) rfl rfl (Nat.le_of_ble_eq_true rfl) trivial (by decide) (by decide) ?_
  refine g_ifne_d (pc := 7) F dX5_days_7 (tgt := 12) rfl (fun c_7 => ?_) (fun c_7 => ?_)
  · obtain ⟨j, hj, rfl⟩ := day_ex c_7
    refine g_aload_n (pc := 12) F dX5_days_12 rfl ?_
    refine g_getf (pc := 13) F fl_X5_9 dX5_days_13 rfl rfl ?_
    refine g_iconst (pc := 16) F dX5_days_16 (v := nI 1) rfl ?_
    refine g_iald2 (pc := 17) F dX5_days_17 rfl rfl (by first | omega | (simp only [ix]; omega)) (by decide) ?_
    refine g_iload_n (pc := 18) F dX5_days_18 rfl ?_
    refine g_iadd (pc := 19) F dX5_days_19 ?_
    refine g_sipush (pc := 20) F dX5_days_20 (v := nI 999) rfl ?_
    refine g_ic_le (pc := 23) F dX5_days_23 (tgt := 29) rfl (fun c_23 => ?_) (fun c_23 => ?_)
    · refine g_aload_n (pc := 29) F dX5_days_29 rfl ?_
      refine g_getf (pc := 30) F fl_X5_9 dX5_days_30 rfl rfl ?_
      refine g_iload_n (pc := 33) F dX5_days_33 rfl ?_
      refine h_callS (pc := 34) F (c_daysOn s _ j hI rfl (by omega)) mi_X5_daysOn ks_X5_130 dX5_days_34 [1] rfl (by decide) (by decide) rfl rfl (Nat.le_of_ble_eq_true rfl) (by decide) (by decide) ?_
      rintro _ _ ⟨rfl, rfl⟩ -
      refine g_aload_n (pc := 37) F dX5_days_37 rfl ?_
      refine g_getf (pc := 38) F fl_X5_9 dX5_days_38 rfl rfl ?_
      refine g_iconst (pc := 41) F dX5_days_41 (v := (-1 : Int32)) (by decide) ?_
      refine h_readS (pc := 42) F (c_booksOf (daysR s j) _ (daysR_ok hI j).1) mi_X5_booksOf ks_X5_152 dX5_days_42 [1] rfl (by decide) (by decide) rfl rfl (Nat.le_of_ble_eq_true rfl) trivial (by decide) (by decide) ?_
      exact g_iret (pc := 45) F X0 dX5_days_45 (Nat.le_of_ble_eq_true rfl) (Nat.le_of_ble_eq_true rfl) rfl (by first
      | exact ⟨congrArg (fun z => some (Value.int z)) (if_neg (fun z => c_7 z)).symm, m, ws, V, (congrArg (fun z => rW z m ig ws hg T V) (if_neg (fun z => c_7 z))).symm⟩
      | exact ⟨congrArg (fun z => some (Value.int z)) ((if_pos c_7).trans (if_neg c_23)).symm, m, ws, V, (congrArg (fun z => rW z m ig ws hg T V) ((if_pos c_7).trans (if_neg c_23))).symm⟩
      | exact ⟨congrArg (fun z => some (Value.int z)) ((if_pos c_7).trans ((if_pos c_23).trans (by rw [N_nI (by omega)]))).symm, m, ws, V, (congrArg (fun z => rW z m ig ws hg T V) ((if_pos c_7).trans ((if_pos c_23).trans (by rw [N_nI (by omega)])))).symm⟩
      | fail)
    · refine g_bipush (pc := 26) F dX5_days_26 (v := (-3 : Int32)) (by decide) ?_
      exact g_iret (pc := 28) F X0 dX5_days_28 (Nat.le_of_ble_eq_true rfl) (Nat.le_of_ble_eq_true rfl) rfl (by first
      | exact ⟨congrArg (fun z => some (Value.int z)) (if_neg (fun z => c_7 z)).symm, m, ws, V, (congrArg (fun z => rW z m ig ws hg T V) (if_neg (fun z => c_7 z))).symm⟩
      | exact ⟨congrArg (fun z => some (Value.int z)) ((if_pos c_7).trans (if_neg c_23)).symm, m, ws, V, (congrArg (fun z => rW z m ig ws hg T V) ((if_pos c_7).trans (if_neg c_23))).symm⟩
      | exact ⟨congrArg (fun z => some (Value.int z)) ((if_pos c_7).trans ((if_pos c_23).trans (by rw [N_nI (by omega)]))).symm, m, ws, V, (congrArg (fun z => rW z m ig ws hg T V) ((if_pos c_7).trans ((if_pos c_23).trans (by rw [N_nI (by omega)])))).symm⟩
      | fail)
  · refine g_iconst (pc := 10) F dX5_days_10 (v := (-1 : Int32)) (by decide) ?_
    exact g_iret (pc := 11) F X0 dX5_days_11 (Nat.le_of_ble_eq_true rfl) (Nat.le_of_ble_eq_true rfl) rfl (by first
      | exact ⟨congrArg (fun z => some (Value.int z)) (if_neg (fun z => c_7 z)).symm, m, ws, V, (congrArg (fun z => rW z m ig ws hg T V) (if_neg (fun z => c_7 z))).symm⟩
      | exact ⟨congrArg (fun z => some (Value.int z)) ((if_pos c_7).trans (if_neg c_23)).symm, m, ws, V, (congrArg (fun z => rW z m ig ws hg T V) ((if_pos c_7).trans (if_neg c_23))).symm⟩
      | exact ⟨congrArg (fun z => some (Value.int z)) ((if_pos c_7).trans ((if_pos c_23).trans (by rw [N_nI (by omega)]))).symm, m, ws, V, (congrArg (fun z => rW z m ig ws hg T V) ((if_pos c_7).trans ((if_pos c_23).trans (by rw [N_nI (by omega)])))).symm⟩
      | fail)

/-- the answer; the picture that is taken stands to r -/
def SttI (A : Value) (r : Nat → Int32) (X : DX) (S : Nat → SX) : Option Value → Hp → Prop := fun v hh => v = some A ∧ ∃ b Z Y g h, hh = mW X Y Z (nI 1) S g h ∧ Rel b Z r
set_option maxRecDepth 100000 in
set_option maxHeartbeats 800000 in
theorem c_image (b : Int32) (X Y Z : DX) (im : Int32) (S : Nat → SX) (g h : Nat → Int32) (r : Nat → Int32) (hR : Rel b X r) (hI : Iv r) (h4 : r 4 = nI 0) : Ctr yX4_image cX4_image 1 (some .int) 7 0 0 [.ref 0] (mW X Y Z im S g h) (SttI (.int (r 1)) r X S) := by
  refine Ctr.of rfl (Nat.le_of_ble_eq_true rfl) ⟨clS_of rfl, mW_cl _ _ _ _ _ _ _⟩ (fun K F X0 => ?_)
  show Go K 0 0 0 [(0, .ref 0)] [] (mW X Y Z im S g h)
  refine g_aload_n (pc := 0) F dX4_image_0 rfl ?_
  refine g_getf (pc := 1) F fl_X4_19 dX4_image_1 rfl rfl ?_
  refine g_aload_n (pc := 4) F dX4_image_4 rfl ?_
  refine g_getf (pc := 5) F fl_X4_12 dX4_image_5 rfl rfl ?_
  refine h_callV (pc := 8) F (c_becomes b Z X r hR hI h4) mi_X0_becomes kv_X4_57 rfl rfl dX4_image_8 [17, 18, 19, 20, 21, 22, 23, 24, 1, 2, 3, 4, 5, 6, 7, 8] sub_tn (by decide) (by decide) rfl rfl (Nat.le_of_ble_eq_true rfl) (by decide) (by decide) ?_
  rintro _ _ ⟨rfl, P2, rfl, hR2⟩ -
  rw [place_tn]
  refine g_aload_n (pc := 11) F dX4_image_11 rfl ?_
  refine g_iconst (pc := 12) F dX4_image_12 (v := nI 1) rfl ?_
  refine g_putz (pc := 13) F fl_X4_22 dX4_image_13 rfl (Nat.le_of_ble_eq_true rfl) rfl rfl ?_
  refine g_aload_n (pc := 16) F dX4_image_16 rfl ?_
  refine g_getf (pc := 17) F fl_X4_12 dX4_image_17 rfl rfl ?_
  refine g_getf (pc := 20) F fl_X4_108 dX4_image_20 rfl rfl ?_
  exact g_iret (pc := 23) F X0 dX4_image_23 (Nat.le_of_ble_eq_true rfl) (Nat.le_of_ble_eq_true rfl) rfl ⟨congrArg (fun z => some (Value.int z)) hR.1.2.1, _, P2, Y, g, h, rfl, hR2⟩

set_option maxRecDepth 100000 in
set_option maxHeartbeats 800000 in
theorem m_image (s m ig ws : Nat → Int32) (hg : Int32) (T : TX) (V : VX) (hI : Iv s) : Ctr yX5_image cX5_image 1 (some .int) 7 0 0 [.ref 0] (rW s m ig ws hg T V) (fun v hh => v = some (.int (s 1)) ∧ hh = rW s m s ws (nI 1) T V) := by
  refine Ctr.of rfl (Nat.le_of_ble_eq_true rfl) ⟨clS_of rfl, clH_of rfl⟩ (fun K F X0 => ?_)
  show Go K 0 0 0 [(0, .ref 0)] [] (rW s m ig ws hg T V)
  refine g_aload_n (pc := 0) F dX5_image_0 rfl ?_
  refine g_getf (pc := 1) F fl_X5_9 dX5_image_1 rfl rfl ?_
  refine g_aload_n (pc := 4) F dX5_image_4 rfl ?_
  refine g_getf (pc := 5) F fl_X5_16 dX5_image_5 rfl rfl ?_
  refine h_callS (pc := 8) F (c_copyAll s ig) mi_X5_copies ks_X5_140 dX5_image_8 [1, 3] rfl (by decide) (by decide) rfl rfl (Nat.le_of_ble_eq_true rfl) (by decide) (by decide) ?_
  rintro _ _ ⟨rfl, rfl⟩ -
  refine g_aload_n (pc := 11) F dX5_image_11 rfl ?_
  refine g_iconst (pc := 12) F dX5_image_12 (v := nI 1) rfl ?_
  refine g_putz (pc := 13) F fl_X5_211 dX5_image_13 rfl (Nat.le_of_ble_eq_true rfl) rfl rfl ?_
  refine g_aload_n (pc := 16) F dX5_image_16 rfl ?_
  refine g_getf (pc := 17) F fl_X5_9 dX5_image_17 rfl rfl ?_
  refine g_iconst (pc := 20) F dX5_image_20 (v := nI 1) rfl ?_
  refine g_iald2 (pc := 21) F dX5_image_21 rfl rfl (by first | omega | (simp only [ix]; omega)) (by decide) ?_
  exact g_iret (pc := 22) F X0 dX5_image_22 (Nat.le_of_ble_eq_true rfl) (Nat.le_of_ble_eq_true rfl) rfl ⟨rfl, rfl⟩

def A_restore (im : Int32) (i : Nat → Int32) : Int32 := if im = 0 then (-3) else i 1
def R_restore (im : Int32) (r i : Nat → Int32) : Nat → Int32 := if im = 0 then r else i
set_option maxRecDepth 100000 in
set_option maxHeartbeats 800000 in
theorem c_restore (b : Int32) (X Y Z : DX) (im : Int32) (S : Nat → SX) (g h : Nat → Int32) (r : Nat → Int32) (hR : Rel b X r) (hI : Iv r) (h4 : r 4 = nI 0) (i : Nat → Int32) (hi9 : ¬ im = 0 → (∃ b2, Rel b2 Z i) ∧ Iv i ∧ i 4 = nI 0) : Ctr yX4_restore cX4_restore 1 (some .int) 7 0 0 [.ref 0] (mW X Y Z im S g h) (Stt (.int (A_restore im i)) (R_restore im r i) Z im S) := by
  refine Ctr.of rfl (Nat.le_of_ble_eq_true rfl) ⟨clS_of rfl, mW_cl _ _ _ _ _ _ _⟩ (fun K F X0 => ?_)
  show Go K 0 0 0 [(0, .ref 0)] [] (mW X Y Z im S g h)
  refine g_aload_n (pc := 0) F dX4_restore_0 rfl ?_
  refine g_getf (pc := 1) F fl_X4_22 dX4_restore_1 rfl rfl ?_
  refine g_if_ne (pc := 4) F dX4_restore_4 (tgt := 10) rfl (fun c_4 => ?_) (fun c_4 => ?_)
  · obtain ⟨⟨b2, hZ⟩, hI2, h42⟩ := hi9 c_4
    refine g_aload_n (pc := 10) F dX4_restore_10 rfl ?_
    refine g_getf (pc := 11) F fl_X4_12 dX4_restore_11 rfl rfl ?_
    refine g_aload_n (pc := 14) F dX4_restore_14 rfl ?_
    refine g_getf (pc := 15) F fl_X4_19 dX4_restore_15 rfl rfl ?_
    refine h_callV (pc := 18) F (c_becomes b2 X Z i hZ hI2 h42) mi_X0_becomes kv_X4_57 rfl rfl dX4_restore_18 [1, 2, 3, 4, 5, 6, 7, 8, 17, 18, 19, 20, 21, 22, 23, 24] sub_nt (by decide) (by decide) rfl rfl (Nat.le_of_ble_eq_true rfl) (by decide) (by decide) ?_
    rintro _ _ ⟨rfl, P2, rfl, hR2⟩ -
    rw [place_nt]
    refine g_aload_n (pc := 21) F dX4_restore_21 rfl ?_
    refine g_getf (pc := 22) F fl_X4_12 dX4_restore_22 rfl rfl ?_
    refine g_getf (pc := 25) F fl_X4_108 dX4_restore_25 rfl rfl ?_
    exact g_iret (pc := 28) F X0 dX4_restore_28 (Nat.le_of_ble_eq_true rfl) (Nat.le_of_ble_eq_true rfl) rfl (by first
      | exact ⟨congrArg (fun z => some (Value.int z)) (if_pos c_4).symm, b, X, Y, g, h, rfl, (congrArg (Rel b X) (if_pos c_4)).mpr hR⟩
      | exact ⟨congrArg (fun z => some (Value.int z)) ((if_neg c_4).trans hR2.1.2.1.symm).symm, _, P2, Y, g, h, rfl, (congrArg (Rel _ P2) (if_neg c_4)).mpr hR2⟩
      | fail)
  · refine g_bipush (pc := 7) F dX4_restore_7 (v := (-3 : Int32)) (by decide) ?_
    exact g_iret (pc := 9) F X0 dX4_restore_9 (Nat.le_of_ble_eq_true rfl) (Nat.le_of_ble_eq_true rfl) rfl (by first
      | exact ⟨congrArg (fun z => some (Value.int z)) (if_pos c_4).symm, b, X, Y, g, h, rfl, (congrArg (Rel b X) (if_pos c_4)).mpr hR⟩
      | exact ⟨congrArg (fun z => some (Value.int z)) ((if_neg c_4).trans hR2.1.2.1.symm).symm, _, P2, Y, g, h, rfl, (congrArg (Rel _ P2) (if_neg c_4)).mpr hR2⟩
      | fail)

set_option maxRecDepth 100000 in
set_option maxHeartbeats 800000 in
theorem m_restore (s m ig ws : Nat → Int32) (hg : Int32) (T : TX) (V : VX) (hI : Iv s) : Ctr yX5_restore cX5_restore 1 (some .int) 7 0 0 [.ref 0] (rW s m ig ws hg T V) (SttR (.int (A_restore hg ig)) (R_restore hg s ig) ig hg T) := by
  refine Ctr.of rfl (Nat.le_of_ble_eq_true rfl) ⟨clS_of rfl, clH_of rfl⟩ (fun K F X0 => ?_)
  show Go K 0 0 0 [(0, .ref 0)] [] (rW s m ig ws hg T V)
  refine g_aload_n (pc := 0) F dX5_restore_0 rfl ?_
  refine g_getf (pc := 1) F fl_X5_211 dX5_restore_1 rfl rfl ?_
  refine g_if_ne (pc := 4) F dX5_restore_4 (tgt := 10) rfl (fun c_4 => ?_) (fun c_4 => ?_)
  · refine g_aload_n (pc := 10) F dX5_restore_10 rfl ?_
    refine g_getf (pc := 11) F fl_X5_16 dX5_restore_11 rfl rfl ?_
    refine g_aload_n (pc := 14) F dX5_restore_14 rfl ?_
    refine g_getf (pc := 15) F fl_X5_9 dX5_restore_15 rfl rfl ?_
    refine h_callS (pc := 18) F (c_copyAll ig s) mi_X5_copies ks_X5_140 dX5_restore_18 [3, 1] rfl (by decide) (by decide) rfl rfl (Nat.le_of_ble_eq_true rfl) (by decide) (by decide) ?_
    rintro _ _ ⟨rfl, rfl⟩ -
    refine g_aload_n (pc := 21) F dX5_restore_21 rfl ?_
    refine g_getf (pc := 22) F fl_X5_9 dX5_restore_22 rfl rfl ?_
    refine g_iconst (pc := 25) F dX5_restore_25 (v := nI 1) rfl ?_
    refine g_iald2 (pc := 26) F dX5_restore_26 rfl rfl (by first | omega | (simp only [ix]; omega)) (by decide) ?_
    exact g_iret (pc := 27) F X0 dX5_restore_27 (Nat.le_of_ble_eq_true rfl) (Nat.le_of_ble_eq_true rfl) rfl (by first
      | exact ⟨congrArg (fun z => some (Value.int z)) (if_pos c_4).symm, m, ws, V, (congrArg (fun z => rW z m ig ws hg T V) (if_pos c_4)).symm⟩
      | exact ⟨congrArg (fun z => some (Value.int z)) (if_neg c_4).symm, m, ws, V, (congrArg (fun z => rW z m ig ws hg T V) (if_neg c_4)).symm⟩
      | fail)
  · refine g_bipush (pc := 7) F dX5_restore_7 (v := (-3 : Int32)) (by decide) ?_
    exact g_iret (pc := 9) F X0 dX5_restore_9 (Nat.le_of_ble_eq_true rfl) (Nat.le_of_ble_eq_true rfl) rfl (by first
      | exact ⟨congrArg (fun z => some (Value.int z)) (if_pos c_4).symm, m, ws, V, (congrArg (fun z => rW z m ig ws hg T V) (if_pos c_4)).symm⟩
      | exact ⟨congrArg (fun z => some (Value.int z)) (if_neg c_4).symm, m, ws, V, (congrArg (fun z => rW z m ig ws hg T V) (if_neg c_4)).symm⟩
      | fail)

