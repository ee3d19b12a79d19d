/-! comes, even -/
def A_comes (r : Nat → Int32) (T : TX) (d e wy : Int32) : Int32 := if dipP e ∧ b01 wy then (if wrongK T d = 0 then (if many r < 6 then r 0 else (-2)) else wrongK T d) else (-1)
def R_comes (r : Nat → Int32) (T : TX) (d e wy : Int32) : Nat → Int32 := if dipP e ∧ b01 wy then (if wrongK T d = 0 then (if many r < 6 then addR r (tK T (N d)) (tF T (N d)) e wy else r) else r) else r
theorem comes_n {r : Nat → Int32} {T : TX} {d e wy : Int32} (h : ¬ (dipP e ∧ b01 wy)) : A_comes r T d e wy = (-1) ∧ R_comes r T d e wy = r := ⟨if_neg h, if_neg h⟩
theorem comes_w {r : Nat → Int32} {T : TX} {d e wy : Int32} (h : dipP e ∧ b01 wy) (h2 : ¬ wrongK T d = 0) : A_comes r T d e wy = wrongK T d ∧ R_comes r T d e wy = r := ⟨(if_pos h).trans (if_neg h2), (if_pos h).trans (if_neg h2)⟩
theorem comes_f {r : Nat → Int32} {T : TX} {d e wy : Int32} (h : dipP e ∧ b01 wy) (h2 : wrongK T d = 0) (h3 : ¬ many r < 6) : A_comes r T d e wy = (-2) ∧ R_comes r T d e wy = r := ⟨(if_pos h).trans ((if_pos h2).trans (if_neg h3)), (if_pos h).trans ((if_pos h2).trans (if_neg h3))⟩
theorem comes_y {r : Nat → Int32} {T : TX} {j : Nat} {e wy : Int32} (h : dipP e ∧ b01 wy) (h2 : wrongK T (nI j) = 0) (h3 : many r < 6) (hj : j < 8) : A_comes r T (nI j) e wy = r 0 ∧ R_comes r T (nI j) e wy = addR r (tK T j) (tF T j) e wy := by
  refine ⟨(if_pos h).trans ((if_pos h2).trans (if_pos h3)), (if_pos h).trans ((if_pos h2).trans ((if_pos h3).trans ?_))⟩
  rw [N_nI (by omega)]
theorem addR_m1 (r : Nat → Int32) (k f d y : Int32) : addR r k f d y 0 - nI 1 = r 0 := by
  have e : addR r k f d y 0 = r 0 + nI 1 := upd_at _ _ _
  rw [e, Int32.add_sub_cancel]
theorem six_ne {r : Nat → Int32} (hI : Iv r) (h : ¬ r 0 = nI 6) : many r < 6 := by
  have h6 := hI.1.2
  have : ¬ many r = 6 := fun z => h (by rw [hI.1.1, z])
  omega
theorem six_eq {r : Nat → Int32} (hI : Iv r) (h : r 0 = nI 6) : ¬ many r < 6 := by
  have h6 := hI.1.2
  have := (nI_eq (by omega) (by decide)).mp (hI.1.1.symm.trans h)
  omega
set_option maxRecDepth 100000 in
set_option maxHeartbeats 800000 in
theorem c_comes_no (b : Int32) (X Y Z : DX) (im : Int32) (S : Nat → SX) (g h : Nat → Int32) (r : Nat → Int32) (hR : Rel b X r) (hI : Iv r) (h4 : r 4 = nI 0) (T : TX) (hS : RS S T) (dd wy : Int32) (d : Int32) (hd : ¬ shP d) : Ctr yX4_comes cX4_comes 6 (some .int) 7 0 0 [.ref 0, .int d, .int dd, .int wy] (mW X Y Z im S g h) (Stt (.int (A_comes r T d dd wy)) (R_comes r T d dd wy) Z im S) := by
  refine Ctr.of rfl (Nat.le_of_ble_eq_true rfl) ⟨clS_of rfl, mW_cl _ _ _ _ _ _ _⟩ (fun K F X0 => ?_)
  show Go K 0 0 0 [(0, .ref 0), (1, .int d), (2, .int dd), (3, .int wy)] [] (mW X Y Z im S g h)
  refine g_iload_n (pc := 0) F dX4_comes_0 rfl ?_
  refine h_readS (pc := 1) F (c_isDip _) mi_X4_isDip ks_X4_117 dX4_comes_1 [] rfl (by decide) (by decide) rfl rfl (Nat.le_of_ble_eq_true rfl) trivial (by decide) (by decide) ?_
  refine g_ifeq_d (pc := 4) F dX4_comes_4 (tgt := 16) rfl (fun c_4 => ?_) (fun c_4 => ?_)
  · refine g_iconst (pc := 16) F dX4_comes_16 (v := (-1 : Int32)) (by decide) ?_
    exact g_iret (pc := 17) F X0 dX4_comes_17 (Nat.le_of_ble_eq_true rfl) (Nat.le_of_ble_eq_true rfl) rfl (by first
      | exact ⟨congrArg (fun z => some (Value.int z)) (comes_n (fun z => c_4 z.1)).1.symm, b, X, Y, g, h, rfl, (congrArg (Rel b X) (comes_n (fun z => c_4 z.1)).2).mpr hR⟩
      | exact ⟨congrArg (fun z => some (Value.int z)) (comes_n (fun z => c_13 z.2)).1.symm, b, X, Y, g, h, rfl, (congrArg (Rel b X) (comes_n (fun z => c_13 z.2)).2).mpr hR⟩
      | fail)
  · refine g_iload_n (pc := 7) F dX4_comes_7 rfl ?_
    refine g_iconst (pc := 8) F dX4_comes_8 (v := nI 0) rfl ?_
    refine g_iconst (pc := 9) F dX4_comes_9 (v := nI 1) rfl ?_
    refine h_readS (pc := 10) F (c_isWithin _ _ _) mi_X4_isWithin ks_X4_129 dX4_comes_10 [] rfl (by decide) (by decide) rfl rfl (Nat.le_of_ble_eq_true rfl) trivial (by decide) (by decide) ?_
    refine g_ifne_d (pc := 13) F dX4_comes_13 (tgt := 18) rfl (fun c_13 => ?_) (fun c_13 => ?_)
    · refine g_aload_n (pc := 18) F dX4_comes_18 rfl ?_
      refine g_iload_n (pc := 19) F dX4_comes_19 rfl ?_
      refine i_readV (pc := 20) F (c_shelfNone X Y Z im S g h _ hd) mi_X4_shelfOrNull kv_X4_40 rfl rfl dX4_comes_20 (by decide) (by decide) rfl (Nat.le_of_ble_eq_true rfl) (by decide) (by decide) ?_
      refine g_astoreN (pc := 23) F dX4_comes_23 (by decide) ?_
      refine g_aloadN (pc := 25) F dX4_comes_25 rfl ?_
      refine g_iconst (pc := 27) F dX4_comes_27 (v := nI 1) rfl ?_
      refine h_readS (pc := 28) F (c_refusalN _) mi_X4_refusalUnless ks_X4_133 dX4_comes_28 [] rfl (by decide) (by decide) rfl rfl (Nat.le_of_ble_eq_true rfl) trivial (by decide) (by decide) ?_
      refine g_istore (pc := 31) F dX4_comes_31 (by decide) ?_
      refine g_aloadN (pc := 33) F dX4_comes_33 rfl ?_
      refine g_ifnullN (pc := 35) F dX4_comes_35 (tgt := 43) rfl ?_
      refine g_iload (pc := 43) F dX4_comes_43 rfl ?_
      exact g_iret (pc := 45) F X0 dX4_comes_45 (Nat.le_of_ble_eq_true rfl) (Nat.le_of_ble_eq_true rfl) rfl ⟨congrArg (fun z => some (Value.int z)) ((comes_w ⟨c_4, c_13⟩ (fun z => absurd ((wrongK_no hd).symm.trans z) (by decide))).1.trans (wrongK_no hd)).symm, b, X, Y, g, h, rfl, (congrArg (Rel b X) (comes_w ⟨c_4, c_13⟩ (fun z => absurd ((wrongK_no hd).symm.trans z) (by decide))).2).mpr hR⟩
    · refine g_iconst (pc := 16) F dX4_comes_16 (v := (-1 : Int32)) (by decide) ?_
      exact g_iret (pc := 17) F X0 dX4_comes_17 (Nat.le_of_ble_eq_true rfl) (Nat.le_of_ble_eq_true rfl) rfl (by first
      | exact ⟨congrArg (fun z => some (Value.int z)) (comes_n (fun z => c_4 z.1)).1.symm, b, X, Y, g, h, rfl, (congrArg (Rel b X) (comes_n (fun z => c_4 z.1)).2).mpr hR⟩
      | exact ⟨congrArg (fun z => some (Value.int z)) (comes_n (fun z => c_13 z.2)).1.symm, b, X, Y, g, h, rfl, (congrArg (Rel b X) (comes_n (fun z => c_13 z.2)).2).mpr hR⟩
      | fail)

set_option maxRecDepth 100000 in
set_option maxHeartbeats 800000 in
theorem c_comes_in (b : Int32) (X Y Z : DX) (im : Int32) (S : Nat → SX) (g h : Nat → Int32) (r : Nat → Int32) (hR : Rel b X r) (hI : Iv r) (h4 : r 4 = nI 0) (T : TX) (hS : RS S T) (dd wy : Int32) (d : Int32) (j : Nat) (hd : d = nI j) (hj : j < 8) : Ctr yX4_comes cX4_comes 6 (some .int) 7 0 0 [.ref 0, .int d, .int dd, .int wy] (mW X Y Z im S g h) (Stt (.int (A_comes r T d dd wy)) (R_comes r T d dd wy) Z im S) := by
  subst hd
  have hw := wrongK_in hS hj
  refine Ctr.of rfl (Nat.le_of_ble_eq_true rfl) ⟨clS_of rfl, mW_cl _ _ _ _ _ _ _⟩ (fun K F X0 => ?_)
  show Go K 0 0 0 [(0, .ref 0), (1, .int (nI j)), (2, .int dd), (3, .int wy)] [] (mW X Y Z im S g h)
  refine g_iload_n (pc := 0) F dX4_comes_0 rfl ?_
  refine h_readS (pc := 1) F (c_isDip _) mi_X4_isDip ks_X4_117 dX4_comes_1 [] rfl (by decide) (by decide) rfl rfl (Nat.le_of_ble_eq_true rfl) trivial (by decide) (by decide) ?_
  refine g_ifeq_d (pc := 4) F dX4_comes_4 (tgt := 16) rfl (fun c_4 => ?_) (fun c_4 => ?_)
  · refine g_iconst (pc := 16) F dX4_comes_16 (v := (-1 : Int32)) (by decide) ?_
    exact g_iret (pc := 17) F X0 dX4_comes_17 (Nat.le_of_ble_eq_true rfl) (Nat.le_of_ble_eq_true rfl) rfl (by first
      | exact ⟨congrArg (fun z => some (Value.int z)) (comes_n (fun z => c_4 z.1)).1.symm, b, X, Y, g, h, rfl, (congrArg (Rel b X) (comes_n (fun z => c_4 z.1)).2).mpr hR⟩
      | exact ⟨congrArg (fun z => some (Value.int z)) (comes_n (fun z => c_13 z.2)).1.symm, b, X, Y, g, h, rfl, (congrArg (Rel b X) (comes_n (fun z => c_13 z.2)).2).mpr hR⟩
      | fail)
  · refine g_iload_n (pc := 7) F dX4_comes_7 rfl ?_
    refine g_iconst (pc := 8) F dX4_comes_8 (v := nI 0) rfl ?_
    refine g_iconst (pc := 9) F dX4_comes_9 (v := nI 1) rfl ?_
    refine h_readS (pc := 10) F (c_isWithin _ _ _) mi_X4_isWithin ks_X4_129 dX4_comes_10 [] rfl (by decide) (by decide) rfl rfl (Nat.le_of_ble_eq_true rfl) trivial (by decide) (by decide) ?_
    refine g_ifne_d (pc := 13) F dX4_comes_13 (tgt := 18) rfl (fun c_13 => ?_) (fun c_13 => ?_)
    · refine g_aload_n (pc := 18) F dX4_comes_18 rfl ?_
      refine g_iload_n (pc := 19) F dX4_comes_19 rfl ?_
      refine i_readV (pc := 20) F (c_shelfSome X Y Z im S g h _ j rfl hj) mi_X4_shelfOrNull kv_X4_40 rfl rfl dX4_comes_20 (by decide) (by decide) rfl (Nat.le_of_ble_eq_true rfl) (by decide) (by decide) ?_
      refine g_astore (pc := 23) F dX4_comes_23 (by decide) ?_
      refine g_aload (pc := 25) F dX4_comes_25 rfl ?_
      refine g_iconst (pc := 27) F dX4_comes_27 (v := nI 1) rfl ?_
      refine h_readS (pc := 28) F (c_refusal (S j) _) mi_X4_refusalUnless ks_X4_133 dX4_comes_28 [28 + 2 * j, 28 + 2 * j + 1] (mW_sub hj) (by decide) (by decide) (mW_nd hj) rfl (Nat.le_of_ble_eq_true rfl) trivial (by decide) (by decide) ?_
      refine g_istore (pc := 31) F dX4_comes_31 (by decide) ?_
      refine g_aload (pc := 33) F dX4_comes_33 rfl ?_
      refine g_ifnull (pc := 35) F dX4_comes_35 ?_
      refine g_iload (pc := 38) F dX4_comes_38 rfl ?_
      refine g_if_eq (pc := 40) F dX4_comes_40 (tgt := 46) rfl (fun c_40 => ?_) (fun c_40 => ?_)
      · obtain ⟨⟨eK, eF⟩, -, -⟩ := (hS j hj).2.1 ((hS j hj).1.1.symm.trans (refU_0 c_40))
        refine g_aload_n (pc := 46) F dX4_comes_46 rfl ?_
        refine g_getf (pc := 47) F fl_X4_12 dX4_comes_47 rfl rfl ?_
        refine h_readV (pc := 50) F (c_hasRoom b X r hR hI) mi_X0_hasRoom kv_X4_136 rfl rfl dX4_comes_50 [1, 2, 3, 4, 5, 6, 7, 8] sub_now (by decide) (by decide) rfl rfl (Nat.le_of_ble_eq_true rfl) trivial (by decide) (by decide) ?_
        refine g_ifne_d (pc := 53) F dX4_comes_53 (tgt := 59) rfl (fun c_53 => ?_) (fun c_53 => ?_)
        · refine g_aload_n (pc := 59) F dX4_comes_59 rfl ?_
          refine g_getf (pc := 60) F fl_X4_12 dX4_comes_60 rfl rfl ?_
          refine g_aload (pc := 63) F dX4_comes_63 rfl ?_
          refine g_getf (pc := 65) F fl_X4_140 dX4_comes_65 (mW_sh hj) rfl ?_
          refine g_aload (pc := 68) F dX4_comes_68 rfl ?_
          refine g_getf (pc := 70) F fl_X4_142 dX4_comes_70 (mW_sh hj) rfl ?_
          rw [eK, eF]
          refine g_iload_n (pc := 73) F dX4_comes_73 rfl ?_
          refine g_iload_n (pc := 74) F dX4_comes_74 rfl ?_
          refine h_callV (pc := 75) F (c_takesIn b X r _ _ _ _ hR hI c_53) mi_X0_takesIn kv_X4_144 rfl rfl dX4_comes_75 [1, 2, 3, 4, 5, 6, 7, 8] sub_now (by decide) (by decide) rfl rfl (Nat.le_of_ble_eq_true rfl) (by decide) (by decide) ?_
          rintro _ _ ⟨rfl, P2, rfl, hR2⟩ -
          rw [place_now]
          refine g_aload_n (pc := 78) F dX4_comes_78 rfl ?_
          refine g_getf (pc := 79) F fl_X4_12 dX4_comes_79 rfl rfl ?_
          refine g_getf (pc := 82) F fl_X4_148 dX4_comes_82 rfl rfl ?_
          refine g_iconst (pc := 85) F dX4_comes_85 (v := nI 1) rfl ?_
          refine g_isub (pc := 86) F dX4_comes_86 ?_
          exact g_iret (pc := 87) F X0 dX4_comes_87 (Nat.le_of_ble_eq_true rfl) (Nat.le_of_ble_eq_true rfl) rfl ⟨congrArg (fun z => some (Value.int z)) ((comes_y ⟨c_4, c_13⟩ (hw.trans c_40) c_53 hj).1.trans ((congrArg (fun z => z - nI 1) hR2.1.1).trans (addR_m1 _ _ _ _ _)).symm).symm, b, P2, Y, g, h, rfl, (congrArg (Rel b P2) (comes_y ⟨c_4, c_13⟩ (hw.trans c_40) c_53 hj).2).mpr hR2⟩
        · refine g_bipush (pc := 56) F dX4_comes_56 (v := (-2 : Int32)) (by decide) ?_
          exact g_iret (pc := 58) F X0 dX4_comes_58 (Nat.le_of_ble_eq_true rfl) (Nat.le_of_ble_eq_true rfl) rfl ⟨congrArg (fun z => some (Value.int z)) (comes_f ⟨c_4, c_13⟩ (hw.trans c_40) c_53).1.symm, b, X, Y, g, h, rfl, (congrArg (Rel b X) (comes_f ⟨c_4, c_13⟩ (hw.trans c_40) c_53).2).mpr hR⟩
      · refine g_iload (pc := 43) F dX4_comes_43 rfl ?_
        exact g_iret (pc := 45) F X0 dX4_comes_45 (Nat.le_of_ble_eq_true rfl) (Nat.le_of_ble_eq_true rfl) rfl ⟨congrArg (fun z => some (Value.int z)) ((comes_w ⟨c_4, c_13⟩ (fun z => c_40 (hw.symm.trans z))).1.trans hw).symm, b, X, Y, g, h, rfl, (congrArg (Rel b X) (comes_w ⟨c_4, c_13⟩ (fun z => c_40 (hw.symm.trans z))).2).mpr hR⟩
    · refine g_iconst (pc := 16) F dX4_comes_16 (v := (-1 : Int32)) (by decide) ?_
      exact g_iret (pc := 17) F X0 dX4_comes_17 (Nat.le_of_ble_eq_true rfl) (Nat.le_of_ble_eq_true rfl) rfl (by first
      | exact ⟨congrArg (fun z => some (Value.int z)) (comes_n (fun z => c_4 z.1)).1.symm, b, X, Y, g, h, rfl, (congrArg (Rel b X) (comes_n (fun z => c_4 z.1)).2).mpr hR⟩
      | exact ⟨congrArg (fun z => some (Value.int z)) (comes_n (fun z => c_13 z.2)).1.symm, b, X, Y, g, h, rfl, (congrArg (Rel b X) (comes_n (fun z => c_13 z.2)).2).mpr hR⟩
      | fail)

theorem c_comes (b : Int32) (X Y Z : DX) (im : Int32) (S : Nat → SX) (g h : Nat → Int32) (r : Nat → Int32) (hR : Rel b X r) (hI : Iv r) (h4 : r 4 = nI 0) (T : TX) (hS : RS S T) (dd wy : Int32) (d : Int32) : Ctr yX4_comes cX4_comes 6 (some .int) 7 0 0 [.ref 0, .int d, .int dd, .int wy] (mW X Y Z im S g h) (Stt (.int (A_comes r T d dd wy)) (R_comes r T d dd wy) Z im S) := by
  by_cases hd : shP d
  · obtain ⟨j, hj, e⟩ := sh_ex hd
    exact c_comes_in b X Y Z im S g h r hR hI h4 T hS dd wy d j e hj
  · exact c_comes_no b X Y Z im S g h r hR hI h4 T hS dd wy d hd

set_option maxRecDepth 100000 in
set_option maxHeartbeats 800000 in
theorem m_adds (s m ig ws : Nat → Int32) (hg : Int32) (T : TX) (V : VX) (hI : Iv s) (h6 : many s < 6) (k f d y : Int32) : Ctr yX5_adds cX5_adds 6 none 3 0 0 [.ref 0, .int k, .int f, .int d, .int y] (rW s m ig ws hg T V) (fun v hh => v = none ∧ hh = rW (addR s k f d y) m ig ws hg T V) := by
  have h0 : (upd (upd (upd (upd (upd (upd s (ix (many s) 0) k) (ix (many s) 1) f) (ix (many s) 2) d) (ix (many s) 3) y) (ix (many s) 4) (nI 0)) (ix (many s) 5) (nI 0)) 0 = s 0 := by
    simp only [ix]
    rw [upd_ne _ (by omega), upd_ne _ (by omega), upd_ne _ (by omega), upd_ne _ (by omega), upd_ne _ (by omega), upd_ne _ (by omega)]
  refine Ctr.of rfl (Nat.le_of_ble_eq_true rfl) ⟨clS_of rfl, clH_of rfl⟩ (fun K F X0 => ?_)
  show Go K 0 0 0 [(0, .ref 0), (1, .int k), (2, .int f), (3, .int d), (4, .int y)] [] (rW s m ig ws hg T V)
  refine g_aload_n (pc := 0) F dX5_adds_0 rfl ?_
  refine g_getf (pc := 1) F fl_X5_9 dX5_adds_1 rfl rfl ?_
  refine g_iconst (pc := 4) F dX5_adds_4 (v := nI 0) rfl ?_
  refine g_iald2 (pc := 5) F dX5_adds_5 rfl rfl (by first | omega | (simp only [ix]; omega)) (by decide) ?_
  rw [hI.1.1]
  refine g_istore (pc := 6) F dX5_adds_6 (by decide) ?_
  refine g_aload_n (pc := 8) F dX5_adds_8 rfl ?_
  refine g_getf (pc := 9) F fl_X5_9 dX5_adds_9 rfl rfl ?_
  refine g_iload (pc := 12) F dX5_adds_12 rfl ?_
  refine g_iconst (pc := 14) F dX5_adds_14 (v := nI 0) rfl ?_
  refine h_readS (pc := 15) F (c_of (many s) 0) mi_X5_of ks_X5_47 dX5_adds_15 [] rfl (by decide) (by decide) rfl rfl (Nat.le_of_ble_eq_true rfl) trivial (by decide) (by decide) ?_
  refine g_iload_n (pc := 18) F dX5_adds_18 rfl ?_
  refine g_iast2 (pc := 19) F dX5_adds_19 rfl rfl (by first | omega | (simp only [ix]; omega)) (by decide) ?_
  refine g_aload_n (pc := 20) F dX5_adds_20 rfl ?_
  refine g_getf (pc := 21) F fl_X5_9 dX5_adds_21 rfl rfl ?_
  refine g_iload (pc := 24) F dX5_adds_24 rfl ?_
  refine g_iconst (pc := 26) F dX5_adds_26 (v := nI 1) rfl ?_
  refine h_readS (pc := 27) F (c_of (many s) 1) mi_X5_of ks_X5_47 dX5_adds_27 [] rfl (by decide) (by decide) rfl rfl (Nat.le_of_ble_eq_true rfl) trivial (by decide) (by decide) ?_
  refine g_iload_n (pc := 30) F dX5_adds_30 rfl ?_
  refine g_iast2 (pc := 31) F dX5_adds_31 rfl rfl (by first | omega | (simp only [ix]; omega)) (by decide) ?_
  refine g_aload_n (pc := 32) F dX5_adds_32 rfl ?_
  refine g_getf (pc := 33) F fl_X5_9 dX5_adds_33 rfl rfl ?_
  refine g_iload (pc := 36) F dX5_adds_36 rfl ?_
  refine g_iconst (pc := 38) F dX5_adds_38 (v := nI 2) rfl ?_
  refine h_readS (pc := 39) F (c_of (many s) 2) mi_X5_of ks_X5_47 dX5_adds_39 [] rfl (by decide) (by decide) rfl rfl (Nat.le_of_ble_eq_true rfl) trivial (by decide) (by decide) ?_
  refine g_iload_n (pc := 42) F dX5_adds_42 rfl ?_
  refine g_iast2 (pc := 43) F dX5_adds_43 rfl rfl (by first | omega | (simp only [ix]; omega)) (by decide) ?_
  refine g_aload_n (pc := 44) F dX5_adds_44 rfl ?_
  refine g_getf (pc := 45) F fl_X5_9 dX5_adds_45 rfl rfl ?_
  refine g_iload (pc := 48) F dX5_adds_48 rfl ?_
  refine g_iconst (pc := 50) F dX5_adds_50 (v := nI 3) rfl ?_
  refine h_readS (pc := 51) F (c_of (many s) 3) mi_X5_of ks_X5_47 dX5_adds_51 [] rfl (by decide) (by decide) rfl rfl (Nat.le_of_ble_eq_true rfl) trivial (by decide) (by decide) ?_
  refine g_iload (pc := 54) F dX5_adds_54 rfl ?_
  refine g_iast2 (pc := 56) F dX5_adds_56 rfl rfl (by first | omega | (simp only [ix]; omega)) (by decide) ?_
  refine g_aload_n (pc := 57) F dX5_adds_57 rfl ?_
  refine g_getf (pc := 58) F fl_X5_9 dX5_adds_58 rfl rfl ?_
  refine g_iload (pc := 61) F dX5_adds_61 rfl ?_
  refine g_iconst (pc := 63) F dX5_adds_63 (v := nI 4) rfl ?_
  refine h_readS (pc := 64) F (c_of (many s) 4) mi_X5_of ks_X5_47 dX5_adds_64 [] rfl (by decide) (by decide) rfl rfl (Nat.le_of_ble_eq_true rfl) trivial (by decide) (by decide) ?_
  refine g_iconst (pc := 67) F dX5_adds_67 (v := nI 0) rfl ?_
  refine g_iast2 (pc := 68) F dX5_adds_68 rfl rfl (by first | omega | (simp only [ix]; omega)) (by decide) ?_
  refine g_aload_n (pc := 69) F dX5_adds_69 rfl ?_
  refine g_getf (pc := 70) F fl_X5_9 dX5_adds_70 rfl rfl ?_
  refine g_iload (pc := 73) F dX5_adds_73 rfl ?_
  refine g_iconst (pc := 75) F dX5_adds_75 (v := nI 5) rfl ?_
  refine h_readS (pc := 76) F (c_of (many s) 5) mi_X5_of ks_X5_47 dX5_adds_76 [] rfl (by decide) (by decide) rfl rfl (Nat.le_of_ble_eq_true rfl) trivial (by decide) (by decide) ?_
  refine g_iconst (pc := 79) F dX5_adds_79 (v := nI 0) rfl ?_
  refine g_iast2 (pc := 80) F dX5_adds_80 rfl rfl (by first | omega | (simp only [ix]; omega)) (by decide) ?_
  refine g_aload_n (pc := 81) F dX5_adds_81 rfl ?_
  refine g_getf (pc := 82) F fl_X5_9 dX5_adds_82 rfl rfl ?_
  refine g_iconst (pc := 85) F dX5_adds_85 (v := nI 0) rfl ?_
  refine g_dup2 (pc := 86) F dX5_adds_86 rfl rfl ?_
  refine g_iald2 (pc := 87) F dX5_adds_87 rfl rfl (by first | omega | (simp only [ix]; omega)) (by decide) ?_
  refine g_iconst (pc := 88) F dX5_adds_88 (v := nI 1) rfl ?_
  refine g_iadd (pc := 89) F dX5_adds_89 ?_
  refine g_iast2 (pc := 90) F dX5_adds_90 rfl rfl (by first | omega | (simp only [ix]; omega)) (by decide) ?_
  exact g_vret (pc := 91) F X0 dX5_adds_91 (Nat.le_of_ble_eq_true rfl) (Nat.le_of_ble_eq_true rfl) rfl ⟨rfl, congrArg (fun z => rW (upd (upd (upd (upd (upd (upd (upd s (ix (many s) 0) k) (ix (many s) 1) f) (ix (many s) 2) d) (ix (many s) 3) y) (ix (many s) 4) (nI 0)) (ix (many s) 5) (nI 0)) 0 (z + nI 1)) m ig ws hg T V) h0⟩

set_option maxRecDepth 100000 in
set_option maxHeartbeats 800000 in
theorem m_comes (s m ig ws : Nat → Int32) (hg : Int32) (T : TX) (V : VX) (hI : Iv s) (d dd wy : Int32) : Ctr yX5_comes cX5_comes 5 (some .int) 7 0 0 [.ref 0, .int d, .int dd, .int wy] (rW s m ig ws hg T V) (SttR (.int (A_comes s T d dd wy)) (R_comes s T d dd wy) ig hg T) := by
  refine Ctr.of rfl (Nat.le_of_ble_eq_true rfl) ⟨clS_of rfl, clH_of rfl⟩ (fun K F X0 => ?_)
  show Go K 0 0 0 [(0, .ref 0), (1, .int d), (2, .int dd), (3, .int wy)] [] (rW s m ig ws hg T V)
  refine g_iload_n (pc := 0) F dX5_comes_0 rfl ?_
  refine h_readS (pc := 1) F (c_mDip _) mi_X5_isDip ks_X5_61 dX5_comes_1 [] rfl (by decide) (by decide) rfl rfl (Nat.le_of_ble_eq_true rfl) trivial (by decide) (by decide) ?_
  refine g_ifeq_d (pc := 4) F dX5_comes_4 (tgt := 16) rfl (fun c_4 => ?_) (fun c_4 => ?_)
  · refine g_iconst (pc := 16) F dX5_comes_16 (v := (-1 : Int32)) (by decide) ?_
    exact g_iret (pc := 17) F X0 dX5_comes_17 (Nat.le_of_ble_eq_true rfl) (Nat.le_of_ble_eq_true rfl) rfl (by first
      | exact ⟨congrArg (fun z => some (Value.int z)) (comes_n (fun z => c_4 z.1)).1.symm, m, ws, V, (congrArg (fun z => rW z m ig ws hg T V) (comes_n (fun z => c_4 z.1)).2).symm⟩
      | exact ⟨congrArg (fun z => some (Value.int z)) (comes_n (fun z => c_13 z.2)).1.symm, m, ws, V, (congrArg (fun z => rW z m ig ws hg T V) (comes_n (fun z => c_13 z.2)).2).symm⟩
      | fail)
  · refine g_iload_n (pc := 7) F dX5_comes_7 rfl ?_
    refine g_iconst (pc := 8) F dX5_comes_8 (v := nI 0) rfl ?_
    refine g_iconst (pc := 9) F dX5_comes_9 (v := nI 1) rfl ?_
    refine h_readS (pc := 10) F (c_isIn _ _ _) mi_X5_isIn ks_X5_43 dX5_comes_10 [] rfl (by decide) (by decide) rfl rfl (Nat.le_of_ble_eq_true rfl) trivial (by decide) (by decide) ?_
    refine g_ifne_d (pc := 13) F dX5_comes_13 (tgt := 18) rfl (fun c_13 => ?_) (fun c_13 => ?_)
    · refine g_aload_n (pc := 18) F dX5_comes_18 rfl ?_
      refine g_iload_n (pc := 19) F dX5_comes_19 rfl ?_
      refine i_readV (pc := 20) F (m_wrongKept s m ig ws hg T V _) mi_X5_wrongKept kv_X5_147 rfl rfl dX5_comes_20 (by decide) (by decide) rfl (Nat.le_of_ble_eq_true rfl) (by decide) (by decide) ?_
      refine g_istore (pc := 23) F dX5_comes_23 (by decide) ?_
      refine g_iload (pc := 25) F dX5_comes_25 rfl ?_
      refine g_if_eq (pc := 27) F dX5_comes_27 (tgt := 33) rfl (fun c_27 => ?_) (fun c_27 => ?_)
      · have hsh := wrongK_0 c_27
        obtain ⟨j, hj, rfl⟩ := sh_ex hsh
        refine g_aload_n (pc := 33) F dX5_comes_33 rfl ?_
        refine g_getf (pc := 34) F fl_X5_9 dX5_comes_34 rfl rfl ?_
        refine g_iconst (pc := 37) F dX5_comes_37 (v := nI 0) rfl ?_
        refine g_iald2 (pc := 38) F dX5_comes_38 rfl rfl (by first | omega | (simp only [ix]; omega)) (by decide) ?_
        refine g_bipush (pc := 39) F dX5_comes_39 (v := nI 6) rfl ?_
        refine g_ic_ne (pc := 41) F dX5_comes_41 (tgt := 47) rfl (fun c_41 => ?_) (fun c_41 => ?_)
        · refine g_aload_n (pc := 47) F dX5_comes_47 rfl ?_
          refine g_aload_n (pc := 48) F dX5_comes_48 rfl ?_
          refine g_getf (pc := 49) F fl_X5_28 dX5_comes_49 rfl rfl ?_
          refine g_iload_n (pc := 52) F dX5_comes_52 rfl ?_
          refine g_iald2 (pc := 53) F dX5_comes_53 rfl rfl (by first | omega | (simp only [ix]; omega)) (by decide) ?_
          refine g_aload_n (pc := 54) F dX5_comes_54 rfl ?_
          refine g_getf (pc := 55) F fl_X5_31 dX5_comes_55 rfl rfl ?_
          refine g_iload_n (pc := 58) F dX5_comes_58 rfl ?_
          refine g_iald2 (pc := 59) F dX5_comes_59 rfl rfl (by first | omega | (simp only [ix]; omega)) (by decide) ?_
          refine g_iload_n (pc := 60) F dX5_comes_60 rfl ?_
          refine g_iload_n (pc := 61) F dX5_comes_61 rfl ?_
          refine i_callV (pc := 62) F (m_adds s m ig ws hg T V hI (six_ne hI c_41) _ _ _ _) mi_X5_adds kv_X5_116 rfl rfl dX5_comes_62 (by decide) (by decide) rfl (Nat.le_of_ble_eq_true rfl) (by decide) (by decide) ?_
          rintro _ _ ⟨rfl, rfl⟩ -
          refine g_aload_n (pc := 65) F dX5_comes_65 rfl ?_
          refine g_getf (pc := 66) F fl_X5_9 dX5_comes_66 rfl rfl ?_
          refine g_iconst (pc := 69) F dX5_comes_69 (v := nI 0) rfl ?_
          refine g_iald2 (pc := 70) F dX5_comes_70 rfl rfl (by first | omega | (simp only [ix]; omega)) (by decide) ?_
          refine g_iconst (pc := 71) F dX5_comes_71 (v := nI 1) rfl ?_
          refine g_isub (pc := 72) F dX5_comes_72 ?_
          exact g_iret (pc := 73) F X0 dX5_comes_73 (Nat.le_of_ble_eq_true rfl) (Nat.le_of_ble_eq_true rfl) rfl ⟨congrArg (fun z => some (Value.int z)) ((comes_y ⟨c_4, c_13⟩ c_27 (six_ne hI c_41) hj).1.trans (addR_m1 _ _ _ _ _).symm).symm, m, ws, V, (congrArg (fun z => rW z m ig ws hg T V) (comes_y ⟨c_4, c_13⟩ c_27 (six_ne hI c_41) hj).2).symm⟩
        · refine g_bipush (pc := 44) F dX5_comes_44 (v := (-2 : Int32)) (by decide) ?_
          exact g_iret (pc := 46) F X0 dX5_comes_46 (Nat.le_of_ble_eq_true rfl) (Nat.le_of_ble_eq_true rfl) rfl ⟨congrArg (fun z => some (Value.int z)) (comes_f ⟨c_4, c_13⟩ c_27 (six_eq hI c_41)).1.symm, m, ws, V, (congrArg (fun z => rW z m ig ws hg T V) (comes_f ⟨c_4, c_13⟩ c_27 (six_eq hI c_41)).2).symm⟩
      · refine g_iload (pc := 30) F dX5_comes_30 rfl ?_
        exact g_iret (pc := 32) F X0 dX5_comes_32 (Nat.le_of_ble_eq_true rfl) (Nat.le_of_ble_eq_true rfl) rfl ⟨congrArg (fun z => some (Value.int z)) (comes_w ⟨c_4, c_13⟩ c_27).1.symm, m, ws, V, (congrArg (fun z => rW z m ig ws hg T V) (comes_w ⟨c_4, c_13⟩ c_27).2).symm⟩
    · refine g_iconst (pc := 16) F dX5_comes_16 (v := (-1 : Int32)) (by decide) ?_
      exact g_iret (pc := 17) F X0 dX5_comes_17 (Nat.le_of_ble_eq_true rfl) (Nat.le_of_ble_eq_true rfl) rfl (by first
      | exact ⟨congrArg (fun z => some (Value.int z)) (comes_n (fun z => c_4 z.1)).1.symm, m, ws, V, (congrArg (fun z => rW z m ig ws hg T V) (comes_n (fun z => c_4 z.1)).2).symm⟩
      | exact ⟨congrArg (fun z => some (Value.int z)) (comes_n (fun z => c_13 z.2)).1.symm, m, ws, V, (congrArg (fun z => rW z m ig ws hg T V) (comes_n (fun z => c_13 z.2)).2).symm⟩
      | fail)

def upT (r : Nat → Int32) (k : Nat) : Int32 := it (fun d v => v + r (5 + d)) k (nI 0)
def unv (r : Nat → Int32) (d : Nat) : Int32 := upT r (d + 1) - (sumR r 5 - upT r (d + 1))
def unA (r : Nat → Int32) (d : Nat) : Int32 := if 0 ≤ unv r d then unv r d else 0 - unv r d
theorem upT_all (r : Nat → Int32) : upT r 10 = sumR r 5 := rfl
def evF (r : Nat → Int32) (i : Nat) (z : Nat) : Nat := if unA r i < unA r z then i else z
def S_even (r : Nat → Int32) (wh : Int32) : Int32 := if b01 wh then (if wh = 0 then nI (it (evF r) 9 0) else unA r (it (evF r) 9 0)) else (-1)
theorem evF_le (r : Nat → Int32) : ∀ i, it (evF r) i 0 ≤ i - 1
  | 0 => Nat.le_refl 0
  | i + 1 => by
    rw [it_succ]
    have := evF_le r i
    show (if unA r i < unA r (it (evF r) i 0) then i else it (evF r) i 0) ≤ i
    split <;> omega
theorem upT_bd {r : Nat → Int32} (hI : Iv r) : ∀ i, i ≤ 10 → 0 ≤ (upT r i).toInt ∧ (upT r i).toInt ≤ 999 * (i : Int)
  | 0, _ => by
    show 0 ≤ (nI 0).toInt ∧ (nI 0).toInt ≤ 999 * ((0 : Nat) : Int)
    decide
  | i + 1, h => by
    obtain ⟨h1, h2⟩ := upT_bd hI i (by omega)
    obtain ⟨g1, g2, g3⟩ := hI.2.1 i (by omega)
    have e : upT r (i + 1) = upT r i + r (5 + i) := rfl
    rw [e, ti_add (by omega) (by omega)]
    omega
theorem upT_mono {r : Nat → Int32} (hI : Iv r) : ∀ i, i ≤ 9 → (upT r 1).toInt ≤ (upT r (i + 1)).toInt
  | 0, _ => Int.le_refl _
  | i + 1, h => by
    have h1 := upT_mono hI i (by omega)
    obtain ⟨h3, h4⟩ := upT_bd hI (i + 1) (by omega)
    obtain ⟨g1, g2, g3⟩ := hI.2.1 (i + 1) (by omega)
    have e : upT r (i + 1 + 1) = upT r (i + 1) + r (5 + (i + 1)) := rfl
    rw [e, ti_add (by omega) (by omega)]
    omega
theorem un_first {r : Nat → Int32} (hI : Iv r) : unA r 0 < sumR r 5 + nI 1 := by
  have hm := upT_mono hI 9 (by omega)
  obtain ⟨a1, a2⟩ := upT_bd hI 1 (by omega)
  obtain ⟨b1, b2⟩ := upT_bd hI 10 (by omega)
  have e : upT r (9 + 1) = sumR r 5 := rfl
  have e2 : upT r 10 = sumR r 5 := rfl
  rw [e] at hm
  rw [e2] at b1 b2
  have s1 : (sumR r 5 - upT r 1).toInt = (sumR r 5).toInt - (upT r 1).toInt := ti_sub (by omega) (by omega)
  have s2 : (unv r 0).toInt = (upT r 1).toInt - ((sumR r 5).toInt - (upT r 1).toInt) := by
    show (upT r 1 - (sumR r 5 - upT r 1)).toInt = _
    rw [ti_sub (by rw [s1]; omega) (by rw [s1]; omega), s1]
  have s3 : (sumR r 5 + nI 1).toInt = (sumR r 5).toInt + 1 := by rw [ti_add (by rw [ti_n _ (by decide)]; omega) (by rw [ti_n _ (by decide)]; omega), ti_n _ (by decide)]; rfl
  have z0 : (0 : Int32).toInt = 0 := rfl
  rw [ti_lt, s3]
  unfold unA
  split
  · rw [s2]; omega
  · rw [ti_sub (by rw [s2, z0]; omega) (by rw [s2, z0]; omega), s2, z0]; omega
theorem i32_lc (a b c : Int32) : a + (b + c) = b + (a + c) := by rw [← Int32.add_assoc, Int32.add_comm a b, Int32.add_assoc]
theorem i32_a (a b c : Int32) : a - (b - a) + -c = a - (b + c - a) := by
  simp only [Int32.sub_eq_add_neg, Int32.neg_add, Int32.neg_neg, Int32.add_assoc, Int32.add_comm, i32_lc]
theorem un_sum {r : Nat → Int32} {d : Nat} : ∀ k, it (fun e v => v + (if (e : Nat) ≤ d then r (5 + e) else -r (5 + e))) k (nI 0) = if k ≤ d + 1 then upT r k else upT r (d + 1) - (upT r k - upT r (d + 1))
  | 0 => (if_pos (Nat.zero_le _)).symm
  | k + 1 => by
    rw [it_succ, un_sum k]
    by_cases q : k ≤ d
    · rw [if_pos (show k ≤ d + 1 by omega), if_pos q, if_pos (show k + 1 ≤ d + 1 by omega)]
      rfl
    · rw [if_neg q, if_neg (show ¬ k + 1 ≤ d + 1 by omega)]
      have e : upT r (k + 1) = upT r k + r (5 + k) := rfl
      rw [e]
      by_cases q2 : k = d + 1
      · rw [if_pos (by omega), q2]
        rw [Int32.add_comm, Int32.add_comm (upT r (d + 1)) (r (5 + (d + 1))), Int32.add_sub_cancel, Int32.sub_eq_add_neg, Int32.add_comm]
      · rw [if_neg (show ¬ k ≤ d + 1 by omega)]
        exact i32_a _ _ _
theorem neg_0 (x : Int32) : -x = 0 - x := by rw [Int32.sub_eq_add_neg, Int32.zero_add]
set_option maxRecDepth 100000 in
set_option maxHeartbeats 800000 in
theorem m_uneven (s m ig ws : Nat → Int32) (hg : Int32) (T : TX) (V : VX) (x : Int32) (d : Nat) (hx : x = nI d) (hd : d < 9) : RCtr yX5_unevenAt cX5_unevenAt 4 (some .int) 0 [.ref 0, .int x] (rW s m ig ws hg T V) (.int (unA s d)) := by
  subst hx
  refine Ctr.of rfl (Nat.le_of_ble_eq_true rfl) ⟨clS_of rfl, clH_of rfl⟩ (fun K F X0 => ?_)
  have L : ∀ i, i ≤ 10 → Go K 0 0 4 [(0, .ref 0), (1, .int (nI d)), (2, .int (it (fun e v => v + (if (e : Nat) ≤ d then s (5 + e) else -s (5 + e))) i (nI 0))), (3, .int (nI (i)))] [] (rW s m ig ws hg T V) := loop_up (P := fun i => Go K 0 0 4 [(0, .ref 0), (1, .int (nI d)), (2, .int (it (fun e v => v + (if (e : Nat) ≤ d then s (5 + e) else -s (5 + e))) i (nI 0))), (3, .int (nI (i)))] [] (rW s m ig ws hg T V)) (fun i hi ih => by
    refine g_iload_n (pc := 4) F dX5_unevenAt_4 rfl ?_
    refine g_bipush (pc := 5) F dX5_unevenAt_5 (v := nI 10) rfl ?_
    refine g_icN_ge (pc := 7) F dX5_unevenAt_7 (tgt := 44) rfl rfl rfl (by omega) (by omega) (fun c_7 => ?_) (fun c_7 => ?_)
    · obtain rfl : i = 10 := by omega
      rw [show it (fun e v => v + (if (e : Nat) ≤ d then s (5 + e) else -s (5 + e))) 10 (nI 0) = unv s d from (un_sum 10).trans (if_neg (by omega))]
      refine g_iload_n (pc := 44) F dX5_unevenAt_44 rfl ?_
      refine g_if_ge (pc := 45) F dX5_unevenAt_45 (tgt := 53) rfl (fun c_45 => ?_) (fun c_45 => ?_)
      · refine g_iload_n (pc := 53) F dX5_unevenAt_53 rfl ?_
        exact g_iret (pc := 54) F X0 dX5_unevenAt_54 (Nat.le_of_ble_eq_true rfl) (Nat.le_of_ble_eq_true rfl) rfl ⟨congrArg (fun z => some (Value.int z)) (by unfold unA; first | exact (if_pos c_45).symm | exact (neg_0 _).trans (if_neg c_45).symm | fail), rfl⟩
      · refine g_iload_n (pc := 48) F dX5_unevenAt_48 rfl ?_
        refine g_ineg (pc := 49) F dX5_unevenAt_49 ?_
        refine g_goto (pc := 50) F dX5_unevenAt_50 (tgt := 54) rfl ?_
        exact g_iret (pc := 54) F X0 dX5_unevenAt_54 (Nat.le_of_ble_eq_true rfl) (Nat.le_of_ble_eq_true rfl) rfl ⟨congrArg (fun z => some (Value.int z)) (by unfold unA; first | exact (if_pos c_45).symm | exact (neg_0 _).trans (if_neg c_45).symm | fail), rfl⟩
    · refine g_iload_n (pc := 10) F dX5_unevenAt_10 rfl ?_
      refine g_iload_n (pc := 11) F dX5_unevenAt_11 rfl ?_
      refine g_iload_n (pc := 12) F dX5_unevenAt_12 rfl ?_
      refine g_icN_gt (pc := 13) F dX5_unevenAt_13 (tgt := 27) rfl rfl rfl (by omega) (by omega) (fun c_13 => ?_) (fun c_13 => ?_)
      · refine g_aload_n (pc := 27) F dX5_unevenAt_27 rfl ?_
        refine g_getf (pc := 28) F fl_X5_9 dX5_unevenAt_28 rfl rfl ?_
        refine g_iconst (pc := 31) F dX5_unevenAt_31 (v := nI 5) rfl ?_
        refine g_iload_n (pc := 32) F dX5_unevenAt_32 rfl ?_
        refine g_iaddN (pc := 33) F dX5_unevenAt_33 ?_
        refine g_iald2 (pc := 34) F dX5_unevenAt_34 rfl rfl (by first | omega | (simp only [ix]; omega)) (by decide) ?_
        refine g_ineg (pc := 35) F dX5_unevenAt_35 ?_
        refine g_iadd (pc := 36) F dX5_unevenAt_36 ?_
        refine g_istore_n (pc := 37) F dX5_unevenAt_37 (by decide) ?_
        refine g_iincN (pc := 38) F dX5_unevenAt_38 rfl (by decide) ?_
        refine g_goto (pc := 41) F dX5_unevenAt_41 (tgt := 4) rfl ?_
        first
          | exact (congrArg (fun z => Go K 0 0 4 [(0, .ref 0), (1, .int (nI d)), (2, .int (z)), (3, .int (nI (i + 1)))] [] (rW s m ig ws hg T V)) ((it_succ (fun e v => v + (if (e : Nat) ≤ d then s (5 + e) else -s (5 + e))) i (nI 0)).trans (congrArg (fun z => it (fun e v => v + (if (e : Nat) ≤ d then s (5 + e) else -s (5 + e))) i (nI 0) + z) (if_pos c_13)))).mp (ih c_7)
          | exact (congrArg (fun z => Go K 0 0 4 [(0, .ref 0), (1, .int (nI d)), (2, .int (z)), (3, .int (nI (i + 1)))] [] (rW s m ig ws hg T V)) ((it_succ (fun e v => v + (if (e : Nat) ≤ d then s (5 + e) else -s (5 + e))) i (nI 0)).trans (congrArg (fun z => it (fun e v => v + (if (e : Nat) ≤ d then s (5 + e) else -s (5 + e))) i (nI 0) + z) (if_neg (Nat.not_le.mpr c_13))))).mp (ih c_7)
          | fail
      · refine g_aload_n (pc := 16) F dX5_unevenAt_16 rfl ?_
        refine g_getf (pc := 17) F fl_X5_9 dX5_unevenAt_17 rfl rfl ?_
        refine g_iconst (pc := 20) F dX5_unevenAt_20 (v := nI 5) rfl ?_
        refine g_iload_n (pc := 21) F dX5_unevenAt_21 rfl ?_
        refine g_iaddN (pc := 22) F dX5_unevenAt_22 ?_
        refine g_iald2 (pc := 23) F dX5_unevenAt_23 rfl rfl (by first | omega | (simp only [ix]; omega)) (by decide) ?_
        refine g_goto (pc := 24) F dX5_unevenAt_24 (tgt := 36) rfl ?_
        refine g_iadd (pc := 36) F dX5_unevenAt_36 ?_
        refine g_istore_n (pc := 37) F dX5_unevenAt_37 (by decide) ?_
        refine g_iincN (pc := 38) F dX5_unevenAt_38 rfl (by decide) ?_
        refine g_goto (pc := 41) F dX5_unevenAt_41 (tgt := 4) rfl ?_
        first
          | exact (congrArg (fun z => Go K 0 0 4 [(0, .ref 0), (1, .int (nI d)), (2, .int (z)), (3, .int (nI (i + 1)))] [] (rW s m ig ws hg T V)) ((it_succ (fun e v => v + (if (e : Nat) ≤ d then s (5 + e) else -s (5 + e))) i (nI 0)).trans (congrArg (fun z => it (fun e v => v + (if (e : Nat) ≤ d then s (5 + e) else -s (5 + e))) i (nI 0) + z) (if_pos c_13)))).mp (ih c_7)
          | exact (congrArg (fun z => Go K 0 0 4 [(0, .ref 0), (1, .int (nI d)), (2, .int (z)), (3, .int (nI (i + 1)))] [] (rW s m ig ws hg T V)) ((it_succ (fun e v => v + (if (e : Nat) ≤ d then s (5 + e) else -s (5 + e))) i (nI 0)).trans (congrArg (fun z => it (fun e v => v + (if (e : Nat) ≤ d then s (5 + e) else -s (5 + e))) i (nI 0) + z) (if_neg (Nat.not_le.mpr c_13))))).mp (ih c_7)
          | fail)
  show Go K 0 0 0 [(0, .ref 0), (1, .int (nI d))] [] (rW s m ig ws hg T V)
  refine g_iconst (pc := 0) F dX5_unevenAt_0 (v := nI 0) rfl ?_
  refine g_istore_n (pc := 1) F dX5_unevenAt_1 (by decide) ?_
  refine g_iconst (pc := 2) F dX5_unevenAt_2 (v := nI 0) rfl ?_
  refine g_istore_n (pc := 3) F dX5_unevenAt_3 (by decide) ?_
  exact L 0 (Nat.zero_le _)

set_option maxRecDepth 100000 in
set_option maxHeartbeats 800000 in
theorem m_even (s m ig ws : Nat → Int32) (hg : Int32) (T : TX) (V : VX) (hI : Iv s) (wh : Int32) : Ctr yX5_even cX5_even 4 (some .int) 7 0 0 [.ref 0, .int wh] (rW s m ig ws hg T V) (LookR (.int (S_even s wh)) s ig ws hg T) := by
  refine Ctr.of rfl (Nat.le_of_ble_eq_true rfl) ⟨clS_of rfl, clH_of rfl⟩ (fun K F X0 => ?_)
  show Go K 0 0 0 [(0, .ref 0), (1, .int wh)] [] (rW s m ig ws hg T V)
  refine g_iload_n (pc := 0) F dX5_even_0 rfl ?_
  refine g_iconst (pc := 1) F dX5_even_1 (v := nI 0) rfl ?_
  refine g_iconst (pc := 2) F dX5_even_2 (v := nI 1) rfl ?_
  refine h_readS (pc := 3) F (c_isIn _ _ _) mi_X5_isIn ks_X5_43 dX5_even_3 [] rfl (by decide) (by decide) rfl rfl (Nat.le_of_ble_eq_true rfl) trivial (by decide) (by decide) ?_
  refine g_ifne_d (pc := 6) F dX5_even_6 (tgt := 11) rfl (fun c_6 => ?_) (fun c_6 => ?_)
  · refine g_iconst (pc := 11) F dX5_even_11 (v := nI 0) rfl ?_
    refine g_istore_n (pc := 12) F dX5_even_12 (by decide) ?_
    refine g_iconst (pc := 13) F dX5_even_13 (v := nI 0) rfl ?_
    refine g_istore_n (pc := 14) F dX5_even_14 (by decide) ?_
    have L : ∀ i, i ≤ 9 → Go K 0 0 15 [(0, .ref 0), (1, .int wh), (2, .int (nI (it (evF s) i 0))), (3, .int (nI (i)))] [] (rW s m ig ws hg T V) := loop_up (P := fun i => Go K 0 0 15 [(0, .ref 0), (1, .int wh), (2, .int (nI (it (evF s) i 0))), (3, .int (nI (i)))] [] (rW s m ig ws hg T V)) (fun i hi ih => by
      have hz := evF_le s i
      
      refine g_iload_n (pc := 15) F dX5_even_15 rfl ?_
      refine g_bipush (pc := 16) F dX5_even_16 (v := nI 9) rfl ?_
      refine g_icN_ge (pc := 18) F dX5_even_18 (tgt := 42) rfl rfl rfl (by omega) (by omega) (fun c_18 => ?_) (fun c_18 => ?_)
      · obtain rfl : i = 9 := by omega
        refine g_iload_n (pc := 42) F dX5_even_42 rfl ?_
        refine g_if_ne (pc := 43) F dX5_even_43 (tgt := 50) rfl (fun c_43 => ?_) (fun c_43 => ?_)
        · refine g_aload_n (pc := 50) F dX5_even_50 rfl ?_
          refine g_iload_n (pc := 51) F dX5_even_51 rfl ?_
          refine i_readV (pc := 52) F (m_uneven s m ig ws hg T V _ (it (evF s) 9 0) rfl (by omega)) mi_X5_unevenAt kv_X5_173 rfl rfl dX5_even_52 (by decide) (by decide) rfl (Nat.le_of_ble_eq_true rfl) (by decide) (by decide) ?_
          exact g_iret (pc := 55) F X0 dX5_even_55 (Nat.le_of_ble_eq_true rfl) (Nat.le_of_ble_eq_true rfl) rfl ⟨congrArg (fun z => some (Value.int z)) (by first | exact ((if_pos c_6).trans (if_pos c_43)).symm | exact ((if_pos c_6).trans (if_neg c_43)).symm | exact (if_neg c_6).symm | fail), m, V, rfl⟩
        · refine g_iload_n (pc := 46) F dX5_even_46 rfl ?_
          refine g_goto (pc := 47) F dX5_even_47 (tgt := 55) rfl ?_
          exact g_iret (pc := 55) F X0 dX5_even_55 (Nat.le_of_ble_eq_true rfl) (Nat.le_of_ble_eq_true rfl) rfl ⟨congrArg (fun z => some (Value.int z)) (by first | exact ((if_pos c_6).trans (if_pos c_43)).symm | exact ((if_pos c_6).trans (if_neg c_43)).symm | exact (if_neg c_6).symm | fail), m, V, rfl⟩
      · refine g_aload_n (pc := 21) F dX5_even_21 rfl ?_
        refine g_iload_n (pc := 22) F dX5_even_22 rfl ?_
        refine i_readV (pc := 23) F (m_uneven s m ig ws hg T V _ i rfl (by omega)) mi_X5_unevenAt kv_X5_173 rfl rfl dX5_even_23 (by decide) (by decide) rfl (Nat.le_of_ble_eq_true rfl) (by decide) (by decide) ?_
        refine g_aload_n (pc := 26) F dX5_even_26 rfl ?_
        refine g_iload_n (pc := 27) F dX5_even_27 rfl ?_
        refine i_readV (pc := 28) F (m_uneven s m ig ws hg T V _ (it (evF s) i 0) rfl (by omega)) mi_X5_unevenAt kv_X5_173 rfl rfl dX5_even_28 (by decide) (by decide) rfl (Nat.le_of_ble_eq_true rfl) (by decide) (by decide) ?_
        refine g_ic_ge (pc := 31) F dX5_even_31 (tgt := 36) rfl (fun c_31 => ?_) (fun c_31 => ?_)
        · refine g_iincN (pc := 36) F dX5_even_36 rfl (by decide) ?_
          refine g_goto (pc := 39) F dX5_even_39 (tgt := 15) rfl ?_
          first
            | exact (congrArg (fun z => Go K 0 0 15 [(0, .ref 0), (1, .int wh), (2, .int (nI (z))), (3, .int (nI (i + 1)))] [] (rW s m ig ws hg T V)) ((it_succ (evF s) i 0).trans (if_neg (Int32.not_lt.mpr c_31)))).mp (ih c_18)
            | exact (congrArg (fun z => Go K 0 0 15 [(0, .ref 0), (1, .int wh), (2, .int (nI (z))), (3, .int (nI (i + 1)))] [] (rW s m ig ws hg T V)) ((it_succ (evF s) i 0).trans (if_pos (Int32.not_le.mp c_31)))).mp (ih c_18)
            | fail
        · refine g_iload_n (pc := 34) F dX5_even_34 rfl ?_
          refine g_istore_n (pc := 35) F dX5_even_35 (by decide) ?_
          refine g_iincN (pc := 36) F dX5_even_36 rfl (by decide) ?_
          refine g_goto (pc := 39) F dX5_even_39 (tgt := 15) rfl ?_
          first
            | exact (congrArg (fun z => Go K 0 0 15 [(0, .ref 0), (1, .int wh), (2, .int (nI (z))), (3, .int (nI (i + 1)))] [] (rW s m ig ws hg T V)) ((it_succ (evF s) i 0).trans (if_neg (Int32.not_lt.mpr c_31)))).mp (ih c_18)
            | exact (congrArg (fun z => Go K 0 0 15 [(0, .ref 0), (1, .int wh), (2, .int (nI (z))), (3, .int (nI (i + 1)))] [] (rW s m ig ws hg T V)) ((it_succ (evF s) i 0).trans (if_pos (Int32.not_le.mp c_31)))).mp (ih c_18)
            | fail)
    exact L 0 (Nat.zero_le _)
  · refine g_iconst (pc := 9) F dX5_even_9 (v := (-1 : Int32)) (by decide) ?_
    exact g_iret (pc := 10) F X0 dX5_even_10 (Nat.le_of_ble_eq_true rfl) (Nat.le_of_ble_eq_true rfl) rfl ⟨congrArg (fun z => some (Value.int z)) (if_neg c_6).symm, m, V, rfl⟩

def evL (r : Nat → Int32) (i : Nat) : Int32 := if i = 0 then sumR r 5 + nI 1 else unA r (it (evF r) i 0)
theorem evL_y {r : Nat → Int32} {i : Nat} (hI : Iv r) (h : unA r i < evL r i) : it (evF r) (i + 1) 0 = i ∧ evL r (i + 1) = unA r i := by
  have e : it (evF r) (i + 1) 0 = i := by
    rw [it_succ]
    by_cases q : i = 0
    · subst q
      show (if unA r 0 < unA r 0 then 0 else 0) = 0
      split <;> rfl
    · unfold evL at h
      rw [if_neg q] at h
      exact if_pos h
  refine ⟨e, ?_⟩
  unfold evL
  rw [if_neg (by omega), e]
theorem evL_n {r : Nat → Int32} {i : Nat} (hI : Iv r) (h : ¬ unA r i < evL r i) : it (evF r) (i + 1) 0 = it (evF r) i 0 ∧ evL r (i + 1) = evL r i := by
  have q : ¬ i = 0 := by
    intro q
    subst q
    exact h (un_first hI)
  have e : it (evF r) (i + 1) 0 = it (evF r) i 0 := by
    rw [it_succ]
    unfold evL at h
    rw [if_neg q] at h
    exact if_neg h
  refine ⟨e, ?_⟩
  unfold evL
  rw [if_neg (by omega), if_neg q, e]
set_option maxRecDepth 100000 in
set_option maxHeartbeats 800000 in
theorem c_even (b : Int32) (X Y Z : DX) (im : Int32) (S : Nat → SX) (g h : Nat → Int32) (r : Nat → Int32) (hR : Rel b X r) (hI : Iv r) (h4 : r 4 = nI 0) (wh : Int32) : Ctr yX4_even cX4_even 8 (some .int) 7 0 0 [.ref 0, .int wh] (mW X Y Z im S g h) (Look (.int (S_even r wh)) X Z im S) := by
  refine Ctr.of rfl (Nat.le_of_ble_eq_true rfl) ⟨clS_of rfl, mW_cl _ _ _ _ _ _ _⟩ (fun K F X0 => ?_)
  show Go K 0 0 0 [(0, .ref 0), (1, .int wh)] [] (mW X Y Z im S g h)
  refine g_iload_n (pc := 0) F dX4_even_0 rfl ?_
  refine g_iconst (pc := 1) F dX4_even_1 (v := nI 0) rfl ?_
  refine g_iconst (pc := 2) F dX4_even_2 (v := nI 1) rfl ?_
  refine h_readS (pc := 3) F (c_isWithin _ _ _) mi_X4_isWithin ks_X4_129 dX4_even_3 [] rfl (by decide) (by decide) rfl rfl (Nat.le_of_ble_eq_true rfl) trivial (by decide) (by decide) ?_
  refine g_ifne_d (pc := 6) F dX4_even_6 (tgt := 11) rfl (fun c_6 => ?_) (fun c_6 => ?_)
  · refine g_aload_n (pc := 11) F dX4_even_11 rfl ?_
    refine g_getf (pc := 12) F fl_X4_12 dX4_even_12 rfl rfl ?_
    refine h_readV (pc := 15) F (c_allGrains b X r hR) mi_X0_allGrains kv_X4_202 rfl rfl dX4_even_15 [1, 2, 3, 4, 5, 6, 7, 8] sub_now (by decide) (by decide) rfl rfl (Nat.le_of_ble_eq_true rfl) trivial (by decide) (by decide) ?_
    refine g_istore_n (pc := 18) F dX4_even_18 (by decide) ?_
    refine g_iconst (pc := 19) F dX4_even_19 (v := nI 0) rfl ?_
    refine g_istore_n (pc := 20) F dX4_even_20 (by decide) ?_
    refine g_iconst (pc := 21) F dX4_even_21 (v := nI 0) rfl ?_
    refine g_istore (pc := 22) F dX4_even_22 (by decide) ?_
    refine g_iload_n (pc := 24) F dX4_even_24 rfl ?_
    refine g_iconst (pc := 25) F dX4_even_25 (v := nI 1) rfl ?_
    refine g_iadd (pc := 26) F dX4_even_26 ?_
    refine g_istore (pc := 27) F dX4_even_27 (by decide) ?_
    refine g_iconst (pc := 29) F dX4_even_29 (v := nI 0) rfl ?_
    refine g_istore (pc := 30) F dX4_even_30 (by decide) ?_
    have L : ∀ i, i ≤ 9 → Go K 0 0 32 [(0, .ref 0), (1, .int wh), (2, .int (sumR r 5)), (3, .int (upT r i)), (4, .int (nI (it (evF r) i 0))), (5, .int (evL r i)), (6, .int (nI (i)))] [] (mW X Y Z im S g h) := loop_up (P := fun i => Go K 0 0 32 [(0, .ref 0), (1, .int wh), (2, .int (sumR r 5)), (3, .int (upT r i)), (4, .int (nI (it (evF r) i 0))), (5, .int (evL r i)), (6, .int (nI (i)))] [] (mW X Y Z im S g h)) (fun i hi ih => by
      refine g_iload (pc := 32) F dX4_even_32 rfl ?_
      refine g_bipush (pc := 34) F dX4_even_34 (v := nI 9) rfl ?_
      refine g_icN_ge (pc := 36) F dX4_even_36 (tgt := 83) rfl rfl rfl (by omega) (by omega) (fun c_36 => ?_) (fun c_36 => ?_)
      · obtain rfl : i = 9 := by omega
        refine g_iload_n (pc := 83) F dX4_even_83 rfl ?_
        refine g_if_ne (pc := 84) F dX4_even_84 (tgt := 92) rfl (fun c_84 => ?_) (fun c_84 => ?_)
        · refine g_iload (pc := 92) F dX4_even_92 rfl ?_
          exact g_iret (pc := 94) F X0 dX4_even_94 (Nat.le_of_ble_eq_true rfl) (Nat.le_of_ble_eq_true rfl) rfl ⟨congrArg (fun z => some (Value.int z)) (by first | exact ((if_pos c_6).trans (if_pos c_84)).symm | exact ((if_pos c_6).trans (if_neg c_84)).symm | exact (if_neg c_6).symm | fail), Y, g, h, rfl⟩
        · refine g_iload (pc := 87) F dX4_even_87 rfl ?_
          refine g_goto (pc := 89) F dX4_even_89 (tgt := 94) rfl ?_
          exact g_iret (pc := 94) F X0 dX4_even_94 (Nat.le_of_ble_eq_true rfl) (Nat.le_of_ble_eq_true rfl) rfl ⟨congrArg (fun z => some (Value.int z)) (by first | exact ((if_pos c_6).trans (if_pos c_84)).symm | exact ((if_pos c_6).trans (if_neg c_84)).symm | exact (if_neg c_6).symm | fail), Y, g, h, rfl⟩
      · refine g_iload_n (pc := 39) F dX4_even_39 rfl ?_
        refine g_aload_n (pc := 40) F dX4_even_40 rfl ?_
        refine g_getf (pc := 41) F fl_X4_12 dX4_even_41 rfl rfl ?_
        refine g_getf (pc := 44) F fl_X4_120 dX4_even_44 rfl rfl ?_
        refine g_iload (pc := 47) F dX4_even_47 rfl ?_
        refine g_iald2 (pc := 49) F dX4_even_49 rfl rfl (by omega) (by decide) ?_
        rw [(hR.2.2.1 i (by omega)).1]
        refine g_iadd (pc := 50) F dX4_even_50 ?_
        refine g_istore_n (pc := 51) F dX4_even_51 (by decide) ?_
        rw [show upT r i + r (5 + i) = upT r (i + 1) from rfl]
        refine g_iload_n (pc := 52) F dX4_even_52 rfl ?_
        refine g_iload_n (pc := 53) F dX4_even_53 rfl ?_
        refine g_iload_n (pc := 54) F dX4_even_54 rfl ?_
        refine g_isub (pc := 55) F dX4_even_55 ?_
        refine g_isub (pc := 56) F dX4_even_56 ?_
        refine g_mabs (pc := 57) F dX4_even_57 km_X4_185 (by decide) (Nat.le_of_ble_eq_true rfl) (by decide) (by decide) ?_
        rw [show (if 0 ≤ upT r (i + 1) - (sumR r 5 - upT r (i + 1)) then upT r (i + 1) - (sumR r 5 - upT r (i + 1)) else 0 - (upT r (i + 1) - (sumR r 5 - upT r (i + 1)))) = unA r i from rfl]
        refine g_istore (pc := 60) F dX4_even_60 (by decide) ?_
        refine g_iload (pc := 62) F dX4_even_62 rfl ?_
        refine g_iload (pc := 64) F dX4_even_64 rfl ?_
        refine g_ic_ge (pc := 66) F dX4_even_66 (tgt := 77) rfl (fun c_66 => ?_) (fun c_66 => ?_)
        · refine g_iincN (pc := 77) F dX4_even_77 rfl (by decide) ?_
          refine g_goto (pc := 80) F dX4_even_80 (tgt := 32) rfl ?_
          refine g_less [0, 1, 2, 3, 4, 5, 6] rfl ?_
          first
            | exact (congrArg (fun z => Go K 0 0 32 [(0, .ref 0), (1, .int wh), (2, .int (sumR r 5)), (3, .int (upT r (i + 1))), (4, .int (nI (z.1))), (5, .int (z.2)), (6, .int (nI (i + 1)))] [] (mW X Y Z im S g h)) (show ((it (evF r) (i + 1) 0, evL r (i + 1)) : Nat × Int32) = (it (evF r) i 0, evL r i) from Prod.ext (evL_n hI (Int32.not_lt.mpr c_66)).1 (evL_n hI (Int32.not_lt.mpr c_66)).2)).mp (ih c_36)
            | exact (congrArg (fun z => Go K 0 0 32 [(0, .ref 0), (1, .int wh), (2, .int (sumR r 5)), (3, .int (upT r (i + 1))), (4, .int (nI (z.1))), (5, .int (z.2)), (6, .int (nI (i + 1)))] [] (mW X Y Z im S g h)) (show ((it (evF r) (i + 1) 0, evL r (i + 1)) : Nat × Int32) = (i, unA r i) from Prod.ext (evL_y hI (Int32.not_le.mp c_66)).1 (evL_y hI (Int32.not_le.mp c_66)).2)).mp (ih c_36)
            | fail
        · refine g_iload (pc := 69) F dX4_even_69 rfl ?_
          refine g_istore (pc := 71) F dX4_even_71 (by decide) ?_
          refine g_iload (pc := 73) F dX4_even_73 rfl ?_
          refine g_istore (pc := 75) F dX4_even_75 (by decide) ?_
          refine g_iincN (pc := 77) F dX4_even_77 rfl (by decide) ?_
          refine g_goto (pc := 80) F dX4_even_80 (tgt := 32) rfl ?_
          refine g_less [0, 1, 2, 3, 4, 5, 6] rfl ?_
          first
            | exact (congrArg (fun z => Go K 0 0 32 [(0, .ref 0), (1, .int wh), (2, .int (sumR r 5)), (3, .int (upT r (i + 1))), (4, .int (nI (z.1))), (5, .int (z.2)), (6, .int (nI (i + 1)))] [] (mW X Y Z im S g h)) (show ((it (evF r) (i + 1) 0, evL r (i + 1)) : Nat × Int32) = (it (evF r) i 0, evL r i) from Prod.ext (evL_n hI (Int32.not_lt.mpr c_66)).1 (evL_n hI (Int32.not_lt.mpr c_66)).2)).mp (ih c_36)
            | exact (congrArg (fun z => Go K 0 0 32 [(0, .ref 0), (1, .int wh), (2, .int (sumR r 5)), (3, .int (upT r (i + 1))), (4, .int (nI (z.1))), (5, .int (z.2)), (6, .int (nI (i + 1)))] [] (mW X Y Z im S g h)) (show ((it (evF r) (i + 1) 0, evL r (i + 1)) : Nat × Int32) = (i, unA r i) from Prod.ext (evL_y hI (Int32.not_le.mp c_66)).1 (evL_y hI (Int32.not_le.mp c_66)).2)).mp (ih c_36)
            | fail)
    exact L 0 (Nat.zero_le _)
  · refine g_iconst (pc := 9) F dX4_even_9 (v := (-1 : Int32)) (by decide) ?_
    exact g_iret (pc := 10) F X0 dX4_even_10 (Nat.le_of_ble_eq_true rfl) (Nat.le_of_ble_eq_true rfl) rfl ⟨congrArg (fun z => some (Value.int z)) (if_neg c_6).symm, Y, g, h, rfl⟩

