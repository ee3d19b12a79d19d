/-! put, cost, toss, copy; the reference's element -/
abbrev plP (T : TX) (j : Nat) (i : Int32) : Prop := nI 0 ≤ i ∧ i ≤ tN T j - nI 1
theorem plP_iff {T : TX} {j n : Nat} {i : Int32} (e : tN T j = nI n) : plP T j i ↔ (nI 0 ≤ i ∧ i ≤ nI n - nI 1) := by
  show (nI 0 ≤ i ∧ i ≤ tN T j - nI 1) ↔ _
  rw [e]
def tputv (T : TX) (j i : Nat) (u : Int32) : TX := (T.1, T.2.1, T.2.2.1, T.2.2.2.1, T.2.2.2.2.1, upd T.2.2.2.2.2 (100 * j + i) u)
def tput (T : TX) (j i : Nat) (v : Int32) : TX := tputv T j i (nar (T.2.2.2.1 j) v)
def A_put (T : TX) (d i : Int32) : Int32 := if wrong T d (-1) = 0 then (if plP T (N d) i then nI 0 else (-13)) else wrong T d (-1)
def T_put (T : TX) (d i v : Int32) : TX := if wrong T d (-1) = 0 then (if plP T (N d) i then tput T (N d) (N i) v else T) else T
theorem T_put_y {T : TX} {j i : Nat} {v u : Int32} (hj : j < 8) (hi : i < 100) (h : wrong T (nI j) (-1) = 0) (h2 : plP T j (nI i)) (e : u = nar (T.2.2.2.1 j) v) : T_put T (nI j) (nI i) v = tputv T j i u := by
  subst e
  refine (if_pos h).trans ?_
  rw [N_nI (by omega), N_nI (by omega)]
  exact if_pos h2
theorem nar_byte (v : Int32) : -128 ≤ (nar (nI 0) v).toInt ∧ (nar (nI 0) v).toInt ≤ 127 := by
  have e : nar (nI 0) v = v.toInt8.toInt32 := if_pos rfl
  rw [e, Int8.toInt_toInt32]
  have h1 := v.toInt8.le_toInt
  have h2 := v.toInt8.toInt_lt
  constructor <;> omega
theorem RS_put {S : Nat → SX} {T : TX} {j i : Nat} {v : Int32} {U : SX} (h : RS S T) (hj : j < 8) (hi : i < 100) (h1 : U = (upd (sE (S j)) i (nar (sSo (S j)) v), sH (S j), sKi (S j), sFi (S j), sSo (S j), sSi (S j))) : RS (updS S j U) (tput T j i v) := by
  subst h1
  refine RS_upd h ?_ (fun q hq hne => ⟨⟨rfl, rfl, rfl, rfl, rfl⟩, fun k hk => upd_ne _ (by omega)⟩)
  obtain ⟨b1, b2, b3, b4, b5, b6⟩ := h j hj
  have b3' : sSo (S j) = T.2.2.2.1 j := b3
  refine ⟨b1, b2, b3, b4, fun k hk => ?_, fun z k hk => ?_⟩
  · show upd (sE (S j)) i (nar (sSo (S j)) v) k = upd T.2.2.2.2.2 (100 * j + i) (nar (T.2.2.2.1 j) v) (100 * j + k)
    by_cases q : k = i
    · rw [q, upd_at, upd_at, b3']
    · rw [upd_ne _ q, upd_ne _ (by omega)]; exact b5 k hk
  · show -128 ≤ (upd T.2.2.2.2.2 (100 * j + i) (nar (T.2.2.2.1 j) v) (100 * j + k)).toInt ∧ (upd T.2.2.2.2.2 (100 * j + i) (nar (T.2.2.2.1 j) v) (100 * j + k)).toInt ≤ 127
    have z' : T.2.2.2.1 j = nI 0 := z
    by_cases q : k = i
    · rw [q, upd_at, z']; exact nar_byte v
    · rw [upd_ne _ (by omega)]; exact b6 z k hk
set_option maxRecDepth 100000 in
set_option maxHeartbeats 800000 in
theorem c_put_no (b : Int32) (X Y Z : DX) (im : Int32) (S : Nat → SX) (g h : Nat → Int32) (r : Nat → Int32) (hR : Rel b X r) (hI : Iv r) (h4 : r 4 = nI 0) (T : TX) (hS : RS S T) (i v : Int32) (d : Int32) (hd : ¬ shP d) : Ctr yX4_put cX4_put 6 (some .int) 7 0 0 [.ref 0, .int d, .int i, .int v] (mW X Y Z im S g h) (SttS (.int (A_put T d i)) X Z im (T_put T d i v)) := by
  refine Ctr.of rfl (Nat.le_of_ble_eq_true rfl) ⟨clS_of rfl, mW_cl _ _ _ _ _ _ _⟩ (fun K F X0 => ?_)
  show Go K 0 0 0 [(0, .ref 0), (1, .int d), (2, .int i), (3, .int v)] [] (mW X Y Z im S g h)
  refine g_aload_n (pc := 0) F dX4_put_0 rfl ?_
  refine g_iload_n (pc := 1) F dX4_put_1 rfl ?_
  refine i_readV (pc := 2) F (c_shelfNone X Y Z im S g h _ hd) mi_X4_shelfOrNull kv_X4_40 rfl rfl dX4_put_2 (by decide) (by decide) rfl (Nat.le_of_ble_eq_true rfl) (by decide) (by decide) ?_
  refine g_astoreN (pc := 5) F dX4_put_5 (by decide) ?_
  refine g_aloadN (pc := 7) F dX4_put_7 rfl ?_
  refine g_iconst (pc := 9) F dX4_put_9 (v := nI 2) rfl ?_
  refine h_readS (pc := 10) F (c_refusalN _) mi_X4_refusalUnless ks_X4_133 dX4_put_10 [] rfl (by decide) (by decide) rfl rfl (Nat.le_of_ble_eq_true rfl) trivial (by decide) (by decide) ?_
  refine g_istore (pc := 13) F dX4_put_13 (by decide) ?_
  refine g_aloadN (pc := 15) F dX4_put_15 rfl ?_
  refine g_ifnullN (pc := 17) F dX4_put_17 (tgt := 25) rfl ?_
  refine g_iload (pc := 25) F dX4_put_25 rfl ?_
  exact g_iret (pc := 27) F X0 dX4_put_27 (Nat.le_of_ble_eq_true rfl) (Nat.le_of_ble_eq_true rfl) rfl ⟨congrArg (fun z => some (Value.int z)) ((if_neg (fun z => absurd ((wrong_no hd).symm.trans z) (by decide))).trans (wrong_no hd)).symm, Y, S, g, h, rfl, (congrArg (RS S) (if_neg (fun z => absurd ((wrong_no hd).symm.trans z) (by decide)))).mpr hS⟩

set_option maxRecDepth 100000 in
set_option maxHeartbeats 800000 in
theorem c_put_in (b : Int32) (X Y Z : DX) (im : Int32) (S : Nat → SX) (g h : Nat → Int32) (r : Nat → Int32) (hR : Rel b X r) (hI : Iv r) (h4 : r 4 = nI 0) (T : TX) (hS : RS S T) (i v : Int32) (d : Int32) (j : Nat) (hd : d = nI j) (hj : j < 8) : Ctr yX4_put cX4_put 6 (some .int) 7 0 0 [.ref 0, .int d, .int i, .int v] (mW X Y Z im S g h) (SttS (.int (A_put T d i)) X Z im (T_put T d i v)) := by
  subst hd
  have hw := wrong_in hS hj
  obtain ⟨n9, hn9, en1, en2⟩ := (hS j hj).2.2.2.1
  refine Ctr.of rfl (Nat.le_of_ble_eq_true rfl) ⟨clS_of rfl, mW_cl _ _ _ _ _ _ _⟩ (fun K F X0 => ?_)
  show Go K 0 0 0 [(0, .ref 0), (1, .int (nI j)), (2, .int i), (3, .int v)] [] (mW X Y Z im S g h)
  refine g_aload_n (pc := 0) F dX4_put_0 rfl ?_
  refine g_iload_n (pc := 1) F dX4_put_1 rfl ?_
  refine i_readV (pc := 2) F (c_shelfSome X Y Z im S g h _ j rfl hj) mi_X4_shelfOrNull kv_X4_40 rfl rfl dX4_put_2 (by decide) (by decide) rfl (Nat.le_of_ble_eq_true rfl) (by decide) (by decide) ?_
  refine g_astore (pc := 5) F dX4_put_5 (by decide) ?_
  refine g_aload (pc := 7) F dX4_put_7 rfl ?_
  refine g_iconst (pc := 9) F dX4_put_9 (v := nI 2) rfl ?_
  refine h_readS (pc := 10) F (c_refusal (S j) _) mi_X4_refusalUnless ks_X4_133 dX4_put_10 [28 + 2 * j, 28 + 2 * j + 1] (mW_sub hj) (by decide) (by decide) (mW_nd hj) rfl (Nat.le_of_ble_eq_true rfl) trivial (by decide) (by decide) ?_
  refine g_istore (pc := 13) F dX4_put_13 (by decide) ?_
  refine g_aload (pc := 15) F dX4_put_15 rfl ?_
  refine g_ifnull (pc := 17) F dX4_put_17 ?_
  refine g_iload (pc := 20) F dX4_put_20 rfl ?_
  refine g_if_eq (pc := 22) F dX4_put_22 (tgt := 28) rfl (fun c_22 => ?_) (fun c_22 => ?_)
  · refine g_aload (pc := 28) F dX4_put_28 rfl ?_
    refine g_iload_n (pc := 30) F dX4_put_30 rfl ?_
    refine h_readV (pc := 31) F (c_hasPlace (S j) _) mi_X2_hasPlace kv_X4_255 rfl rfl dX4_put_31 [28 + 2 * j, 28 + 2 * j + 1] (mW_sub hj) (by decide) (by decide) (mW_nd hj) rfl (Nat.le_of_ble_eq_true rfl) trivial (by decide) (by decide) ?_
    refine g_ifne_d (pc := 34) F dX4_put_34 (tgt := 40) rfl (fun c_34 => ?_) (fun c_34 => ?_)
    · have c34 : nI 0 ≤ i ∧ i ≤ nI n9 - nI 1 := by rw [en2] at c_34; exact c_34
      obtain ⟨q, hq, rfl⟩ := lt_ex (by omega) c34
      refine g_aload (pc := 40) F dX4_put_40 rfl ?_
      refine g_iload_n (pc := 42) F dX4_put_42 rfl ?_
      refine g_iload_n (pc := 43) F dX4_put_43 rfl ?_
      refine h_callV (pc := 44) F (c_sset (S j) _ v q rfl (by omega)) mi_X2_set kv_X4_258 rfl rfl dX4_put_44 [28 + 2 * j, 28 + 2 * j + 1] (mW_sub hj) (by decide) (by decide) (mW_nd hj) rfl (Nat.le_of_ble_eq_true rfl) (by decide) (by decide) ?_
      rintro _ _ ⟨rfl, rfl⟩ -
      rw [mW_place hj]
      refine g_iconst (pc := 47) F dX4_put_47 (v := nI 0) rfl ?_
      exact g_iret (pc := 48) F X0 dX4_put_48 (Nat.le_of_ble_eq_true rfl) (Nat.le_of_ble_eq_true rfl) rfl ⟨congrArg (fun z => some (Value.int z)) ((if_pos (hw.trans c_22)).trans (if_pos (show plP T (N (nI j)) (nI q) by rw [N_nI (by omega)]; exact (plP_iff en1).mpr c34))).symm, Y, _, g, h, rfl, (congrArg (RS _) (T_put_y hj (by omega) (hw.trans c_22) ((plP_iff en1).mpr c34) rfl)).mpr (RS_put hS hj (by omega) rfl)⟩
    · refine g_bipush (pc := 37) F dX4_put_37 (v := (-13 : Int32)) (by decide) ?_
      exact g_iret (pc := 39) F X0 dX4_put_39 (Nat.le_of_ble_eq_true rfl) (Nat.le_of_ble_eq_true rfl) rfl ⟨congrArg (fun z => some (Value.int z)) ((if_pos (hw.trans c_22)).trans (if_neg (show ¬ plP T (N (nI j)) i by rw [N_nI (by omega)]; exact (fun z => c_34 (by rw [en2]; exact (plP_iff en1).mp z))))).symm, Y, S, g, h, rfl, (congrArg (RS S) ((if_pos (hw.trans c_22)).trans (if_neg (show ¬ plP T (N (nI j)) i by rw [N_nI (by omega)]; exact (fun z => c_34 (by rw [en2]; exact (plP_iff en1).mp z)))))).mpr hS⟩
  · refine g_iload (pc := 25) F dX4_put_25 rfl ?_
    exact g_iret (pc := 27) F X0 dX4_put_27 (Nat.le_of_ble_eq_true rfl) (Nat.le_of_ble_eq_true rfl) rfl ⟨congrArg (fun z => some (Value.int z)) ((if_neg (fun z => c_22 (hw.symm.trans z))).trans hw).symm, Y, S, g, h, rfl, (congrArg (RS S) (if_neg (fun z => c_22 (hw.symm.trans z)))).mpr hS⟩

theorem c_put (b : Int32) (X Y Z : DX) (im : Int32) (S : Nat → SX) (g h : Nat → Int32) (r : Nat → Int32) (hR : Rel b X r) (hI : Iv r) (h4 : r 4 = nI 0) (T : TX) (hS : RS S T) (i v : Int32) (d : Int32) : Ctr yX4_put cX4_put 6 (some .int) 7 0 0 [.ref 0, .int d, .int i, .int v] (mW X Y Z im S g h) (SttS (.int (A_put T d i)) X Z im (T_put T d i v)) := by
  by_cases hd : shP d
  · obtain ⟨j, hj, e⟩ := sh_ex hd
    exact c_put_in b X Y Z im S g h r hR hI h4 T hS i v d j e hj
  · exact c_put_no b X Y Z im S g h r hR hI h4 T hS i v d hd

set_option maxRecDepth 100000 in
set_option maxHeartbeats 800000 in
theorem m_put (s m ig ws : Nat → Int32) (hg : Int32) (T : TX) (V : VX) (hI : Iv s) (hT : IT T) (d i v : Int32) : Ctr yX5_put cX5_put 5 (some .int) 7 0 0 [.ref 0, .int d, .int i, .int v] (rW s m ig ws hg T V) (SttR (.int (A_put T d i)) s ig hg (T_put T d i v)) := by
  refine Ctr.of rfl (Nat.le_of_ble_eq_true rfl) ⟨clS_of rfl, clH_of rfl⟩ (fun K F X0 => ?_)
  show Go K 0 0 0 [(0, .ref 0), (1, .int d), (2, .int i), (3, .int v)] [] (rW s m ig ws hg T V)
  refine g_aload_n (pc := 0) F dX5_put_0 rfl ?_
  refine g_iload_n (pc := 1) F dX5_put_1 rfl ?_
  refine g_iconst (pc := 2) F dX5_put_2 (v := (-1 : Int32)) (by decide) ?_
  refine i_readV (pc := 3) F (m_wrongRow s m ig ws hg T V _ _) mi_X5_wrongRow kv_X5_133 rfl rfl dX5_put_3 (by decide) (by decide) rfl (Nat.le_of_ble_eq_true rfl) (by decide) (by decide) ?_
  refine g_istore (pc := 6) F dX5_put_6 (by decide) ?_
  refine g_iload (pc := 8) F dX5_put_8 rfl ?_
  refine g_if_eq (pc := 10) F dX5_put_10 (tgt := 16) rfl (fun c_10 => ?_) (fun c_10 => ?_)
  · obtain ⟨hsh, -⟩ := wrong_0 c_10
    obtain ⟨j, hj, rfl⟩ := sh_ex hsh
    obtain ⟨n9, hn9, en1⟩ := hT j hj
    refine g_iload_n (pc := 16) F dX5_put_16 rfl ?_
    refine g_iconst (pc := 17) F dX5_put_17 (v := nI 0) rfl ?_
    refine g_aload_n (pc := 18) F dX5_put_18 rfl ?_
    refine g_getf (pc := 19) F fl_X5_37 dX5_put_19 rfl rfl ?_
    refine g_iload_n (pc := 22) F dX5_put_22 rfl ?_
    refine g_iald2 (pc := 23) F dX5_put_23 rfl rfl (by first | omega | (simp only [ix]; omega)) (by decide) ?_
    refine g_iconst (pc := 24) F dX5_put_24 (v := nI 1) rfl ?_
    refine g_isub (pc := 25) F dX5_put_25 ?_
    refine h_readS (pc := 26) F (c_isIn _ _ _) mi_X5_isIn ks_X5_43 dX5_put_26 [] rfl (by decide) (by decide) rfl rfl (Nat.le_of_ble_eq_true rfl) trivial (by decide) (by decide) ?_
    refine g_ifne_d (pc := 29) F dX5_put_29 (tgt := 35) rfl (fun c_29 => ?_) (fun c_29 => ?_)
    · have c29 := (plP_iff (T := T) (j := j) (i := i) en1).mp c_29
      obtain ⟨q, hq, rfl⟩ := lt_ex (by omega) c29
      refine g_aload_n (pc := 35) F dX5_put_35 rfl ?_
      refine g_getf (pc := 36) F fl_X5_40 dX5_put_36 rfl rfl ?_
      refine g_bipush (pc := 39) F dX5_put_39 (v := nI 100) rfl ?_
      refine g_iload_n (pc := 41) F dX5_put_41 rfl ?_
      refine g_imulN (pc := 42) F dX5_put_42 ?_
      refine g_iload_n (pc := 43) F dX5_put_43 rfl ?_
      refine g_iaddN (pc := 44) F dX5_put_44 ?_
      refine g_aload_n (pc := 45) F dX5_put_45 rfl ?_
      refine g_getf (pc := 46) F fl_X5_34 dX5_put_46 rfl rfl ?_
      refine g_iload_n (pc := 49) F dX5_put_49 rfl ?_
      refine g_iald2 (pc := 50) F dX5_put_50 rfl rfl (by first | omega | (simp only [ix]; omega)) (by decide) ?_
      refine g_if_ne (pc := 51) F dX5_put_51 (tgt := 59) rfl (fun c_51 => ?_) (fun c_51 => ?_)
      · refine g_aload_n (pc := 59) F dX5_put_59 rfl ?_
        refine g_getf (pc := 60) F fl_X5_34 dX5_put_60 rfl rfl ?_
        refine g_iload_n (pc := 63) F dX5_put_63 rfl ?_
        refine g_iald2 (pc := 64) F dX5_put_64 rfl rfl (by first | omega | (simp only [ix]; omega)) (by decide) ?_
        refine g_iconst (pc := 65) F dX5_put_65 (v := nI 1) rfl ?_
        refine g_ic_ne (pc := 66) F dX5_put_66 (tgt := 74) rfl (fun c_66 => ?_) (fun c_66 => ?_)
        · refine g_iload_n (pc := 74) F dX5_put_74 rfl ?_
          refine g_iast2 (pc := 75) F dX5_put_75 rfl rfl (by first | omega | (simp only [ix]; omega)) (by decide) ?_
          refine g_iconst (pc := 76) F dX5_put_76 (v := nI 0) rfl ?_
          exact g_iret (pc := 77) F X0 dX5_put_77 (Nat.le_of_ble_eq_true rfl) (Nat.le_of_ble_eq_true rfl) rfl (by first
      | exact ⟨congrArg (fun z => some (Value.int z)) ((if_pos c_10).trans (if_pos (show plP T (N (nI j)) (nI q) by rw [N_nI (by omega)]; exact (plP_iff en1).mpr c29))).symm, m, ws, V, (congrArg (fun z => rW s m ig ws hg z V) (T_put_y hj (by omega) c_10 ((plP_iff en1).mpr c29) (u := v.toInt8.toInt32) (by exact (if_pos c_51).symm))).symm⟩
      | exact ⟨congrArg (fun z => some (Value.int z)) ((if_pos c_10).trans (if_pos (show plP T (N (nI j)) (nI q) by rw [N_nI (by omega)]; exact (plP_iff en1).mpr c29))).symm, m, ws, V, (congrArg (fun z => rW s m ig ws hg z V) (T_put_y hj (by omega) c_10 ((plP_iff en1).mpr c29) (u := v.toInt16.toInt32) (by exact ((if_neg c_51).trans (if_pos c_66)).symm))).symm⟩
      | exact ⟨congrArg (fun z => some (Value.int z)) ((if_pos c_10).trans (if_pos (show plP T (N (nI j)) (nI q) by rw [N_nI (by omega)]; exact (plP_iff en1).mpr c29))).symm, m, ws, V, (congrArg (fun z => rW s m ig ws hg z V) (T_put_y hj (by omega) c_10 ((plP_iff en1).mpr c29) (u := v) (by exact ((if_neg c_51).trans (if_neg c_66)).symm))).symm⟩
      | fail)
        · refine g_iload_n (pc := 69) F dX5_put_69 rfl ?_
          refine g_i2s (pc := 70) F dX5_put_70 ?_
          refine g_goto (pc := 71) F dX5_put_71 (tgt := 75) rfl ?_
          refine g_iast2 (pc := 75) F dX5_put_75 rfl rfl (by first | omega | (simp only [ix]; omega)) (by decide) ?_
          refine g_iconst (pc := 76) F dX5_put_76 (v := nI 0) rfl ?_
          exact g_iret (pc := 77) F X0 dX5_put_77 (Nat.le_of_ble_eq_true rfl) (Nat.le_of_ble_eq_true rfl) rfl (by first
      | exact ⟨congrArg (fun z => some (Value.int z)) ((if_pos c_10).trans (if_pos (show plP T (N (nI j)) (nI q) by rw [N_nI (by omega)]; exact (plP_iff en1).mpr c29))).symm, m, ws, V, (congrArg (fun z => rW s m ig ws hg z V) (T_put_y hj (by omega) c_10 ((plP_iff en1).mpr c29) (u := v.toInt8.toInt32) (by exact (if_pos c_51).symm))).symm⟩
      | exact ⟨congrArg (fun z => some (Value.int z)) ((if_pos c_10).trans (if_pos (show plP T (N (nI j)) (nI q) by rw [N_nI (by omega)]; exact (plP_iff en1).mpr c29))).symm, m, ws, V, (congrArg (fun z => rW s m ig ws hg z V) (T_put_y hj (by omega) c_10 ((plP_iff en1).mpr c29) (u := v.toInt16.toInt32) (by exact ((if_neg c_51).trans (if_pos c_66)).symm))).symm⟩
      | exact ⟨congrArg (fun z => some (Value.int z)) ((if_pos c_10).trans (if_pos (show plP T (N (nI j)) (nI q) by rw [N_nI (by omega)]; exact (plP_iff en1).mpr c29))).symm, m, ws, V, (congrArg (fun z => rW s m ig ws hg z V) (T_put_y hj (by omega) c_10 ((plP_iff en1).mpr c29) (u := v) (by exact ((if_neg c_51).trans (if_neg c_66)).symm))).symm⟩
      | fail)
      · refine g_iload_n (pc := 54) F dX5_put_54 rfl ?_
        refine g_i2b (pc := 55) F dX5_put_55 ?_
        refine g_goto (pc := 56) F dX5_put_56 (tgt := 75) rfl ?_
        refine g_iast2 (pc := 75) F dX5_put_75 rfl rfl (by first | omega | (simp only [ix]; omega)) (by decide) ?_
        refine g_iconst (pc := 76) F dX5_put_76 (v := nI 0) rfl ?_
        exact g_iret (pc := 77) F X0 dX5_put_77 (Nat.le_of_ble_eq_true rfl) (Nat.le_of_ble_eq_true rfl) rfl (by first
      | exact ⟨congrArg (fun z => some (Value.int z)) ((if_pos c_10).trans (if_pos (show plP T (N (nI j)) (nI q) by rw [N_nI (by omega)]; exact (plP_iff en1).mpr c29))).symm, m, ws, V, (congrArg (fun z => rW s m ig ws hg z V) (T_put_y hj (by omega) c_10 ((plP_iff en1).mpr c29) (u := v.toInt8.toInt32) (by exact (if_pos c_51).symm))).symm⟩
      | exact ⟨congrArg (fun z => some (Value.int z)) ((if_pos c_10).trans (if_pos (show plP T (N (nI j)) (nI q) by rw [N_nI (by omega)]; exact (plP_iff en1).mpr c29))).symm, m, ws, V, (congrArg (fun z => rW s m ig ws hg z V) (T_put_y hj (by omega) c_10 ((plP_iff en1).mpr c29) (u := v.toInt16.toInt32) (by exact ((if_neg c_51).trans (if_pos c_66)).symm))).symm⟩
      | exact ⟨congrArg (fun z => some (Value.int z)) ((if_pos c_10).trans (if_pos (show plP T (N (nI j)) (nI q) by rw [N_nI (by omega)]; exact (plP_iff en1).mpr c29))).symm, m, ws, V, (congrArg (fun z => rW s m ig ws hg z V) (T_put_y hj (by omega) c_10 ((plP_iff en1).mpr c29) (u := v) (by exact ((if_neg c_51).trans (if_neg c_66)).symm))).symm⟩
      | fail)
    · refine g_bipush (pc := 32) F dX5_put_32 (v := (-13 : Int32)) (by decide) ?_
      exact g_iret (pc := 34) F X0 dX5_put_34 (Nat.le_of_ble_eq_true rfl) (Nat.le_of_ble_eq_true rfl) rfl ⟨congrArg (fun z => some (Value.int z)) ((if_pos c_10).trans (if_neg (show ¬ plP T (N (nI j)) i by rw [N_nI (by omega)]; exact c_29))).symm, m, ws, V, (congrArg (fun z => rW s m ig ws hg z V) ((if_pos c_10).trans (if_neg (show ¬ plP T (N (nI j)) i by rw [N_nI (by omega)]; exact c_29)))).symm⟩
  · refine g_iload (pc := 13) F dX5_put_13 rfl ?_
    exact g_iret (pc := 15) F X0 dX5_put_15 (Nat.le_of_ble_eq_true rfl) (Nat.le_of_ble_eq_true rfl) rfl ⟨congrArg (fun z => some (Value.int z)) (if_neg c_10).symm, m, ws, V, (congrArg (fun z => rW s m ig ws hg z V) (if_neg c_10)).symm⟩

def cstV (k f : Int32) : Int32 := if k = nI 1 then nI 4 + f else if k = nI 2 then nI 2 else if k = nI 3 then nI 3 else if k = nI 4 then nI 0 else if k = nI 5 then nI 2 + f else if k = nI 6 then nI 1 else nI 4
theorem cst_1 (f : Int32) : cstV (nI 1) f = nI 4 + f := by unfold cstV; rw [if_pos rfl]
theorem cst_2 (f : Int32) : cstV (nI 2) f = nI 2 := by unfold cstV; rw [if_neg (by decide), if_pos rfl]
theorem cst_3 (f : Int32) : cstV (nI 3) f = nI 3 := by unfold cstV; rw [if_neg (by decide), if_neg (by decide), if_pos rfl]
theorem cst_4 (f : Int32) : cstV (nI 4) f = nI 0 := by unfold cstV; rw [if_neg (by decide), if_neg (by decide), if_neg (by decide), if_pos rfl]
theorem cst_5 (f : Int32) : cstV (nI 5) f = nI 2 + f := by unfold cstV; rw [if_neg (by decide), if_neg (by decide), if_neg (by decide), if_neg (by decide), if_pos rfl]
theorem cst_6 (f : Int32) : cstV (nI 6) f = nI 1 := by unfold cstV; rw [if_neg (by decide), if_neg (by decide), if_neg (by decide), if_neg (by decide), if_neg (by decide), if_pos rfl]
theorem cst_o {k : Int32} (f : Int32) (h : k.toInt < (1 : Nat) ∨ ((6 : Nat) : Int) < k.toInt) : cstV k f = nI 4 := by
  unfold cstV
  rw [if_neg (sw_ne h (by decide) (by decide) (by decide)), if_neg (sw_ne h (by decide) (by decide) (by decide)), if_neg (sw_ne h (by decide) (by decide) (by decide)), if_neg (sw_ne h (by decide) (by decide) (by decide)), if_neg (sw_ne h (by decide) (by decide) (by decide)), if_neg (sw_ne h (by decide) (by decide) (by decide))]
set_option maxRecDepth 100000 in
set_option maxHeartbeats 800000 in
theorem c_costOf (k f : Int32) : RCtr yX1_costOf cX1_costOf 5 (some .int) 0 [.int k, .int f] ([]) (.int (cstV k f)) := by
  refine Ctr.of rfl (Nat.le_of_ble_eq_true rfl) ⟨clS_of rfl, clH_of rfl⟩ (fun K F X0 => ?_)
  show Go K 0 0 0 [(0, .int k), (1, .int f)] [] ([])
  refine g_iconst (pc := 0) F dX1_costOf_0 (v := nI 4) rfl ?_
  refine g_istore_n (pc := 1) F dX1_costOf_1 (by decide) ?_
  refine g_iconst (pc := 2) F dX1_costOf_2 (v := nI 2) rfl ?_
  refine g_istore_n (pc := 3) F dX1_costOf_3 (by decide) ?_
  refine g_iload_n (pc := 4) F dX1_costOf_4 rfl ?_
  refine g_iconst (pc := 5) F dX1_costOf_5 (v := nI 1) rfl ?_
  refine g_isubN (pc := 6) F dX1_costOf_6 (by decide) ?_
  refine g_istore (pc := 7) F dX1_costOf_7 (by decide) ?_
  refine g_iload_n (pc := 9) F dX1_costOf_9 rfl ?_
  rcases sw_cases 1 6 k (by decide) with ⟨j_10, j1_10, j2_10, hx_10⟩ | ho_10
  · rcases (show j_10 = 1 ∨ j_10 = 2 ∨ j_10 = 3 ∨ j_10 = 4 ∨ j_10 = 5 ∨ j_10 = 6 by omega) with rfl | rfl | rfl | rfl | rfl | rfl
    · refine g_tableIn2 (pc := 10) F dX1_costOf_10 hx_10 (by decide) (by decide) (tgt := 48) rfl rfl ?_
      refine g_iload_n (pc := 48) F dX1_costOf_48 rfl ?_
      refine g_iload_n (pc := 49) F dX1_costOf_49 rfl ?_
      refine g_iadd (pc := 50) F dX1_costOf_50 ?_
      exact g_iret (pc := 51) F X0 dX1_costOf_51 (Nat.le_of_ble_eq_true rfl) (Nat.le_of_ble_eq_true rfl) rfl ⟨congrArg (fun z => some (Value.int z)) (by first | exact (cst_o f ho_10).symm | (rw [hx_10]; first | exact (cst_1 f).symm | exact (cst_2 f).symm | exact (cst_3 f).symm | exact (cst_4 f).symm | exact (cst_5 f).symm | exact (cst_6 f).symm) | fail), rfl⟩
    · refine g_tableIn2 (pc := 10) F dX1_costOf_10 hx_10 (by decide) (by decide) (tgt := 52) rfl rfl ?_
      refine g_iload_n (pc := 52) F dX1_costOf_52 rfl ?_
      exact g_iret (pc := 53) F X0 dX1_costOf_53 (Nat.le_of_ble_eq_true rfl) (Nat.le_of_ble_eq_true rfl) rfl ⟨congrArg (fun z => some (Value.int z)) (by first | exact (cst_o f ho_10).symm | (rw [hx_10]; first | exact (cst_1 f).symm | exact (cst_2 f).symm | exact (cst_3 f).symm | exact (cst_4 f).symm | exact (cst_5 f).symm | exact (cst_6 f).symm) | fail), rfl⟩
    · refine g_tableIn2 (pc := 10) F dX1_costOf_10 hx_10 (by decide) (by decide) (tgt := 54) rfl rfl ?_
      refine g_iload (pc := 54) F dX1_costOf_54 rfl ?_
      exact g_iret (pc := 56) F X0 dX1_costOf_56 (Nat.le_of_ble_eq_true rfl) (Nat.le_of_ble_eq_true rfl) rfl ⟨congrArg (fun z => some (Value.int z)) (by first | exact (cst_o f ho_10).symm | (rw [hx_10]; first | exact (cst_1 f).symm | exact (cst_2 f).symm | exact (cst_3 f).symm | exact (cst_4 f).symm | exact (cst_5 f).symm | exact (cst_6 f).symm) | fail), rfl⟩
    · refine g_tableIn2 (pc := 10) F dX1_costOf_10 hx_10 (by decide) (by decide) (tgt := 57) rfl rfl ?_
      refine g_iconst (pc := 57) F dX1_costOf_57 (v := nI 0) rfl ?_
      exact g_iret (pc := 58) F X0 dX1_costOf_58 (Nat.le_of_ble_eq_true rfl) (Nat.le_of_ble_eq_true rfl) rfl ⟨congrArg (fun z => some (Value.int z)) (by first | exact (cst_o f ho_10).symm | (rw [hx_10]; first | exact (cst_1 f).symm | exact (cst_2 f).symm | exact (cst_3 f).symm | exact (cst_4 f).symm | exact (cst_5 f).symm | exact (cst_6 f).symm) | fail), rfl⟩
    · refine g_tableIn2 (pc := 10) F dX1_costOf_10 hx_10 (by decide) (by decide) (tgt := 59) rfl rfl ?_
      refine g_iload_n (pc := 59) F dX1_costOf_59 rfl ?_
      refine g_iload_n (pc := 60) F dX1_costOf_60 rfl ?_
      refine g_iadd (pc := 61) F dX1_costOf_61 ?_
      exact g_iret (pc := 62) F X0 dX1_costOf_62 (Nat.le_of_ble_eq_true rfl) (Nat.le_of_ble_eq_true rfl) rfl ⟨congrArg (fun z => some (Value.int z)) (by first | exact (cst_o f ho_10).symm | (rw [hx_10]; first | exact (cst_1 f).symm | exact (cst_2 f).symm | exact (cst_3 f).symm | exact (cst_4 f).symm | exact (cst_5 f).symm | exact (cst_6 f).symm) | fail), rfl⟩
    · refine g_tableIn2 (pc := 10) F dX1_costOf_10 hx_10 (by decide) (by decide) (tgt := 63) rfl rfl ?_
      refine g_iload (pc := 63) F dX1_costOf_63 rfl ?_
      refine g_iconst (pc := 65) F dX1_costOf_65 (v := nI 2) rfl ?_
      refine g_idivN (pc := 66) F dX1_costOf_66 (by omega) (by omega) (by omega) ?_
      exact g_iret (pc := 67) F X0 dX1_costOf_67 (Nat.le_of_ble_eq_true rfl) (Nat.le_of_ble_eq_true rfl) rfl ⟨congrArg (fun z => some (Value.int z)) (by first | exact (cst_o f ho_10).symm | (rw [hx_10]; first | exact (cst_1 f).symm | exact (cst_2 f).symm | exact (cst_3 f).symm | exact (cst_4 f).symm | exact (cst_5 f).symm | exact (cst_6 f).symm) | fail), rfl⟩
  · refine g_tableOut (pc := 10) F dX1_costOf_10 ho_10 (tgt := 68) rfl ?_
    refine g_iload_n (pc := 68) F dX1_costOf_68 rfl ?_
    exact g_iret (pc := 69) F X0 dX1_costOf_69 (Nat.le_of_ble_eq_true rfl) (Nat.le_of_ble_eq_true rfl) rfl ⟨congrArg (fun z => some (Value.int z)) (by first | exact (cst_o f ho_10).symm | (rw [hx_10]; first | exact (cst_1 f).symm | exact (cst_2 f).symm | exact (cst_3 f).symm | exact (cst_4 f).symm | exact (cst_5 f).symm | exact (cst_6 f).symm) | fail), rfl⟩

set_option maxRecDepth 100000 in
set_option maxHeartbeats 800000 in
theorem m_costBy (k f : Int32) : RCtr yX5_costBy cX5_costBy 2 (some .int) 0 [.int k, .int f] ([]) (.int (cstV k f)) := by
  refine Ctr.of rfl (Nat.le_of_ble_eq_true rfl) ⟨clS_of rfl, clH_of rfl⟩ (fun K F X0 => ?_)
  show Go K 0 0 0 [(0, .int k), (1, .int f)] [] ([])
  refine g_iload_n (pc := 0) F dX5_costBy_0 rfl ?_
  rcases sw_cases 1 6 k (by decide) with ⟨j_1, j1_1, j2_1, hx_1⟩ | ho_1
  · rcases (show j_1 = 1 ∨ j_1 = 2 ∨ j_1 = 3 ∨ j_1 = 4 ∨ j_1 = 5 ∨ j_1 = 6 by omega) with rfl | rfl | rfl | rfl | rfl | rfl
    · refine g_tableIn2 (pc := 1) F dX5_costBy_1 hx_1 (by decide) (by decide) (tgt := 40) rfl rfl ?_
      refine g_iconst (pc := 40) F dX5_costBy_40 (v := nI 4) rfl ?_
      refine g_iload_n (pc := 41) F dX5_costBy_41 rfl ?_
      refine g_iadd (pc := 42) F dX5_costBy_42 ?_
      exact g_iret (pc := 43) F X0 dX5_costBy_43 (Nat.le_of_ble_eq_true rfl) (Nat.le_of_ble_eq_true rfl) rfl ⟨congrArg (fun z => some (Value.int z)) (by first | exact (cst_o f ho_1).symm | (rw [hx_1]; first | exact (cst_1 f).symm | exact (cst_2 f).symm | exact (cst_3 f).symm | exact (cst_4 f).symm | exact (cst_5 f).symm | exact (cst_6 f).symm) | fail), rfl⟩
    · refine g_tableIn2 (pc := 1) F dX5_costBy_1 hx_1 (by decide) (by decide) (tgt := 44) rfl rfl ?_
      refine g_iconst (pc := 44) F dX5_costBy_44 (v := nI 2) rfl ?_
      exact g_iret (pc := 45) F X0 dX5_costBy_45 (Nat.le_of_ble_eq_true rfl) (Nat.le_of_ble_eq_true rfl) rfl ⟨congrArg (fun z => some (Value.int z)) (by first | exact (cst_o f ho_1).symm | (rw [hx_1]; first | exact (cst_1 f).symm | exact (cst_2 f).symm | exact (cst_3 f).symm | exact (cst_4 f).symm | exact (cst_5 f).symm | exact (cst_6 f).symm) | fail), rfl⟩
    · refine g_tableIn2 (pc := 1) F dX5_costBy_1 hx_1 (by decide) (by decide) (tgt := 46) rfl rfl ?_
      refine g_iconst (pc := 46) F dX5_costBy_46 (v := nI 3) rfl ?_
      exact g_iret (pc := 47) F X0 dX5_costBy_47 (Nat.le_of_ble_eq_true rfl) (Nat.le_of_ble_eq_true rfl) rfl ⟨congrArg (fun z => some (Value.int z)) (by first | exact (cst_o f ho_1).symm | (rw [hx_1]; first | exact (cst_1 f).symm | exact (cst_2 f).symm | exact (cst_3 f).symm | exact (cst_4 f).symm | exact (cst_5 f).symm | exact (cst_6 f).symm) | fail), rfl⟩
    · refine g_tableIn2 (pc := 1) F dX5_costBy_1 hx_1 (by decide) (by decide) (tgt := 48) rfl rfl ?_
      refine g_iconst (pc := 48) F dX5_costBy_48 (v := nI 0) rfl ?_
      exact g_iret (pc := 49) F X0 dX5_costBy_49 (Nat.le_of_ble_eq_true rfl) (Nat.le_of_ble_eq_true rfl) rfl ⟨congrArg (fun z => some (Value.int z)) (by first | exact (cst_o f ho_1).symm | (rw [hx_1]; first | exact (cst_1 f).symm | exact (cst_2 f).symm | exact (cst_3 f).symm | exact (cst_4 f).symm | exact (cst_5 f).symm | exact (cst_6 f).symm) | fail), rfl⟩
    · refine g_tableIn2 (pc := 1) F dX5_costBy_1 hx_1 (by decide) (by decide) (tgt := 50) rfl rfl ?_
      refine g_iconst (pc := 50) F dX5_costBy_50 (v := nI 2) rfl ?_
      refine g_iload_n (pc := 51) F dX5_costBy_51 rfl ?_
      refine g_iadd (pc := 52) F dX5_costBy_52 ?_
      exact g_iret (pc := 53) F X0 dX5_costBy_53 (Nat.le_of_ble_eq_true rfl) (Nat.le_of_ble_eq_true rfl) rfl ⟨congrArg (fun z => some (Value.int z)) (by first | exact (cst_o f ho_1).symm | (rw [hx_1]; first | exact (cst_1 f).symm | exact (cst_2 f).symm | exact (cst_3 f).symm | exact (cst_4 f).symm | exact (cst_5 f).symm | exact (cst_6 f).symm) | fail), rfl⟩
    · refine g_tableIn2 (pc := 1) F dX5_costBy_1 hx_1 (by decide) (by decide) (tgt := 54) rfl rfl ?_
      refine g_iconst (pc := 54) F dX5_costBy_54 (v := nI 1) rfl ?_
      exact g_iret (pc := 55) F X0 dX5_costBy_55 (Nat.le_of_ble_eq_true rfl) (Nat.le_of_ble_eq_true rfl) rfl ⟨congrArg (fun z => some (Value.int z)) (by first | exact (cst_o f ho_1).symm | (rw [hx_1]; first | exact (cst_1 f).symm | exact (cst_2 f).symm | exact (cst_3 f).symm | exact (cst_4 f).symm | exact (cst_5 f).symm | exact (cst_6 f).symm) | fail), rfl⟩
  · refine g_tableOut (pc := 1) F dX5_costBy_1 ho_1 (tgt := 56) rfl ?_
    refine g_iconst (pc := 56) F dX5_costBy_56 (v := nI 4) rfl ?_
    exact g_iret (pc := 57) F X0 dX5_costBy_57 (Nat.le_of_ble_eq_true rfl) (Nat.le_of_ble_eq_true rfl) rfl ⟨congrArg (fun z => some (Value.int z)) (by first | exact (cst_o f ho_1).symm | (rw [hx_1]; first | exact (cst_1 f).symm | exact (cst_2 f).symm | exact (cst_3 f).symm | exact (cst_4 f).symm | exact (cst_5 f).symm | exact (cst_6 f).symm) | fail), rfl⟩

abbrev failP (k f : Int32) : Prop := ¬ f = 0 ∧ ¬ k = nI 3 ∧ ¬ k = nI 6
def failV (k f : Int32) : Int32 := if k = nI 2 then nI 100 + f else if k = nI 5 then nI 200 + cstV k f else f
set_option maxRecDepth 100000 in
set_option maxHeartbeats 800000 in
theorem c_hasFailure (k f : Int32) : RCtr yX1_hasFailure cX1_hasFailure 2 (some .boolean) 0 [.int k, .int f] ([]) (.int (bI (decide (failP k f)))) := by
  refine Ctr.of rfl (Nat.le_of_ble_eq_true rfl) ⟨clS_of rfl, clH_of rfl⟩ (fun K F X0 => ?_)
  show Go K 0 0 0 [(0, .int k), (1, .int f)] [] ([])
  refine g_iload_n (pc := 0) F dX1_hasFailure_0 rfl ?_
  refine g_if_eq (pc := 1) F dX1_hasFailure_1 (tgt := 19) rfl (fun c_1 => ?_) (fun c_1 => ?_)
  · refine g_iconst (pc := 19) F dX1_hasFailure_19 (v := nI 0) rfl ?_
    exact g_zret (pc := 20) F X0 dX1_hasFailure_20 (by first | exact bI_nar _ | rfl) (Nat.le_of_ble_eq_true rfl) (Nat.le_of_ble_eq_true rfl) rfl ⟨congrArg (fun z => some (Value.int z)) (by first | (rw [decide_eq_true (show failP k f from ⟨c_1, c_6, c_12⟩)]; rfl) | (rw [decide_eq_false (by first | exact (fun z => z.1 c_1) | exact (fun z => z.2.1 c_6) | exact (fun z => z.2.2 c_12))]; rfl) | fail), rfl⟩
  · refine g_iload_n (pc := 4) F dX1_hasFailure_4 rfl ?_
    refine g_iconst (pc := 5) F dX1_hasFailure_5 (v := nI 3) rfl ?_
    refine g_ic_eq (pc := 6) F dX1_hasFailure_6 (tgt := 19) rfl (fun c_6 => ?_) (fun c_6 => ?_)
    · refine g_iconst (pc := 19) F dX1_hasFailure_19 (v := nI 0) rfl ?_
      exact g_zret (pc := 20) F X0 dX1_hasFailure_20 (by first | exact bI_nar _ | rfl) (Nat.le_of_ble_eq_true rfl) (Nat.le_of_ble_eq_true rfl) rfl ⟨congrArg (fun z => some (Value.int z)) (by first | (rw [decide_eq_true (show failP k f from ⟨c_1, c_6, c_12⟩)]; rfl) | (rw [decide_eq_false (by first | exact (fun z => z.1 c_1) | exact (fun z => z.2.1 c_6) | exact (fun z => z.2.2 c_12))]; rfl) | fail), rfl⟩
    · refine g_iload_n (pc := 9) F dX1_hasFailure_9 rfl ?_
      refine g_bipush (pc := 10) F dX1_hasFailure_10 (v := nI 6) rfl ?_
      refine g_ic_eq (pc := 12) F dX1_hasFailure_12 (tgt := 19) rfl (fun c_12 => ?_) (fun c_12 => ?_)
      · refine g_iconst (pc := 19) F dX1_hasFailure_19 (v := nI 0) rfl ?_
        exact g_zret (pc := 20) F X0 dX1_hasFailure_20 (by first | exact bI_nar _ | rfl) (Nat.le_of_ble_eq_true rfl) (Nat.le_of_ble_eq_true rfl) rfl ⟨congrArg (fun z => some (Value.int z)) (by first | (rw [decide_eq_true (show failP k f from ⟨c_1, c_6, c_12⟩)]; rfl) | (rw [decide_eq_false (by first | exact (fun z => z.1 c_1) | exact (fun z => z.2.1 c_6) | exact (fun z => z.2.2 c_12))]; rfl) | fail), rfl⟩
      · refine g_iconst (pc := 15) F dX1_hasFailure_15 (v := nI 1) rfl ?_
        refine g_goto (pc := 16) F dX1_hasFailure_16 (tgt := 20) rfl ?_
        exact g_zret (pc := 20) F X0 dX1_hasFailure_20 (by first | exact bI_nar _ | rfl) (Nat.le_of_ble_eq_true rfl) (Nat.le_of_ble_eq_true rfl) rfl ⟨congrArg (fun z => some (Value.int z)) (by first | (rw [decide_eq_true (show failP k f from ⟨c_1, c_6, c_12⟩)]; rfl) | (rw [decide_eq_false (by first | exact (fun z => z.1 c_1) | exact (fun z => z.2.1 c_6) | exact (fun z => z.2.2 c_12))]; rfl) | fail), rfl⟩

theorem g_lookIn {K : Cx} {own : String} {cc : ByteArray} {nL fr mc ms k n pc : Nat} {ls : List (Nat × Value)} {st : List Value} {hp : Hp} (F : Fx K own cc nL fr mc ms) {dflt : Int} {ps : Array (Int × Int)} {len j : Nat} {x : Int32} {off : Int} {tgt : Nat} (d : decode cc pc = .ok (.lookupswitch dflt ps, len)) (hs : (ps.toList.zip (ps.toList.drop 1)).all (fun (a, next) => a.1 < next.1) = true) (hx : x = nI j) (hj : j < 2 ^ 31) (ho : Op.lookupswitch.offset ps.toList dflt (j : Int) = off) (ht : (pc : Int) + off = (tgt : Int)) (kk : Go K k n tgt ls st hp) : Go K k n pc ls (.int x :: st) hp := by
  subst hx
  exact g_lookup F d hs (by rw [ti_n j (by omega)]; exact ho) ht kk
theorem g_lookOut {K : Cx} {own : String} {cc : ByteArray} {nL fr mc ms k n pc : Nat} {ls : List (Nat × Value)} {st : List Value} {hp : Hp} (F : Fx K own cc nL fr mc ms) {dflt : Int} {ps : Array (Int × Int)} {len : Nat} {x : Int32} {tgt : Nat} (d : decode cc pc = .ok (.lookupswitch dflt ps, len)) (hs : (ps.toList.zip (ps.toList.drop 1)).all (fun (a, next) => a.1 < next.1) = true) (hn : ∀ q ∈ ps.toList, ∃ j : Nat, q.1 = (j : Int) ∧ j < 2 ^ 31 ∧ ¬ x = nI j) (ht : (pc : Int) + dflt = (tgt : Int)) (kk : Go K k n tgt ls st hp) : Go K k n pc ls (.int x :: st) hp := by
  refine g_lookup F d hs (Op.lookupswitch.offset_none (List.find?_eq_none.mpr (fun q hq => ?_))) ht kk
  obtain ⟨j, e, hj, h⟩ := hn q hq
  intro z
  have z2 : q.1 = x.toInt := by simpa using z
  exact h ((ti_eq _ _).mpr (by rw [ti_n j (by omega), ← e, z2]))
set_option maxRecDepth 100000 in
set_option maxHeartbeats 800000 in
theorem c_failureOf (k f : Int32) : RCtr yX1_failureOf cX1_failureOf 2 (some .int) 1 [.int k, .int f] ([]) (.int (failV k f)) := by
  refine Ctr.of rfl (Nat.le_of_ble_eq_true rfl) ⟨clS_of rfl, clH_of rfl⟩ (fun K F X0 => ?_)
  show Go K 0 0 0 [(0, .int k), (1, .int f)] [] ([])
  refine g_iload_n (pc := 0) F dX1_failureOf_0 rfl ?_
  by_cases q2 : k = nI 2
  · refine g_lookIn (pc := 1) F dX1_failureOf_1 (by decide) q2 (by decide) (off := 27) (by decide) (tgt := 28) rfl ?_
    refine g_bipush (pc := 28) F dX1_failureOf_28 (v := nI 100) rfl ?_
    refine g_iload_n (pc := 30) F dX1_failureOf_30 rfl ?_
    refine g_iadd (pc := 31) F dX1_failureOf_31 ?_
    exact g_iret (pc := 32) F X0 dX1_failureOf_32 (Nat.le_of_ble_eq_true rfl) (Nat.le_of_ble_eq_true rfl) rfl ⟨congrArg (fun z => some (Value.int z)) (by exact (if_pos q2).symm), rfl⟩
  by_cases q5 : k = nI 5
  · refine g_lookIn (pc := 1) F dX1_failureOf_1 (by decide) q5 (by decide) (off := 32) (by decide) (tgt := 33) rfl ?_
    refine g_sipush (pc := 33) F dX1_failureOf_33 (v := nI 200) rfl ?_
    refine g_iload_n (pc := 36) F dX1_failureOf_36 rfl ?_
    refine g_iload_n (pc := 37) F dX1_failureOf_37 rfl ?_
    refine h_readS (pc := 38) F (c_costOf _ _) mi_X1_costOf ks_X1_18 dX1_failureOf_38 [] rfl (by decide) (by decide) rfl rfl (Nat.le_of_ble_eq_true rfl) trivial (by decide) (by decide) ?_
    refine g_iadd (pc := 41) F dX1_failureOf_41 ?_
    exact g_iret (pc := 42) F X0 dX1_failureOf_42 (Nat.le_of_ble_eq_true rfl) (Nat.le_of_ble_eq_true rfl) rfl ⟨congrArg (fun z => some (Value.int z)) (by exact ((if_neg q2).trans (if_pos q5)).symm), rfl⟩
  refine g_lookOut (pc := 1) F dX1_failureOf_1 (by decide) ?_ (tgt := 43) rfl ?_
  · intro q hq
    rcases List.mem_cons.mp hq with rfl | hq
    · exact ⟨2, rfl, by decide, q2⟩
    rcases List.mem_cons.mp hq with rfl | hq
    · exact ⟨5, rfl, by decide, q5⟩
    exact absurd hq List.not_mem_nil
  refine g_iload_n (pc := 43) F dX1_failureOf_43 rfl ?_
  exact g_iret (pc := 44) F X0 dX1_failureOf_44 (Nat.le_of_ble_eq_true rfl) (Nat.le_of_ble_eq_true rfl) rfl ⟨congrArg (fun z => some (Value.int z)) (by exact ((if_neg q2).trans (if_neg q5)).symm), rfl⟩

def A_cost (T : TX) (d : Int32) : Int32 := if wrongK T d = 0 then cstV (tK T (N d)) (tF T (N d)) else wrongK T d
def A_toss (T : TX) (d : Int32) : Int32 := if wrongK T d = 0 then (if failP (tK T (N d)) (tF T (N d)) then failV (tK T (N d)) (tF T (N d)) else (-15)) else wrongK T d
set_option maxRecDepth 100000 in
set_option maxHeartbeats 800000 in
theorem c_cost_no (b : Int32) (X Y Z : DX) (im : Int32) (S : Nat → SX) (g h : Nat → Int32) (r : Nat → Int32) (hR : Rel b X r) (hI : Iv r) (h4 : r 4 = nI 0) (T : TX) (hS : RS S T) (d : Int32) (hd : ¬ shP d) : Ctr yX4_cost cX4_cost 4 (some .int) 7 0 0 [.ref 0, .int d] (mW X Y Z im S g h) (SttS (.int (A_cost T d)) X Z im T) := by
  refine Ctr.of rfl (Nat.le_of_ble_eq_true rfl) ⟨clS_of rfl, mW_cl _ _ _ _ _ _ _⟩ (fun K F X0 => ?_)
  show Go K 0 0 0 [(0, .ref 0), (1, .int d)] [] (mW X Y Z im S g h)
  refine g_aload_n (pc := 0) F dX4_cost_0 rfl ?_
  refine g_iload_n (pc := 1) F dX4_cost_1 rfl ?_
  refine i_readV (pc := 2) F (c_shelfNone X Y Z im S g h _ hd) mi_X4_shelfOrNull kv_X4_40 rfl rfl dX4_cost_2 (by decide) (by decide) rfl (Nat.le_of_ble_eq_true rfl) (by decide) (by decide) ?_
  refine g_astore_nN (pc := 5) F dX4_cost_5 (by decide) ?_
  refine g_aload_nN (pc := 6) F dX4_cost_6 rfl ?_
  refine g_iconst (pc := 7) F dX4_cost_7 (v := nI 1) rfl ?_
  refine h_readS (pc := 8) F (c_refusalN _) mi_X4_refusalUnless ks_X4_133 dX4_cost_8 [] rfl (by decide) (by decide) rfl rfl (Nat.le_of_ble_eq_true rfl) trivial (by decide) (by decide) ?_
  refine g_istore_n (pc := 11) F dX4_cost_11 (by decide) ?_
  refine g_aload_nN (pc := 12) F dX4_cost_12 rfl ?_
  refine g_ifnullN (pc := 13) F dX4_cost_13 (tgt := 20) rfl ?_
  refine g_iload_n (pc := 20) F dX4_cost_20 rfl ?_
  exact g_iret (pc := 21) F X0 dX4_cost_21 (Nat.le_of_ble_eq_true rfl) (Nat.le_of_ble_eq_true rfl) rfl ⟨congrArg (fun z => some (Value.int z)) ((if_neg (fun z => absurd ((wrongK_no hd).symm.trans z) (by decide))).trans (wrongK_no hd)).symm, Y, S, g, h, rfl, hS⟩

set_option maxRecDepth 100000 in
set_option maxHeartbeats 800000 in
theorem c_cost_in (b : Int32) (X Y Z : DX) (im : Int32) (S : Nat → SX) (g h : Nat → Int32) (r : Nat → Int32) (hR : Rel b X r) (hI : Iv r) (h4 : r 4 = nI 0) (T : TX) (hS : RS S T) (d : Int32) (j : Nat) (hd : d = nI j) (hj : j < 8) : Ctr yX4_cost cX4_cost 4 (some .int) 7 0 0 [.ref 0, .int d] (mW X Y Z im S g h) (SttS (.int (A_cost T d)) X Z im T) := by
  subst hd
  have hw := wrongK_in hS hj
  refine Ctr.of rfl (Nat.le_of_ble_eq_true rfl) ⟨clS_of rfl, mW_cl _ _ _ _ _ _ _⟩ (fun K F X0 => ?_)
  show Go K 0 0 0 [(0, .ref 0), (1, .int (nI j))] [] (mW X Y Z im S g h)
  refine g_aload_n (pc := 0) F dX4_cost_0 rfl ?_
  refine g_iload_n (pc := 1) F dX4_cost_1 rfl ?_
  refine i_readV (pc := 2) F (c_shelfSome X Y Z im S g h _ j rfl hj) mi_X4_shelfOrNull kv_X4_40 rfl rfl dX4_cost_2 (by decide) (by decide) rfl (Nat.le_of_ble_eq_true rfl) (by decide) (by decide) ?_
  refine g_astore_n (pc := 5) F dX4_cost_5 (by decide) ?_
  refine g_aload_n (pc := 6) F dX4_cost_6 rfl ?_
  refine g_iconst (pc := 7) F dX4_cost_7 (v := nI 1) rfl ?_
  refine h_readS (pc := 8) F (c_refusal (S j) _) mi_X4_refusalUnless ks_X4_133 dX4_cost_8 [28 + 2 * j, 28 + 2 * j + 1] (mW_sub hj) (by decide) (by decide) (mW_nd hj) rfl (Nat.le_of_ble_eq_true rfl) trivial (by decide) (by decide) ?_
  refine g_istore_n (pc := 11) F dX4_cost_11 (by decide) ?_
  refine g_aload_n (pc := 12) F dX4_cost_12 rfl ?_
  refine g_ifnull (pc := 13) F dX4_cost_13 ?_
  refine g_iload_n (pc := 16) F dX4_cost_16 rfl ?_
  refine g_if_eq (pc := 17) F dX4_cost_17 (tgt := 22) rfl (fun c_17 => ?_) (fun c_17 => ?_)
  · obtain ⟨⟨eK, eF⟩, -, -⟩ := (hS j hj).2.1 ((hS j hj).1.1.symm.trans (refU_0 c_17))
    refine g_aload_n (pc := 22) F dX4_cost_22 rfl ?_
    refine g_getf (pc := 23) F fl_X4_140 dX4_cost_23 (mW_sh hj) rfl ?_
    refine g_aload_n (pc := 26) F dX4_cost_26 rfl ?_
    refine g_getf (pc := 27) F fl_X4_142 dX4_cost_27 (mW_sh hj) rfl ?_
    refine h_readS (pc := 30) F (c_costOf _ _) mi_X1_costOf ks_X4_282 dX4_cost_30 [] rfl (by decide) (by decide) rfl rfl (Nat.le_of_ble_eq_true rfl) trivial (by decide) (by decide) ?_
    exact g_iret (pc := 33) F X0 dX4_cost_33 (Nat.le_of_ble_eq_true rfl) (Nat.le_of_ble_eq_true rfl) rfl ⟨congrArg (fun z => some (Value.int z)) ((if_pos (hw.trans c_17)).trans (by rw [N_nI (by omega), eK, eF])).symm, Y, S, g, h, rfl, hS⟩
  · refine g_iload_n (pc := 20) F dX4_cost_20 rfl ?_
    exact g_iret (pc := 21) F X0 dX4_cost_21 (Nat.le_of_ble_eq_true rfl) (Nat.le_of_ble_eq_true rfl) rfl ⟨congrArg (fun z => some (Value.int z)) ((if_neg (fun z => c_17 (hw.symm.trans z))).trans hw).symm, Y, S, g, h, rfl, hS⟩

theorem c_cost (b : Int32) (X Y Z : DX) (im : Int32) (S : Nat → SX) (g h : Nat → Int32) (r : Nat → Int32) (hR : Rel b X r) (hI : Iv r) (h4 : r 4 = nI 0) (T : TX) (hS : RS S T) (d : Int32) : Ctr yX4_cost cX4_cost 4 (some .int) 7 0 0 [.ref 0, .int d] (mW X Y Z im S g h) (SttS (.int (A_cost T d)) X Z im T) := by
  by_cases hd : shP d
  · obtain ⟨j, hj, e⟩ := sh_ex hd
    exact c_cost_in b X Y Z im S g h r hR hI h4 T hS d j e hj
  · exact c_cost_no b X Y Z im S g h r hR hI h4 T hS d hd

set_option maxRecDepth 100000 in
set_option maxHeartbeats 800000 in
theorem c_toss_no (b : Int32) (X Y Z : DX) (im : Int32) (S : Nat → SX) (g h : Nat → Int32) (r : Nat → Int32) (hR : Rel b X r) (hI : Iv r) (h4 : r 4 = nI 0) (T : TX) (hS : RS S T) (d : Int32) (hd : ¬ shP d) : Ctr yX4_toss cX4_toss 4 (some .int) 7 0 0 [.ref 0, .int d] (mW X Y Z im S g h) (SttS (.int (A_toss T d)) X Z im T) := by
  refine Ctr.of rfl (Nat.le_of_ble_eq_true rfl) ⟨clS_of rfl, mW_cl _ _ _ _ _ _ _⟩ (fun K F X0 => ?_)
  show Go K 0 0 0 [(0, .ref 0), (1, .int d)] [] (mW X Y Z im S g h)
  refine g_aload_n (pc := 0) F dX4_toss_0 rfl ?_
  refine g_iload_n (pc := 1) F dX4_toss_1 rfl ?_
  refine i_readV (pc := 2) F (c_shelfNone X Y Z im S g h _ hd) mi_X4_shelfOrNull kv_X4_40 rfl rfl dX4_toss_2 (by decide) (by decide) rfl (Nat.le_of_ble_eq_true rfl) (by decide) (by decide) ?_
  refine g_astore_nN (pc := 5) F dX4_toss_5 (by decide) ?_
  refine g_aload_nN (pc := 6) F dX4_toss_6 rfl ?_
  refine g_iconst (pc := 7) F dX4_toss_7 (v := nI 1) rfl ?_
  refine h_readS (pc := 8) F (c_refusalN _) mi_X4_refusalUnless ks_X4_133 dX4_toss_8 [] rfl (by decide) (by decide) rfl rfl (Nat.le_of_ble_eq_true rfl) trivial (by decide) (by decide) ?_
  refine g_istore_n (pc := 11) F dX4_toss_11 (by decide) ?_
  refine g_aload_nN (pc := 12) F dX4_toss_12 rfl ?_
  refine g_ifnullN (pc := 13) F dX4_toss_13 (tgt := 20) rfl ?_
  refine g_iload_n (pc := 20) F dX4_toss_20 rfl ?_
  exact g_iret (pc := 21) F X0 dX4_toss_21 (Nat.le_of_ble_eq_true rfl) (Nat.le_of_ble_eq_true rfl) rfl ⟨congrArg (fun z => some (Value.int z)) ((if_neg (fun z => absurd ((wrongK_no hd).symm.trans z) (by decide))).trans (wrongK_no hd)).symm, Y, S, g, h, rfl, hS⟩

set_option maxRecDepth 100000 in
set_option maxHeartbeats 800000 in
theorem c_toss_in (b : Int32) (X Y Z : DX) (im : Int32) (S : Nat → SX) (g h : Nat → Int32) (r : Nat → Int32) (hR : Rel b X r) (hI : Iv r) (h4 : r 4 = nI 0) (T : TX) (hS : RS S T) (d : Int32) (j : Nat) (hd : d = nI j) (hj : j < 8) : Ctr yX4_toss cX4_toss 4 (some .int) 7 0 0 [.ref 0, .int d] (mW X Y Z im S g h) (SttS (.int (A_toss T d)) X Z im T) := by
  subst hd
  have hw := wrongK_in hS hj
  refine Ctr.of rfl (Nat.le_of_ble_eq_true rfl) ⟨clS_of rfl, mW_cl _ _ _ _ _ _ _⟩ (fun K F X0 => ?_)
  show Go K 0 0 0 [(0, .ref 0), (1, .int (nI j))] [] (mW X Y Z im S g h)
  refine g_aload_n (pc := 0) F dX4_toss_0 rfl ?_
  refine g_iload_n (pc := 1) F dX4_toss_1 rfl ?_
  refine i_readV (pc := 2) F (c_shelfSome X Y Z im S g h _ j rfl hj) mi_X4_shelfOrNull kv_X4_40 rfl rfl dX4_toss_2 (by decide) (by decide) rfl (Nat.le_of_ble_eq_true rfl) (by decide) (by decide) ?_
  refine g_astore_n (pc := 5) F dX4_toss_5 (by decide) ?_
  refine g_aload_n (pc := 6) F dX4_toss_6 rfl ?_
  refine g_iconst (pc := 7) F dX4_toss_7 (v := nI 1) rfl ?_
  refine h_readS (pc := 8) F (c_refusal (S j) _) mi_X4_refusalUnless ks_X4_133 dX4_toss_8 [28 + 2 * j, 28 + 2 * j + 1] (mW_sub hj) (by decide) (by decide) (mW_nd hj) rfl (Nat.le_of_ble_eq_true rfl) trivial (by decide) (by decide) ?_
  refine g_istore_n (pc := 11) F dX4_toss_11 (by decide) ?_
  refine g_aload_n (pc := 12) F dX4_toss_12 rfl ?_
  refine g_ifnull (pc := 13) F dX4_toss_13 ?_
  refine g_iload_n (pc := 16) F dX4_toss_16 rfl ?_
  refine g_if_eq (pc := 17) F dX4_toss_17 (tgt := 22) rfl (fun c_17 => ?_) (fun c_17 => ?_)
  · obtain ⟨⟨eK, eF⟩, -, -⟩ := (hS j hj).2.1 ((hS j hj).1.1.symm.trans (refU_0 c_17))
    refine g_aload_n (pc := 22) F dX4_toss_22 rfl ?_
    refine g_getf (pc := 23) F fl_X4_140 dX4_toss_23 (mW_sh hj) rfl ?_
    refine g_aload_n (pc := 26) F dX4_toss_26 rfl ?_
    refine g_getf (pc := 27) F fl_X4_142 dX4_toss_27 (mW_sh hj) rfl ?_
    refine h_readS (pc := 30) F (c_hasFailure _ _) mi_X1_hasFailure ks_X4_285 dX4_toss_30 [] rfl (by decide) (by decide) rfl rfl (Nat.le_of_ble_eq_true rfl) trivial (by decide) (by decide) ?_
    refine g_ifne_d (pc := 33) F dX4_toss_33 (tgt := 39) rfl (fun c_33 => ?_) (fun c_33 => ?_)
    · refine g_aload_n (pc := 39) F dX4_toss_39 rfl ?_
      refine g_getf (pc := 40) F fl_X4_140 dX4_toss_40 (mW_sh hj) rfl ?_
      refine g_aload_n (pc := 43) F dX4_toss_43 rfl ?_
      refine g_getf (pc := 44) F fl_X4_142 dX4_toss_44 (mW_sh hj) rfl ?_
      refine h_readS (pc := 47) F (c_failureOf _ _) mi_X1_failureOf ks_X4_288 dX4_toss_47 [] rfl (by decide) (by decide) rfl rfl (Nat.le_of_ble_eq_true rfl) trivial (by decide) (by decide) ?_
      exact g_iret (pc := 50) F X0 dX4_toss_50 (Nat.le_of_ble_eq_true rfl) (Nat.le_of_ble_eq_true rfl) rfl ⟨congrArg (fun z => some (Value.int z)) ((if_pos (hw.trans c_17)).trans ((if_pos (show failP (tK T (N (nI j))) (tF T (N (nI j))) by rw [N_nI (by omega), ← eK, ← eF]; exact c_33)).trans (by rw [N_nI (by omega), eK, eF]))).symm, Y, S, g, h, rfl, hS⟩
    · refine g_bipush (pc := 36) F dX4_toss_36 (v := (-15 : Int32)) (by decide) ?_
      exact g_iret (pc := 38) F X0 dX4_toss_38 (Nat.le_of_ble_eq_true rfl) (Nat.le_of_ble_eq_true rfl) rfl ⟨congrArg (fun z => some (Value.int z)) ((if_pos (hw.trans c_17)).trans (if_neg (show ¬ failP (tK T (N (nI j))) (tF T (N (nI j))) by rw [N_nI (by omega), ← eK, ← eF]; exact c_33))).symm, Y, S, g, h, rfl, hS⟩
  · refine g_iload_n (pc := 20) F dX4_toss_20 rfl ?_
    exact g_iret (pc := 21) F X0 dX4_toss_21 (Nat.le_of_ble_eq_true rfl) (Nat.le_of_ble_eq_true rfl) rfl ⟨congrArg (fun z => some (Value.int z)) ((if_neg (fun z => c_17 (hw.symm.trans z))).trans hw).symm, Y, S, g, h, rfl, hS⟩

theorem c_toss (b : Int32) (X Y Z : DX) (im : Int32) (S : Nat → SX) (g h : Nat → Int32) (r : Nat → Int32) (hR : Rel b X r) (hI : Iv r) (h4 : r 4 = nI 0) (T : TX) (hS : RS S T) (d : Int32) : Ctr yX4_toss cX4_toss 4 (some .int) 7 0 0 [.ref 0, .int d] (mW X Y Z im S g h) (SttS (.int (A_toss T d)) X Z im T) := by
  by_cases hd : shP d
  · obtain ⟨j, hj, e⟩ := sh_ex hd
    exact c_toss_in b X Y Z im S g h r hR hI h4 T hS d j e hj
  · exact c_toss_no b X Y Z im S g h r hR hI h4 T hS d hd

set_option maxRecDepth 100000 in
set_option maxHeartbeats 800000 in
theorem m_cost (s m ig ws : Nat → Int32) (hg : Int32) (T : TX) (V : VX) (hI : Iv s) (d : Int32) : Ctr yX5_cost cX5_cost 3 (some .int) 7 0 0 [.ref 0, .int d] (rW s m ig ws hg T V) (LookR (.int (A_cost T d)) s ig ws hg T) := by
  refine Ctr.of rfl (Nat.le_of_ble_eq_true rfl) ⟨clS_of rfl, clH_of rfl⟩ (fun K F X0 => ?_)
  show Go K 0 0 0 [(0, .ref 0), (1, .int d)] [] (rW s m ig ws hg T V)
  refine g_aload_n (pc := 0) F dX5_cost_0 rfl ?_
  refine g_iload_n (pc := 1) F dX5_cost_1 rfl ?_
  refine i_readV (pc := 2) F (m_wrongKept s m ig ws hg T V _) mi_X5_wrongKept kv_X5_147 rfl rfl dX5_cost_2 (by decide) (by decide) rfl (Nat.le_of_ble_eq_true rfl) (by decide) (by decide) ?_
  refine g_istore_n (pc := 5) F dX5_cost_5 (by decide) ?_
  refine g_iload_n (pc := 6) F dX5_cost_6 rfl ?_
  refine g_if_eq (pc := 7) F dX5_cost_7 (tgt := 14) rfl (fun c_7 => ?_) (fun c_7 => ?_)
  · have hsh := wrongK_0 c_7
    obtain ⟨j, hj, rfl⟩ := sh_ex hsh
    refine g_aload_n (pc := 14) F dX5_cost_14 rfl ?_
    refine g_getf (pc := 15) F fl_X5_28 dX5_cost_15 rfl rfl ?_
    refine g_iload_n (pc := 18) F dX5_cost_18 rfl ?_
    refine g_iald2 (pc := 19) F dX5_cost_19 rfl rfl (by first | omega | (simp only [ix]; omega)) (by decide) ?_
    refine g_aload_n (pc := 20) F dX5_cost_20 rfl ?_
    refine g_getf (pc := 21) F fl_X5_31 dX5_cost_21 rfl rfl ?_
    refine g_iload_n (pc := 24) F dX5_cost_24 rfl ?_
    refine g_iald2 (pc := 25) F dX5_cost_25 rfl rfl (by first | omega | (simp only [ix]; omega)) (by decide) ?_
    refine h_readS (pc := 26) F (m_costBy _ _) mi_X5_costBy ks_X5_221 dX5_cost_26 [] rfl (by decide) (by decide) rfl rfl (Nat.le_of_ble_eq_true rfl) trivial (by decide) (by decide) ?_
    exact g_iret (pc := 29) F X0 dX5_cost_29 (Nat.le_of_ble_eq_true rfl) (Nat.le_of_ble_eq_true rfl) rfl (by first | exact ⟨congrArg (fun z => some (Value.int z)) (if_neg c_7).symm, m, V, rfl⟩ | exact ⟨congrArg (fun z => some (Value.int z)) ((if_pos c_7).trans (by rw [N_nI (by omega)])).symm, m, V, rfl⟩ | fail)
  · refine g_iload_n (pc := 10) F dX5_cost_10 rfl ?_
    refine g_goto (pc := 11) F dX5_cost_11 (tgt := 29) rfl ?_
    exact g_iret (pc := 29) F X0 dX5_cost_29 (Nat.le_of_ble_eq_true rfl) (Nat.le_of_ble_eq_true rfl) rfl (by first | exact ⟨congrArg (fun z => some (Value.int z)) (if_neg c_7).symm, m, V, rfl⟩ | exact ⟨congrArg (fun z => some (Value.int z)) ((if_pos c_7).trans (by rw [N_nI (by omega)])).symm, m, V, rfl⟩ | fail)

set_option maxRecDepth 100000 in
set_option maxHeartbeats 800000 in
theorem m_toss (s m ig ws : Nat → Int32) (hg : Int32) (T : TX) (V : VX) (hI : Iv s) (d : Int32) : Ctr yX5_toss cX5_toss 5 (some .int) 7 0 0 [.ref 0, .int d] (rW s m ig ws hg T V) (LookR (.int (A_toss T d)) s ig ws hg T) := by
  refine Ctr.of rfl (Nat.le_of_ble_eq_true rfl) ⟨clS_of rfl, clH_of rfl⟩ (fun K F X0 => ?_)
  show Go K 0 0 0 [(0, .ref 0), (1, .int d)] [] (rW s m ig ws hg T V)
  refine g_aload_n (pc := 0) F dX5_toss_0 rfl ?_
  refine g_iload_n (pc := 1) F dX5_toss_1 rfl ?_
  refine i_readV (pc := 2) F (m_wrongKept s m ig ws hg T V _) mi_X5_wrongKept kv_X5_147 rfl rfl dX5_toss_2 (by decide) (by decide) rfl (Nat.le_of_ble_eq_true rfl) (by decide) (by decide) ?_
  refine g_istore_n (pc := 5) F dX5_toss_5 (by decide) ?_
  refine g_iload_n (pc := 6) F dX5_toss_6 rfl ?_
  refine g_if_eq (pc := 7) F dX5_toss_7 (tgt := 12) rfl (fun c_7 => ?_) (fun c_7 => ?_)
  · have hsh := wrongK_0 c_7
    obtain ⟨j, hj, rfl⟩ := sh_ex hsh
    have eA : A_toss T (nI j) = if failP (tK T j) (tF T j) then failV (tK T j) (tF T j) else (-15) := (if_pos c_7).trans (by rw [N_nI (by omega)])
    refine g_aload_n (pc := 12) F dX5_toss_12 rfl ?_
    refine g_getf (pc := 13) F fl_X5_28 dX5_toss_13 rfl rfl ?_
    refine g_iload_n (pc := 16) F dX5_toss_16 rfl ?_
    refine g_iald2 (pc := 17) F dX5_toss_17 rfl rfl (by first | omega | (simp only [ix]; omega)) (by decide) ?_
    refine g_istore_n (pc := 18) F dX5_toss_18 (by decide) ?_
    refine g_aload_n (pc := 19) F dX5_toss_19 rfl ?_
    refine g_getf (pc := 20) F fl_X5_31 dX5_toss_20 rfl rfl ?_
    refine g_iload_n (pc := 23) F dX5_toss_23 rfl ?_
    refine g_iald2 (pc := 24) F dX5_toss_24 rfl rfl (by first | omega | (simp only [ix]; omega)) (by decide) ?_
    refine g_istore (pc := 25) F dX5_toss_25 (by decide) ?_
    refine g_iload_n (pc := 27) F dX5_toss_27 rfl ?_
    refine g_iconst (pc := 28) F dX5_toss_28 (v := nI 3) rfl ?_
    refine g_ic_eq (pc := 29) F dX5_toss_29 (tgt := 43) rfl (fun c_29 => ?_) (fun c_29 => ?_)
    · refine g_bipush (pc := 43) F dX5_toss_43 (v := (-15 : Int32)) (by decide) ?_
      exact g_iret (pc := 45) F X0 dX5_toss_45 (Nat.le_of_ble_eq_true rfl) (Nat.le_of_ble_eq_true rfl) rfl ⟨congrArg (fun z => some (Value.int z)) (by rw [eA]; first | exact (if_neg (by first | exact (fun z => z.2.1 c_29) | exact (fun z => z.2.2 c_35) | exact (fun z => z.1 c_40))).symm | fail), m, V, rfl⟩
    · refine g_iload_n (pc := 32) F dX5_toss_32 rfl ?_
      refine g_bipush (pc := 33) F dX5_toss_33 (v := nI 6) rfl ?_
      refine g_ic_eq (pc := 35) F dX5_toss_35 (tgt := 43) rfl (fun c_35 => ?_) (fun c_35 => ?_)
      · refine g_bipush (pc := 43) F dX5_toss_43 (v := (-15 : Int32)) (by decide) ?_
        exact g_iret (pc := 45) F X0 dX5_toss_45 (Nat.le_of_ble_eq_true rfl) (Nat.le_of_ble_eq_true rfl) rfl ⟨congrArg (fun z => some (Value.int z)) (by rw [eA]; first | exact (if_neg (by first | exact (fun z => z.2.1 c_29) | exact (fun z => z.2.2 c_35) | exact (fun z => z.1 c_40))).symm | fail), m, V, rfl⟩
      · refine g_iload (pc := 38) F dX5_toss_38 rfl ?_
        refine g_if_ne (pc := 40) F dX5_toss_40 (tgt := 46) rfl (fun c_40 => ?_) (fun c_40 => ?_)
        · refine g_iload_n (pc := 46) F dX5_toss_46 rfl ?_
          refine g_iconst (pc := 47) F dX5_toss_47 (v := nI 5) rfl ?_
          refine g_ic_ne (pc := 48) F dX5_toss_48 (tgt := 64) rfl (fun c_48 => ?_) (fun c_48 => ?_)
          · refine g_iload_n (pc := 64) F dX5_toss_64 rfl ?_
            refine g_iconst (pc := 65) F dX5_toss_65 (v := nI 2) rfl ?_
            refine g_ic_ne (pc := 66) F dX5_toss_66 (tgt := 77) rfl (fun c_66 => ?_) (fun c_66 => ?_)
            · refine g_iload (pc := 77) F dX5_toss_77 rfl ?_
              exact g_iret (pc := 79) F X0 dX5_toss_79 (Nat.le_of_ble_eq_true rfl) (Nat.le_of_ble_eq_true rfl) rfl ⟨congrArg (fun z => some (Value.int z)) (by rw [eA, if_pos (show failP (tK T j) (tF T j) from ⟨c_40, c_29, c_35⟩)]; unfold failV; first | exact ((if_neg (fun z => absurd (c_48.symm.trans z) (by decide))).trans (if_pos c_48)).symm | exact (if_pos c_66).symm | exact ((if_neg c_66).trans (if_neg c_48)).symm | fail), m, V, rfl⟩
            · refine g_bipush (pc := 69) F dX5_toss_69 (v := nI 100) rfl ?_
              refine g_iload (pc := 71) F dX5_toss_71 rfl ?_
              refine g_iadd (pc := 73) F dX5_toss_73 ?_
              refine g_goto (pc := 74) F dX5_toss_74 (tgt := 79) rfl ?_
              exact g_iret (pc := 79) F X0 dX5_toss_79 (Nat.le_of_ble_eq_true rfl) (Nat.le_of_ble_eq_true rfl) rfl ⟨congrArg (fun z => some (Value.int z)) (by rw [eA, if_pos (show failP (tK T j) (tF T j) from ⟨c_40, c_29, c_35⟩)]; unfold failV; first | exact ((if_neg (fun z => absurd (c_48.symm.trans z) (by decide))).trans (if_pos c_48)).symm | exact (if_pos c_66).symm | exact ((if_neg c_66).trans (if_neg c_48)).symm | fail), m, V, rfl⟩
          · refine g_sipush (pc := 51) F dX5_toss_51 (v := nI 200) rfl ?_
            refine g_iload_n (pc := 54) F dX5_toss_54 rfl ?_
            refine g_iload (pc := 55) F dX5_toss_55 rfl ?_
            refine h_readS (pc := 57) F (m_costBy _ _) mi_X5_costBy ks_X5_221 dX5_toss_57 [] rfl (by decide) (by decide) rfl rfl (Nat.le_of_ble_eq_true rfl) trivial (by decide) (by decide) ?_
            refine g_iadd (pc := 60) F dX5_toss_60 ?_
            refine g_goto (pc := 61) F dX5_toss_61 (tgt := 79) rfl ?_
            exact g_iret (pc := 79) F X0 dX5_toss_79 (Nat.le_of_ble_eq_true rfl) (Nat.le_of_ble_eq_true rfl) rfl ⟨congrArg (fun z => some (Value.int z)) (by rw [eA, if_pos (show failP (tK T j) (tF T j) from ⟨c_40, c_29, c_35⟩)]; unfold failV; first | exact ((if_neg (fun z => absurd (c_48.symm.trans z) (by decide))).trans (if_pos c_48)).symm | exact (if_pos c_66).symm | exact ((if_neg c_66).trans (if_neg c_48)).symm | fail), m, V, rfl⟩
        · refine g_bipush (pc := 43) F dX5_toss_43 (v := (-15 : Int32)) (by decide) ?_
          exact g_iret (pc := 45) F X0 dX5_toss_45 (Nat.le_of_ble_eq_true rfl) (Nat.le_of_ble_eq_true rfl) rfl ⟨congrArg (fun z => some (Value.int z)) (by rw [eA]; first | exact (if_neg (by first | exact (fun z => z.2.1 c_29) | exact (fun z => z.2.2 c_35) | exact (fun z => z.1 c_40))).symm | fail), m, V, rfl⟩
  · refine g_iload_n (pc := 10) F dX5_toss_10 rfl ?_
    exact g_iret (pc := 11) F X0 dX5_toss_11 (Nat.le_of_ble_eq_true rfl) (Nat.le_of_ble_eq_true rfl) rfl ⟨congrArg (fun z => some (Value.int z)) (if_neg c_7).symm, m, V, rfl⟩

def E_thr (T : TX) (d i : Int32) : Int32 := if shP d then (if tH T (N d) = nI 2 ∧ plP T (N d) i then nI 0 else nI 2) else nI 1
def E_val (T : TX) (d i : Int32) : Int64 := if E_thr T d i = 0 then (tE T (100 * N d + N i)).toInt64 else lN 0
theorem E_y {T : TX} {j q : Nat} (hj : j < 8) (hq : q < 100) (h : tH T j = nI 2) (h2 : plP T j (nI q)) : E_thr T (nI j) (nI q) = nI 0 ∧ E_val T (nI j) (nI q) = (tE T (100 * j + q)).toInt64 := by
  have e : E_thr T (nI j) (nI q) = nI 0 := (if_pos (sh_in hj)).trans (if_pos (by rw [N_nI (by omega)]; exact ⟨h, h2⟩))
  exact ⟨e, (if_pos e).trans (by rw [N_nI (by omega), N_nI (by omega)])⟩
theorem E_n1 {T : TX} {d i : Int32} (h : ¬ shP d) : E_thr T d i = nI 1 ∧ E_val T d i = lN 0 := by
  have e : E_thr T d i = nI 1 := if_neg h
  exact ⟨e, if_neg (by rw [e]; decide)⟩
theorem E_n2 {T : TX} {j : Nat} {i : Int32} (hj : j < 8) (h : ¬ (tH T j = nI 2 ∧ plP T j i)) : E_thr T (nI j) i = nI 2 ∧ E_val T (nI j) i = lN 0 := by
  have e : E_thr T (nI j) i = nI 2 := (if_pos (sh_in hj)).trans (if_neg (by rw [N_nI (by omega)]; exact h))
  exact ⟨e, if_neg (by rw [e]; decide)⟩
/-- the answer, and what is noted as thrown -/
def ElR (v : Int64) (th : Int32) (s i w : Nat → Int32) (hi : Int32) (T : TX) : Option Value → Hp → Prop := fun v2 hh => v2 = some (.long v) ∧ ∃ m V, hh = rW s m i w hi T V ∧ V.2.2.2.2.2 = th
set_option maxRecDepth 100000 in
set_option maxHeartbeats 800000 in
theorem m_element (s m ig ws : Nat → Int32) (hg : Int32) (T : TX) (V : VX) (hI : Iv s) (hT : IT T) (d i : Int32) : Ctr yX5_element cX5_element 3 (some .long) 7 0 0 [.ref 0, .int d, .int i] (rW s m ig ws hg T V) (ElR (E_val T d i) (E_thr T d i) s ig ws hg T) := by
  refine Ctr.of rfl (Nat.le_of_ble_eq_true rfl) ⟨clS_of rfl, clH_of rfl⟩ (fun K F X0 => ?_)
  show Go K 0 0 0 [(0, .ref 0), (1, .int d), (2, .int i)] [] (rW s m ig ws hg T V)
  refine g_aload_n (pc := 0) F dX5_element_0 rfl ?_
  refine g_iload_n (pc := 1) F dX5_element_1 rfl ?_
  refine h_readS (pc := 2) F (c_mShelf _) mi_X5_isShelf ks_X5_218 dX5_element_2 [] rfl (by decide) (by decide) rfl rfl (Nat.le_of_ble_eq_true rfl) trivial (by decide) (by decide) ?_
  refine g_ifne_d (pc := 5) F dX5_element_5 (tgt := 12) rfl (fun c_5 => ?_) (fun c_5 => ?_)
  · obtain ⟨j, hj, rfl⟩ := sh_ex c_5
    obtain ⟨n9, hn9, en1⟩ := hT j hj
    refine g_aload_n (pc := 12) F dX5_element_12 rfl ?_
    refine g_getf (pc := 13) F fl_X5_25 dX5_element_13 rfl rfl ?_
    refine g_iload_n (pc := 16) F dX5_element_16 rfl ?_
    refine g_iald2 (pc := 17) F dX5_element_17 rfl rfl (by first | omega | (simp only [ix]; omega)) (by decide) ?_
    refine g_iconst (pc := 18) F dX5_element_18 (v := nI 2) rfl ?_
    refine g_ic_ne (pc := 19) F dX5_element_19 (tgt := 38) rfl (fun c_19 => ?_) (fun c_19 => ?_)
    · refine g_iconst (pc := 38) F dX5_element_38 (v := nI 2) rfl ?_
      refine g_goto (pc := 39) F dX5_element_39 (tgt := 43) rfl ?_
      refine g_putf (pc := 43) F fl_X5_215 dX5_element_43 rfl (Nat.le_of_ble_eq_true rfl) ?_
      refine g_aload_n (pc := 46) F dX5_element_46 rfl ?_
      refine g_getf (pc := 47) F fl_X5_215 dX5_element_47 rfl rfl ?_
      refine g_if_ne (pc := 50) F dX5_element_50 (tgt := 68) rfl (fun c_50 => ?_) (fun c_50 => absurd c_50 (by decide))
      refine g_lconst (pc := 68) F dX5_element_68 (v := lN 0) rfl ?_
      exact g_lret (pc := 69) F X0 dX5_element_69 (Nat.le_of_ble_eq_true rfl) (Nat.le_of_ble_eq_true rfl) rfl (by first | exact ⟨congrArg (fun z => some (Value.long z)) (E_y hj (by omega) c_19 c_35).2.symm, m, (V.1, V.2.1, V.2.2.1, V.2.2.2.1, V.2.2.2.2.1, nI 0), rfl, (E_y hj (by omega) c_19 c_35).1.symm⟩ | exact ⟨congrArg (fun z => some (Value.long z)) (E_n1 c_5).2.symm, m, (V.1, V.2.1, V.2.2.1, V.2.2.2.1, V.2.2.2.2.1, nI 1), rfl, (E_n1 c_5).1.symm⟩ | exact ⟨congrArg (fun z => some (Value.long z)) (E_n2 hj (fun z => c_19 z.1)).2.symm, m, (V.1, V.2.1, V.2.2.1, V.2.2.2.1, V.2.2.2.2.1, nI 2), rfl, (E_n2 hj (fun z => c_19 z.1)).1.symm⟩ | exact ⟨congrArg (fun z => some (Value.long z)) (E_n2 hj (fun z => c_35 z.2)).2.symm, m, (V.1, V.2.1, V.2.2.1, V.2.2.2.1, V.2.2.2.2.1, nI 2), rfl, (E_n2 hj (fun z => c_35 z.2)).1.symm⟩ | fail)
    · refine g_iload_n (pc := 22) F dX5_element_22 rfl ?_
      refine g_iconst (pc := 23) F dX5_element_23 (v := nI 0) rfl ?_
      refine g_aload_n (pc := 24) F dX5_element_24 rfl ?_
      refine g_getf (pc := 25) F fl_X5_37 dX5_element_25 rfl rfl ?_
      refine g_iload_n (pc := 28) F dX5_element_28 rfl ?_
      refine g_iald2 (pc := 29) F dX5_element_29 rfl rfl (by first | omega | (simp only [ix]; omega)) (by decide) ?_
      refine g_iconst (pc := 30) F dX5_element_30 (v := nI 1) rfl ?_
      refine g_isub (pc := 31) F dX5_element_31 ?_
      refine h_readS (pc := 32) F (c_isIn _ _ _) mi_X5_isIn ks_X5_43 dX5_element_32 [] rfl (by decide) (by decide) rfl rfl (Nat.le_of_ble_eq_true rfl) trivial (by decide) (by decide) ?_
      refine g_ifne_d (pc := 35) F dX5_element_35 (tgt := 42) rfl (fun c_35 => ?_) (fun c_35 => ?_)
      · have c35 := (plP_iff (T := T) (j := j) (i := i) en1).mp c_35
        obtain ⟨q, hq, rfl⟩ := lt_ex (by omega) c35
        refine g_iconst (pc := 42) F dX5_element_42 (v := nI 0) rfl ?_
        refine g_putf (pc := 43) F fl_X5_215 dX5_element_43 rfl (Nat.le_of_ble_eq_true rfl) ?_
        refine g_aload_n (pc := 46) F dX5_element_46 rfl ?_
        refine g_getf (pc := 47) F fl_X5_215 dX5_element_47 rfl rfl ?_
        refine g_if_ne (pc := 50) F dX5_element_50 (tgt := 68) rfl (fun c_50 => absurd rfl c_50) (fun c_50 => ?_)
        refine g_aload_n (pc := 53) F dX5_element_53 rfl ?_
        refine g_getf (pc := 54) F fl_X5_40 dX5_element_54 rfl rfl ?_
        refine g_bipush (pc := 57) F dX5_element_57 (v := nI 100) rfl ?_
        refine g_iload_n (pc := 59) F dX5_element_59 rfl ?_
        refine g_imulN (pc := 60) F dX5_element_60 ?_
        refine g_iload_n (pc := 61) F dX5_element_61 rfl ?_
        refine g_iaddN (pc := 62) F dX5_element_62 ?_
        refine g_iald2 (pc := 63) F dX5_element_63 rfl rfl (by first | omega | (simp only [ix]; omega)) (by decide) ?_
        refine g_i2l (pc := 64) F dX5_element_64 ?_
        refine g_goto (pc := 65) F dX5_element_65 (tgt := 69) rfl ?_
        exact g_lret (pc := 69) F X0 dX5_element_69 (Nat.le_of_ble_eq_true rfl) (Nat.le_of_ble_eq_true rfl) rfl (by first | exact ⟨congrArg (fun z => some (Value.long z)) (E_y hj (by omega) c_19 c_35).2.symm, m, (V.1, V.2.1, V.2.2.1, V.2.2.2.1, V.2.2.2.2.1, nI 0), rfl, (E_y hj (by omega) c_19 c_35).1.symm⟩ | exact ⟨congrArg (fun z => some (Value.long z)) (E_n1 c_5).2.symm, m, (V.1, V.2.1, V.2.2.1, V.2.2.2.1, V.2.2.2.2.1, nI 1), rfl, (E_n1 c_5).1.symm⟩ | exact ⟨congrArg (fun z => some (Value.long z)) (E_n2 hj (fun z => c_19 z.1)).2.symm, m, (V.1, V.2.1, V.2.2.1, V.2.2.2.1, V.2.2.2.2.1, nI 2), rfl, (E_n2 hj (fun z => c_19 z.1)).1.symm⟩ | exact ⟨congrArg (fun z => some (Value.long z)) (E_n2 hj (fun z => c_35 z.2)).2.symm, m, (V.1, V.2.1, V.2.2.1, V.2.2.2.1, V.2.2.2.2.1, nI 2), rfl, (E_n2 hj (fun z => c_35 z.2)).1.symm⟩ | fail)
      · refine g_iconst (pc := 38) F dX5_element_38 (v := nI 2) rfl ?_
        refine g_goto (pc := 39) F dX5_element_39 (tgt := 43) rfl ?_
        refine g_putf (pc := 43) F fl_X5_215 dX5_element_43 rfl (Nat.le_of_ble_eq_true rfl) ?_
        refine g_aload_n (pc := 46) F dX5_element_46 rfl ?_
        refine g_getf (pc := 47) F fl_X5_215 dX5_element_47 rfl rfl ?_
        refine g_if_ne (pc := 50) F dX5_element_50 (tgt := 68) rfl (fun c_50 => ?_) (fun c_50 => absurd c_50 (by decide))
        refine g_lconst (pc := 68) F dX5_element_68 (v := lN 0) rfl ?_
        exact g_lret (pc := 69) F X0 dX5_element_69 (Nat.le_of_ble_eq_true rfl) (Nat.le_of_ble_eq_true rfl) rfl (by first | exact ⟨congrArg (fun z => some (Value.long z)) (E_y hj (by omega) c_19 c_35).2.symm, m, (V.1, V.2.1, V.2.2.1, V.2.2.2.1, V.2.2.2.2.1, nI 0), rfl, (E_y hj (by omega) c_19 c_35).1.symm⟩ | exact ⟨congrArg (fun z => some (Value.long z)) (E_n1 c_5).2.symm, m, (V.1, V.2.1, V.2.2.1, V.2.2.2.1, V.2.2.2.2.1, nI 1), rfl, (E_n1 c_5).1.symm⟩ | exact ⟨congrArg (fun z => some (Value.long z)) (E_n2 hj (fun z => c_19 z.1)).2.symm, m, (V.1, V.2.1, V.2.2.1, V.2.2.2.1, V.2.2.2.2.1, nI 2), rfl, (E_n2 hj (fun z => c_19 z.1)).1.symm⟩ | exact ⟨congrArg (fun z => some (Value.long z)) (E_n2 hj (fun z => c_35 z.2)).2.symm, m, (V.1, V.2.1, V.2.2.1, V.2.2.2.1, V.2.2.2.2.1, nI 2), rfl, (E_n2 hj (fun z => c_35 z.2)).1.symm⟩ | fail)
  · refine g_iconst (pc := 8) F dX5_element_8 (v := nI 1) rfl ?_
    refine g_goto (pc := 9) F dX5_element_9 (tgt := 43) rfl ?_
    refine g_putf (pc := 43) F fl_X5_215 dX5_element_43 rfl (Nat.le_of_ble_eq_true rfl) ?_
    refine g_aload_n (pc := 46) F dX5_element_46 rfl ?_
    refine g_getf (pc := 47) F fl_X5_215 dX5_element_47 rfl rfl ?_
    refine g_if_ne (pc := 50) F dX5_element_50 (tgt := 68) rfl (fun c_50 => ?_) (fun c_50 => absurd c_50 (by decide))
    refine g_lconst (pc := 68) F dX5_element_68 (v := lN 0) rfl ?_
    exact g_lret (pc := 69) F X0 dX5_element_69 (Nat.le_of_ble_eq_true rfl) (Nat.le_of_ble_eq_true rfl) rfl (by first | exact ⟨congrArg (fun z => some (Value.long z)) (E_y hj (by omega) c_19 c_35).2.symm, m, (V.1, V.2.1, V.2.2.1, V.2.2.2.1, V.2.2.2.2.1, nI 0), rfl, (E_y hj (by omega) c_19 c_35).1.symm⟩ | exact ⟨congrArg (fun z => some (Value.long z)) (E_n1 c_5).2.symm, m, (V.1, V.2.1, V.2.2.1, V.2.2.2.1, V.2.2.2.2.1, nI 1), rfl, (E_n1 c_5).1.symm⟩ | exact ⟨congrArg (fun z => some (Value.long z)) (E_n2 hj (fun z => c_19 z.1)).2.symm, m, (V.1, V.2.1, V.2.2.1, V.2.2.2.1, V.2.2.2.2.1, nI 2), rfl, (E_n2 hj (fun z => c_19 z.1)).1.symm⟩ | exact ⟨congrArg (fun z => some (Value.long z)) (E_n2 hj (fun z => c_35 z.2)).2.symm, m, (V.1, V.2.1, V.2.2.1, V.2.2.2.1, V.2.2.2.2.1, nI 2), rfl, (E_n2 hj (fun z => c_35 z.2)).1.symm⟩ | fail)

