/-! looks ahead, n days on: what both sides answer -/
abbrev oneP (r : Nat → Int32) (c : Int32) : Prop := nI 0 ≤ c ∧ c ≤ nI (many r) - nI 1
abbrev dipP (d : Int32) : Prop := nI 0 ≤ d ∧ d ≤ nI 9
abbrev lateP (n : Int32) : Prop := nI 0 ≤ n ∧ n ≤ nI 60
abbrev b01 (w : Int32) : Prop := nI 0 ≤ w ∧ w ≤ nI 1
theorem in_ex {x : Int32} {k : Nat} (hk : k < 2 ^ 31) (h : nI 0 ≤ x ∧ x ≤ nI k) : ∃ j, j ≤ k ∧ x = nI j := by
  have h1 := (ti_le _ _).mp h.1
  have h2 := (ti_le _ _).mp h.2
  rw [ti_n _ (by omega)] at h1 h2
  exact ⟨_, by omega, nI_of_ti (by omega)⟩
theorem late_ex {n : Int32} (h : lateP n) : ∃ j, j ≤ 60 ∧ n = nI j := in_ex (by decide) h
theorem dip_ex {d : Int32} (h : dipP d) : ∃ j, j < 10 ∧ d = nI j := by
  obtain ⟨j, hj, e⟩ := in_ex (by decide) h
  exact ⟨j, by omega, e⟩
theorem one_ex {r : Nat → Int32} {c : Int32} (hI : Iv r) (h : oneP r c) : ∃ j, j < many r ∧ c = nI j := by
  have h6 := hI.1.2
  have h1 := (ti_le _ _).mp h.1
  have h2 := (ti_le _ _).mp h.2
  rw [ti_n _ (by omega)] at h1
  rw [ti_sub (by rw [ti_n _ (by omega), ti_n _ (by omega)]; omega) (by rw [ti_n _ (by omega), ti_n _ (by omega)]; omega), ti_n _ (by omega), ti_n _ (by omega)] at h2
  exact ⟨_, by omega, nI_of_ti (by omega)⟩
theorem b01_ex {w : Int32} (h : b01 w) : w = nI 0 ∨ w = nI 1 := by
  obtain ⟨j, hj, e⟩ := in_ex (by decide) h
  rcases (show j = 0 ∨ j = 1 by omega) with rfl | rfl
  · exact Or.inl e
  · exact Or.inr e
abbrev N (x : Int32) : Nat := x.toNatClampNeg
theorem N_nI {n : Nat} (h : n < 2 ^ 31) : N (nI n) = n := nI_clamp h
def S_corporalThen (r : Nat → Int32) (c n w : Int32) : Int32 := if oneP r c ∧ lateP n ∧ b01 w then (if w = 0 then tkR r (N n) (ix (N c) 2) else tkR r (N n) (ix (N c) 4)) else (-1)
def S_dipThen (r : Nat → Int32) (d n w : Int32) : Int32 := if dipP d ∧ lateP n ∧ b01 w then (if w = 0 then tkR r (N n) (5 + N d) else tkR r (N n) (15 + N d)) else (-1)
def S_dipsDone (r : Nat → Int32) (n : Int32) : Int32 := if lateP n then doneR (tkR r (N n)) else (-1)
def S_lost (r : Nat → Int32) (n : Int32) : Int32 := if lateP n then tkR r (N n) 3 else (-1)
set_option maxRecDepth 100000 in
set_option maxHeartbeats 800000 in
theorem c_corporalThen (b : Int32) (X Y Z : DX) (im : Int32) (S : Nat → SX) (g h : Nat → Int32) (r : Nat → Int32) (hR : Rel b X r) (hI : Iv r) (h4 : r 4 = nI 0) (c n wh : Int32) : Ctr yX4_corporalThen cX4_corporalThen 4 (some .int) 7 0 0 [.ref 0, .int c, .int n, .int wh] (mW X Y Z im S g h) (Look (.int (S_corporalThen r c n wh)) X Z im S) := by
  refine Ctr.of rfl (Nat.le_of_ble_eq_true rfl) ⟨clS_of rfl, mW_cl _ _ _ _ _ _ _⟩ (fun K F X0 => ?_)
  show Go K 0 0 0 [(0, .ref 0), (1, .int c), (2, .int n), (3, .int wh)] [] (mW X Y Z im S g h)
  refine g_aload_n (pc := 0) F dX4_corporalThen_0 rfl ?_
  refine g_iload_n (pc := 1) F dX4_corporalThen_1 rfl ?_
  refine i_readV (pc := 2) F (c_isCorporal b X Y Z im S g h r _ hR hI) mi_X4_isCorporal kv_X4_78 rfl rfl dX4_corporalThen_2 (by decide) (by decide) rfl (Nat.le_of_ble_eq_true rfl) (by decide) (by decide) ?_
  refine g_ifeq_d (pc := 5) F dX4_corporalThen_5 (tgt := 24) rfl (fun c_5 => ?_) (fun c_5 => ?_)
  · refine g_iconst (pc := 24) F dX4_corporalThen_24 (v := (-1 : Int32)) (by decide) ?_
    exact g_iret (pc := 25) F X0 dX4_corporalThen_25 (Nat.le_of_ble_eq_true rfl) (Nat.le_of_ble_eq_true rfl) rfl ⟨congrArg (fun z => some (Value.int z)) (by first | (unfold S_corporalThen; first | exact (if_neg (fun z => c_5 z.1)).symm | exact (if_neg (fun z => c_12 z.2.1)).symm | exact (if_neg (fun z => c_21 z.2.2)).symm | (rw [if_pos ⟨c_5, c_12, c_21⟩, N_nI (by omega), N_nI (by omega)]; first | (rw [if_pos c_32]; first | exact eA | exact eB) | (rw [if_neg c_32]; first | exact eA | exact eB))) | fail), _, _, _, rfl⟩
  · refine g_iload_n (pc := 8) F dX4_corporalThen_8 rfl ?_
    refine h_readS (pc := 9) F (c_isDaysOn _) mi_X4_isDaysOn ks_X4_173 dX4_corporalThen_9 [] rfl (by decide) (by decide) rfl rfl (Nat.le_of_ble_eq_true rfl) trivial (by decide) (by decide) ?_
    refine g_ifeq_d (pc := 12) F dX4_corporalThen_12 (tgt := 24) rfl (fun c_12 => ?_) (fun c_12 => ?_)
    · refine g_iconst (pc := 24) F dX4_corporalThen_24 (v := (-1 : Int32)) (by decide) ?_
      exact g_iret (pc := 25) F X0 dX4_corporalThen_25 (Nat.le_of_ble_eq_true rfl) (Nat.le_of_ble_eq_true rfl) rfl ⟨congrArg (fun z => some (Value.int z)) (by first | (unfold S_corporalThen; first | exact (if_neg (fun z => c_5 z.1)).symm | exact (if_neg (fun z => c_12 z.2.1)).symm | exact (if_neg (fun z => c_21 z.2.2)).symm | (rw [if_pos ⟨c_5, c_12, c_21⟩, N_nI (by omega), N_nI (by omega)]; first | (rw [if_pos c_32]; first | exact eA | exact eB) | (rw [if_neg c_32]; first | exact eA | exact eB))) | fail), _, _, _, rfl⟩
    · refine g_iload_n (pc := 15) F dX4_corporalThen_15 rfl ?_
      refine g_iconst (pc := 16) F dX4_corporalThen_16 (v := nI 0) rfl ?_
      refine g_iconst (pc := 17) F dX4_corporalThen_17 (v := nI 1) rfl ?_
      refine h_readS (pc := 18) F (c_isWithin _ _ _) mi_X4_isWithin ks_X4_129 dX4_corporalThen_18 [] rfl (by decide) (by decide) rfl rfl (Nat.le_of_ble_eq_true rfl) trivial (by decide) (by decide) ?_
      refine g_ifne_d (pc := 21) F dX4_corporalThen_21 (tgt := 26) rfl (fun c_21 => ?_) (fun c_21 => ?_)
      · have hm6 := hI.1.2
        obtain ⟨j, hj, rfl⟩ := one_ex hI c_5
        obtain ⟨m0, hm0, rfl⟩ := late_ex c_12
        refine g_aload_n (pc := 26) F dX4_corporalThen_26 rfl ?_
        refine g_iload_n (pc := 27) F dX4_corporalThen_27 rfl ?_
        refine i_callV (pc := 28) F (c_lookOn b X Y Z im S g h r _ m0 hR hI h4 rfl (by omega)) mi_X4_lookOn kv_X4_176 rfl rfl dX4_corporalThen_28 (by decide) (by decide) rfl (Nat.le_of_ble_eq_true rfl) (by decide) (by decide) ?_
        rintro _ _ ⟨rfl, Y2, rfl, hY2⟩ -
        refine g_iload_n (pc := 31) F dX4_corporalThen_31 rfl ?_
        refine g_if_ne (pc := 32) F dX4_corporalThen_32 (tgt := 47) rfl (fun c_32 => ?_) (fun c_32 => ?_)
        · obtain ⟨-, -, eA, -, eB⟩ := hY2.2.2.2 j (by rw [(tkR_ok hI m0).2]; exact hj)
          refine g_aload_n (pc := 47) F dX4_corporalThen_47 rfl ?_
          refine g_getf (pc := 48) F fl_X4_16 dX4_corporalThen_48 rfl rfl ?_
          refine g_getf (pc := 51) F fl_X4_94 dX4_corporalThen_51 rfl rfl ?_
          refine g_iload_n (pc := 54) F dX4_corporalThen_54 rfl ?_
          refine g_iald2 (pc := 55) F dX4_corporalThen_55 rfl rfl (by first | omega | (simp only [ix]; omega)) (by decide) ?_
          exact g_iret (pc := 56) F X0 dX4_corporalThen_56 (Nat.le_of_ble_eq_true rfl) (Nat.le_of_ble_eq_true rfl) rfl ⟨congrArg (fun z => some (Value.int z)) (by first | (unfold S_corporalThen; first | exact (if_neg (fun z => c_5 z.1)).symm | exact (if_neg (fun z => c_12 z.2.1)).symm | exact (if_neg (fun z => c_21 z.2.2)).symm | (rw [if_pos ⟨c_5, c_12, c_21⟩, N_nI (by omega), N_nI (by omega)]; first | (rw [if_pos c_32]; first | exact eA | exact eB) | (rw [if_neg c_32]; first | exact eA | exact eB))) | fail), _, _, _, rfl⟩
        · obtain ⟨-, -, eA, -, eB⟩ := hY2.2.2.2 j (by rw [(tkR_ok hI m0).2]; exact hj)
          refine g_aload_n (pc := 35) F dX4_corporalThen_35 rfl ?_
          refine g_getf (pc := 36) F fl_X4_16 dX4_corporalThen_36 rfl rfl ?_
          refine g_getf (pc := 39) F fl_X4_88 dX4_corporalThen_39 rfl rfl ?_
          refine g_iload_n (pc := 42) F dX4_corporalThen_42 rfl ?_
          refine g_iald2 (pc := 43) F dX4_corporalThen_43 rfl rfl (by first | omega | (simp only [ix]; omega)) (by decide) ?_
          refine g_goto (pc := 44) F dX4_corporalThen_44 (tgt := 56) rfl ?_
          exact g_iret (pc := 56) F X0 dX4_corporalThen_56 (Nat.le_of_ble_eq_true rfl) (Nat.le_of_ble_eq_true rfl) rfl ⟨congrArg (fun z => some (Value.int z)) (by first | (unfold S_corporalThen; first | exact (if_neg (fun z => c_5 z.1)).symm | exact (if_neg (fun z => c_12 z.2.1)).symm | exact (if_neg (fun z => c_21 z.2.2)).symm | (rw [if_pos ⟨c_5, c_12, c_21⟩, N_nI (by omega), N_nI (by omega)]; first | (rw [if_pos c_32]; first | exact eA | exact eB) | (rw [if_neg c_32]; first | exact eA | exact eB))) | fail), _, _, _, rfl⟩
      · refine g_iconst (pc := 24) F dX4_corporalThen_24 (v := (-1 : Int32)) (by decide) ?_
        exact g_iret (pc := 25) F X0 dX4_corporalThen_25 (Nat.le_of_ble_eq_true rfl) (Nat.le_of_ble_eq_true rfl) rfl ⟨congrArg (fun z => some (Value.int z)) (by first | (unfold S_corporalThen; first | exact (if_neg (fun z => c_5 z.1)).symm | exact (if_neg (fun z => c_12 z.2.1)).symm | exact (if_neg (fun z => c_21 z.2.2)).symm | (rw [if_pos ⟨c_5, c_12, c_21⟩, N_nI (by omega), N_nI (by omega)]; first | (rw [if_pos c_32]; first | exact eA | exact eB) | (rw [if_neg c_32]; first | exact eA | exact eB))) | fail), _, _, _, rfl⟩

set_option maxRecDepth 100000 in
set_option maxHeartbeats 800000 in
theorem m_corporalThen (s m ig ws : Nat → Int32) (hg : Int32) (T : TX) (V : VX) (hI : Iv s) (c n wh : Int32) : Ctr yX5_corporalThen cX5_corporalThen 4 (some .int) 7 0 0 [.ref 0, .int c, .int n, .int wh] (rW s m ig ws hg T V) (LookR (.int (S_corporalThen s c n wh)) s ig ws hg T) := by
  refine Ctr.of rfl (Nat.le_of_ble_eq_true rfl) ⟨clS_of rfl, clH_of rfl⟩ (fun K F X0 => ?_)
  show Go K 0 0 0 [(0, .ref 0), (1, .int c), (2, .int n), (3, .int wh)] [] (rW s m ig ws hg T V)
  refine g_aload_n (pc := 0) F dX5_corporalThen_0 rfl ?_
  refine g_iload_n (pc := 1) F dX5_corporalThen_1 rfl ?_
  refine i_readV (pc := 2) F (m_isOne s m ig ws hg T V _ hI) mi_X5_isOne kv_X5_123 rfl rfl dX5_corporalThen_2 (by decide) (by decide) rfl (Nat.le_of_ble_eq_true rfl) (by decide) (by decide) ?_
  refine g_ifeq_d (pc := 5) F dX5_corporalThen_5 (tgt := 24) rfl (fun c_5 => ?_) (fun c_5 => ?_)
  · refine g_iconst (pc := 24) F dX5_corporalThen_24 (v := (-1 : Int32)) (by decide) ?_
    exact g_iret (pc := 25) F X0 dX5_corporalThen_25 (Nat.le_of_ble_eq_true rfl) (Nat.le_of_ble_eq_true rfl) rfl ⟨congrArg (fun z => some (Value.int z)) (by first | (unfold S_corporalThen; first | exact (if_neg (fun z => c_5 z.1)).symm | exact (if_neg (fun z => c_12 z.2.1)).symm | exact (if_neg (fun z => c_21 z.2.2)).symm | (rw [if_pos ⟨c_5, c_12, c_21⟩, N_nI (by omega), N_nI (by omega)]; first | (rw [if_pos c_37]; try rfl) | (rw [if_neg c_37]; try rfl))) | fail), _, _, rfl⟩
  · refine g_iload_n (pc := 8) F dX5_corporalThen_8 rfl ?_
    refine h_readS (pc := 9) F (c_mLate _) mi_X5_isLate ks_X5_155 dX5_corporalThen_9 [] rfl (by decide) (by decide) rfl rfl (Nat.le_of_ble_eq_true rfl) trivial (by decide) (by decide) ?_
    refine g_ifeq_d (pc := 12) F dX5_corporalThen_12 (tgt := 24) rfl (fun c_12 => ?_) (fun c_12 => ?_)
    · refine g_iconst (pc := 24) F dX5_corporalThen_24 (v := (-1 : Int32)) (by decide) ?_
      exact g_iret (pc := 25) F X0 dX5_corporalThen_25 (Nat.le_of_ble_eq_true rfl) (Nat.le_of_ble_eq_true rfl) rfl ⟨congrArg (fun z => some (Value.int z)) (by first | (unfold S_corporalThen; first | exact (if_neg (fun z => c_5 z.1)).symm | exact (if_neg (fun z => c_12 z.2.1)).symm | exact (if_neg (fun z => c_21 z.2.2)).symm | (rw [if_pos ⟨c_5, c_12, c_21⟩, N_nI (by omega), N_nI (by omega)]; first | (rw [if_pos c_37]; try rfl) | (rw [if_neg c_37]; try rfl))) | fail), _, _, rfl⟩
    · refine g_iload_n (pc := 15) F dX5_corporalThen_15 rfl ?_
      refine g_iconst (pc := 16) F dX5_corporalThen_16 (v := nI 0) rfl ?_
      refine g_iconst (pc := 17) F dX5_corporalThen_17 (v := nI 1) rfl ?_
      refine h_readS (pc := 18) F (c_isIn _ _ _) mi_X5_isIn ks_X5_43 dX5_corporalThen_18 [] rfl (by decide) (by decide) rfl rfl (Nat.le_of_ble_eq_true rfl) trivial (by decide) (by decide) ?_
      refine g_ifne_d (pc := 21) F dX5_corporalThen_21 (tgt := 26) rfl (fun c_21 => ?_) (fun c_21 => ?_)
      · have hm6 := hI.1.2
        obtain ⟨j, hj, rfl⟩ := one_ex hI c_5
        obtain ⟨m0, hm0, rfl⟩ := late_ex c_12
        refine g_aload_n (pc := 26) F dX5_corporalThen_26 rfl ?_
        refine g_iload_n (pc := 27) F dX5_corporalThen_27 rfl ?_
        refine i_callV (pc := 28) F (m_takes s m ig ws hg T V _ m0 hI rfl (by omega)) mi_X5_takes kv_X5_158 rfl rfl dX5_corporalThen_28 (by decide) (by decide) rfl (Nat.le_of_ble_eq_true rfl) (by decide) (by decide) ?_
        rintro _ _ ⟨rfl, rfl⟩ -
        refine g_aload_n (pc := 31) F dX5_corporalThen_31 rfl ?_
        refine g_getf (pc := 32) F fl_X5_13 dX5_corporalThen_32 rfl rfl ?_
        refine g_iload_n (pc := 35) F dX5_corporalThen_35 rfl ?_
        refine g_iload_n (pc := 36) F dX5_corporalThen_36 rfl ?_
        refine g_if_ne (pc := 37) F dX5_corporalThen_37 (tgt := 44) rfl (fun c_37 => ?_) (fun c_37 => ?_)
        · refine g_iconst (pc := 44) F dX5_corporalThen_44 (v := nI 4) rfl ?_
          refine h_readS (pc := 45) F (c_of j _) mi_X5_of ks_X5_47 dX5_corporalThen_45 [] rfl (by decide) (by decide) rfl rfl (Nat.le_of_ble_eq_true rfl) trivial (by decide) (by decide) ?_
          refine g_iald2 (pc := 48) F dX5_corporalThen_48 rfl rfl (by first | omega | (simp only [ix]; omega)) (by decide) ?_
          exact g_iret (pc := 49) F X0 dX5_corporalThen_49 (Nat.le_of_ble_eq_true rfl) (Nat.le_of_ble_eq_true rfl) rfl ⟨congrArg (fun z => some (Value.int z)) (by first | (unfold S_corporalThen; first | exact (if_neg (fun z => c_5 z.1)).symm | exact (if_neg (fun z => c_12 z.2.1)).symm | exact (if_neg (fun z => c_21 z.2.2)).symm | (rw [if_pos ⟨c_5, c_12, c_21⟩, N_nI (by omega), N_nI (by omega)]; first | (rw [if_pos c_37]; try rfl) | (rw [if_neg c_37]; try rfl))) | fail), _, _, rfl⟩
        · refine g_iconst (pc := 40) F dX5_corporalThen_40 (v := nI 2) rfl ?_
          refine g_goto (pc := 41) F dX5_corporalThen_41 (tgt := 45) rfl ?_
          refine h_readS (pc := 45) F (c_of j _) mi_X5_of ks_X5_47 dX5_corporalThen_45 [] rfl (by decide) (by decide) rfl rfl (Nat.le_of_ble_eq_true rfl) trivial (by decide) (by decide) ?_
          refine g_iald2 (pc := 48) F dX5_corporalThen_48 rfl rfl (by first | omega | (simp only [ix]; omega)) (by decide) ?_
          exact g_iret (pc := 49) F X0 dX5_corporalThen_49 (Nat.le_of_ble_eq_true rfl) (Nat.le_of_ble_eq_true rfl) rfl ⟨congrArg (fun z => some (Value.int z)) (by first | (unfold S_corporalThen; first | exact (if_neg (fun z => c_5 z.1)).symm | exact (if_neg (fun z => c_12 z.2.1)).symm | exact (if_neg (fun z => c_21 z.2.2)).symm | (rw [if_pos ⟨c_5, c_12, c_21⟩, N_nI (by omega), N_nI (by omega)]; first | (rw [if_pos c_37]; try rfl) | (rw [if_neg c_37]; try rfl))) | fail), _, _, rfl⟩
      · refine g_iconst (pc := 24) F dX5_corporalThen_24 (v := (-1 : Int32)) (by decide) ?_
        exact g_iret (pc := 25) F X0 dX5_corporalThen_25 (Nat.le_of_ble_eq_true rfl) (Nat.le_of_ble_eq_true rfl) rfl ⟨congrArg (fun z => some (Value.int z)) (by first | (unfold S_corporalThen; first | exact (if_neg (fun z => c_5 z.1)).symm | exact (if_neg (fun z => c_12 z.2.1)).symm | exact (if_neg (fun z => c_21 z.2.2)).symm | (rw [if_pos ⟨c_5, c_12, c_21⟩, N_nI (by omega), N_nI (by omega)]; first | (rw [if_pos c_37]; try rfl) | (rw [if_neg c_37]; try rfl))) | fail), _, _, rfl⟩

set_option maxRecDepth 100000 in
set_option maxHeartbeats 800000 in
theorem c_dipThen (b : Int32) (X Y Z : DX) (im : Int32) (S : Nat → SX) (g h : Nat → Int32) (r : Nat → Int32) (hR : Rel b X r) (hI : Iv r) (h4 : r 4 = nI 0) (d n wh : Int32) : Ctr yX4_dipThen cX4_dipThen 4 (some .int) 7 0 0 [.ref 0, .int d, .int n, .int wh] (mW X Y Z im S g h) (Look (.int (S_dipThen r d n wh)) X Z im S) := by
  refine Ctr.of rfl (Nat.le_of_ble_eq_true rfl) ⟨clS_of rfl, mW_cl _ _ _ _ _ _ _⟩ (fun K F X0 => ?_)
  show Go K 0 0 0 [(0, .ref 0), (1, .int d), (2, .int n), (3, .int wh)] [] (mW X Y Z im S g h)
  refine g_iload_n (pc := 0) F dX4_dipThen_0 rfl ?_
  refine h_readS (pc := 1) F (c_isDip _) mi_X4_isDip ks_X4_117 dX4_dipThen_1 [] rfl (by decide) (by decide) rfl rfl (Nat.le_of_ble_eq_true rfl) trivial (by decide) (by decide) ?_
  refine g_ifeq_d (pc := 4) F dX4_dipThen_4 (tgt := 23) rfl (fun c_4 => ?_) (fun c_4 => ?_)
  · refine g_iconst (pc := 23) F dX4_dipThen_23 (v := (-1 : Int32)) (by decide) ?_
    exact g_iret (pc := 24) F X0 dX4_dipThen_24 (Nat.le_of_ble_eq_true rfl) (Nat.le_of_ble_eq_true rfl) rfl ⟨congrArg (fun z => some (Value.int z)) (by first | (unfold S_dipThen; first | exact (if_neg (fun z => c_4 z.1)).symm | exact (if_neg (fun z => c_11 z.2.1)).symm | exact (if_neg (fun z => c_20 z.2.2)).symm | (rw [if_pos ⟨c_4, c_11, c_20⟩, N_nI (by omega), N_nI (by omega)]; first | (rw [if_pos c_31]; first | exact eG | exact eD) | (rw [if_neg c_31]; first | exact eG | exact eD))) | fail), _, _, _, rfl⟩
  · refine g_iload_n (pc := 7) F dX4_dipThen_7 rfl ?_
    refine h_readS (pc := 8) F (c_isDaysOn _) mi_X4_isDaysOn ks_X4_173 dX4_dipThen_8 [] rfl (by decide) (by decide) rfl rfl (Nat.le_of_ble_eq_true rfl) trivial (by decide) (by decide) ?_
    refine g_ifeq_d (pc := 11) F dX4_dipThen_11 (tgt := 23) rfl (fun c_11 => ?_) (fun c_11 => ?_)
    · refine g_iconst (pc := 23) F dX4_dipThen_23 (v := (-1 : Int32)) (by decide) ?_
      exact g_iret (pc := 24) F X0 dX4_dipThen_24 (Nat.le_of_ble_eq_true rfl) (Nat.le_of_ble_eq_true rfl) rfl ⟨congrArg (fun z => some (Value.int z)) (by first | (unfold S_dipThen; first | exact (if_neg (fun z => c_4 z.1)).symm | exact (if_neg (fun z => c_11 z.2.1)).symm | exact (if_neg (fun z => c_20 z.2.2)).symm | (rw [if_pos ⟨c_4, c_11, c_20⟩, N_nI (by omega), N_nI (by omega)]; first | (rw [if_pos c_31]; first | exact eG | exact eD) | (rw [if_neg c_31]; first | exact eG | exact eD))) | fail), _, _, _, rfl⟩
    · refine g_iload_n (pc := 14) F dX4_dipThen_14 rfl ?_
      refine g_iconst (pc := 15) F dX4_dipThen_15 (v := nI 0) rfl ?_
      refine g_iconst (pc := 16) F dX4_dipThen_16 (v := nI 1) rfl ?_
      refine h_readS (pc := 17) F (c_isWithin _ _ _) mi_X4_isWithin ks_X4_129 dX4_dipThen_17 [] rfl (by decide) (by decide) rfl rfl (Nat.le_of_ble_eq_true rfl) trivial (by decide) (by decide) ?_
      refine g_ifne_d (pc := 20) F dX4_dipThen_20 (tgt := 25) rfl (fun c_20 => ?_) (fun c_20 => ?_)
      · obtain ⟨j, hj, rfl⟩ := dip_ex c_4
        obtain ⟨m0, hm0, rfl⟩ := late_ex c_11
        refine g_aload_n (pc := 25) F dX4_dipThen_25 rfl ?_
        refine g_iload_n (pc := 26) F dX4_dipThen_26 rfl ?_
        refine i_callV (pc := 27) F (c_lookOn b X Y Z im S g h r _ m0 hR hI h4 rfl (by omega)) mi_X4_lookOn kv_X4_176 rfl rfl dX4_dipThen_27 (by decide) (by decide) rfl (Nat.le_of_ble_eq_true rfl) (by decide) (by decide) ?_
        rintro _ _ ⟨rfl, Y2, rfl, hY2⟩ -
        refine g_iload_n (pc := 30) F dX4_dipThen_30 rfl ?_
        refine g_if_ne (pc := 31) F dX4_dipThen_31 (tgt := 46) rfl (fun c_31 => ?_) (fun c_31 => ?_)
        · obtain ⟨eG, eD⟩ := hY2.2.2.1 j hj
          refine g_aload_n (pc := 46) F dX4_dipThen_46 rfl ?_
          refine g_getf (pc := 47) F fl_X4_16 dX4_dipThen_47 rfl rfl ?_
          refine g_getf (pc := 50) F fl_X4_123 dX4_dipThen_50 rfl rfl ?_
          refine g_iload_n (pc := 53) F dX4_dipThen_53 rfl ?_
          refine g_iald2 (pc := 54) F dX4_dipThen_54 rfl rfl (by first | omega | (simp only [ix]; omega)) (by decide) ?_
          exact g_iret (pc := 55) F X0 dX4_dipThen_55 (Nat.le_of_ble_eq_true rfl) (Nat.le_of_ble_eq_true rfl) rfl ⟨congrArg (fun z => some (Value.int z)) (by first | (unfold S_dipThen; first | exact (if_neg (fun z => c_4 z.1)).symm | exact (if_neg (fun z => c_11 z.2.1)).symm | exact (if_neg (fun z => c_20 z.2.2)).symm | (rw [if_pos ⟨c_4, c_11, c_20⟩, N_nI (by omega), N_nI (by omega)]; first | (rw [if_pos c_31]; first | exact eG | exact eD) | (rw [if_neg c_31]; first | exact eG | exact eD))) | fail), _, _, _, rfl⟩
        · obtain ⟨eG, eD⟩ := hY2.2.2.1 j hj
          refine g_aload_n (pc := 34) F dX4_dipThen_34 rfl ?_
          refine g_getf (pc := 35) F fl_X4_16 dX4_dipThen_35 rfl rfl ?_
          refine g_getf (pc := 38) F fl_X4_120 dX4_dipThen_38 rfl rfl ?_
          refine g_iload_n (pc := 41) F dX4_dipThen_41 rfl ?_
          refine g_iald2 (pc := 42) F dX4_dipThen_42 rfl rfl (by first | omega | (simp only [ix]; omega)) (by decide) ?_
          refine g_goto (pc := 43) F dX4_dipThen_43 (tgt := 55) rfl ?_
          exact g_iret (pc := 55) F X0 dX4_dipThen_55 (Nat.le_of_ble_eq_true rfl) (Nat.le_of_ble_eq_true rfl) rfl ⟨congrArg (fun z => some (Value.int z)) (by first | (unfold S_dipThen; first | exact (if_neg (fun z => c_4 z.1)).symm | exact (if_neg (fun z => c_11 z.2.1)).symm | exact (if_neg (fun z => c_20 z.2.2)).symm | (rw [if_pos ⟨c_4, c_11, c_20⟩, N_nI (by omega), N_nI (by omega)]; first | (rw [if_pos c_31]; first | exact eG | exact eD) | (rw [if_neg c_31]; first | exact eG | exact eD))) | fail), _, _, _, rfl⟩
      · refine g_iconst (pc := 23) F dX4_dipThen_23 (v := (-1 : Int32)) (by decide) ?_
        exact g_iret (pc := 24) F X0 dX4_dipThen_24 (Nat.le_of_ble_eq_true rfl) (Nat.le_of_ble_eq_true rfl) rfl ⟨congrArg (fun z => some (Value.int z)) (by first | (unfold S_dipThen; first | exact (if_neg (fun z => c_4 z.1)).symm | exact (if_neg (fun z => c_11 z.2.1)).symm | exact (if_neg (fun z => c_20 z.2.2)).symm | (rw [if_pos ⟨c_4, c_11, c_20⟩, N_nI (by omega), N_nI (by omega)]; first | (rw [if_pos c_31]; first | exact eG | exact eD) | (rw [if_neg c_31]; first | exact eG | exact eD))) | fail), _, _, _, rfl⟩

set_option maxRecDepth 100000 in
set_option maxHeartbeats 800000 in
theorem m_dipThen (s m ig ws : Nat → Int32) (hg : Int32) (T : TX) (V : VX) (hI : Iv s) (d n wh : Int32) : Ctr yX5_dipThen cX5_dipThen 4 (some .int) 7 0 0 [.ref 0, .int d, .int n, .int wh] (rW s m ig ws hg T V) (LookR (.int (S_dipThen s d n wh)) s ig ws hg T) := by
  refine Ctr.of rfl (Nat.le_of_ble_eq_true rfl) ⟨clS_of rfl, clH_of rfl⟩ (fun K F X0 => ?_)
  show Go K 0 0 0 [(0, .ref 0), (1, .int d), (2, .int n), (3, .int wh)] [] (rW s m ig ws hg T V)
  refine g_iload_n (pc := 0) F dX5_dipThen_0 rfl ?_
  refine h_readS (pc := 1) F (c_mDip _) mi_X5_isDip ks_X5_61 dX5_dipThen_1 [] rfl (by decide) (by decide) rfl rfl (Nat.le_of_ble_eq_true rfl) trivial (by decide) (by decide) ?_
  refine g_ifeq_d (pc := 4) F dX5_dipThen_4 (tgt := 23) rfl (fun c_4 => ?_) (fun c_4 => ?_)
  · refine g_iconst (pc := 23) F dX5_dipThen_23 (v := (-1 : Int32)) (by decide) ?_
    exact g_iret (pc := 24) F X0 dX5_dipThen_24 (Nat.le_of_ble_eq_true rfl) (Nat.le_of_ble_eq_true rfl) rfl ⟨congrArg (fun z => some (Value.int z)) (by first | (unfold S_dipThen; first | exact (if_neg (fun z => c_4 z.1)).symm | exact (if_neg (fun z => c_11 z.2.1)).symm | exact (if_neg (fun z => c_20 z.2.2)).symm | (rw [if_pos ⟨c_4, c_11, c_20⟩, N_nI (by omega), N_nI (by omega)]; first | (rw [if_pos c_35]; try rfl) | (rw [if_neg c_35]; try rfl))) | fail), _, _, rfl⟩
  · refine g_iload_n (pc := 7) F dX5_dipThen_7 rfl ?_
    refine h_readS (pc := 8) F (c_mLate _) mi_X5_isLate ks_X5_155 dX5_dipThen_8 [] rfl (by decide) (by decide) rfl rfl (Nat.le_of_ble_eq_true rfl) trivial (by decide) (by decide) ?_
    refine g_ifeq_d (pc := 11) F dX5_dipThen_11 (tgt := 23) rfl (fun c_11 => ?_) (fun c_11 => ?_)
    · refine g_iconst (pc := 23) F dX5_dipThen_23 (v := (-1 : Int32)) (by decide) ?_
      exact g_iret (pc := 24) F X0 dX5_dipThen_24 (Nat.le_of_ble_eq_true rfl) (Nat.le_of_ble_eq_true rfl) rfl ⟨congrArg (fun z => some (Value.int z)) (by first | (unfold S_dipThen; first | exact (if_neg (fun z => c_4 z.1)).symm | exact (if_neg (fun z => c_11 z.2.1)).symm | exact (if_neg (fun z => c_20 z.2.2)).symm | (rw [if_pos ⟨c_4, c_11, c_20⟩, N_nI (by omega), N_nI (by omega)]; first | (rw [if_pos c_35]; try rfl) | (rw [if_neg c_35]; try rfl))) | fail), _, _, rfl⟩
    · refine g_iload_n (pc := 14) F dX5_dipThen_14 rfl ?_
      refine g_iconst (pc := 15) F dX5_dipThen_15 (v := nI 0) rfl ?_
      refine g_iconst (pc := 16) F dX5_dipThen_16 (v := nI 1) rfl ?_
      refine h_readS (pc := 17) F (c_isIn _ _ _) mi_X5_isIn ks_X5_43 dX5_dipThen_17 [] rfl (by decide) (by decide) rfl rfl (Nat.le_of_ble_eq_true rfl) trivial (by decide) (by decide) ?_
      refine g_ifne_d (pc := 20) F dX5_dipThen_20 (tgt := 25) rfl (fun c_20 => ?_) (fun c_20 => ?_)
      · obtain ⟨j, hj, rfl⟩ := dip_ex c_4
        obtain ⟨m0, hm0, rfl⟩ := late_ex c_11
        refine g_aload_n (pc := 25) F dX5_dipThen_25 rfl ?_
        refine g_iload_n (pc := 26) F dX5_dipThen_26 rfl ?_
        refine i_callV (pc := 27) F (m_takes s m ig ws hg T V _ m0 hI rfl (by omega)) mi_X5_takes kv_X5_158 rfl rfl dX5_dipThen_27 (by decide) (by decide) rfl (Nat.le_of_ble_eq_true rfl) (by decide) (by decide) ?_
        rintro _ _ ⟨rfl, rfl⟩ -
        refine g_aload_n (pc := 30) F dX5_dipThen_30 rfl ?_
        refine g_getf (pc := 31) F fl_X5_13 dX5_dipThen_31 rfl rfl ?_
        refine g_iload_n (pc := 34) F dX5_dipThen_34 rfl ?_
        refine g_if_ne (pc := 35) F dX5_dipThen_35 (tgt := 42) rfl (fun c_35 => ?_) (fun c_35 => ?_)
        · refine g_bipush (pc := 42) F dX5_dipThen_42 (v := nI 15) rfl ?_
          refine g_iload_n (pc := 44) F dX5_dipThen_44 rfl ?_
          refine g_iaddN (pc := 45) F dX5_dipThen_45 ?_
          refine g_iald2 (pc := 46) F dX5_dipThen_46 rfl rfl (by first | omega | (simp only [ix]; omega)) (by decide) ?_
          exact g_iret (pc := 47) F X0 dX5_dipThen_47 (Nat.le_of_ble_eq_true rfl) (Nat.le_of_ble_eq_true rfl) rfl ⟨congrArg (fun z => some (Value.int z)) (by first | (unfold S_dipThen; first | exact (if_neg (fun z => c_4 z.1)).symm | exact (if_neg (fun z => c_11 z.2.1)).symm | exact (if_neg (fun z => c_20 z.2.2)).symm | (rw [if_pos ⟨c_4, c_11, c_20⟩, N_nI (by omega), N_nI (by omega)]; first | (rw [if_pos c_35]; try rfl) | (rw [if_neg c_35]; try rfl))) | fail), _, _, rfl⟩
        · refine g_iconst (pc := 38) F dX5_dipThen_38 (v := nI 5) rfl ?_
          refine g_goto (pc := 39) F dX5_dipThen_39 (tgt := 44) rfl ?_
          refine g_iload_n (pc := 44) F dX5_dipThen_44 rfl ?_
          refine g_iaddN (pc := 45) F dX5_dipThen_45 ?_
          refine g_iald2 (pc := 46) F dX5_dipThen_46 rfl rfl (by first | omega | (simp only [ix]; omega)) (by decide) ?_
          exact g_iret (pc := 47) F X0 dX5_dipThen_47 (Nat.le_of_ble_eq_true rfl) (Nat.le_of_ble_eq_true rfl) rfl ⟨congrArg (fun z => some (Value.int z)) (by first | (unfold S_dipThen; first | exact (if_neg (fun z => c_4 z.1)).symm | exact (if_neg (fun z => c_11 z.2.1)).symm | exact (if_neg (fun z => c_20 z.2.2)).symm | (rw [if_pos ⟨c_4, c_11, c_20⟩, N_nI (by omega), N_nI (by omega)]; first | (rw [if_pos c_35]; try rfl) | (rw [if_neg c_35]; try rfl))) | fail), _, _, rfl⟩
      · refine g_iconst (pc := 23) F dX5_dipThen_23 (v := (-1 : Int32)) (by decide) ?_
        exact g_iret (pc := 24) F X0 dX5_dipThen_24 (Nat.le_of_ble_eq_true rfl) (Nat.le_of_ble_eq_true rfl) rfl ⟨congrArg (fun z => some (Value.int z)) (by first | (unfold S_dipThen; first | exact (if_neg (fun z => c_4 z.1)).symm | exact (if_neg (fun z => c_11 z.2.1)).symm | exact (if_neg (fun z => c_20 z.2.2)).symm | (rw [if_pos ⟨c_4, c_11, c_20⟩, N_nI (by omega), N_nI (by omega)]; first | (rw [if_pos c_35]; try rfl) | (rw [if_neg c_35]; try rfl))) | fail), _, _, rfl⟩

set_option maxRecDepth 100000 in
set_option maxHeartbeats 800000 in
theorem c_dipsDone (b : Int32) (X Y Z : DX) (im : Int32) (S : Nat → SX) (g h : Nat → Int32) (r : Nat → Int32) (hR : Rel b X r) (hI : Iv r) (h4 : r 4 = nI 0) (n : Int32) : Ctr yX4_dipsDone cX4_dipsDone 2 (some .int) 7 0 0 [.ref 0, .int n] (mW X Y Z im S g h) (Look (.int (S_dipsDone r n)) X Z im S) := by
  refine Ctr.of rfl (Nat.le_of_ble_eq_true rfl) ⟨clS_of rfl, mW_cl _ _ _ _ _ _ _⟩ (fun K F X0 => ?_)
  show Go K 0 0 0 [(0, .ref 0), (1, .int n)] [] (mW X Y Z im S g h)
  refine g_iload_n (pc := 0) F dX4_dipsDone_0 rfl ?_
  refine h_readS (pc := 1) F (c_isDaysOn _) mi_X4_isDaysOn ks_X4_173 dX4_dipsDone_1 [] rfl (by decide) (by decide) rfl rfl (Nat.le_of_ble_eq_true rfl) trivial (by decide) (by decide) ?_
  refine g_ifne_d (pc := 4) F dX4_dipsDone_4 (tgt := 9) rfl (fun c_4 => ?_) (fun c_4 => ?_)
  · obtain ⟨m0, hm0, rfl⟩ := late_ex c_4
    refine g_aload_n (pc := 9) F dX4_dipsDone_9 rfl ?_
    refine g_iload_n (pc := 10) F dX4_dipsDone_10 rfl ?_
    refine i_callV (pc := 11) F (c_lookOn b X Y Z im S g h r _ m0 hR hI h4 rfl (by omega)) mi_X4_lookOn kv_X4_176 rfl rfl dX4_dipsDone_11 (by decide) (by decide) rfl (Nat.le_of_ble_eq_true rfl) (by decide) (by decide) ?_
    rintro _ _ ⟨rfl, Y2, rfl, hY2⟩ -
    refine g_aload_n (pc := 14) F dX4_dipsDone_14 rfl ?_
    refine g_getf (pc := 15) F fl_X4_16 dX4_dipsDone_15 rfl rfl ?_
    refine h_readV (pc := 18) F (c_doneDips _ Y2 _ hY2) mi_X0_doneDips kv_X4_179 rfl rfl dX4_dipsDone_18 [9, 10, 11, 12, 13, 14, 15, 16] sub_mind (by decide) (by decide) rfl rfl (Nat.le_of_ble_eq_true rfl) trivial (by decide) (by decide) ?_
    exact g_iret (pc := 21) F X0 dX4_dipsDone_21 (Nat.le_of_ble_eq_true rfl) (Nat.le_of_ble_eq_true rfl) rfl ⟨congrArg (fun z => some (Value.int z)) (by first | (unfold S_dipsDone; first | exact (if_neg c_4).symm | (rw [if_pos c_4, N_nI (by omega)]; try first | rfl | exact hY2.1.2.2.2.2.1.trans (Int32.add_zero _))) | fail), _, _, _, rfl⟩
  · refine g_iconst (pc := 7) F dX4_dipsDone_7 (v := (-1 : Int32)) (by decide) ?_
    exact g_iret (pc := 8) F X0 dX4_dipsDone_8 (Nat.le_of_ble_eq_true rfl) (Nat.le_of_ble_eq_true rfl) rfl ⟨congrArg (fun z => some (Value.int z)) (by first | (unfold S_dipsDone; first | exact (if_neg c_4).symm | (rw [if_pos c_4, N_nI (by omega)]; try first | rfl | exact hY2.1.2.2.2.2.1.trans (Int32.add_zero _))) | fail), _, _, _, rfl⟩

set_option maxRecDepth 100000 in
set_option maxHeartbeats 800000 in
theorem m_dipsDone (s m ig ws : Nat → Int32) (hg : Int32) (T : TX) (V : VX) (hI : Iv s) (n : Int32) : Ctr yX5_dipsDone cX5_dipsDone 2 (some .int) 7 0 0 [.ref 0, .int n] (rW s m ig ws hg T V) (LookR (.int (S_dipsDone s n)) s ig ws hg T) := by
  refine Ctr.of rfl (Nat.le_of_ble_eq_true rfl) ⟨clS_of rfl, clH_of rfl⟩ (fun K F X0 => ?_)
  show Go K 0 0 0 [(0, .ref 0), (1, .int n)] [] (rW s m ig ws hg T V)
  refine g_iload_n (pc := 0) F dX5_dipsDone_0 rfl ?_
  refine h_readS (pc := 1) F (c_mLate _) mi_X5_isLate ks_X5_155 dX5_dipsDone_1 [] rfl (by decide) (by decide) rfl rfl (Nat.le_of_ble_eq_true rfl) trivial (by decide) (by decide) ?_
  refine g_ifne_d (pc := 4) F dX5_dipsDone_4 (tgt := 9) rfl (fun c_4 => ?_) (fun c_4 => ?_)
  · obtain ⟨m0, hm0, rfl⟩ := late_ex c_4
    refine g_aload_n (pc := 9) F dX5_dipsDone_9 rfl ?_
    refine g_iload_n (pc := 10) F dX5_dipsDone_10 rfl ?_
    refine i_callV (pc := 11) F (m_takes s m ig ws hg T V _ m0 hI rfl (by omega)) mi_X5_takes kv_X5_158 rfl rfl dX5_dipsDone_11 (by decide) (by decide) rfl (Nat.le_of_ble_eq_true rfl) (by decide) (by decide) ?_
    rintro _ _ ⟨rfl, rfl⟩ -
    refine g_aload_n (pc := 14) F dX5_dipsDone_14 rfl ?_
    refine g_getf (pc := 15) F fl_X5_13 dX5_dipsDone_15 rfl rfl ?_
    refine h_readS (pc := 18) F (c_doneSet _) mi_X5_doneSet ks_X5_162 dX5_dipsDone_18 [2] rfl (by decide) (by decide) rfl rfl (Nat.le_of_ble_eq_true rfl) trivial (by decide) (by decide) ?_
    exact g_iret (pc := 21) F X0 dX5_dipsDone_21 (Nat.le_of_ble_eq_true rfl) (Nat.le_of_ble_eq_true rfl) rfl ⟨congrArg (fun z => some (Value.int z)) (by first | (unfold S_dipsDone; first | exact (if_neg c_4).symm | (rw [if_pos c_4, N_nI (by omega)]; try rfl)) | fail), _, _, rfl⟩
  · refine g_iconst (pc := 7) F dX5_dipsDone_7 (v := (-1 : Int32)) (by decide) ?_
    exact g_iret (pc := 8) F X0 dX5_dipsDone_8 (Nat.le_of_ble_eq_true rfl) (Nat.le_of_ble_eq_true rfl) rfl ⟨congrArg (fun z => some (Value.int z)) (by first | (unfold S_dipsDone; first | exact (if_neg c_4).symm | (rw [if_pos c_4, N_nI (by omega)]; try rfl)) | fail), _, _, rfl⟩

set_option maxRecDepth 100000 in
set_option maxHeartbeats 800000 in
theorem c_lost (b : Int32) (X Y Z : DX) (im : Int32) (S : Nat → SX) (g h : Nat → Int32) (r : Nat → Int32) (hR : Rel b X r) (hI : Iv r) (h4 : r 4 = nI 0) (n : Int32) : Ctr yX4_lost cX4_lost 2 (some .int) 7 0 0 [.ref 0, .int n] (mW X Y Z im S g h) (Look (.int (S_lost r n)) X Z im S) := by
  refine Ctr.of rfl (Nat.le_of_ble_eq_true rfl) ⟨clS_of rfl, mW_cl _ _ _ _ _ _ _⟩ (fun K F X0 => ?_)
  show Go K 0 0 0 [(0, .ref 0), (1, .int n)] [] (mW X Y Z im S g h)
  refine g_iload_n (pc := 0) F dX4_lost_0 rfl ?_
  refine h_readS (pc := 1) F (c_isDaysOn _) mi_X4_isDaysOn ks_X4_173 dX4_lost_1 [] rfl (by decide) (by decide) rfl rfl (Nat.le_of_ble_eq_true rfl) trivial (by decide) (by decide) ?_
  refine g_ifne_d (pc := 4) F dX4_lost_4 (tgt := 9) rfl (fun c_4 => ?_) (fun c_4 => ?_)
  · obtain ⟨m0, hm0, rfl⟩ := late_ex c_4
    refine g_aload_n (pc := 9) F dX4_lost_9 rfl ?_
    refine g_iload_n (pc := 10) F dX4_lost_10 rfl ?_
    refine i_callV (pc := 11) F (c_lookOn b X Y Z im S g h r _ m0 hR hI h4 rfl (by omega)) mi_X4_lookOn kv_X4_176 rfl rfl dX4_lost_11 (by decide) (by decide) rfl (Nat.le_of_ble_eq_true rfl) (by decide) (by decide) ?_
    rintro _ _ ⟨rfl, Y2, rfl, hY2⟩ -
    refine g_aload_n (pc := 14) F dX4_lost_14 rfl ?_
    refine g_getf (pc := 15) F fl_X4_16 dX4_lost_15 rfl rfl ?_
    refine g_getf (pc := 18) F fl_X4_196 dX4_lost_18 rfl rfl ?_
    exact g_iret (pc := 21) F X0 dX4_lost_21 (Nat.le_of_ble_eq_true rfl) (Nat.le_of_ble_eq_true rfl) rfl ⟨congrArg (fun z => some (Value.int z)) (by first | (unfold S_lost; first | exact (if_neg c_4).symm | (rw [if_pos c_4, N_nI (by omega)]; try first | rfl | exact hY2.1.2.2.2.2.1.trans (Int32.add_zero _))) | fail), _, _, _, rfl⟩
  · refine g_iconst (pc := 7) F dX4_lost_7 (v := (-1 : Int32)) (by decide) ?_
    exact g_iret (pc := 8) F X0 dX4_lost_8 (Nat.le_of_ble_eq_true rfl) (Nat.le_of_ble_eq_true rfl) rfl ⟨congrArg (fun z => some (Value.int z)) (by first | (unfold S_lost; first | exact (if_neg c_4).symm | (rw [if_pos c_4, N_nI (by omega)]; try first | rfl | exact hY2.1.2.2.2.2.1.trans (Int32.add_zero _))) | fail), _, _, _, rfl⟩

set_option maxRecDepth 100000 in
set_option maxHeartbeats 800000 in
theorem m_lost (s m ig ws : Nat → Int32) (hg : Int32) (T : TX) (V : VX) (hI : Iv s) (n : Int32) : Ctr yX5_lost cX5_lost 2 (some .int) 7 0 0 [.ref 0, .int n] (rW s m ig ws hg T V) (LookR (.int (S_lost s n)) s ig ws hg T) := by
  refine Ctr.of rfl (Nat.le_of_ble_eq_true rfl) ⟨clS_of rfl, clH_of rfl⟩ (fun K F X0 => ?_)
  show Go K 0 0 0 [(0, .ref 0), (1, .int n)] [] (rW s m ig ws hg T V)
  refine g_iload_n (pc := 0) F dX5_lost_0 rfl ?_
  refine h_readS (pc := 1) F (c_mLate _) mi_X5_isLate ks_X5_155 dX5_lost_1 [] rfl (by decide) (by decide) rfl rfl (Nat.le_of_ble_eq_true rfl) trivial (by decide) (by decide) ?_
  refine g_ifne_d (pc := 4) F dX5_lost_4 (tgt := 9) rfl (fun c_4 => ?_) (fun c_4 => ?_)
  · obtain ⟨m0, hm0, rfl⟩ := late_ex c_4
    refine g_aload_n (pc := 9) F dX5_lost_9 rfl ?_
    refine g_iload_n (pc := 10) F dX5_lost_10 rfl ?_
    refine i_callV (pc := 11) F (m_takes s m ig ws hg T V _ m0 hI rfl (by omega)) mi_X5_takes kv_X5_158 rfl rfl dX5_lost_11 (by decide) (by decide) rfl (Nat.le_of_ble_eq_true rfl) (by decide) (by decide) ?_
    rintro _ _ ⟨rfl, rfl⟩ -
    refine g_aload_n (pc := 14) F dX5_lost_14 rfl ?_
    refine g_getf (pc := 15) F fl_X5_13 dX5_lost_15 rfl rfl ?_
    refine g_iconst (pc := 18) F dX5_lost_18 (v := nI 3) rfl ?_
    refine g_iald2 (pc := 19) F dX5_lost_19 rfl rfl (by first | omega | (simp only [ix]; omega)) (by decide) ?_
    exact g_iret (pc := 20) F X0 dX5_lost_20 (Nat.le_of_ble_eq_true rfl) (Nat.le_of_ble_eq_true rfl) rfl ⟨congrArg (fun z => some (Value.int z)) (by first | (unfold S_lost; first | exact (if_neg c_4).symm | (rw [if_pos c_4, N_nI (by omega)]; try rfl)) | fail), _, _, rfl⟩
  · refine g_iconst (pc := 7) F dX5_lost_7 (v := (-1 : Int32)) (by decide) ?_
    exact g_iret (pc := 8) F X0 dX5_lost_8 (Nat.le_of_ble_eq_true rfl) (Nat.le_of_ble_eq_true rfl) rfl ⟨congrArg (fun z => some (Value.int z)) (by first | (unfold S_lost; first | exact (if_neg c_4).symm | (rw [if_pos c_4, N_nI (by omega)]; try rfl)) | fail), _, _, rfl⟩

