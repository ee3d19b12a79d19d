/-! meet -/
abbrev nearP (x : Int32) : Prop := (-1 : Int32) ≤ x ∧ x ≤ nI 1
abbrev meetP (r : Nat → Int32) (c e : Nat) (i : Nat) : Prop := nearP (daysR r i (ix c 2) - daysR r i (ix e 2))
def S_meet (r : Nat → Int32) (a e : Int32) : Int32 := if oneP r a ∧ oneP r e ∧ ¬ a = e then seekN (meetP r (N a) (N e)) 61 0 else (-1)
theorem near_abs : ∀ p, p < 10 → ∀ q, q < 10 → (nI 1 < (if 0 ≤ nI p - nI q then nI p - nI q else 0 - (nI p - nI q)) ↔ ¬ nearP (nI p - nI q)) := by decide +kernel
theorem near_of {r : Nat → Int32} {c e : Nat} (hI : Iv r) (hc : c < many r) (he : e < many r) : nI 1 < (if 0 ≤ r (ix c 2) - r (ix e 2) then r (ix c 2) - r (ix e 2) else 0 - (r (ix c 2) - r (ix e 2))) ↔ ¬ nearP (r (ix c 2) - r (ix e 2)) := by
  rw [(hI.2.2.1 c hc).2.2.1.1, (hI.2.2.1 e he).2.2.1.1]
  exact near_abs _ (hI.2.2.1 c hc).2.2.1.2 _ (hI.2.2.1 e he).2.2.1.2
theorem S_meet_of {r : Nat → Int32} {j q : Nat} (hj : j < 6) (hq : q < 6) (h1 : oneP r (nI j)) (h2 : oneP r (nI q)) (h3 : ¬ nI j = nI q) : S_meet r (nI j) (nI q) = seekN (meetP r j q) (61 - 0) 0 := by
  unfold S_meet
  rw [if_pos ⟨h1, h2, h3⟩, N_nI (by omega), N_nI (by omega)]
set_option maxRecDepth 100000 in
set_option maxHeartbeats 800000 in
theorem c_meet (b : Int32) (X Y Z : DX) (im : Int32) (S : Nat → SX) (g h : Nat → Int32) (r : Nat → Int32) (hR : Rel b X r) (hI : Iv r) (h4 : r 4 = nI 0) (c n : Int32) : Ctr yX4_meet cX4_meet 4 (some .int) 7 0 0 [.ref 0, .int c, .int n] (mW X Y Z im S g h) (Look (.int (S_meet r c n)) X Z im S) := by
  refine Ctr.of rfl (Nat.le_of_ble_eq_true rfl) ⟨clS_of rfl, mW_cl _ _ _ _ _ _ _⟩ (fun K F X0 => ?_)
  show Go K 0 0 0 [(0, .ref 0), (1, .int c), (2, .int n)] [] (mW X Y Z im S g h)
  refine g_aload_n (pc := 0) F dX4_meet_0 rfl ?_
  refine g_iload_n (pc := 1) F dX4_meet_1 rfl ?_
  refine i_readV (pc := 2) F (c_isCorporal b X Y Z im S g h r _ hR hI) mi_X4_isCorporal kv_X4_78 rfl rfl dX4_meet_2 (by decide) (by decide) rfl (Nat.le_of_ble_eq_true rfl) (by decide) (by decide) ?_
  refine g_ifeq_d (pc := 5) F dX4_meet_5 (tgt := 21) rfl (fun c_5 => ?_) (fun c_5 => ?_)
  · refine g_iconst (pc := 21) F dX4_meet_21 (v := (-1 : Int32)) (by decide) ?_
    exact g_iret (pc := 22) F X0 dX4_meet_22 (Nat.le_of_ble_eq_true rfl) (Nat.le_of_ble_eq_true rfl) rfl ⟨congrArg (fun z => some (Value.int z)) (by first | (first | exact (if_neg (fun z => c_5 z.1)).symm | exact (if_neg (fun z => c_13 z.2.1)).symm | exact (if_neg (fun z => z.2.2 c_18)).symm | fail) | fail), _, _, _, rfl⟩
  · refine g_aload_n (pc := 8) F dX4_meet_8 rfl ?_
    refine g_iload_n (pc := 9) F dX4_meet_9 rfl ?_
    refine i_readV (pc := 10) F (c_isCorporal b X Y Z im S g h r _ hR hI) mi_X4_isCorporal kv_X4_78 rfl rfl dX4_meet_10 (by decide) (by decide) rfl (Nat.le_of_ble_eq_true rfl) (by decide) (by decide) ?_
    refine g_ifeq_d (pc := 13) F dX4_meet_13 (tgt := 21) rfl (fun c_13 => ?_) (fun c_13 => ?_)
    · refine g_iconst (pc := 21) F dX4_meet_21 (v := (-1 : Int32)) (by decide) ?_
      exact g_iret (pc := 22) F X0 dX4_meet_22 (Nat.le_of_ble_eq_true rfl) (Nat.le_of_ble_eq_true rfl) rfl ⟨congrArg (fun z => some (Value.int z)) (by first | (first | exact (if_neg (fun z => c_5 z.1)).symm | exact (if_neg (fun z => c_13 z.2.1)).symm | exact (if_neg (fun z => z.2.2 c_18)).symm | fail) | fail), _, _, _, rfl⟩
    · refine g_iload_n (pc := 16) F dX4_meet_16 rfl ?_
      refine g_iload_n (pc := 17) F dX4_meet_17 rfl ?_
      refine g_ic_ne (pc := 18) F dX4_meet_18 (tgt := 23) rfl (fun c_18 => ?_) (fun c_18 => ?_)
      · have hm6 := hI.1.2
        obtain ⟨j, hj, rfl⟩ := one_ex hI c_5
        obtain ⟨q, hq, rfl⟩ := one_ex hI c_13
        have hE := S_meet_of (by omega) (by omega) c_5 c_13 c_18
        refine g_aload_n (pc := 23) F dX4_meet_23 rfl ?_
        refine g_getf (pc := 24) F fl_X4_16 dX4_meet_24 rfl rfl ?_
        refine g_aload_n (pc := 27) F dX4_meet_27 rfl ?_
        refine g_getf (pc := 28) F fl_X4_12 dX4_meet_28 rfl rfl ?_
        refine h_callV (pc := 31) F (c_becomes b Y X r hR hI h4) mi_X0_becomes kv_X4_57 rfl rfl dX4_meet_31 [9, 10, 11, 12, 13, 14, 15, 16, 1, 2, 3, 4, 5, 6, 7, 8] sub_mn (by decide) (by decide) rfl rfl (Nat.le_of_ble_eq_true rfl) (by decide) (by decide) ?_
        rintro _ _ ⟨rfl, Y2, rfl, hY2⟩ -
        rw [place_mn]
        refine g_iconst (pc := 34) F dX4_meet_34 (v := nI 0) rfl ?_
        refine g_istore_n (pc := 35) F dX4_meet_35 (by decide) ?_
        have L : ∀ i, i ≤ 61 → S_meet r (nI j) (nI q) = seekN (meetP r j q) (61 - i) i → ∀ Ya, Rel (nI 0 - r 3) Ya (daysR r i) → Go K 0 0 36 [(0, .ref 0), (1, .int (nI j)), (2, .int (nI q)), (3, .int (nI (i)))] [] (mW X Ya Z im S g h) := loop_up (P := fun i => S_meet r (nI j) (nI q) = seekN (meetP r j q) (61 - i) i → ∀ Ya, Rel (nI 0 - r 3) Ya (daysR r i) → Go K 0 0 36 [(0, .ref 0), (1, .int (nI j)), (2, .int (nI q)), (3, .int (nI (i)))] [] (mW X Ya Z im S g h)) (fun i hi ih => by
          intro he Ya hRa
          have hIa := (daysR_ok hI i).1
          have hma : many (daysR r i) = many r := many_of (daysR_ok hI i).2.1
          have hja : j < many (daysR r i) := by omega
          have hqa : q < many (daysR r i) := by omega
          have eA1 : dA Ya j = daysR r i (ix j 2) := (hRa.2.2.2 j hja).2.2.1
          have eA2 : dA Ya q = daysR r i (ix q 2) := (hRa.2.2.2 q hqa).2.2.1
          refine g_iload_n (pc := 36) F dX4_meet_36 rfl ?_
          refine g_bipush (pc := 37) F dX4_meet_37 (v := nI 60) rfl ?_
          refine g_icN_gt (pc := 39) F dX4_meet_39 (tgt := 83) rfl rfl rfl (by omega) (by omega) (fun c_39 => ?_) (fun c_39 => ?_)
          · obtain rfl : i = 61 := by omega
            refine g_bipush (pc := 83) F dX4_meet_83 (v := (-4 : Int32)) (by decide) ?_
            exact g_iret (pc := 85) F X0 dX4_meet_85 (Nat.le_of_ble_eq_true rfl) (Nat.le_of_ble_eq_true rfl) rfl ⟨congrArg (fun z => some (Value.int z)) (by first | (first | exact (seek_yes (by omega) he (Decidable.not_not.mp (fun z => c_65 ((near_of hIa hja hqa).mpr z)))).symm | exact he.symm | exact (if_neg (fun z => c_5 z.1)).symm | exact (if_neg (fun z => c_13 z.2.1)).symm | exact (if_neg (fun z => z.2.2 c_18)).symm | fail) | fail), _, _, _, rfl⟩
          · refine g_aload_n (pc := 42) F dX4_meet_42 rfl ?_
            refine g_getf (pc := 43) F fl_X4_16 dX4_meet_43 rfl rfl ?_
            refine g_getf (pc := 46) F fl_X4_88 dX4_meet_46 rfl rfl ?_
            refine g_iload_n (pc := 49) F dX4_meet_49 rfl ?_
            refine g_iald2 (pc := 50) F dX4_meet_50 rfl rfl (by first | omega | (simp only [ix]; omega)) (by decide) ?_
            refine g_aload_n (pc := 51) F dX4_meet_51 rfl ?_
            refine g_getf (pc := 52) F fl_X4_16 dX4_meet_52 rfl rfl ?_
            refine g_getf (pc := 55) F fl_X4_88 dX4_meet_55 rfl rfl ?_
            refine g_iload_n (pc := 58) F dX4_meet_58 rfl ?_
            refine g_iald2 (pc := 59) F dX4_meet_59 rfl rfl (by first | omega | (simp only [ix]; omega)) (by decide) ?_
            rw [eA1, eA2]
            refine g_isub (pc := 60) F dX4_meet_60 ?_
            refine g_mabs (pc := 61) F dX4_meet_61 km_X4_185 (by decide) (Nat.le_of_ble_eq_true rfl) (by decide) (by decide) ?_
            refine g_iconst (pc := 64) F dX4_meet_64 (v := nI 1) rfl ?_
            refine g_ic_gt (pc := 65) F dX4_meet_65 (tgt := 70) rfl (fun c_65 => ?_) (fun c_65 => ?_)
            · refine g_aload_n (pc := 70) F dX4_meet_70 rfl ?_
              refine g_getf (pc := 71) F fl_X4_16 dX4_meet_71 rfl rfl ?_
              refine h_callV (pc := 74) F (c_passDay _ Ya _ hRa hIa) mi_X0_passDay kv_X4_182 rfl rfl dX4_meet_74 [9, 10, 11, 12, 13, 14, 15, 16] sub_mind (by decide) (by decide) rfl rfl (Nat.le_of_ble_eq_true rfl) (by decide) (by decide) ?_
              rintro _ _ ⟨rfl, Y3, rfl, hY3⟩ -
              rw [place_mind]
              refine g_iincN (pc := 77) F dX4_meet_77 rfl (by decide) ?_
              refine g_goto (pc := 80) F dX4_meet_80 (tgt := 36) rfl ?_
              exact ih (by omega) (seek_no (by omega) he ((near_of hIa hja hqa).mp c_65)) Y3 hY3
            · refine g_iload_n (pc := 68) F dX4_meet_68 rfl ?_
              exact g_iret (pc := 69) F X0 dX4_meet_69 (Nat.le_of_ble_eq_true rfl) (Nat.le_of_ble_eq_true rfl) rfl ⟨congrArg (fun z => some (Value.int z)) (by first | (first | exact (seek_yes (by omega) he (Decidable.not_not.mp (fun z => c_65 ((near_of hIa hja hqa).mpr z)))).symm | exact he.symm | exact (if_neg (fun z => c_5 z.1)).symm | exact (if_neg (fun z => c_13 z.2.1)).symm | exact (if_neg (fun z => z.2.2 c_18)).symm | fail) | fail), _, _, _, rfl⟩)
        exact L 0 (by omega) hE Y2 hY2
      · refine g_iconst (pc := 21) F dX4_meet_21 (v := (-1 : Int32)) (by decide) ?_
        exact g_iret (pc := 22) F X0 dX4_meet_22 (Nat.le_of_ble_eq_true rfl) (Nat.le_of_ble_eq_true rfl) rfl ⟨congrArg (fun z => some (Value.int z)) (by first | (first | exact (if_neg (fun z => c_5 z.1)).symm | exact (if_neg (fun z => c_13 z.2.1)).symm | exact (if_neg (fun z => z.2.2 c_18)).symm | fail) | fail), _, _, _, rfl⟩

set_option maxRecDepth 100000 in
set_option maxHeartbeats 800000 in
theorem m_meet (s m ig ws : Nat → Int32) (hg : Int32) (T : TX) (V : VX) (hI : Iv s) (c n : Int32) : Ctr yX5_meet cX5_meet 4 (some .int) 7 0 0 [.ref 0, .int c, .int n] (rW s m ig ws hg T V) (LookR (.int (S_meet s c n)) s ig ws hg T) := by
  refine Ctr.of rfl (Nat.le_of_ble_eq_true rfl) ⟨clS_of rfl, clH_of rfl⟩ (fun K F X0 => ?_)
  show Go K 0 0 0 [(0, .ref 0), (1, .int c), (2, .int n)] [] (rW s m ig ws hg T V)
  refine g_aload_n (pc := 0) F dX5_meet_0 rfl ?_
  refine g_iload_n (pc := 1) F dX5_meet_1 rfl ?_
  refine i_readV (pc := 2) F (m_isOne s m ig ws hg T V _ hI) mi_X5_isOne kv_X5_123 rfl rfl dX5_meet_2 (by decide) (by decide) rfl (Nat.le_of_ble_eq_true rfl) (by decide) (by decide) ?_
  refine g_ifeq_d (pc := 5) F dX5_meet_5 (tgt := 21) rfl (fun c_5 => ?_) (fun c_5 => ?_)
  · refine g_iconst (pc := 21) F dX5_meet_21 (v := (-1 : Int32)) (by decide) ?_
    exact g_iret (pc := 22) F X0 dX5_meet_22 (Nat.le_of_ble_eq_true rfl) (Nat.le_of_ble_eq_true rfl) rfl ⟨congrArg (fun z => some (Value.int z)) (by first | (first | exact (if_neg (fun z => c_5 z.1)).symm | exact (if_neg (fun z => c_13 z.2.1)).symm | exact (if_neg (fun z => z.2.2 c_18)).symm | fail) | fail), _, _, rfl⟩
  · refine g_aload_n (pc := 8) F dX5_meet_8 rfl ?_
    refine g_iload_n (pc := 9) F dX5_meet_9 rfl ?_
    refine i_readV (pc := 10) F (m_isOne s m ig ws hg T V _ hI) mi_X5_isOne kv_X5_123 rfl rfl dX5_meet_10 (by decide) (by decide) rfl (Nat.le_of_ble_eq_true rfl) (by decide) (by decide) ?_
    refine g_ifeq_d (pc := 13) F dX5_meet_13 (tgt := 21) rfl (fun c_13 => ?_) (fun c_13 => ?_)
    · refine g_iconst (pc := 21) F dX5_meet_21 (v := (-1 : Int32)) (by decide) ?_
      exact g_iret (pc := 22) F X0 dX5_meet_22 (Nat.le_of_ble_eq_true rfl) (Nat.le_of_ble_eq_true rfl) rfl ⟨congrArg (fun z => some (Value.int z)) (by first | (first | exact (if_neg (fun z => c_5 z.1)).symm | exact (if_neg (fun z => c_13 z.2.1)).symm | exact (if_neg (fun z => z.2.2 c_18)).symm | fail) | fail), _, _, rfl⟩
    · refine g_iload_n (pc := 16) F dX5_meet_16 rfl ?_
      refine g_iload_n (pc := 17) F dX5_meet_17 rfl ?_
      refine g_ic_ne (pc := 18) F dX5_meet_18 (tgt := 23) rfl (fun c_18 => ?_) (fun c_18 => ?_)
      · have hm6 := hI.1.2
        obtain ⟨j, hj, rfl⟩ := one_ex hI c_5
        obtain ⟨q, hq, rfl⟩ := one_ex hI c_13
        have hE := S_meet_of (by omega) (by omega) c_5 c_13 c_18
        refine g_aload_n (pc := 23) F dX5_meet_23 rfl ?_
        refine g_getf (pc := 24) F fl_X5_9 dX5_meet_24 rfl rfl ?_
        refine g_aload_n (pc := 27) F dX5_meet_27 rfl ?_
        refine g_getf (pc := 28) F fl_X5_13 dX5_meet_28 rfl rfl ?_
        refine h_callS (pc := 31) F (c_copyAll s m) mi_X5_copies ks_X5_140 dX5_meet_31 [1, 2] rfl (by decide) (by decide) rfl rfl (Nat.le_of_ble_eq_true rfl) (by decide) (by decide) ?_
        rintro _ _ ⟨rfl, rfl⟩ -
        refine g_iconst (pc := 34) F dX5_meet_34 (v := nI 0) rfl ?_
        refine g_istore_n (pc := 35) F dX5_meet_35 (by decide) ?_
        have L : ∀ i, i ≤ 61 → S_meet s (nI j) (nI q) = seekN (meetP s j q) (61 - i) i → ∀ ma, ma = daysR s i → Go K 0 0 36 [(0, .ref 0), (1, .int (nI j)), (2, .int (nI q)), (3, .int (nI (i)))] [] (rW s ma ig ws hg T V) := loop_up (P := fun i => S_meet s (nI j) (nI q) = seekN (meetP s j q) (61 - i) i → ∀ ma, ma = daysR s i → Go K 0 0 36 [(0, .ref 0), (1, .int (nI j)), (2, .int (nI q)), (3, .int (nI (i)))] [] (rW s ma ig ws hg T V)) (fun i hi ih => by
          intro he ma hm
          have hIa : Iv ma := by rw [hm]; exact (daysR_ok hI i).1
          refine g_iload_n (pc := 36) F dX5_meet_36 rfl ?_
          refine g_bipush (pc := 37) F dX5_meet_37 (v := nI 60) rfl ?_
          refine g_icN_gt (pc := 39) F dX5_meet_39 (tgt := 87) rfl rfl rfl (by omega) (by omega) (fun c_39 => ?_) (fun c_39 => ?_)
          · obtain rfl : i = 61 := by omega
            refine g_bipush (pc := 87) F dX5_meet_87 (v := (-4 : Int32)) (by decide) ?_
            exact g_iret (pc := 89) F X0 dX5_meet_89 (Nat.le_of_ble_eq_true rfl) (Nat.le_of_ble_eq_true rfl) rfl ⟨congrArg (fun z => some (Value.int z)) (by first | (first | exact (seek_yes (by omega) he (show nearP (daysR s i (ix j 2) - daysR s i (ix q 2)) by rw [← hm]; exact c_68)).symm | exact he.symm | exact (if_neg (fun z => c_5 z.1)).symm | exact (if_neg (fun z => c_13 z.2.1)).symm | exact (if_neg (fun z => z.2.2 c_18)).symm | fail) | fail), _, _, rfl⟩
          · refine g_aload_n (pc := 42) F dX5_meet_42 rfl ?_
            refine g_getf (pc := 43) F fl_X5_13 dX5_meet_43 rfl rfl ?_
            refine g_iload_n (pc := 46) F dX5_meet_46 rfl ?_
            refine g_iconst (pc := 47) F dX5_meet_47 (v := nI 2) rfl ?_
            refine h_readS (pc := 48) F (c_of _ _) mi_X5_of ks_X5_47 dX5_meet_48 [] rfl (by decide) (by decide) rfl rfl (Nat.le_of_ble_eq_true rfl) trivial (by decide) (by decide) ?_
            refine g_iald2 (pc := 51) F dX5_meet_51 rfl rfl (by first | omega | (simp only [ix]; omega)) (by decide) ?_
            refine g_aload_n (pc := 52) F dX5_meet_52 rfl ?_
            refine g_getf (pc := 53) F fl_X5_13 dX5_meet_53 rfl rfl ?_
            refine g_iload_n (pc := 56) F dX5_meet_56 rfl ?_
            refine g_iconst (pc := 57) F dX5_meet_57 (v := nI 2) rfl ?_
            refine h_readS (pc := 58) F (c_of _ _) mi_X5_of ks_X5_47 dX5_meet_58 [] rfl (by decide) (by decide) rfl rfl (Nat.le_of_ble_eq_true rfl) trivial (by decide) (by decide) ?_
            refine g_iald2 (pc := 61) F dX5_meet_61 rfl rfl (by first | omega | (simp only [ix]; omega)) (by decide) ?_
            refine g_isub (pc := 62) F dX5_meet_62 ?_
            refine g_iconst (pc := 63) F dX5_meet_63 (v := (-1 : Int32)) (by decide) ?_
            refine g_iconst (pc := 64) F dX5_meet_64 (v := nI 1) rfl ?_
            refine h_readS (pc := 65) F (c_isIn _ _ _) mi_X5_isIn ks_X5_43 dX5_meet_65 [] rfl (by decide) (by decide) rfl rfl (Nat.le_of_ble_eq_true rfl) trivial (by decide) (by decide) ?_
            refine g_ifeq_d (pc := 68) F dX5_meet_68 (tgt := 73) rfl (fun c_68 => ?_) (fun c_68 => ?_)
            · refine g_aload_n (pc := 73) F dX5_meet_73 rfl ?_
              refine g_getf (pc := 74) F fl_X5_13 dX5_meet_74 rfl rfl ?_
              refine g_iconst (pc := 77) F dX5_meet_77 (v := nI 1) rfl ?_
              refine h_callS (pc := 78) F (c_daysOn ma _ 1 hIa rfl (by omega)) mi_X5_daysOn ks_X5_130 dX5_meet_78 [2] rfl (by decide) (by decide) rfl rfl (Nat.le_of_ble_eq_true rfl) (by decide) (by decide) ?_
              rintro _ _ ⟨rfl, rfl⟩ -
              refine g_iincN (pc := 81) F dX5_meet_81 rfl (by decide) ?_
              refine g_goto (pc := 84) F dX5_meet_84 (tgt := 36) rfl ?_
              exact ih (by omega) (seek_no (by omega) he (fun z => c_68 (by rw [hm]; exact z))) _ (by rw [hm]; exact days_one s i)
            · refine g_iload_n (pc := 71) F dX5_meet_71 rfl ?_
              exact g_iret (pc := 72) F X0 dX5_meet_72 (Nat.le_of_ble_eq_true rfl) (Nat.le_of_ble_eq_true rfl) rfl ⟨congrArg (fun z => some (Value.int z)) (by first | (first | exact (seek_yes (by omega) he (show nearP (daysR s i (ix j 2) - daysR s i (ix q 2)) by rw [← hm]; exact c_68)).symm | exact he.symm | exact (if_neg (fun z => c_5 z.1)).symm | exact (if_neg (fun z => c_13 z.2.1)).symm | exact (if_neg (fun z => z.2.2 c_18)).symm | fail) | fail), _, _, rfl⟩)
        exact L 0 (by omega) hE s rfl
      · refine g_iconst (pc := 21) F dX5_meet_21 (v := (-1 : Int32)) (by decide) ?_
        exact g_iret (pc := 22) F X0 dX5_meet_22 (Nat.le_of_ble_eq_true rfl) (Nat.le_of_ble_eq_true rfl) rfl ⟨congrArg (fun z => some (Value.int z)) (by first | (first | exact (if_neg (fun z => c_5 z.1)).symm | exact (if_neg (fun z => c_13 z.2.1)).symm | exact (if_neg (fun z => z.2.2 c_18)).symm | fail) | fail), _, _, rfl⟩

