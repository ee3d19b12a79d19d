/-! ends -/
def seekN (p : Nat → Prop) [DecidablePred p] : Nat → Nat → Int32
  | 0, _ => (-4)
  | k + 1, i => if p i then nI i else seekN p k (i + 1)
abbrev endP (r : Nat → Int32) (wt : Int32) (i : Nat) : Prop := doneR (daysR r i) &&& wt = wt
def wantD (d : Int32) : Int32 := if d = -1 then nI 1023 else nI 1 <<< (d &&& 31)
def S_ends (r : Nat → Int32) (d : Int32) : Int32 := if d = -1 ∨ dipP d then seekN (endP r (wantD d)) 61 0 else (-1)
theorem seek_yes {p : Nat → Prop} [DecidablePred p] {v : Int32} {i : Nat} (hi : i ≤ 60) (h : v = seekN p (61 - i) i) (hp : p i) : v = nI i := by
  obtain ⟨k, hk⟩ : ∃ k, 61 - i = k + 1 := ⟨60 - i, by omega⟩
  rw [h, hk]
  exact if_pos hp
theorem seek_no {p : Nat → Prop} [DecidablePred p] {v : Int32} {i : Nat} (hi : i ≤ 60) (h : v = seekN p (61 - i) i) (hp : ¬ p i) : v = seekN p (61 - (i + 1)) (i + 1) := by
  obtain ⟨k, hk⟩ : ∃ k, 61 - i = k + 1 := ⟨60 - i, by omega⟩
  have e : 61 - (i + 1) = k := by omega
  rw [h, hk, e]
  exact if_neg hp
theorem days_one (r : Nat → Int32) (i : Nat) : daysR (daysR r i) 1 = daysR r (i + 1) := rfl
set_option maxRecDepth 100000 in
set_option maxHeartbeats 800000 in
theorem c_ends (b : Int32) (X Y Z : DX) (im : Int32) (S : Nat → SX) (g h : Nat → Int32) (r : Nat → Int32) (hR : Rel b X r) (hI : Iv r) (h4 : r 4 = nI 0) (n : Int32) : Ctr yX4_ends cX4_ends 4 (some .int) 7 0 0 [.ref 0, .int n] (mW X Y Z im S g h) (Look (.int (S_ends r n)) X Z im S) := by
  refine Ctr.of rfl (Nat.le_of_ble_eq_true rfl) ⟨clS_of rfl, mW_cl _ _ _ _ _ _ _⟩ (fun K F X0 => ?_)
  show Go K 0 0 0 [(0, .ref 0), (1, .int n)] [] (mW X Y Z im S g h)
  have T : ∀ wt, S_ends r n = seekN (endP r wt) 61 0 → Go K 0 0 29 [(0, .ref 0), (1, .int n), (2, .int wt)] [] (mW X Y Z im S g h) := by
    intro wt he
    refine g_aload_n (pc := 29) F dX4_ends_29 rfl ?_
    refine g_getf (pc := 30) F fl_X4_16 dX4_ends_30 rfl rfl ?_
    refine g_aload_n (pc := 33) F dX4_ends_33 rfl ?_
    refine g_getf (pc := 34) F fl_X4_12 dX4_ends_34 rfl rfl ?_
    refine h_callV (pc := 37) F (c_becomes b Y X r hR hI h4) mi_X0_becomes kv_X4_57 rfl rfl dX4_ends_37 [9, 10, 11, 12, 13, 14, 15, 16, 1, 2, 3, 4, 5, 6, 7, 8] sub_mn (by decide) (by decide) rfl rfl (Nat.le_of_ble_eq_true rfl) (by decide) (by decide) ?_
    rintro _ _ ⟨rfl, Y2, rfl, hY2⟩ -
    rw [place_mn]
    refine g_iconst (pc := 40) F dX4_ends_40 (v := nI 0) rfl ?_
    refine g_istore_n (pc := 41) F dX4_ends_41 (by decide) ?_
    have L : ∀ i, i ≤ 61 → S_ends r n = seekN (endP r wt) (61 - i) i → ∀ Ya, Rel (nI 0 - r 3) Ya (daysR r i) → Go K 0 0 42 [(0, .ref 0), (1, .int n), (2, .int wt), (3, .int (nI (i)))] [] (mW X Ya Z im S g h) := loop_up (P := fun i => S_ends r n = seekN (endP r wt) (61 - i) i → ∀ Ya, Rel (nI 0 - r 3) Ya (daysR r i) → Go K 0 0 42 [(0, .ref 0), (1, .int n), (2, .int wt), (3, .int (nI (i)))] [] (mW X Ya Z im S g h)) (fun i hi ih => by
      intro he Ya hRa
      refine g_iload_n (pc := 42) F dX4_ends_42 rfl ?_
      refine g_bipush (pc := 43) F dX4_ends_43 (v := nI 60) rfl ?_
      refine g_icN_gt (pc := 45) F dX4_ends_45 (tgt := 76) rfl rfl rfl (by omega) (by omega) (fun c_45 => ?_) (fun c_45 => ?_)
      · obtain rfl : i = 61 := by omega
        refine g_bipush (pc := 76) F dX4_ends_76 (v := (-4 : Int32)) (by decide) ?_
        exact g_iret (pc := 78) F X0 dX4_ends_78 (Nat.le_of_ble_eq_true rfl) (Nat.le_of_ble_eq_true rfl) rfl ⟨congrArg (fun z => some (Value.int z)) (by first | (first | exact (seek_yes (by omega) he c_58).symm | exact (seek_yes (by omega) he (show doneR (daysR s i) &&& wt = wt by rw [← hm]; exact c_57)).symm | exact he.symm | fail) | fail), _, _, _, rfl⟩
      · refine g_aload_n (pc := 48) F dX4_ends_48 rfl ?_
        refine g_getf (pc := 49) F fl_X4_16 dX4_ends_49 rfl rfl ?_
        refine h_readV (pc := 52) F (c_doneDips _ Ya _ hRa) mi_X0_doneDips kv_X4_179 rfl rfl dX4_ends_52 [9, 10, 11, 12, 13, 14, 15, 16] sub_mind (by decide) (by decide) rfl rfl (Nat.le_of_ble_eq_true rfl) trivial (by decide) (by decide) ?_
        refine g_iload_n (pc := 55) F dX4_ends_55 rfl ?_
        refine g_iand (pc := 56) F dX4_ends_56 ?_
        refine g_iload_n (pc := 57) F dX4_ends_57 rfl ?_
        refine g_ic_ne (pc := 58) F dX4_ends_58 (tgt := 63) rfl (fun c_58 => ?_) (fun c_58 => ?_)
        · refine g_aload_n (pc := 63) F dX4_ends_63 rfl ?_
          refine g_getf (pc := 64) F fl_X4_16 dX4_ends_64 rfl rfl ?_
          refine h_callV (pc := 67) F (c_passDay _ Ya _ hRa (daysR_ok hI i).1) mi_X0_passDay kv_X4_182 rfl rfl dX4_ends_67 [9, 10, 11, 12, 13, 14, 15, 16] sub_mind (by decide) (by decide) rfl rfl (Nat.le_of_ble_eq_true rfl) (by decide) (by decide) ?_
          rintro _ _ ⟨rfl, Y3, rfl, hY3⟩ -
          rw [place_mind]
          refine g_iincN (pc := 70) F dX4_ends_70 rfl (by decide) ?_
          refine g_goto (pc := 73) F dX4_ends_73 (tgt := 42) rfl ?_
          exact ih (by omega) (seek_no (by omega) he c_58) Y3 hY3
        · refine g_iload_n (pc := 61) F dX4_ends_61 rfl ?_
          exact g_iret (pc := 62) F X0 dX4_ends_62 (Nat.le_of_ble_eq_true rfl) (Nat.le_of_ble_eq_true rfl) rfl ⟨congrArg (fun z => some (Value.int z)) (by first | (first | exact (seek_yes (by omega) he c_58).symm | exact (seek_yes (by omega) he (show doneR (daysR s i) &&& wt = wt by rw [← hm]; exact c_57)).symm | exact he.symm | fail) | fail), _, _, _, rfl⟩)
    exact L 0 (by omega) he Y2 hY2
  refine g_iload_n (pc := 0) F dX4_ends_0 rfl ?_
  refine g_iconst (pc := 1) F dX4_ends_1 (v := (-1 : Int32)) (by decide) ?_
  refine g_ic_eq (pc := 2) F dX4_ends_2 (tgt := 14) rfl (fun c_2 => ?_) (fun c_2 => ?_)
  · refine g_iload_n (pc := 14) F dX4_ends_14 rfl ?_
    refine g_iconst (pc := 15) F dX4_ends_15 (v := (-1 : Int32)) (by decide) ?_
    refine g_ic_ne (pc := 16) F dX4_ends_16 (tgt := 25) rfl (fun c_16 => ?_) (fun c_16 => ?_)
    · refine g_iconst (pc := 25) F dX4_ends_25 (v := nI 1) rfl ?_
      refine g_iload_n (pc := 26) F dX4_ends_26 rfl ?_
      refine g_ishl (pc := 27) F dX4_ends_27 ?_
      refine g_istore_n (pc := 28) F dX4_ends_28 (by decide) ?_
      exact T _ (by first | exact absurd c_2 c_16 | exact absurd c_16 c_2 | (subst c_2; exact absurd c_16 (by decide)) | exact absurd c_9.1 c_16 | exact (if_pos (Or.inl c_2)).trans (congrArg (fun z => seekN (endP r z) 61 0) (if_pos c_2)) | exact (if_pos (Or.inr c_9)).trans (congrArg (fun z => seekN (endP r z) 61 0) (if_neg c_2)) | fail)
    · refine g_sipush (pc := 19) F dX4_ends_19 (v := nI 1023) rfl ?_
      refine g_goto (pc := 22) F dX4_ends_22 (tgt := 28) rfl ?_
      refine g_istore_n (pc := 28) F dX4_ends_28 (by decide) ?_
      exact T _ (by first | exact absurd c_2 c_16 | exact absurd c_16 c_2 | (subst c_2; exact absurd c_16 (by decide)) | exact absurd c_9.1 c_16 | exact (if_pos (Or.inl c_2)).trans (congrArg (fun z => seekN (endP r z) 61 0) (if_pos c_2)) | exact (if_pos (Or.inr c_9)).trans (congrArg (fun z => seekN (endP r z) 61 0) (if_neg c_2)) | fail)
  · refine g_iload_n (pc := 5) F dX4_ends_5 rfl ?_
    refine h_readS (pc := 6) F (c_isDip _) mi_X4_isDip ks_X4_117 dX4_ends_6 [] rfl (by decide) (by decide) rfl rfl (Nat.le_of_ble_eq_true rfl) trivial (by decide) (by decide) ?_
    refine g_ifne_d (pc := 9) F dX4_ends_9 (tgt := 14) rfl (fun c_9 => ?_) (fun c_9 => ?_)
    · refine g_iload_n (pc := 14) F dX4_ends_14 rfl ?_
      refine g_iconst (pc := 15) F dX4_ends_15 (v := (-1 : Int32)) (by decide) ?_
      refine g_ic_ne (pc := 16) F dX4_ends_16 (tgt := 25) rfl (fun c_16 => ?_) (fun c_16 => ?_)
      · refine g_iconst (pc := 25) F dX4_ends_25 (v := nI 1) rfl ?_
        refine g_iload_n (pc := 26) F dX4_ends_26 rfl ?_
        refine g_ishl (pc := 27) F dX4_ends_27 ?_
        refine g_istore_n (pc := 28) F dX4_ends_28 (by decide) ?_
        exact T _ (by first | exact absurd c_2 c_16 | exact absurd c_16 c_2 | (subst c_2; exact absurd c_16 (by decide)) | exact absurd c_9.1 c_16 | exact (if_pos (Or.inl c_2)).trans (congrArg (fun z => seekN (endP r z) 61 0) (if_pos c_2)) | exact (if_pos (Or.inr c_9)).trans (congrArg (fun z => seekN (endP r z) 61 0) (if_neg c_2)) | fail)
      · refine g_sipush (pc := 19) F dX4_ends_19 (v := nI 1023) rfl ?_
        refine g_goto (pc := 22) F dX4_ends_22 (tgt := 28) rfl ?_
        refine g_istore_n (pc := 28) F dX4_ends_28 (by decide) ?_
        exact T _ (by first | exact absurd c_2 c_16 | exact absurd c_16 c_2 | (subst c_2; exact absurd c_16 (by decide)) | exact absurd c_9.1 c_16 | exact (if_pos (Or.inl c_2)).trans (congrArg (fun z => seekN (endP r z) 61 0) (if_pos c_2)) | exact (if_pos (Or.inr c_9)).trans (congrArg (fun z => seekN (endP r z) 61 0) (if_neg c_2)) | fail)
    · refine g_iconst (pc := 12) F dX4_ends_12 (v := (-1 : Int32)) (by decide) ?_
      exact g_iret (pc := 13) F X0 dX4_ends_13 (Nat.le_of_ble_eq_true rfl) (Nat.le_of_ble_eq_true rfl) rfl ⟨congrArg (fun z => some (Value.int z)) (by first | (first | exact (if_neg (fun z => z.elim c_2 c_9)).symm | fail) | fail), _, _, _, rfl⟩

set_option maxRecDepth 100000 in
set_option maxHeartbeats 800000 in
theorem m_ends (s m ig ws : Nat → Int32) (hg : Int32) (T0 : TX) (V : VX) (hI : Iv s) (n : Int32) : Ctr yX5_ends cX5_ends 4 (some .int) 7 0 0 [.ref 0, .int n] (rW s m ig ws hg T0 V) (LookR (.int (S_ends s n)) s ig ws hg T0) := by
  refine Ctr.of rfl (Nat.le_of_ble_eq_true rfl) ⟨clS_of rfl, clH_of rfl⟩ (fun K F X0 => ?_)
  show Go K 0 0 0 [(0, .ref 0), (1, .int n)] [] (rW s m ig ws hg T0 V)
  have T : ∀ wt, S_ends s n = seekN (endP s wt) 61 0 → Go K 0 0 28 [(0, .ref 0), (1, .int n), (2, .int wt)] [] (rW s m ig ws hg T0 V) := by
    intro wt he
    refine g_aload_n (pc := 28) F dX5_ends_28 rfl ?_
    refine g_getf (pc := 29) F fl_X5_9 dX5_ends_29 rfl rfl ?_
    refine g_aload_n (pc := 32) F dX5_ends_32 rfl ?_
    refine g_getf (pc := 33) F fl_X5_13 dX5_ends_33 rfl rfl ?_
    refine h_callS (pc := 36) F (c_copyAll s m) mi_X5_copies ks_X5_140 dX5_ends_36 [1, 2] rfl (by decide) (by decide) rfl rfl (Nat.le_of_ble_eq_true rfl) (by decide) (by decide) ?_
    rintro _ _ ⟨rfl, rfl⟩ -
    refine g_iconst (pc := 39) F dX5_ends_39 (v := nI 0) rfl ?_
    refine g_istore_n (pc := 40) F dX5_ends_40 (by decide) ?_
    have L : ∀ i, i ≤ 61 → S_ends s n = seekN (endP s wt) (61 - i) i → ∀ ma, ma = daysR s i → Go K 0 0 41 [(0, .ref 0), (1, .int n), (2, .int wt), (3, .int (nI (i)))] [] (rW s ma ig ws hg T0 V) := loop_up (P := fun i => S_ends s n = seekN (endP s wt) (61 - i) i → ∀ ma, ma = daysR s i → Go K 0 0 41 [(0, .ref 0), (1, .int n), (2, .int wt), (3, .int (nI (i)))] [] (rW s ma ig ws hg T0 V)) (fun i hi ih => by
      intro he ma hm
      have hIa : Iv ma := by rw [hm]; exact (daysR_ok hI i).1
      refine g_iload_n (pc := 41) F dX5_ends_41 rfl ?_
      refine g_bipush (pc := 42) F dX5_ends_42 (v := nI 60) rfl ?_
      refine g_icN_gt (pc := 44) F dX5_ends_44 (tgt := 76) rfl rfl rfl (by omega) (by omega) (fun c_44 => ?_) (fun c_44 => ?_)
      · obtain rfl : i = 61 := by omega
        refine g_bipush (pc := 76) F dX5_ends_76 (v := (-4 : Int32)) (by decide) ?_
        exact g_iret (pc := 78) F X0 dX5_ends_78 (Nat.le_of_ble_eq_true rfl) (Nat.le_of_ble_eq_true rfl) rfl ⟨congrArg (fun z => some (Value.int z)) (by first | (first | exact (seek_yes (by omega) he c_58).symm | exact (seek_yes (by omega) he (show doneR (daysR s i) &&& wt = wt by rw [← hm]; exact c_57)).symm | exact he.symm | fail) | fail), _, _, rfl⟩
      · refine g_aload_n (pc := 47) F dX5_ends_47 rfl ?_
        refine g_getf (pc := 48) F fl_X5_13 dX5_ends_48 rfl rfl ?_
        refine h_readS (pc := 51) F (c_doneSet ma) mi_X5_doneSet ks_X5_162 dX5_ends_51 [2] rfl (by decide) (by decide) rfl rfl (Nat.le_of_ble_eq_true rfl) trivial (by decide) (by decide) ?_
        refine g_iload_n (pc := 54) F dX5_ends_54 rfl ?_
        refine g_iand (pc := 55) F dX5_ends_55 ?_
        refine g_iload_n (pc := 56) F dX5_ends_56 rfl ?_
        refine g_ic_ne (pc := 57) F dX5_ends_57 (tgt := 62) rfl (fun c_57 => ?_) (fun c_57 => ?_)
        · refine g_aload_n (pc := 62) F dX5_ends_62 rfl ?_
          refine g_getf (pc := 63) F fl_X5_13 dX5_ends_63 rfl rfl ?_
          refine g_iconst (pc := 66) F dX5_ends_66 (v := nI 1) rfl ?_
          refine h_callS (pc := 67) F (c_daysOn ma _ 1 hIa rfl (by omega)) mi_X5_daysOn ks_X5_130 dX5_ends_67 [2] rfl (by decide) (by decide) rfl rfl (Nat.le_of_ble_eq_true rfl) (by decide) (by decide) ?_
          rintro _ _ ⟨rfl, rfl⟩ -
          refine g_iincN (pc := 70) F dX5_ends_70 rfl (by decide) ?_
          refine g_goto (pc := 73) F dX5_ends_73 (tgt := 41) rfl ?_
          exact ih (by omega) (seek_no (by omega) he (fun z => c_57 (by rw [hm]; exact z))) _ (by rw [hm]; exact days_one s i)
        · refine g_iload_n (pc := 60) F dX5_ends_60 rfl ?_
          exact g_iret (pc := 61) F X0 dX5_ends_61 (Nat.le_of_ble_eq_true rfl) (Nat.le_of_ble_eq_true rfl) rfl ⟨congrArg (fun z => some (Value.int z)) (by first | (first | exact (seek_yes (by omega) he c_58).symm | exact (seek_yes (by omega) he (show doneR (daysR s i) &&& wt = wt by rw [← hm]; exact c_57)).symm | exact he.symm | fail) | fail), _, _, rfl⟩)
    exact L 0 (by omega) he s rfl
  refine g_iload_n (pc := 0) F dX5_ends_0 rfl ?_
  refine g_iconst (pc := 1) F dX5_ends_1 (v := (-1 : Int32)) (by decide) ?_
  refine g_ic_eq (pc := 2) F dX5_ends_2 (tgt := 14) rfl (fun c_2 => ?_) (fun c_2 => ?_)
  · refine g_iload_n (pc := 14) F dX5_ends_14 rfl ?_
    refine g_if_ge (pc := 15) F dX5_ends_15 (tgt := 24) rfl (fun c_15 => ?_) (fun c_15 => ?_)
    · refine g_iconst (pc := 24) F dX5_ends_24 (v := nI 1) rfl ?_
      refine g_iload_n (pc := 25) F dX5_ends_25 rfl ?_
      refine g_ishl (pc := 26) F dX5_ends_26 ?_
      refine g_istore_n (pc := 27) F dX5_ends_27 (by decide) ?_
      exact T _ (by first | exact absurd c_2 c_15 | exact absurd c_15 c_2 | (subst c_2; exact absurd c_15 (by decide)) | exact absurd c_9.1 c_15 | exact (if_pos (Or.inl c_2)).trans (congrArg (fun z => seekN (endP s z) 61 0) (if_pos c_2)) | exact (if_pos (Or.inr c_9)).trans (congrArg (fun z => seekN (endP s z) 61 0) (if_neg c_2)) | fail)
    · refine g_sipush (pc := 18) F dX5_ends_18 (v := nI 1023) rfl ?_
      refine g_goto (pc := 21) F dX5_ends_21 (tgt := 27) rfl ?_
      refine g_istore_n (pc := 27) F dX5_ends_27 (by decide) ?_
      exact T _ (by first | exact absurd c_2 c_15 | exact absurd c_15 c_2 | (subst c_2; exact absurd c_15 (by decide)) | exact absurd c_9.1 c_15 | exact (if_pos (Or.inl c_2)).trans (congrArg (fun z => seekN (endP s z) 61 0) (if_pos c_2)) | exact (if_pos (Or.inr c_9)).trans (congrArg (fun z => seekN (endP s z) 61 0) (if_neg c_2)) | fail)
  · refine g_iload_n (pc := 5) F dX5_ends_5 rfl ?_
    refine h_readS (pc := 6) F (c_mDip _) mi_X5_isDip ks_X5_61 dX5_ends_6 [] rfl (by decide) (by decide) rfl rfl (Nat.le_of_ble_eq_true rfl) trivial (by decide) (by decide) ?_
    refine g_ifne_d (pc := 9) F dX5_ends_9 (tgt := 14) rfl (fun c_9 => ?_) (fun c_9 => ?_)
    · refine g_iload_n (pc := 14) F dX5_ends_14 rfl ?_
      refine g_if_ge (pc := 15) F dX5_ends_15 (tgt := 24) rfl (fun c_15 => ?_) (fun c_15 => ?_)
      · refine g_iconst (pc := 24) F dX5_ends_24 (v := nI 1) rfl ?_
        refine g_iload_n (pc := 25) F dX5_ends_25 rfl ?_
        refine g_ishl (pc := 26) F dX5_ends_26 ?_
        refine g_istore_n (pc := 27) F dX5_ends_27 (by decide) ?_
        exact T _ (by first | exact absurd c_2 c_15 | exact absurd c_15 c_2 | (subst c_2; exact absurd c_15 (by decide)) | exact absurd c_9.1 c_15 | exact (if_pos (Or.inl c_2)).trans (congrArg (fun z => seekN (endP s z) 61 0) (if_pos c_2)) | exact (if_pos (Or.inr c_9)).trans (congrArg (fun z => seekN (endP s z) 61 0) (if_neg c_2)) | fail)
      · refine g_sipush (pc := 18) F dX5_ends_18 (v := nI 1023) rfl ?_
        refine g_goto (pc := 21) F dX5_ends_21 (tgt := 27) rfl ?_
        refine g_istore_n (pc := 27) F dX5_ends_27 (by decide) ?_
        exact T _ (by first | exact absurd c_2 c_15 | exact absurd c_15 c_2 | (subst c_2; exact absurd c_15 (by decide)) | exact absurd c_9.1 c_15 | exact (if_pos (Or.inl c_2)).trans (congrArg (fun z => seekN (endP s z) 61 0) (if_pos c_2)) | exact (if_pos (Or.inr c_9)).trans (congrArg (fun z => seekN (endP s z) 61 0) (if_neg c_2)) | fail)
    · refine g_iconst (pc := 12) F dX5_ends_12 (v := (-1 : Int32)) (by decide) ?_
      exact g_iret (pc := 13) F X0 dX5_ends_13 (Nat.le_of_ble_eq_true rfl) (Nat.le_of_ble_eq_true rfl) rfl ⟨congrArg (fun z => some (Value.int z)) (by first | (first | exact (if_neg (fun z => z.elim c_2 c_9)).symm | fail) | fail), _, _, rfl⟩

