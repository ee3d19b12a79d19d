/-! heap, slowest -/
/-- fewer locals known -/
theorem g_less {K : Cx} {k n pc : Nat} {ls ls' : List (Nat × Value)} {st : List Value} {hp : Hp} (ks : List Nat) (h : lv_pick ls ks = ls') (kk : Go K k n pc ls' st hp) : Go K k n pc ls st hp := by
  obtain ⟨p, l, e, R, s, m, args, below, meth, c, D, cA, A, Q, nL', n0, ad0⟩ := K
  intro hcl h0 ad H locs LS h1 h2 h3 h4 h5
  have hm : ∀ q ∈ ls', q ∈ ls := by
    intro q hq
    rw [← h] at hq
    obtain ⟨i, -, hi⟩ := List.mem_filterMap.mp hq
    exact List.mem_of_getElem? hi
  refine kk ⟨fun q hq => hcl.1 q (hm q hq), hcl.2.1, hcl.2.2⟩ h0 ad H locs LS h1 h2 h3 h4 (lv_memb h5 (fun q hq => ?_))
  obtain ⟨q0, hq0, rfl⟩ := List.mem_map.mp hq
  exact List.mem_map.mpr ⟨q0, hm q0 hq0, rfl⟩
theorem slow_far1 {r : Nat → Int32} {n : Nat} (hI : Iv r) : (it (slowF (tkR r n) r) (many r) ((-4), 1000000000)).1 = (it (slowF (tkR r n) r) (many r) ((-4), nI 10000)).1 := by
  cases hm : many r with
  | zero => rfl
  | succ i => rw [slow_far hI i (by omega)]
set_option maxRecDepth 100000 in
set_option maxHeartbeats 800000 in
theorem c_heap (b : Int32) (X Y Z : DX) (im : Int32) (S : Nat → SX) (g h : Nat → Int32) (r : Nat → Int32) (hR : Rel b X r) (hI : Iv r) (h4 : r 4 = nI 0) (n wh : Int32) : Ctr yX4_heap cX4_heap 5 (some .int) 7 0 0 [.ref 0, .int n, .int wh] (mW X Y Z im S g h) (Look (.int (S_heap r n wh)) X Z im S) := by
  refine Ctr.of rfl (Nat.le_of_ble_eq_true rfl) ⟨clS_of rfl, mW_cl _ _ _ _ _ _ _⟩ (fun K F X0 => ?_)
  show Go K 0 0 0 [(0, .ref 0), (1, .int n), (2, .int wh)] [] (mW X Y Z im S g h)
  refine g_iload_n (pc := 0) F dX4_heap_0 rfl ?_
  refine h_readS (pc := 1) F (c_isDaysOn _) mi_X4_isDaysOn ks_X4_173 dX4_heap_1 [] rfl (by decide) (by decide) rfl rfl (Nat.le_of_ble_eq_true rfl) trivial (by decide) (by decide) ?_
  refine g_ifeq_d (pc := 4) F dX4_heap_4 (tgt := 16) rfl (fun c_4 => ?_) (fun c_4 => ?_)
  · refine g_iconst (pc := 16) F dX4_heap_16 (v := (-1 : Int32)) (by decide) ?_
    exact g_iret (pc := 17) F X0 dX4_heap_17 (Nat.le_of_ble_eq_true rfl) (Nat.le_of_ble_eq_true rfl) rfl ⟨congrArg (fun z => some (Value.int z)) (by first | (unfold S_heap; first | exact (if_neg (fun z => c_4 z.1)).symm | exact (if_neg (fun z => c_13 z.2)).symm | (rw [if_pos ⟨c_4, c_13⟩, N_nI (by omega)]; first | (rw [if_pos c_67]; try rfl) | (rw [if_neg c_67]; try first | rfl | exact eGf))) | fail), _, _, _, rfl⟩
  · refine g_iload_n (pc := 7) F dX4_heap_7 rfl ?_
    refine g_iconst (pc := 8) F dX4_heap_8 (v := nI 0) rfl ?_
    refine g_iconst (pc := 9) F dX4_heap_9 (v := nI 1) rfl ?_
    refine h_readS (pc := 10) F (c_isWithin _ _ _) mi_X4_isWithin ks_X4_129 dX4_heap_10 [] rfl (by decide) (by decide) rfl rfl (Nat.le_of_ble_eq_true rfl) trivial (by decide) (by decide) ?_
    refine g_ifne_d (pc := 13) F dX4_heap_13 (tgt := 18) rfl (fun c_13 => ?_) (fun c_13 => ?_)
    · obtain ⟨m0, hm0, rfl⟩ := late_ex c_4
      refine g_aload_n (pc := 18) F dX4_heap_18 rfl ?_
      refine g_iload_n (pc := 19) F dX4_heap_19 rfl ?_
      refine i_callV (pc := 20) F (c_lookOn b X Y Z im S g h r _ m0 hR hI h4 rfl (by omega)) mi_X4_lookOn kv_X4_176 rfl rfl dX4_heap_20 (by decide) (by decide) rfl (Nat.le_of_ble_eq_true rfl) (by decide) (by decide) ?_
      rintro _ _ ⟨rfl, Y2, rfl, hY2⟩ -
      obtain ⟨hI2, hm2⟩ := tkR_ok hI m0
      have hm6 := hI2.1.2
      have L : ∀ i, i ≤ 10 → Go K 0 0 28 [(0, .ref 0), (1, .int (nI m0)), (2, .int wh), (3, .int (nI (it (heapF (tkR r m0)) i 0))), (4, .int (nI (i)))] [] (mW X Y2 Z im S g h) := loop_up (P := fun i => Go K 0 0 28 [(0, .ref 0), (1, .int (nI m0)), (2, .int wh), (3, .int (nI (it (heapF (tkR r m0)) i 0))), (4, .int (nI (i)))] [] (mW X Y2 Z im S g h)) (fun i hi ih => by
        have hf9 := heap_lt (r := (tkR r m0)) i hi
        have eGf : dG Y2 (it (heapF (tkR r m0)) i 0) = (tkR r m0) (5 + it (heapF (tkR r m0)) i 0) := (hY2.2.2.1 _ hf9).1
        refine g_iload (pc := 28) F dX4_heap_28 rfl ?_
        refine g_bipush (pc := 30) F dX4_heap_30 (v := nI 10) rfl ?_
        refine g_icN_ge (pc := 32) F dX4_heap_32 (tgt := 66) rfl rfl rfl (by omega) (by omega) (fun c_32 => ?_) (fun c_32 => ?_)
        · obtain rfl : i = 10 := by omega
          refine g_iload_n (pc := 66) F dX4_heap_66 rfl ?_
          refine g_if_ne (pc := 67) F dX4_heap_67 (tgt := 74) rfl (fun c_67 => ?_) (fun c_67 => ?_)
          · refine g_aload_n (pc := 74) F dX4_heap_74 rfl ?_
            refine g_getf (pc := 75) F fl_X4_16 dX4_heap_75 rfl rfl ?_
            refine g_getf (pc := 78) F fl_X4_120 dX4_heap_78 rfl rfl ?_
            refine g_iload_n (pc := 81) F dX4_heap_81 rfl ?_
            refine g_iald2 (pc := 82) F dX4_heap_82 rfl rfl hf9 (by decide) ?_
            exact g_iret (pc := 83) F X0 dX4_heap_83 (Nat.le_of_ble_eq_true rfl) (Nat.le_of_ble_eq_true rfl) rfl ⟨congrArg (fun z => some (Value.int z)) (by first | (unfold S_heap; first | exact (if_neg (fun z => c_4 z.1)).symm | exact (if_neg (fun z => c_13 z.2)).symm | (rw [if_pos ⟨c_4, c_13⟩, N_nI (by omega)]; first | (rw [if_pos c_67]; try rfl) | (rw [if_neg c_67]; try first | rfl | exact eGf))) | fail), _, _, _, rfl⟩
          · refine g_iload_n (pc := 70) F dX4_heap_70 rfl ?_
            refine g_goto (pc := 71) F dX4_heap_71 (tgt := 83) rfl ?_
            exact g_iret (pc := 83) F X0 dX4_heap_83 (Nat.le_of_ble_eq_true rfl) (Nat.le_of_ble_eq_true rfl) rfl ⟨congrArg (fun z => some (Value.int z)) (by first | (unfold S_heap; first | exact (if_neg (fun z => c_4 z.1)).symm | exact (if_neg (fun z => c_13 z.2)).symm | (rw [if_pos ⟨c_4, c_13⟩, N_nI (by omega)]; first | (rw [if_pos c_67]; try rfl) | (rw [if_neg c_67]; try first | rfl | exact eGf))) | fail), _, _, _, rfl⟩
        · refine g_aload_n (pc := 35) F dX4_heap_35 rfl ?_
          refine g_getf (pc := 36) F fl_X4_16 dX4_heap_36 rfl rfl ?_
          refine g_getf (pc := 39) F fl_X4_120 dX4_heap_39 rfl rfl ?_
          refine g_iload (pc := 42) F dX4_heap_42 rfl ?_
          refine g_iald2 (pc := 44) F dX4_heap_44 rfl rfl (by first | omega | (simp only [ix]; omega)) (by decide) ?_
          rw [(hY2.2.2.1 i c_32).1]
          refine g_aload_n (pc := 45) F dX4_heap_45 rfl ?_
          refine g_getf (pc := 46) F fl_X4_16 dX4_heap_46 rfl rfl ?_
          refine g_getf (pc := 49) F fl_X4_120 dX4_heap_49 rfl rfl ?_
          refine g_iload_n (pc := 52) F dX4_heap_52 rfl ?_
          refine g_iald2 (pc := 53) F dX4_heap_53 rfl rfl hf9 (by decide) ?_
          rw [eGf]
          refine g_ic_le (pc := 54) F dX4_heap_54 (tgt := 60) rfl (fun c_54 => ?_) (fun c_54 => ?_)
          · refine g_iincN (pc := 60) F dX4_heap_60 rfl (by decide) ?_
            refine g_goto (pc := 63) F dX4_heap_63 (tgt := 28) rfl ?_
            first
              | exact (congrArg (fun z => Go K 0 0 28 [(0, .ref 0), (1, .int (nI m0)), (2, .int wh), (3, .int (nI (z))), (4, .int (nI (i + 1)))] [] (mW X Y2 Z im S g h)) ((it_succ (heapF (tkR r m0)) i 0).trans (if_neg (Int32.not_lt.mpr c_54)))).mp (ih c_32)
              | exact (congrArg (fun z => Go K 0 0 28 [(0, .ref 0), (1, .int (nI m0)), (2, .int wh), (3, .int (nI (z))), (4, .int (nI (i + 1)))] [] (mW X Y2 Z im S g h)) ((it_succ (heapF (tkR r m0)) i 0).trans (if_pos (Int32.not_le.mp c_54)))).mp (ih c_32)
              | fail
          · refine g_iload (pc := 57) F dX4_heap_57 rfl ?_
            refine g_istore_n (pc := 59) F dX4_heap_59 (by decide) ?_
            refine g_iincN (pc := 60) F dX4_heap_60 rfl (by decide) ?_
            refine g_goto (pc := 63) F dX4_heap_63 (tgt := 28) rfl ?_
            first
              | exact (congrArg (fun z => Go K 0 0 28 [(0, .ref 0), (1, .int (nI m0)), (2, .int wh), (3, .int (nI (z))), (4, .int (nI (i + 1)))] [] (mW X Y2 Z im S g h)) ((it_succ (heapF (tkR r m0)) i 0).trans (if_neg (Int32.not_lt.mpr c_54)))).mp (ih c_32)
              | exact (congrArg (fun z => Go K 0 0 28 [(0, .ref 0), (1, .int (nI m0)), (2, .int wh), (3, .int (nI (z))), (4, .int (nI (i + 1)))] [] (mW X Y2 Z im S g h)) ((it_succ (heapF (tkR r m0)) i 0).trans (if_pos (Int32.not_le.mp c_54)))).mp (ih c_32)
              | fail)
      refine g_iconst (pc := 23) F dX4_heap_23 (v := nI 0) rfl ?_
      refine g_istore_n (pc := 24) F dX4_heap_24 (by decide) ?_
      refine g_iconst (pc := 25) F dX4_heap_25 (v := nI 1) rfl ?_
      refine g_istore (pc := 26) F dX4_heap_26 (by decide) ?_
      exact (congrArg (fun z => Go K 0 0 28 [(0, .ref 0), (1, .int (nI m0)), (2, .int wh), (3, .int (nI (z))), (4, .int (nI (1)))] [] (mW X Y2 Z im S g h)) (heap_1 (r := (tkR r m0)))).mp (L 1 (by omega))
    · refine g_iconst (pc := 16) F dX4_heap_16 (v := (-1 : Int32)) (by decide) ?_
      exact g_iret (pc := 17) F X0 dX4_heap_17 (Nat.le_of_ble_eq_true rfl) (Nat.le_of_ble_eq_true rfl) rfl ⟨congrArg (fun z => some (Value.int z)) (by first | (unfold S_heap; first | exact (if_neg (fun z => c_4 z.1)).symm | exact (if_neg (fun z => c_13 z.2)).symm | (rw [if_pos ⟨c_4, c_13⟩, N_nI (by omega)]; first | (rw [if_pos c_67]; try rfl) | (rw [if_neg c_67]; try first | rfl | exact eGf))) | fail), _, _, _, rfl⟩

set_option maxRecDepth 100000 in
set_option maxHeartbeats 800000 in
theorem m_heap (s m ig ws : Nat → Int32) (hg : Int32) (T : TX) (V : VX) (hI : Iv s) (n wh : Int32) : Ctr yX5_heap cX5_heap 5 (some .int) 7 0 0 [.ref 0, .int n, .int wh] (rW s m ig ws hg T V) (LookR (.int (S_heap s n wh)) s ig ws hg T) := by
  refine Ctr.of rfl (Nat.le_of_ble_eq_true rfl) ⟨clS_of rfl, clH_of rfl⟩ (fun K F X0 => ?_)
  show Go K 0 0 0 [(0, .ref 0), (1, .int n), (2, .int wh)] [] (rW s m ig ws hg T V)
  refine g_iload_n (pc := 0) F dX5_heap_0 rfl ?_
  refine h_readS (pc := 1) F (c_mLate _) mi_X5_isLate ks_X5_155 dX5_heap_1 [] rfl (by decide) (by decide) rfl rfl (Nat.le_of_ble_eq_true rfl) trivial (by decide) (by decide) ?_
  refine g_ifeq_d (pc := 4) F dX5_heap_4 (tgt := 16) rfl (fun c_4 => ?_) (fun c_4 => ?_)
  · refine g_iconst (pc := 16) F dX5_heap_16 (v := (-1 : Int32)) (by decide) ?_
    exact g_iret (pc := 17) F X0 dX5_heap_17 (Nat.le_of_ble_eq_true rfl) (Nat.le_of_ble_eq_true rfl) rfl ⟨congrArg (fun z => some (Value.int z)) (by first | (unfold S_heap; first | exact (if_neg (fun z => c_4 z.1)).symm | exact (if_neg (fun z => c_13 z.2)).symm | (rw [if_pos ⟨c_4, c_13⟩, N_nI (by omega)]; first | (rw [if_pos c_65]; try rfl) | (rw [if_neg c_65]; try first | rfl | exact eGf))) | fail), _, _, rfl⟩
  · refine g_iload_n (pc := 7) F dX5_heap_7 rfl ?_
    refine g_iconst (pc := 8) F dX5_heap_8 (v := nI 0) rfl ?_
    refine g_iconst (pc := 9) F dX5_heap_9 (v := nI 1) rfl ?_
    refine h_readS (pc := 10) F (c_isIn _ _ _) mi_X5_isIn ks_X5_43 dX5_heap_10 [] rfl (by decide) (by decide) rfl rfl (Nat.le_of_ble_eq_true rfl) trivial (by decide) (by decide) ?_
    refine g_ifne_d (pc := 13) F dX5_heap_13 (tgt := 18) rfl (fun c_13 => ?_) (fun c_13 => ?_)
    · obtain ⟨m0, hm0, rfl⟩ := late_ex c_4
      refine g_aload_n (pc := 18) F dX5_heap_18 rfl ?_
      refine g_iload_n (pc := 19) F dX5_heap_19 rfl ?_
      refine i_callV (pc := 20) F (m_takes s m ig ws hg T V _ m0 hI rfl (by omega)) mi_X5_takes kv_X5_158 rfl rfl dX5_heap_20 (by decide) (by decide) rfl (Nat.le_of_ble_eq_true rfl) (by decide) (by decide) ?_
      rintro _ _ ⟨rfl, rfl⟩ -
      obtain ⟨hI2, hm2⟩ := tkR_ok hI m0
      have hm6 := hI2.1.2
      have L : ∀ i, i ≤ 10 → Go K 0 0 28 [(0, .ref 0), (1, .int (nI m0)), (2, .int wh), (3, .int (nI (it (heapF (tkR s m0)) i 0))), (4, .int (nI (i)))] [] (rW s (tkR s m0) ig ws hg T V) := loop_up (P := fun i => Go K 0 0 28 [(0, .ref 0), (1, .int (nI m0)), (2, .int wh), (3, .int (nI (it (heapF (tkR s m0)) i 0))), (4, .int (nI (i)))] [] (rW s (tkR s m0) ig ws hg T V)) (fun i hi ih => by
        have hf9 := heap_lt (r := (tkR s m0)) i hi
        refine g_iload (pc := 28) F dX5_heap_28 rfl ?_
        refine g_bipush (pc := 30) F dX5_heap_30 (v := nI 10) rfl ?_
        refine g_icN_ge (pc := 32) F dX5_heap_32 (tgt := 64) rfl rfl rfl (by omega) (by omega) (fun c_32 => ?_) (fun c_32 => ?_)
        · obtain rfl : i = 10 := by omega
          refine g_iload_n (pc := 64) F dX5_heap_64 rfl ?_
          refine g_if_ne (pc := 65) F dX5_heap_65 (tgt := 72) rfl (fun c_65 => ?_) (fun c_65 => ?_)
          · refine g_aload_n (pc := 72) F dX5_heap_72 rfl ?_
            refine g_getf (pc := 73) F fl_X5_13 dX5_heap_73 rfl rfl ?_
            refine g_iconst (pc := 76) F dX5_heap_76 (v := nI 5) rfl ?_
            refine g_iload_n (pc := 77) F dX5_heap_77 rfl ?_
            refine g_iaddN (pc := 78) F dX5_heap_78 ?_
            refine g_iald2 (pc := 79) F dX5_heap_79 rfl rfl (by first | omega | (simp only [ix]; omega)) (by decide) ?_
            exact g_iret (pc := 80) F X0 dX5_heap_80 (Nat.le_of_ble_eq_true rfl) (Nat.le_of_ble_eq_true rfl) rfl ⟨congrArg (fun z => some (Value.int z)) (by first | (unfold S_heap; first | exact (if_neg (fun z => c_4 z.1)).symm | exact (if_neg (fun z => c_13 z.2)).symm | (rw [if_pos ⟨c_4, c_13⟩, N_nI (by omega)]; first | (rw [if_pos c_65]; try rfl) | (rw [if_neg c_65]; try first | rfl | exact eGf))) | fail), _, _, rfl⟩
          · refine g_iload_n (pc := 68) F dX5_heap_68 rfl ?_
            refine g_goto (pc := 69) F dX5_heap_69 (tgt := 80) rfl ?_
            exact g_iret (pc := 80) F X0 dX5_heap_80 (Nat.le_of_ble_eq_true rfl) (Nat.le_of_ble_eq_true rfl) rfl ⟨congrArg (fun z => some (Value.int z)) (by first | (unfold S_heap; first | exact (if_neg (fun z => c_4 z.1)).symm | exact (if_neg (fun z => c_13 z.2)).symm | (rw [if_pos ⟨c_4, c_13⟩, N_nI (by omega)]; first | (rw [if_pos c_65]; try rfl) | (rw [if_neg c_65]; try first | rfl | exact eGf))) | fail), _, _, rfl⟩
        · refine g_aload_n (pc := 35) F dX5_heap_35 rfl ?_
          refine g_getf (pc := 36) F fl_X5_13 dX5_heap_36 rfl rfl ?_
          refine g_iconst (pc := 39) F dX5_heap_39 (v := nI 5) rfl ?_
          refine g_iload (pc := 40) F dX5_heap_40 rfl ?_
          refine g_iaddN (pc := 42) F dX5_heap_42 ?_
          refine g_iald2 (pc := 43) F dX5_heap_43 rfl rfl (by first | omega | (simp only [ix]; omega)) (by decide) ?_
          refine g_aload_n (pc := 44) F dX5_heap_44 rfl ?_
          refine g_getf (pc := 45) F fl_X5_13 dX5_heap_45 rfl rfl ?_
          refine g_iconst (pc := 48) F dX5_heap_48 (v := nI 5) rfl ?_
          refine g_iload_n (pc := 49) F dX5_heap_49 rfl ?_
          refine g_iaddN (pc := 50) F dX5_heap_50 ?_
          refine g_iald2 (pc := 51) F dX5_heap_51 rfl rfl (by first | omega | (simp only [ix]; omega)) (by decide) ?_
          refine g_ic_le (pc := 52) F dX5_heap_52 (tgt := 58) rfl (fun c_52 => ?_) (fun c_52 => ?_)
          · refine g_iincN (pc := 58) F dX5_heap_58 rfl (by decide) ?_
            refine g_goto (pc := 61) F dX5_heap_61 (tgt := 28) rfl ?_
            first
              | exact (congrArg (fun z => Go K 0 0 28 [(0, .ref 0), (1, .int (nI m0)), (2, .int wh), (3, .int (nI (z))), (4, .int (nI (i + 1)))] [] (rW s (tkR s m0) ig ws hg T V)) ((it_succ (heapF (tkR s m0)) i 0).trans (if_neg (Int32.not_lt.mpr c_52)))).mp (ih c_32)
              | exact (congrArg (fun z => Go K 0 0 28 [(0, .ref 0), (1, .int (nI m0)), (2, .int wh), (3, .int (nI (z))), (4, .int (nI (i + 1)))] [] (rW s (tkR s m0) ig ws hg T V)) ((it_succ (heapF (tkR s m0)) i 0).trans (if_pos (Int32.not_le.mp c_52)))).mp (ih c_32)
              | fail
          · refine g_iload (pc := 55) F dX5_heap_55 rfl ?_
            refine g_istore_n (pc := 57) F dX5_heap_57 (by decide) ?_
            refine g_iincN (pc := 58) F dX5_heap_58 rfl (by decide) ?_
            refine g_goto (pc := 61) F dX5_heap_61 (tgt := 28) rfl ?_
            first
              | exact (congrArg (fun z => Go K 0 0 28 [(0, .ref 0), (1, .int (nI m0)), (2, .int wh), (3, .int (nI (z))), (4, .int (nI (i + 1)))] [] (rW s (tkR s m0) ig ws hg T V)) ((it_succ (heapF (tkR s m0)) i 0).trans (if_neg (Int32.not_lt.mpr c_52)))).mp (ih c_32)
              | exact (congrArg (fun z => Go K 0 0 28 [(0, .ref 0), (1, .int (nI m0)), (2, .int wh), (3, .int (nI (z))), (4, .int (nI (i + 1)))] [] (rW s (tkR s m0) ig ws hg T V)) ((it_succ (heapF (tkR s m0)) i 0).trans (if_pos (Int32.not_le.mp c_52)))).mp (ih c_32)
              | fail)
      refine g_iconst (pc := 23) F dX5_heap_23 (v := nI 0) rfl ?_
      refine g_istore_n (pc := 24) F dX5_heap_24 (by decide) ?_
      refine g_iconst (pc := 25) F dX5_heap_25 (v := nI 0) rfl ?_
      refine g_istore (pc := 26) F dX5_heap_26 (by decide) ?_
      exact L 0 (by omega)
    · refine g_iconst (pc := 16) F dX5_heap_16 (v := (-1 : Int32)) (by decide) ?_
      exact g_iret (pc := 17) F X0 dX5_heap_17 (Nat.le_of_ble_eq_true rfl) (Nat.le_of_ble_eq_true rfl) rfl ⟨congrArg (fun z => some (Value.int z)) (by first | (unfold S_heap; first | exact (if_neg (fun z => c_4 z.1)).symm | exact (if_neg (fun z => c_13 z.2)).symm | (rw [if_pos ⟨c_4, c_13⟩, N_nI (by omega)]; first | (rw [if_pos c_65]; try rfl) | (rw [if_neg c_65]; try first | rfl | exact eGf))) | fail), _, _, rfl⟩

set_option maxRecDepth 100000 in
set_option maxHeartbeats 800000 in
theorem c_slowest (b : Int32) (X Y Z : DX) (im : Int32) (S : Nat → SX) (g h : Nat → Int32) (r : Nat → Int32) (hR : Rel b X r) (hI : Iv r) (h4 : r 4 = nI 0) (n : Int32) : Ctr yX4_slowest cX4_slowest 6 (some .int) 7 0 0 [.ref 0, .int n] (mW X Y Z im S g h) (Look (.int (S_slowest r n)) X Z im S) := by
  refine Ctr.of rfl (Nat.le_of_ble_eq_true rfl) ⟨clS_of rfl, mW_cl _ _ _ _ _ _ _⟩ (fun K F X0 => ?_)
  show Go K 0 0 0 [(0, .ref 0), (1, .int n)] [] (mW X Y Z im S g h)
  refine g_iload_n (pc := 0) F dX4_slowest_0 rfl ?_
  refine h_readS (pc := 1) F (c_isDaysOn _) mi_X4_isDaysOn ks_X4_173 dX4_slowest_1 [] rfl (by decide) (by decide) rfl rfl (Nat.le_of_ble_eq_true rfl) trivial (by decide) (by decide) ?_
  refine g_ifne_d (pc := 4) F dX4_slowest_4 (tgt := 9) rfl (fun c_4 => ?_) (fun c_4 => ?_)
  · obtain ⟨m0, hm0, rfl⟩ := late_ex c_4
    refine g_aload_n (pc := 9) F dX4_slowest_9 rfl ?_
    refine g_iload_n (pc := 10) F dX4_slowest_10 rfl ?_
    refine i_callV (pc := 11) F (c_lookOn b X Y Z im S g h r _ m0 hR hI h4 rfl (by omega)) mi_X4_lookOn kv_X4_176 rfl rfl dX4_slowest_11 (by decide) (by decide) rfl (Nat.le_of_ble_eq_true rfl) (by decide) (by decide) ?_
    rintro _ _ ⟨rfl, Y2, rfl, hY2⟩ -
    obtain ⟨hI2, hm2⟩ := tkR_ok hI m0
    have hm6 := hI2.1.2
    rw [hm2] at hm6
    have L : ∀ i, i ≤ many r → Go K 0 0 24 [(0, .ref 0), (1, .int (nI m0)), (2, .int (it (slowF (tkR r m0) r) i ((-4), nI 10000)).1), (3, .int (it (slowF (tkR r m0) r) i ((-4), nI 10000)).2), (4, .int (nI (i)))] [] (mW X Y2 Z im S g h) := loop_up (P := fun i => Go K 0 0 24 [(0, .ref 0), (1, .int (nI m0)), (2, .int (it (slowF (tkR r m0) r) i ((-4), nI 10000)).1), (3, .int (it (slowF (tkR r m0) r) i ((-4), nI 10000)).2), (4, .int (nI (i)))] [] (mW X Y2 Z im S g h)) (fun i hi ih => by
      refine g_iload (pc := 24) F dX4_slowest_24 rfl ?_
      refine g_aload_n (pc := 26) F dX4_slowest_26 rfl ?_
      refine g_getf (pc := 27) F fl_X4_12 dX4_slowest_27 rfl rfl ?_
      refine g_getf (pc := 30) F fl_X4_148 dX4_slowest_30 rfl rfl ?_
      refine g_icN_ge (pc := 33) F dX4_slowest_33 (tgt := 77) rfl rfl (hR.1.1.trans hI.1.1) (by omega) (by omega) (fun c_33 => ?_) (fun c_33 => ?_)
      · obtain rfl : i = many r := by omega
        refine g_iload_n (pc := 77) F dX4_slowest_77 rfl ?_
        exact g_iret (pc := 78) F X0 dX4_slowest_78 (Nat.le_of_ble_eq_true rfl) (Nat.le_of_ble_eq_true rfl) rfl ⟨congrArg (fun z => some (Value.int z)) (by first | (unfold S_slowest; first | exact (if_neg c_4).symm | (rw [if_pos c_4, N_nI (by omega)]; try first | rfl | exact slow_far1 hI)) | fail), _, _, _, rfl⟩
      · obtain ⟨-, -, -, -, eB1⟩ := hR.2.2.2 i c_33
        obtain ⟨-, -, -, -, eB2⟩ := hY2.2.2.2 i (by rw [hm2]; exact c_33)
        refine g_aload_n (pc := 36) F dX4_slowest_36 rfl ?_
        refine g_getf (pc := 37) F fl_X4_16 dX4_slowest_37 rfl rfl ?_
        refine g_getf (pc := 40) F fl_X4_94 dX4_slowest_40 rfl rfl ?_
        refine g_iload (pc := 43) F dX4_slowest_43 rfl ?_
        refine g_iald2 (pc := 45) F dX4_slowest_45 rfl rfl (by omega) (by decide) ?_
        refine g_aload_n (pc := 46) F dX4_slowest_46 rfl ?_
        refine g_getf (pc := 47) F fl_X4_12 dX4_slowest_47 rfl rfl ?_
        refine g_getf (pc := 50) F fl_X4_94 dX4_slowest_50 rfl rfl ?_
        refine g_iload (pc := 53) F dX4_slowest_53 rfl ?_
        refine g_iald2 (pc := 55) F dX4_slowest_55 rfl rfl (by first | omega | (simp only [ix]; omega)) (by decide) ?_
        rw [eB1, eB2]
        refine g_isub (pc := 56) F dX4_slowest_56 ?_
        refine g_istore (pc := 57) F dX4_slowest_57 (by decide) ?_
        refine g_iload (pc := 59) F dX4_slowest_59 rfl ?_
        refine g_iload_n (pc := 61) F dX4_slowest_61 rfl ?_
        refine g_ic_ge (pc := 62) F dX4_slowest_62 (tgt := 71) rfl (fun c_62 => ?_) (fun c_62 => ?_)
        · refine g_iincN (pc := 71) F dX4_slowest_71 rfl (by decide) ?_
          refine g_goto (pc := 74) F dX4_slowest_74 (tgt := 24) rfl ?_
          refine g_less [0, 1, 2, 3, 4] rfl ?_
          first
            | exact (congrArg (fun z => Go K 0 0 24 [(0, .ref 0), (1, .int (nI m0)), (2, .int (z).1), (3, .int (z).2), (4, .int (nI (i + 1)))] [] (mW X Y2 Z im S g h)) ((it_succ (slowF (tkR r m0) r) i ((-4), nI 10000)).trans (if_neg (Int32.not_lt.mpr c_62)))).mp (ih c_33)
            | exact (congrArg (fun z => Go K 0 0 24 [(0, .ref 0), (1, .int (nI m0)), (2, .int (z).1), (3, .int (z).2), (4, .int (nI (i + 1)))] [] (mW X Y2 Z im S g h)) ((it_succ (slowF (tkR r m0) r) i ((-4), nI 10000)).trans (if_pos (Int32.not_le.mp c_62)))).mp (ih c_33)
            | fail
        · refine g_iload (pc := 65) F dX4_slowest_65 rfl ?_
          refine g_istore_n (pc := 67) F dX4_slowest_67 (by decide) ?_
          refine g_iload (pc := 68) F dX4_slowest_68 rfl ?_
          refine g_istore_n (pc := 70) F dX4_slowest_70 (by decide) ?_
          refine g_iincN (pc := 71) F dX4_slowest_71 rfl (by decide) ?_
          refine g_goto (pc := 74) F dX4_slowest_74 (tgt := 24) rfl ?_
          refine g_less [0, 1, 2, 3, 4] rfl ?_
          first
            | exact (congrArg (fun z => Go K 0 0 24 [(0, .ref 0), (1, .int (nI m0)), (2, .int (z).1), (3, .int (z).2), (4, .int (nI (i + 1)))] [] (mW X Y2 Z im S g h)) ((it_succ (slowF (tkR r m0) r) i ((-4), nI 10000)).trans (if_neg (Int32.not_lt.mpr c_62)))).mp (ih c_33)
            | exact (congrArg (fun z => Go K 0 0 24 [(0, .ref 0), (1, .int (nI m0)), (2, .int (z).1), (3, .int (z).2), (4, .int (nI (i + 1)))] [] (mW X Y2 Z im S g h)) ((it_succ (slowF (tkR r m0) r) i ((-4), nI 10000)).trans (if_pos (Int32.not_le.mp c_62)))).mp (ih c_33)
            | fail)
    refine g_bipush (pc := 14) F dX4_slowest_14 (v := (-4 : Int32)) (by decide) ?_
    refine g_istore_n (pc := 16) F dX4_slowest_16 (by decide) ?_
    refine g_sipush (pc := 17) F dX4_slowest_17 (v := nI 10000) rfl ?_
    refine g_istore_n (pc := 20) F dX4_slowest_20 (by decide) ?_
    refine g_iconst (pc := 21) F dX4_slowest_21 (v := nI 0) rfl ?_
    refine g_istore (pc := 22) F dX4_slowest_22 (by decide) ?_
    exact L 0 (Nat.zero_le _)
  · refine g_iconst (pc := 7) F dX4_slowest_7 (v := (-1 : Int32)) (by decide) ?_
    exact g_iret (pc := 8) F X0 dX4_slowest_8 (Nat.le_of_ble_eq_true rfl) (Nat.le_of_ble_eq_true rfl) rfl ⟨congrArg (fun z => some (Value.int z)) (by first | (unfold S_slowest; first | exact (if_neg c_4).symm | (rw [if_pos c_4, N_nI (by omega)]; try first | rfl | exact slow_far1 hI)) | fail), _, _, _, rfl⟩

set_option maxRecDepth 100000 in
set_option maxHeartbeats 800000 in
theorem m_slowest (s m ig ws : Nat → Int32) (hg : Int32) (T : TX) (V : VX) (hI : Iv s) (n : Int32) : Ctr yX5_slowest cX5_slowest 6 (some .int) 7 0 0 [.ref 0, .int n] (rW s m ig ws hg T V) (LookR (.int (S_slowest s n)) s ig ws hg T) := by
  refine Ctr.of rfl (Nat.le_of_ble_eq_true rfl) ⟨clS_of rfl, clH_of rfl⟩ (fun K F X0 => ?_)
  show Go K 0 0 0 [(0, .ref 0), (1, .int n)] [] (rW s m ig ws hg T V)
  refine g_iload_n (pc := 0) F dX5_slowest_0 rfl ?_
  refine h_readS (pc := 1) F (c_mLate _) mi_X5_isLate ks_X5_155 dX5_slowest_1 [] rfl (by decide) (by decide) rfl rfl (Nat.le_of_ble_eq_true rfl) trivial (by decide) (by decide) ?_
  refine g_ifne_d (pc := 4) F dX5_slowest_4 (tgt := 9) rfl (fun c_4 => ?_) (fun c_4 => ?_)
  · obtain ⟨m0, hm0, rfl⟩ := late_ex c_4
    refine g_aload_n (pc := 9) F dX5_slowest_9 rfl ?_
    refine g_iload_n (pc := 10) F dX5_slowest_10 rfl ?_
    refine i_callV (pc := 11) F (m_takes s m ig ws hg T V _ m0 hI rfl (by omega)) mi_X5_takes kv_X5_158 rfl rfl dX5_slowest_11 (by decide) (by decide) rfl (Nat.le_of_ble_eq_true rfl) (by decide) (by decide) ?_
    rintro _ _ ⟨rfl, rfl⟩ -
    obtain ⟨hI2, hm2⟩ := tkR_ok hI m0
    have hm6 := hI2.1.2
    rw [hm2] at hm6
    have L : ∀ i, i ≤ many s → Go K 0 0 23 [(0, .ref 0), (1, .int (nI m0)), (2, .int (it (slowF (tkR s m0) s) i ((-4), 1000000000)).1), (3, .int (it (slowF (tkR s m0) s) i ((-4), 1000000000)).2), (4, .int (nI (i)))] [] (rW s (tkR s m0) ig ws hg T V) := loop_up (P := fun i => Go K 0 0 23 [(0, .ref 0), (1, .int (nI m0)), (2, .int (it (slowF (tkR s m0) s) i ((-4), 1000000000)).1), (3, .int (it (slowF (tkR s m0) s) i ((-4), 1000000000)).2), (4, .int (nI (i)))] [] (rW s (tkR s m0) ig ws hg T V)) (fun i hi ih => by
      refine g_iload (pc := 23) F dX5_slowest_23 rfl ?_
      refine g_aload_n (pc := 25) F dX5_slowest_25 rfl ?_
      refine g_getf (pc := 26) F fl_X5_9 dX5_slowest_26 rfl rfl ?_
      refine g_iconst (pc := 29) F dX5_slowest_29 (v := nI 0) rfl ?_
      refine g_iald2 (pc := 30) F dX5_slowest_30 rfl rfl (by first | omega | (simp only [ix]; omega)) (by decide) ?_
      refine g_icN_ge (pc := 31) F dX5_slowest_31 (tgt := 80) rfl rfl hI.1.1 (by omega) (by omega) (fun c_31 => ?_) (fun c_31 => ?_)
      · obtain rfl : i = many s := by omega
        refine g_iload_n (pc := 80) F dX5_slowest_80 rfl ?_
        exact g_iret (pc := 81) F X0 dX5_slowest_81 (Nat.le_of_ble_eq_true rfl) (Nat.le_of_ble_eq_true rfl) rfl ⟨congrArg (fun z => some (Value.int z)) (by first | (unfold S_slowest; first | exact (if_neg c_4).symm | (rw [if_pos c_4, N_nI (by omega)]; try first | rfl | exact slow_far1 hI)) | fail), _, _, rfl⟩
      · refine g_aload_n (pc := 34) F dX5_slowest_34 rfl ?_
        refine g_getf (pc := 35) F fl_X5_13 dX5_slowest_35 rfl rfl ?_
        refine g_iload (pc := 38) F dX5_slowest_38 rfl ?_
        refine g_iconst (pc := 40) F dX5_slowest_40 (v := nI 4) rfl ?_
        refine h_readS (pc := 41) F (c_of _ _) mi_X5_of ks_X5_47 dX5_slowest_41 [] rfl (by decide) (by decide) rfl rfl (Nat.le_of_ble_eq_true rfl) trivial (by decide) (by decide) ?_
        refine g_iald2 (pc := 44) F dX5_slowest_44 rfl rfl (by first | omega | (simp only [ix]; omega)) (by decide) ?_
        refine g_aload_n (pc := 45) F dX5_slowest_45 rfl ?_
        refine g_getf (pc := 46) F fl_X5_9 dX5_slowest_46 rfl rfl ?_
        refine g_iload (pc := 49) F dX5_slowest_49 rfl ?_
        refine g_iconst (pc := 51) F dX5_slowest_51 (v := nI 4) rfl ?_
        refine h_readS (pc := 52) F (c_of _ _) mi_X5_of ks_X5_47 dX5_slowest_52 [] rfl (by decide) (by decide) rfl rfl (Nat.le_of_ble_eq_true rfl) trivial (by decide) (by decide) ?_
        refine g_iald2 (pc := 55) F dX5_slowest_55 rfl rfl (by first | omega | (simp only [ix]; omega)) (by decide) ?_
        refine g_isub (pc := 56) F dX5_slowest_56 ?_
        refine g_istore (pc := 57) F dX5_slowest_57 (by decide) ?_
        refine g_iload (pc := 59) F dX5_slowest_59 rfl ?_
        refine g_iload_n (pc := 61) F dX5_slowest_61 rfl ?_
        refine g_ic_lt (pc := 62) F dX5_slowest_62 (tgt := 68) rfl (fun c_62 => ?_) (fun c_62 => ?_)
        · refine g_iload (pc := 68) F dX5_slowest_68 rfl ?_
          refine g_istore_n (pc := 70) F dX5_slowest_70 (by decide) ?_
          refine g_iload (pc := 71) F dX5_slowest_71 rfl ?_
          refine g_istore_n (pc := 73) F dX5_slowest_73 (by decide) ?_
          refine g_iincN (pc := 74) F dX5_slowest_74 rfl (by decide) ?_
          refine g_goto (pc := 77) F dX5_slowest_77 (tgt := 23) rfl ?_
          refine g_less [0, 1, 2, 3, 4] rfl ?_
          first
            | exact (congrArg (fun z => Go K 0 0 23 [(0, .ref 0), (1, .int (nI m0)), (2, .int (z).1), (3, .int (z).2), (4, .int (nI (i + 1)))] [] (rW s (tkR s m0) ig ws hg T V)) ((it_succ (slowF (tkR s m0) s) i ((-4), 1000000000)).trans (if_neg c_62))).mp (ih c_31)
            | exact (congrArg (fun z => Go K 0 0 23 [(0, .ref 0), (1, .int (nI m0)), (2, .int (z).1), (3, .int (z).2), (4, .int (nI (i + 1)))] [] (rW s (tkR s m0) ig ws hg T V)) ((it_succ (slowF (tkR s m0) s) i ((-4), 1000000000)).trans (if_pos c_62))).mp (ih c_31)
            | fail
        · refine g_goto (pc := 65) F dX5_slowest_65 (tgt := 74) rfl ?_
          refine g_iincN (pc := 74) F dX5_slowest_74 rfl (by decide) ?_
          refine g_goto (pc := 77) F dX5_slowest_77 (tgt := 23) rfl ?_
          refine g_less [0, 1, 2, 3, 4] rfl ?_
          first
            | exact (congrArg (fun z => Go K 0 0 23 [(0, .ref 0), (1, .int (nI m0)), (2, .int (z).1), (3, .int (z).2), (4, .int (nI (i + 1)))] [] (rW s (tkR s m0) ig ws hg T V)) ((it_succ (slowF (tkR s m0) s) i ((-4), 1000000000)).trans (if_neg c_62))).mp (ih c_31)
            | exact (congrArg (fun z => Go K 0 0 23 [(0, .ref 0), (1, .int (nI m0)), (2, .int (z).1), (3, .int (z).2), (4, .int (nI (i + 1)))] [] (rW s (tkR s m0) ig ws hg T V)) ((it_succ (slowF (tkR s m0) s) i ((-4), 1000000000)).trans (if_pos c_62))).mp (ih c_31)
            | fail)
    refine g_bipush (pc := 14) F dX5_slowest_14 (v := (-4 : Int32)) (by decide) ?_
    refine g_istore_n (pc := 16) F dX5_slowest_16 (by decide) ?_
    refine g_ldc (pc := 17) F dX5_slowest_17 kc_X5_169 ?_
    refine g_istore_n (pc := 19) F dX5_slowest_19 (by decide) ?_
    refine g_iconst (pc := 20) F dX5_slowest_20 (v := nI 0) rfl ?_
    refine g_istore (pc := 21) F dX5_slowest_21 (by decide) ?_
    exact L 0 (Nat.zero_le _)
  · refine g_iconst (pc := 7) F dX5_slowest_7 (v := (-1 : Int32)) (by decide) ?_
    exact g_iret (pc := 8) F X0 dX5_slowest_8 (Nat.le_of_ble_eq_true rfl) (Nat.le_of_ble_eq_true rfl) rfl ⟨congrArg (fun z => some (Value.int z)) (by first | (unfold S_slowest; first | exact (if_neg c_4).symm | (rw [if_pos c_4, N_nI (by omega)]; try first | rfl | exact slow_far1 hI)) | fail), _, _, rfl⟩

