/-! bestWind -/
def wI (i : Nat) : Int32 := nI i - nI 9
theorem wI_succ {i : Nat} : wI i + Int32.ofInt 1 = wI (i + 1) := by
  have e : Int32.ofInt 1 = nI 1 := by decide
  unfold wI
  rw [e, ← nI_add, Int32.sub_eq_add_neg, Int32.sub_eq_add_neg, Int32.add_assoc, Int32.add_assoc, Int32.add_comm (-nI 9) (nI 1)]
theorem wI_hi : ∀ i, i < 20 → nI 9 < wI i → i = 19 := by decide +kernel
theorem wI_lo : ∀ i, i < 20 → ¬ nI 9 < wI i → i < 19 := by decide +kernel
theorem wI_hi2 : ∀ i, i < 20 → nI 10 ≤ wI i → i = 19 := by decide +kernel
theorem wI_lo2 : ∀ i, i < 20 → ¬ nI 10 ≤ wI i → i < 19 := by decide +kernel
theorem wI_ok1 : ∀ i, i < 19 → -9 ≤ (wI i).toInt := by decide +kernel
theorem wI_ok2 : ∀ i, i < 19 → (wI i).toInt ≤ 9 := by decide +kernel
def windB (r : Nat → Int32) (n : Nat) (i : Nat) : Int32 := booksR (daysR (upd r 2 (wI i)) n) (-1)
def windF (r : Nat → Int32) (n : Nat) (i : Nat) (z : Int32 × Int32) : Int32 × Int32 := if z.2 < windB r n i then (wI i, windB r n i) else z
def S_bestWind (r : Nat → Int32) (n wh : Int32) : Int32 := if lateP n ∧ b01 wh then (if wh = 0 then (it (windF r (N n)) 19 (nI 0, -1)).1 else (it (windF r (N n)) 19 (nI 0, -1)).2) else 1000000001
theorem it_same {S : Type} (F : Nat → S → S) (a b : S) (h : F 0 a = F 0 b) : ∀ i, it F (i + 1) a = it F (i + 1) b
  | 0 => h
  | i + 1 => congrArg (F (i + 1)) (it_same F a b h i)
theorem books_pos {r : Nat → Int32} (hI : Iv r) : ∀ i, i ≤ many r → 0 ≤ (it (fun c v => v + (if (-1 : Int32) < 0 ∨ r (ix c 3) = (-1) then r (ix c 4) else nI 0)) i (nI 0)).toInt ∧ (it (fun c v => v + (if (-1 : Int32) < 0 ∨ r (ix c 3) = (-1) then r (ix c 4) else nI 0)) i (nI 0)).toInt ≤ 9999 * (i : Int)
  | 0, _ => by
    have e : (nI 0).toInt = 0 := by decide
    exact ⟨by show 0 ≤ (nI 0).toInt; omega, by show (nI 0).toInt ≤ 9999 * ((0 : Nat) : Int); omega⟩
  | i + 1, h => by
    obtain ⟨a, b⟩ := books_pos hI i (by omega)
    have hb := (hI.2.2.1 i (by omega)).2.2.2.2.1
    have h6 := hI.1.2
    have e : (if (-1 : Int32) < 0 ∨ r (ix i 3) = (-1) then r (ix i 4) else nI 0) = r (ix i 4) := if_pos (Or.inl (by decide))
    rw [it_succ, e, Int32.toInt_add, Int.bmod_eq_of_le (by omega) (by omega)]
    omega
theorem wind_first {r : Nat → Int32} {n : Nat} (hI : Iv r) : it (windF r n) 19 ((-9), (-1)) = it (windF r n) 19 (nI 0, (-1)) := by
  have h0 := (daysR_ok (Iv_wind hI (wI_ok1 0 (by decide)) (wI_ok2 0 (by decide))) n).1
  have hp := (books_pos h0 _ (Nat.le_refl _)).1
  have hl : (-1 : Int32) < windB r n 0 := by
    rw [Int32.lt_iff_toInt_lt]
    have e : (-1 : Int32).toInt = -1 := by decide
    rw [e]
    have hp2 : 0 ≤ (windB r n 0).toInt := hp
    omega
  refine it_same _ _ _ ?_ 18
  unfold windF
  rw [if_pos hl, if_pos hl]
set_option maxRecDepth 100000 in
set_option maxHeartbeats 800000 in
theorem c_bestWind (b : Int32) (X Y Z : DX) (im : Int32) (S : Nat → SX) (g h : Nat → Int32) (r : Nat → Int32) (hR : Rel b X r) (hI : Iv r) (h4 : r 4 = nI 0) (n wh : Int32) : Ctr yX4_bestWind cX4_bestWind 7 (some .int) 7 0 0 [.ref 0, .int n, .int wh] (mW X Y Z im S g h) (Look (.int (S_bestWind r n wh)) X Z im S) := by
  refine Ctr.of rfl (Nat.le_of_ble_eq_true rfl) ⟨clS_of rfl, mW_cl _ _ _ _ _ _ _⟩ (fun K F X0 => ?_)
  show Go K 0 0 0 [(0, .ref 0), (1, .int n), (2, .int wh)] [] (mW X Y Z im S g h)
  refine g_iload_n (pc := 0) F dX4_bestWind_0 rfl ?_
  refine h_readS (pc := 1) F (c_isDaysOn _) mi_X4_isDaysOn ks_X4_173 dX4_bestWind_1 [] rfl (by decide) (by decide) rfl rfl (Nat.le_of_ble_eq_true rfl) trivial (by decide) (by decide) ?_
  refine g_ifeq_d (pc := 4) F dX4_bestWind_4 (tgt := 16) rfl (fun c_4 => ?_) (fun c_4 => ?_)
  · refine g_ldc (pc := 16) F dX4_bestWind_16 kc_X4_155 ?_
    exact g_iret (pc := 18) F X0 dX4_bestWind_18 (Nat.le_of_ble_eq_true rfl) (Nat.le_of_ble_eq_true rfl) rfl ⟨congrArg (fun z => some (Value.int z)) (by first | (unfold S_bestWind; first | exact (if_neg (fun z => c_4 z.1)).symm | exact (if_neg (fun z => c_13 z.2)).symm | (rw [if_pos ⟨c_4, c_13⟩, N_nI (by omega)]; first | (rw [if_pos c_94]; try rfl) | (rw [if_neg c_94]; try rfl))) | fail), _, _, _, rfl⟩
  · refine g_iload_n (pc := 7) F dX4_bestWind_7 rfl ?_
    refine g_iconst (pc := 8) F dX4_bestWind_8 (v := nI 0) rfl ?_
    refine g_iconst (pc := 9) F dX4_bestWind_9 (v := nI 1) rfl ?_
    refine h_readS (pc := 10) F (c_isWithin _ _ _) mi_X4_isWithin ks_X4_129 dX4_bestWind_10 [] rfl (by decide) (by decide) rfl rfl (Nat.le_of_ble_eq_true rfl) trivial (by decide) (by decide) ?_
    refine g_ifne_d (pc := 13) F dX4_bestWind_13 (tgt := 19) rfl (fun c_13 => ?_) (fun c_13 => ?_)
    · obtain ⟨m0, hm0, rfl⟩ := late_ex c_4
      refine g_bipush (pc := 19) F dX4_bestWind_19 (v := (-9 : Int32)) (by decide) ?_
      refine g_istore_n (pc := 21) F dX4_bestWind_21 (by decide) ?_
      refine g_iconst (pc := 22) F dX4_bestWind_22 (v := (-1 : Int32)) (by decide) ?_
      refine g_istore (pc := 23) F dX4_bestWind_23 (by decide) ?_
      refine g_bipush (pc := 25) F dX4_bestWind_25 (v := (-9 : Int32)) (by decide) ?_
      refine g_istore (pc := 27) F dX4_bestWind_27 (by decide) ?_
      have L : ∀ i, i ≤ 19 → ∀ Ya, Go K 0 0 29 [(0, .ref 0), (1, .int (nI m0)), (2, .int wh), (3, .int (it (windF r m0) i ((-9), (-1))).1), (4, .int (it (windF r m0) i ((-9), (-1))).2), (5, .int (wI (i)))] [] (mW X Ya Z im S g h) := loop_up (P := fun i => ∀ Ya, Go K 0 0 29 [(0, .ref 0), (1, .int (nI m0)), (2, .int wh), (3, .int (it (windF r m0) i ((-9), (-1))).1), (4, .int (it (windF r m0) i ((-9), (-1))).2), (5, .int (wI (i)))] [] (mW X Ya Z im S g h)) (fun i hi ih => by
        intro Ya
        refine g_iload (pc := 29) F dX4_bestWind_29 rfl ?_
        refine g_bipush (pc := 31) F dX4_bestWind_31 (v := nI 9) rfl ?_
        refine g_ic_gt (pc := 33) F dX4_bestWind_33 (tgt := 93) rfl (fun c_33 => ?_) (fun c_33 => ?_)
        · obtain rfl : i = 19 := wI_hi i (by omega) c_33
          refine g_iload_n (pc := 93) F dX4_bestWind_93 rfl ?_
          refine g_if_ne (pc := 94) F dX4_bestWind_94 (tgt := 101) rfl (fun c_94 => ?_) (fun c_94 => ?_)
          · refine g_iload (pc := 101) F dX4_bestWind_101 rfl ?_
            exact g_iret (pc := 103) F X0 dX4_bestWind_103 (Nat.le_of_ble_eq_true rfl) (Nat.le_of_ble_eq_true rfl) rfl ⟨congrArg (fun z => some (Value.int z)) (by first | (unfold S_bestWind; first | exact (if_neg (fun z => c_4 z.1)).symm | exact (if_neg (fun z => c_13 z.2)).symm | (rw [if_pos ⟨c_4, c_13⟩, N_nI (by omega), ← wind_first hI]; first | (rw [if_pos c_94]; try rfl) | (rw [if_neg c_94]; try rfl))) | fail), _, _, _, rfl⟩
          · refine g_iload_n (pc := 97) F dX4_bestWind_97 rfl ?_
            refine g_goto (pc := 98) F dX4_bestWind_98 (tgt := 103) rfl ?_
            exact g_iret (pc := 103) F X0 dX4_bestWind_103 (Nat.le_of_ble_eq_true rfl) (Nat.le_of_ble_eq_true rfl) rfl ⟨congrArg (fun z => some (Value.int z)) (by first | (unfold S_bestWind; first | exact (if_neg (fun z => c_4 z.1)).symm | exact (if_neg (fun z => c_13 z.2)).symm | (rw [if_pos ⟨c_4, c_13⟩, N_nI (by omega), ← wind_first hI]; first | (rw [if_pos c_94]; try rfl) | (rw [if_neg c_94]; try rfl))) | fail), _, _, _, rfl⟩
        · have h19 : i < 19 := wI_lo i (by omega) c_33
          have hI3 := (daysR_ok (Iv_wind hI (wI_ok1 i h19) (wI_ok2 i h19)) m0).1
          refine g_aload_n (pc := 36) F dX4_bestWind_36 rfl ?_
          refine g_getf (pc := 37) F fl_X4_16 dX4_bestWind_37 rfl rfl ?_
          refine g_aload_n (pc := 40) F dX4_bestWind_40 rfl ?_
          refine g_getf (pc := 41) F fl_X4_12 dX4_bestWind_41 rfl rfl ?_
          refine h_callV (pc := 44) F (c_becomes b Ya X r hR hI h4) mi_X0_becomes kv_X4_57 rfl rfl dX4_bestWind_44 [9, 10, 11, 12, 13, 14, 15, 16, 1, 2, 3, 4, 5, 6, 7, 8] sub_mn (by decide) (by decide) rfl rfl (Nat.le_of_ble_eq_true rfl) (by decide) (by decide) ?_
          rintro _ _ ⟨rfl, Y2, rfl, hY2⟩ -
          rw [place_mn]
          refine g_aload_n (pc := 47) F dX4_bestWind_47 rfl ?_
          refine g_getf (pc := 48) F fl_X4_16 dX4_bestWind_48 rfl rfl ?_
          refine g_iload (pc := 51) F dX4_bestWind_51 rfl ?_
          refine g_putf (pc := 53) F fl_X4_156 dX4_bestWind_53 rfl (Nat.le_of_ble_eq_true rfl) ?_
          show Go K 0 0 56 _ _ (mW X (sWi Y2 (wI i)) Z im S g h)
          refine g_aload_n (pc := 56) F dX4_bestWind_56 rfl ?_
          refine g_getf (pc := 57) F fl_X4_16 dX4_bestWind_57 rfl rfl ?_
          refine g_iload_n (pc := 60) F dX4_bestWind_60 rfl ?_
          refine h_callV (pc := 61) F (c_passDays _ _ _ _ m0 (Rel_wind hY2) (Iv_wind hI (wI_ok1 i h19) (wI_ok2 i h19)) rfl (by omega)) mi_X0_passDays kv_X4_170 rfl rfl dX4_bestWind_61 [9, 10, 11, 12, 13, 14, 15, 16] sub_mind (by decide) (by decide) rfl rfl (Nat.le_of_ble_eq_true rfl) (by decide) (by decide) ?_
          rintro _ _ ⟨rfl, Y3, rfl, hY3⟩ -
          rw [place_mind]
          refine g_aload_n (pc := 64) F dX4_bestWind_64 rfl ?_
          refine g_getf (pc := 65) F fl_X4_16 dX4_bestWind_65 rfl rfl ?_
          refine h_readV (pc := 68) F (c_allBooks _ Y3 _ hY3 hI3) mi_X0_allBooks kv_X4_163 rfl rfl dX4_bestWind_68 [9, 10, 11, 12, 13, 14, 15, 16] sub_mind (by decide) (by decide) rfl rfl (Nat.le_of_ble_eq_true rfl) trivial (by decide) (by decide) ?_
          refine g_istore (pc := 71) F dX4_bestWind_71 (by decide) ?_
          refine g_iload (pc := 73) F dX4_bestWind_73 rfl ?_
          refine g_iload (pc := 75) F dX4_bestWind_75 rfl ?_
          refine g_ic_le (pc := 77) F dX4_bestWind_77 (tgt := 87) rfl (fun c_77 => ?_) (fun c_77 => ?_)
          · refine g_iinc (pc := 87) F dX4_bestWind_87 rfl wI_succ (by decide) ?_
            refine g_goto (pc := 90) F dX4_bestWind_90 (tgt := 29) rfl ?_
            refine g_less [0, 1, 2, 3, 4, 5] rfl ?_
            first
              | exact (congrArg (fun z => Go K 0 0 29 [(0, .ref 0), (1, .int (nI m0)), (2, .int wh), (3, .int (z).1), (4, .int (z).2), (5, .int (wI (i + 1)))] [] (mW X Y3 Z im S g h)) ((it_succ (windF r m0) i ((-9), (-1))).trans (if_neg (Int32.not_lt.mpr c_77)))).mp (ih h19 _)
              | exact (congrArg (fun z => Go K 0 0 29 [(0, .ref 0), (1, .int (nI m0)), (2, .int wh), (3, .int (z).1), (4, .int (z).2), (5, .int (wI (i + 1)))] [] (mW X Y3 Z im S g h)) ((it_succ (windF r m0) i ((-9), (-1))).trans (if_pos (Int32.not_le.mp c_77)))).mp (ih h19 _)
              | fail
          · refine g_iload (pc := 80) F dX4_bestWind_80 rfl ?_
            refine g_istore (pc := 82) F dX4_bestWind_82 (by decide) ?_
            refine g_iload (pc := 84) F dX4_bestWind_84 rfl ?_
            refine g_istore_n (pc := 86) F dX4_bestWind_86 (by decide) ?_
            refine g_iinc (pc := 87) F dX4_bestWind_87 rfl wI_succ (by decide) ?_
            refine g_goto (pc := 90) F dX4_bestWind_90 (tgt := 29) rfl ?_
            refine g_less [0, 1, 2, 3, 4, 5] rfl ?_
            first
              | exact (congrArg (fun z => Go K 0 0 29 [(0, .ref 0), (1, .int (nI m0)), (2, .int wh), (3, .int (z).1), (4, .int (z).2), (5, .int (wI (i + 1)))] [] (mW X Y3 Z im S g h)) ((it_succ (windF r m0) i ((-9), (-1))).trans (if_neg (Int32.not_lt.mpr c_77)))).mp (ih h19 _)
              | exact (congrArg (fun z => Go K 0 0 29 [(0, .ref 0), (1, .int (nI m0)), (2, .int wh), (3, .int (z).1), (4, .int (z).2), (5, .int (wI (i + 1)))] [] (mW X Y3 Z im S g h)) ((it_succ (windF r m0) i ((-9), (-1))).trans (if_pos (Int32.not_le.mp c_77)))).mp (ih h19 _)
              | fail)
      exact L 0 (by omega) Y
    · refine g_ldc (pc := 16) F dX4_bestWind_16 kc_X4_155 ?_
      exact g_iret (pc := 18) F X0 dX4_bestWind_18 (Nat.le_of_ble_eq_true rfl) (Nat.le_of_ble_eq_true rfl) rfl ⟨congrArg (fun z => some (Value.int z)) (by first | (unfold S_bestWind; first | exact (if_neg (fun z => c_4 z.1)).symm | exact (if_neg (fun z => c_13 z.2)).symm | (rw [if_pos ⟨c_4, c_13⟩, N_nI (by omega)]; first | (rw [if_pos c_94]; try rfl) | (rw [if_neg c_94]; try rfl))) | fail), _, _, _, rfl⟩

set_option maxRecDepth 100000 in
set_option maxHeartbeats 800000 in
theorem m_bestWind (s m ig ws : Nat → Int32) (hg : Int32) (T : TX) (V : VX) (hI : Iv s) (n wh : Int32) : Ctr yX5_bestWind cX5_bestWind 6 (some .int) 7 0 0 [.ref 0, .int n, .int wh] (rW s m ig ws hg T V) (LookR (.int (S_bestWind s n wh)) s ig ws hg T) := by
  refine Ctr.of rfl (Nat.le_of_ble_eq_true rfl) ⟨clS_of rfl, clH_of rfl⟩ (fun K F X0 => ?_)
  show Go K 0 0 0 [(0, .ref 0), (1, .int n), (2, .int wh)] [] (rW s m ig ws hg T V)
  refine g_iload_n (pc := 0) F dX5_bestWind_0 rfl ?_
  refine h_readS (pc := 1) F (c_mLate _) mi_X5_isLate ks_X5_155 dX5_bestWind_1 [] rfl (by decide) (by decide) rfl rfl (Nat.le_of_ble_eq_true rfl) trivial (by decide) (by decide) ?_
  refine g_ifeq_d (pc := 4) F dX5_bestWind_4 (tgt := 16) rfl (fun c_4 => ?_) (fun c_4 => ?_)
  · refine g_ldc (pc := 16) F dX5_bestWind_16 kc_X5_151 ?_
    exact g_iret (pc := 18) F X0 dX5_bestWind_18 (Nat.le_of_ble_eq_true rfl) (Nat.le_of_ble_eq_true rfl) rfl ⟨congrArg (fun z => some (Value.int z)) (by first | (unfold S_bestWind; first | exact (if_neg (fun z => c_4 z.1)).symm | exact (if_neg (fun z => c_13 z.2)).symm | (rw [if_pos ⟨c_4, c_13⟩, N_nI (by omega)]; first | (rw [if_pos c_98]; try rfl) | (rw [if_neg c_98]; try rfl))) | fail), _, _, rfl⟩
  · refine g_iload_n (pc := 7) F dX5_bestWind_7 rfl ?_
    refine g_iconst (pc := 8) F dX5_bestWind_8 (v := nI 0) rfl ?_
    refine g_iconst (pc := 9) F dX5_bestWind_9 (v := nI 1) rfl ?_
    refine h_readS (pc := 10) F (c_isIn _ _ _) mi_X5_isIn ks_X5_43 dX5_bestWind_10 [] rfl (by decide) (by decide) rfl rfl (Nat.le_of_ble_eq_true rfl) trivial (by decide) (by decide) ?_
    refine g_ifne_d (pc := 13) F dX5_bestWind_13 (tgt := 19) rfl (fun c_13 => ?_) (fun c_13 => ?_)
    · obtain ⟨m0, hm0, rfl⟩ := late_ex c_4
      refine g_iconst (pc := 19) F dX5_bestWind_19 (v := nI 0) rfl ?_
      refine g_istore_n (pc := 20) F dX5_bestWind_20 (by decide) ?_
      refine g_iconst (pc := 21) F dX5_bestWind_21 (v := (-1 : Int32)) (by decide) ?_
      refine g_istore (pc := 22) F dX5_bestWind_22 (by decide) ?_
      refine g_bipush (pc := 24) F dX5_bestWind_24 (v := (-9 : Int32)) (by decide) ?_
      refine g_istore (pc := 26) F dX5_bestWind_26 (by decide) ?_
      have L : ∀ i, i ≤ 19 → ∀ ma, Go K 0 0 28 [(0, .ref 0), (1, .int (nI m0)), (2, .int wh), (3, .int (it (windF s m0) i (nI 0, (-1))).1), (4, .int (it (windF s m0) i (nI 0, (-1))).2), (5, .int (wI (i)))] [] (rW s ma ig ws hg T V) := loop_up (P := fun i => ∀ ma, Go K 0 0 28 [(0, .ref 0), (1, .int (nI m0)), (2, .int wh), (3, .int (it (windF s m0) i (nI 0, (-1))).1), (4, .int (it (windF s m0) i (nI 0, (-1))).2), (5, .int (wI (i)))] [] (rW s ma ig ws hg T V)) (fun i hi ih => by
        intro ma
        refine g_iload (pc := 28) F dX5_bestWind_28 rfl ?_
        refine g_bipush (pc := 30) F dX5_bestWind_30 (v := nI 10) rfl ?_
        refine g_ic_ge (pc := 32) F dX5_bestWind_32 (tgt := 97) rfl (fun c_32 => ?_) (fun c_32 => ?_)
        · obtain rfl : i = 19 := wI_hi2 i (by omega) c_32
          refine g_iload_n (pc := 97) F dX5_bestWind_97 rfl ?_
          refine g_if_ne (pc := 98) F dX5_bestWind_98 (tgt := 105) rfl (fun c_98 => ?_) (fun c_98 => ?_)
          · refine g_iload (pc := 105) F dX5_bestWind_105 rfl ?_
            exact g_iret (pc := 107) F X0 dX5_bestWind_107 (Nat.le_of_ble_eq_true rfl) (Nat.le_of_ble_eq_true rfl) rfl ⟨congrArg (fun z => some (Value.int z)) (by first | (unfold S_bestWind; first | exact (if_neg (fun z => c_4 z.1)).symm | exact (if_neg (fun z => c_13 z.2)).symm | (rw [if_pos ⟨c_4, c_13⟩, N_nI (by omega)]; first | (rw [if_pos c_98]; try rfl) | (rw [if_neg c_98]; try rfl))) | fail), _, _, rfl⟩
          · refine g_iload_n (pc := 101) F dX5_bestWind_101 rfl ?_
            refine g_goto (pc := 102) F dX5_bestWind_102 (tgt := 107) rfl ?_
            exact g_iret (pc := 107) F X0 dX5_bestWind_107 (Nat.le_of_ble_eq_true rfl) (Nat.le_of_ble_eq_true rfl) rfl ⟨congrArg (fun z => some (Value.int z)) (by first | (unfold S_bestWind; first | exact (if_neg (fun z => c_4 z.1)).symm | exact (if_neg (fun z => c_13 z.2)).symm | (rw [if_pos ⟨c_4, c_13⟩, N_nI (by omega)]; first | (rw [if_pos c_98]; try rfl) | (rw [if_neg c_98]; try rfl))) | fail), _, _, rfl⟩
        · have h19 : i < 19 := wI_lo2 i (by omega) c_32
          have hI3 := (daysR_ok (Iv_wind hI (wI_ok1 i h19) (wI_ok2 i h19)) m0).1
          refine g_aload_n (pc := 35) F dX5_bestWind_35 rfl ?_
          refine g_getf (pc := 36) F fl_X5_9 dX5_bestWind_36 rfl rfl ?_
          refine g_aload_n (pc := 39) F dX5_bestWind_39 rfl ?_
          refine g_getf (pc := 40) F fl_X5_13 dX5_bestWind_40 rfl rfl ?_
          refine h_callS (pc := 43) F (c_copyAll s ma) mi_X5_copies ks_X5_140 dX5_bestWind_43 [1, 2] rfl (by decide) (by decide) rfl rfl (Nat.le_of_ble_eq_true rfl) (by decide) (by decide) ?_
          rintro _ _ ⟨rfl, rfl⟩ -
          refine g_aload_n (pc := 46) F dX5_bestWind_46 rfl ?_
          refine g_getf (pc := 47) F fl_X5_13 dX5_bestWind_47 rfl rfl ?_
          refine g_iconst (pc := 50) F dX5_bestWind_50 (v := nI 2) rfl ?_
          refine g_iload (pc := 51) F dX5_bestWind_51 rfl ?_
          refine g_iast2 (pc := 53) F dX5_bestWind_53 rfl rfl (by first | omega | (simp only [ix]; omega)) (by decide) ?_
          refine g_aload_n (pc := 54) F dX5_bestWind_54 rfl ?_
          refine g_getf (pc := 55) F fl_X5_13 dX5_bestWind_55 rfl rfl ?_
          refine g_iload_n (pc := 58) F dX5_bestWind_58 rfl ?_
          refine h_callS (pc := 59) F (c_daysOn (upd s 2 (wI i)) _ m0 (Iv_wind hI (wI_ok1 i h19) (wI_ok2 i h19)) rfl (by omega)) mi_X5_daysOn ks_X5_130 dX5_bestWind_59 [2] rfl (by decide) (by decide) rfl rfl (Nat.le_of_ble_eq_true rfl) (by decide) (by decide) ?_
          rintro _ _ ⟨rfl, rfl⟩ -
          refine g_aload_n (pc := 62) F dX5_bestWind_62 rfl ?_
          refine g_getf (pc := 63) F fl_X5_13 dX5_bestWind_63 rfl rfl ?_
          refine g_iconst (pc := 66) F dX5_bestWind_66 (v := (-1 : Int32)) (by decide) ?_
          refine h_readS (pc := 67) F (c_booksOf (daysR (upd s 2 (wI i)) m0) _ hI3) mi_X5_booksOf ks_X5_152 dX5_bestWind_67 [2] rfl (by decide) (by decide) rfl rfl (Nat.le_of_ble_eq_true rfl) trivial (by decide) (by decide) ?_
          refine g_iload (pc := 70) F dX5_bestWind_70 rfl ?_
          refine g_ic_gt (pc := 72) F dX5_bestWind_72 (tgt := 78) rfl (fun c_72 => ?_) (fun c_72 => ?_)
          · refine g_iload (pc := 78) F dX5_bestWind_78 rfl ?_
            refine g_istore_n (pc := 80) F dX5_bestWind_80 (by decide) ?_
            refine g_aload_n (pc := 81) F dX5_bestWind_81 rfl ?_
            refine g_getf (pc := 82) F fl_X5_13 dX5_bestWind_82 rfl rfl ?_
            refine g_iconst (pc := 85) F dX5_bestWind_85 (v := (-1 : Int32)) (by decide) ?_
            refine h_readS (pc := 86) F (c_booksOf (daysR (upd s 2 (wI i)) m0) _ hI3) mi_X5_booksOf ks_X5_152 dX5_bestWind_86 [2] rfl (by decide) (by decide) rfl rfl (Nat.le_of_ble_eq_true rfl) trivial (by decide) (by decide) ?_
            refine g_istore (pc := 89) F dX5_bestWind_89 (by decide) ?_
            refine g_iinc (pc := 91) F dX5_bestWind_91 rfl wI_succ (by decide) ?_
            refine g_goto (pc := 94) F dX5_bestWind_94 (tgt := 28) rfl ?_
            first
              | exact (congrArg (fun z => Go K 0 0 28 [(0, .ref 0), (1, .int (nI m0)), (2, .int wh), (3, .int (z).1), (4, .int (z).2), (5, .int (wI (i + 1)))] [] (rW s (daysR (upd s 2 (wI i)) m0) ig ws hg T V)) ((it_succ (windF s m0) i (nI 0, (-1))).trans (if_neg c_72))).mp (ih h19 _)
              | exact (congrArg (fun z => Go K 0 0 28 [(0, .ref 0), (1, .int (nI m0)), (2, .int wh), (3, .int (z).1), (4, .int (z).2), (5, .int (wI (i + 1)))] [] (rW s (daysR (upd s 2 (wI i)) m0) ig ws hg T V)) ((it_succ (windF s m0) i (nI 0, (-1))).trans (if_pos c_72))).mp (ih h19 _)
              | fail
          · refine g_goto (pc := 75) F dX5_bestWind_75 (tgt := 91) rfl ?_
            refine g_iinc (pc := 91) F dX5_bestWind_91 rfl wI_succ (by decide) ?_
            refine g_goto (pc := 94) F dX5_bestWind_94 (tgt := 28) rfl ?_
            first
              | exact (congrArg (fun z => Go K 0 0 28 [(0, .ref 0), (1, .int (nI m0)), (2, .int wh), (3, .int (z).1), (4, .int (z).2), (5, .int (wI (i + 1)))] [] (rW s (daysR (upd s 2 (wI i)) m0) ig ws hg T V)) ((it_succ (windF s m0) i (nI 0, (-1))).trans (if_neg c_72))).mp (ih h19 _)
              | exact (congrArg (fun z => Go K 0 0 28 [(0, .ref 0), (1, .int (nI m0)), (2, .int wh), (3, .int (z).1), (4, .int (z).2), (5, .int (wI (i + 1)))] [] (rW s (daysR (upd s 2 (wI i)) m0) ig ws hg T V)) ((it_succ (windF s m0) i (nI 0, (-1))).trans (if_pos c_72))).mp (ih h19 _)
              | fail)
      exact L 0 (by omega) m
    · refine g_ldc (pc := 16) F dX5_bestWind_16 kc_X5_151 ?_
      exact g_iret (pc := 18) F X0 dX5_bestWind_18 (Nat.le_of_ble_eq_true rfl) (Nat.le_of_ble_eq_true rfl) rfl ⟨congrArg (fun z => some (Value.int z)) (by first | (unfold S_bestWind; first | exact (if_neg (fun z => c_4 z.1)).symm | exact (if_neg (fun z => c_13 z.2)).symm | (rw [if_pos ⟨c_4, c_13⟩, N_nI (by omega)]; first | (rw [if_pos c_98]; try rfl) | (rw [if_neg c_98]; try rfl))) | fail), _, _, rfl⟩

