/-! idle -/
abbrev idP (r : Nat → Int32) (n : Nat) (i : Nat) : Prop := ¬ booksR (daysR (upd r (ix i 5) (nI 1)) n) (-1) < booksR (tkR r n) (-1)
def S_idle (r : Nat → Int32) (n : Int32) : Int32 := if lateP n then seekN (idP r (N n)) (many r) 0 else (-1)
theorem seekK_yes {p : Nat → Prop} [DecidablePred p] {v : Int32} {i k : Nat} (hi : i < k) (h : v = seekN p (k - i) i) (hp : p i) : v = nI i := by
  obtain ⟨j, hj⟩ : ∃ j, k - i = j + 1 := ⟨k - 1 - i, by omega⟩
  rw [h, hj]
  exact if_pos hp
theorem seekK_no {p : Nat → Prop} [DecidablePred p] {v : Int32} {i k : Nat} (hi : i < k) (h : v = seekN p (k - i) i) (hp : ¬ p i) : v = seekN p (k - (i + 1)) (i + 1) := by
  obtain ⟨j, hj⟩ : ∃ j, k - i = j + 1 := ⟨k - 1 - i, by omega⟩
  have e : k - (i + 1) = j := by omega
  rw [h, hj, e]
  exact if_neg hp
theorem seekK_end {p : Nat → Prop} [DecidablePred p] {v : Int32} {k : Nat} (h : v = seekN p (k - k) k) : v = (-4) := by
  rw [h, Nat.sub_self]
  rfl
theorem S_idle_of {r : Nat → Int32} {j : Nat} (hj : j ≤ 60) (h : lateP (nI j)) : S_idle r (nI j) = seekN (idP r j) (many r - 0) 0 := by
  unfold S_idle
  rw [if_pos h, N_nI (by omega)]
  rfl
theorem Rel_set {b : Int32} {X : DX} {r : Nat → Int32} {c : Nat} (h : Rel b X r) (hI : Iv r) (hc : c < many r) (h4 : r 4 = nI 0) : Rel b (sR X (dR X ||| (nI 1 <<< (nI c &&& 31)))) (upd r (ix c 5) (nI 1)) :=
  Rel_rests h (by rw [restR_set hI hc, h.1.2.2.2.2.2]) (NW0 (Iv_rests hI (Or.inr rfl)) ((upd_ne _ (by simp only [ix]; omega)).trans h4))
set_option maxRecDepth 100000 in
set_option maxHeartbeats 800000 in
theorem c_idle (b : Int32) (X Y Z : DX) (im : Int32) (S : Nat → SX) (g h : Nat → Int32) (r : Nat → Int32) (hR : Rel b X r) (hI : Iv r) (h4 : r 4 = nI 0) (n : Int32) : Ctr yX4_idle cX4_idle 4 (some .int) 7 0 0 [.ref 0, .int n] (mW X Y Z im S g h) (Look (.int (S_idle r n)) X Z im S) := by
  refine Ctr.of rfl (Nat.le_of_ble_eq_true rfl) ⟨clS_of rfl, mW_cl _ _ _ _ _ _ _⟩ (fun K F X0 => ?_)
  show Go K 0 0 0 [(0, .ref 0), (1, .int n)] [] (mW X Y Z im S g h)
  refine g_iload_n (pc := 0) F dX4_idle_0 rfl ?_
  refine h_readS (pc := 1) F (c_isDaysOn _) mi_X4_isDaysOn ks_X4_173 dX4_idle_1 [] rfl (by decide) (by decide) rfl rfl (Nat.le_of_ble_eq_true rfl) trivial (by decide) (by decide) ?_
  refine g_ifne_d (pc := 4) F dX4_idle_4 (tgt := 9) rfl (fun c_4 => ?_) (fun c_4 => ?_)
  · obtain ⟨m0, hm0, rfl⟩ := late_ex c_4
    have hm6 := hI.1.2
    refine g_aload_n (pc := 9) F dX4_idle_9 rfl ?_
    refine g_iload_n (pc := 10) F dX4_idle_10 rfl ?_
    refine i_callV (pc := 11) F (c_lookOn b X Y Z im S g h r _ m0 hR hI h4 rfl (by omega)) mi_X4_lookOn kv_X4_176 rfl rfl dX4_idle_11 (by decide) (by decide) rfl (Nat.le_of_ble_eq_true rfl) (by decide) (by decide) ?_
    rintro _ _ ⟨rfl, Y2, rfl, hY2⟩ -
    have hI2 := (tkR_ok hI m0).1
    refine g_aload_n (pc := 14) F dX4_idle_14 rfl ?_
    refine g_getf (pc := 15) F fl_X4_16 dX4_idle_15 rfl rfl ?_
    refine h_readV (pc := 18) F (c_allBooks _ Y2 _ hY2 hI2) mi_X0_allBooks kv_X4_163 rfl rfl dX4_idle_18 [9, 10, 11, 12, 13, 14, 15, 16] sub_mind (by decide) (by decide) rfl rfl (Nat.le_of_ble_eq_true rfl) trivial (by decide) (by decide) ?_
    refine g_istore_n (pc := 21) F dX4_idle_21 (by decide) ?_
    refine g_iconst (pc := 22) F dX4_idle_22 (v := nI 0) rfl ?_
    refine g_istore_n (pc := 23) F dX4_idle_23 (by decide) ?_
    have L : ∀ i, i ≤ many r → S_idle r (nI m0) = seekN (idP r m0) (many r - i) i → ∀ Ya, Go K 0 0 24 [(0, .ref 0), (1, .int (nI m0)), (2, .int (booksR (tkR r m0) (-1))), (3, .int (nI (i)))] [] (mW X Ya Z im S g h) := loop_up (P := fun i => S_idle r (nI m0) = seekN (idP r m0) (many r - i) i → ∀ Ya, Go K 0 0 24 [(0, .ref 0), (1, .int (nI m0)), (2, .int (booksR (tkR r m0) (-1))), (3, .int (nI (i)))] [] (mW X Ya Z im S g h)) (fun i hi ih => by
      intro he Ya
      refine g_iload_n (pc := 24) F dX4_idle_24 rfl ?_
      refine g_aload_n (pc := 25) F dX4_idle_25 rfl ?_
      refine g_getf (pc := 26) F fl_X4_12 dX4_idle_26 rfl rfl ?_
      refine g_getf (pc := 29) F fl_X4_148 dX4_idle_29 rfl rfl ?_
      refine g_icN_ge (pc := 32) F dX4_idle_32 (tgt := 88) rfl rfl (hR.1.1.trans hI.1.1) (by omega) (by omega) (fun c_32 => ?_) (fun c_32 => ?_)
      · obtain rfl : i = many r := by omega
        refine g_bipush (pc := 88) F dX4_idle_88 (v := (-4 : Int32)) (by decide) ?_
        exact g_iret (pc := 90) F X0 dX4_idle_90 (Nat.le_of_ble_eq_true rfl) (Nat.le_of_ble_eq_true rfl) rfl ⟨congrArg (fun z => some (Value.int z)) (by first | (first | exact (seekK_yes hi he c_77).symm | exact (seekK_end he).symm | exact (if_neg c_4).symm | fail) | fail), _, _, _, rfl⟩
      · have hi : i < many r := c_32
        have hI3 := (daysR_ok (r := upd r (ix i 5) (nI 1)) (Iv_rests hI (Or.inr rfl)) m0).1
        refine g_aload_n (pc := 35) F dX4_idle_35 rfl ?_
        refine g_getf (pc := 36) F fl_X4_16 dX4_idle_36 rfl rfl ?_
        refine g_aload_n (pc := 39) F dX4_idle_39 rfl ?_
        refine g_getf (pc := 40) F fl_X4_12 dX4_idle_40 rfl rfl ?_
        refine h_callV (pc := 43) F (c_becomes b Ya X r hR hI h4) mi_X0_becomes kv_X4_57 rfl rfl dX4_idle_43 [9, 10, 11, 12, 13, 14, 15, 16, 1, 2, 3, 4, 5, 6, 7, 8] sub_mn (by decide) (by decide) rfl rfl (Nat.le_of_ble_eq_true rfl) (by decide) (by decide) ?_
        rintro _ _ ⟨rfl, Y3, rfl, hY3⟩ -
        rw [place_mn]
        refine g_aload_n (pc := 46) F dX4_idle_46 rfl ?_
        refine g_getf (pc := 47) F fl_X4_16 dX4_idle_47 rfl rfl ?_
        refine g_dup (pc := 50) F dX4_idle_50 rfl ?_
        refine g_getf (pc := 51) F fl_X4_97 dX4_idle_51 rfl rfl ?_
        refine g_iconst (pc := 54) F dX4_idle_54 (v := nI 1) rfl ?_
        refine g_iload_n (pc := 55) F dX4_idle_55 rfl ?_
        refine g_ishl (pc := 56) F dX4_idle_56 ?_
        refine g_ior (pc := 57) F dX4_idle_57 ?_
        refine g_putf (pc := 58) F fl_X4_97 dX4_idle_58 rfl (Nat.le_of_ble_eq_true rfl) ?_
        show Go K 0 0 61 _ _ (mW X (sR Y3 (dR Y3 ||| (nI 1 <<< (nI i &&& 31)))) Z im S g h)
        refine g_aload_n (pc := 61) F dX4_idle_61 rfl ?_
        refine g_getf (pc := 62) F fl_X4_16 dX4_idle_62 rfl rfl ?_
        refine g_iload_n (pc := 65) F dX4_idle_65 rfl ?_
        refine h_callV (pc := 66) F (c_passDays _ _ _ _ m0 (Rel_set hY3 hI hi h4) (Iv_rests hI (Or.inr rfl)) rfl (by omega)) mi_X0_passDays kv_X4_170 rfl rfl dX4_idle_66 [9, 10, 11, 12, 13, 14, 15, 16] sub_mind (by decide) (by decide) rfl rfl (Nat.le_of_ble_eq_true rfl) (by decide) (by decide) ?_
        rintro _ _ ⟨rfl, Y4, rfl, hY4⟩ -
        rw [place_mind]
        refine g_aload_n (pc := 69) F dX4_idle_69 rfl ?_
        refine g_getf (pc := 70) F fl_X4_16 dX4_idle_70 rfl rfl ?_
        refine h_readV (pc := 73) F (c_allBooks _ Y4 _ hY4 hI3) mi_X0_allBooks kv_X4_163 rfl rfl dX4_idle_73 [9, 10, 11, 12, 13, 14, 15, 16] sub_mind (by decide) (by decide) rfl rfl (Nat.le_of_ble_eq_true rfl) trivial (by decide) (by decide) ?_
        refine g_iload_n (pc := 76) F dX4_idle_76 rfl ?_
        refine g_ic_lt (pc := 77) F dX4_idle_77 (tgt := 82) rfl (fun c_77 => ?_) (fun c_77 => ?_)
        · refine g_iincN (pc := 82) F dX4_idle_82 rfl (by decide) ?_
          refine g_goto (pc := 85) F dX4_idle_85 (tgt := 24) rfl ?_
          exact ih hi (seekK_no hi he (fun z => z c_77)) Y4
        · refine g_iload_n (pc := 80) F dX4_idle_80 rfl ?_
          exact g_iret (pc := 81) F X0 dX4_idle_81 (Nat.le_of_ble_eq_true rfl) (Nat.le_of_ble_eq_true rfl) rfl ⟨congrArg (fun z => some (Value.int z)) (by first | (first | exact (seekK_yes hi he c_77).symm | exact (seekK_end he).symm | exact (if_neg c_4).symm | fail) | fail), _, _, _, rfl⟩)
    exact L 0 (Nat.zero_le _) (S_idle_of hm0 c_4) Y2
  · refine g_iconst (pc := 7) F dX4_idle_7 (v := (-1 : Int32)) (by decide) ?_
    exact g_iret (pc := 8) F X0 dX4_idle_8 (Nat.le_of_ble_eq_true rfl) (Nat.le_of_ble_eq_true rfl) rfl ⟨congrArg (fun z => some (Value.int z)) (by first | (first | exact (seekK_yes hi he c_77).symm | exact (seekK_end he).symm | exact (if_neg c_4).symm | fail) | fail), _, _, _, rfl⟩

set_option maxRecDepth 100000 in
set_option maxHeartbeats 800000 in
theorem m_idle (s m ig ws : Nat → Int32) (hg : Int32) (T : TX) (V : VX) (hI : Iv s) (n : Int32) : Ctr yX5_idle cX5_idle 4 (some .int) 7 0 0 [.ref 0, .int n] (rW s m ig ws hg T V) (LookR (.int (S_idle s n)) s ig ws hg T) := by
  refine Ctr.of rfl (Nat.le_of_ble_eq_true rfl) ⟨clS_of rfl, clH_of rfl⟩ (fun K F X0 => ?_)
  show Go K 0 0 0 [(0, .ref 0), (1, .int n)] [] (rW s m ig ws hg T V)
  refine g_iload_n (pc := 0) F dX5_idle_0 rfl ?_
  refine h_readS (pc := 1) F (c_mLate _) mi_X5_isLate ks_X5_155 dX5_idle_1 [] rfl (by decide) (by decide) rfl rfl (Nat.le_of_ble_eq_true rfl) trivial (by decide) (by decide) ?_
  refine g_ifne_d (pc := 4) F dX5_idle_4 (tgt := 9) rfl (fun c_4 => ?_) (fun c_4 => ?_)
  · obtain ⟨m0, hm0, rfl⟩ := late_ex c_4
    have hm6 := hI.1.2
    refine g_aload_n (pc := 9) F dX5_idle_9 rfl ?_
    refine g_iload_n (pc := 10) F dX5_idle_10 rfl ?_
    refine i_callV (pc := 11) F (m_takes s m ig ws hg T V _ m0 hI rfl (by omega)) mi_X5_takes kv_X5_158 rfl rfl dX5_idle_11 (by decide) (by decide) rfl (Nat.le_of_ble_eq_true rfl) (by decide) (by decide) ?_
    rintro _ _ ⟨rfl, rfl⟩ -
    have hI2 := (tkR_ok hI m0).1
    refine g_aload_n (pc := 14) F dX5_idle_14 rfl ?_
    refine g_getf (pc := 15) F fl_X5_13 dX5_idle_15 rfl rfl ?_
    refine g_iconst (pc := 18) F dX5_idle_18 (v := (-1 : Int32)) (by decide) ?_
    refine h_readS (pc := 19) F (c_booksOf (tkR s m0) _ hI2) mi_X5_booksOf ks_X5_152 dX5_idle_19 [2] rfl (by decide) (by decide) rfl rfl (Nat.le_of_ble_eq_true rfl) trivial (by decide) (by decide) ?_
    refine g_istore_n (pc := 22) F dX5_idle_22 (by decide) ?_
    refine g_iconst (pc := 23) F dX5_idle_23 (v := nI 0) rfl ?_
    refine g_istore_n (pc := 24) F dX5_idle_24 (by decide) ?_
    have L : ∀ i, i ≤ many s → S_idle s (nI m0) = seekN (idP s m0) (many s - i) i → ∀ ma, Go K 0 0 25 [(0, .ref 0), (1, .int (nI m0)), (2, .int (booksR (tkR s m0) (-1))), (3, .int (nI (i)))] [] (rW s ma ig ws hg T V) := loop_up (P := fun i => S_idle s (nI m0) = seekN (idP s m0) (many s - i) i → ∀ ma, Go K 0 0 25 [(0, .ref 0), (1, .int (nI m0)), (2, .int (booksR (tkR s m0) (-1))), (3, .int (nI (i)))] [] (rW s ma ig ws hg T V)) (fun i hi ih => by
      intro he ma
      refine g_iload_n (pc := 25) F dX5_idle_25 rfl ?_
      refine g_aload_n (pc := 26) F dX5_idle_26 rfl ?_
      refine g_getf (pc := 27) F fl_X5_9 dX5_idle_27 rfl rfl ?_
      refine g_iconst (pc := 30) F dX5_idle_30 (v := nI 0) rfl ?_
      refine g_iald2 (pc := 31) F dX5_idle_31 rfl rfl (by first | omega | (simp only [ix]; omega)) (by decide) ?_
      refine g_icN_ge (pc := 32) F dX5_idle_32 (tgt := 85) rfl rfl hI.1.1 (by omega) (by omega) (fun c_32 => ?_) (fun c_32 => ?_)
      · obtain rfl : i = many s := by omega
        refine g_bipush (pc := 85) F dX5_idle_85 (v := (-4 : Int32)) (by decide) ?_
        exact g_iret (pc := 87) F X0 dX5_idle_87 (Nat.le_of_ble_eq_true rfl) (Nat.le_of_ble_eq_true rfl) rfl ⟨congrArg (fun z => some (Value.int z)) (by first | (first | exact (seekK_yes hi he c_74).symm | exact (seekK_end he).symm | exact (if_neg c_4).symm | fail) | fail), _, _, rfl⟩
      · have hi : i < many s := c_32
        have hI3 := (daysR_ok (r := upd s (ix i 5) (nI 1)) (Iv_rests hI (Or.inr rfl)) m0).1
        refine g_aload_n (pc := 35) F dX5_idle_35 rfl ?_
        refine g_getf (pc := 36) F fl_X5_9 dX5_idle_36 rfl rfl ?_
        refine g_aload_n (pc := 39) F dX5_idle_39 rfl ?_
        refine g_getf (pc := 40) F fl_X5_13 dX5_idle_40 rfl rfl ?_
        refine h_callS (pc := 43) F (c_copyAll s ma) mi_X5_copies ks_X5_140 dX5_idle_43 [1, 2] rfl (by decide) (by decide) rfl rfl (Nat.le_of_ble_eq_true rfl) (by decide) (by decide) ?_
        rintro _ _ ⟨rfl, rfl⟩ -
        refine g_aload_n (pc := 46) F dX5_idle_46 rfl ?_
        refine g_getf (pc := 47) F fl_X5_13 dX5_idle_47 rfl rfl ?_
        refine g_iload_n (pc := 50) F dX5_idle_50 rfl ?_
        refine g_iconst (pc := 51) F dX5_idle_51 (v := nI 5) rfl ?_
        refine h_readS (pc := 52) F (c_of _ _) mi_X5_of ks_X5_47 dX5_idle_52 [] rfl (by decide) (by decide) rfl rfl (Nat.le_of_ble_eq_true rfl) trivial (by decide) (by decide) ?_
        refine g_iconst (pc := 55) F dX5_idle_55 (v := nI 1) rfl ?_
        refine g_iast2 (pc := 56) F dX5_idle_56 rfl rfl (by first | omega | (simp only [ix]; omega)) (by decide) ?_
        refine g_aload_n (pc := 57) F dX5_idle_57 rfl ?_
        refine g_getf (pc := 58) F fl_X5_13 dX5_idle_58 rfl rfl ?_
        refine g_iload_n (pc := 61) F dX5_idle_61 rfl ?_
        refine h_callS (pc := 62) F (c_daysOn (upd s (ix i 5) (nI 1)) _ m0 (Iv_rests hI (Or.inr rfl)) rfl (by omega)) mi_X5_daysOn ks_X5_130 dX5_idle_62 [2] rfl (by decide) (by decide) rfl rfl (Nat.le_of_ble_eq_true rfl) (by decide) (by decide) ?_
        rintro _ _ ⟨rfl, rfl⟩ -
        refine g_aload_n (pc := 65) F dX5_idle_65 rfl ?_
        refine g_getf (pc := 66) F fl_X5_13 dX5_idle_66 rfl rfl ?_
        refine g_iconst (pc := 69) F dX5_idle_69 (v := (-1 : Int32)) (by decide) ?_
        refine h_readS (pc := 70) F (c_booksOf (daysR (upd s (ix i 5) (nI 1)) m0) _ hI3) mi_X5_booksOf ks_X5_152 dX5_idle_70 [2] rfl (by decide) (by decide) rfl rfl (Nat.le_of_ble_eq_true rfl) trivial (by decide) (by decide) ?_
        refine g_iload_n (pc := 73) F dX5_idle_73 rfl ?_
        refine g_ic_lt (pc := 74) F dX5_idle_74 (tgt := 79) rfl (fun c_74 => ?_) (fun c_74 => ?_)
        · refine g_iincN (pc := 79) F dX5_idle_79 rfl (by decide) ?_
          refine g_goto (pc := 82) F dX5_idle_82 (tgt := 25) rfl ?_
          exact ih hi (seekK_no hi he (fun z => z c_74)) _
        · refine g_iload_n (pc := 77) F dX5_idle_77 rfl ?_
          exact g_iret (pc := 78) F X0 dX5_idle_78 (Nat.le_of_ble_eq_true rfl) (Nat.le_of_ble_eq_true rfl) rfl ⟨congrArg (fun z => some (Value.int z)) (by first | (first | exact (seekK_yes hi he c_74).symm | exact (seekK_end he).symm | exact (if_neg c_4).symm | fail) | fail), _, _, rfl⟩)
    exact L 0 (Nat.zero_le _) (S_idle_of hm0 c_4) _
  · refine g_iconst (pc := 7) F dX5_idle_7 (v := (-1 : Int32)) (by decide) ?_
    exact g_iret (pc := 8) F X0 dX5_idle_8 (Nat.le_of_ble_eq_true rfl) (Nat.le_of_ble_eq_true rfl) rfl ⟨congrArg (fun z => some (Value.int z)) (by first | (first | exact (seekK_yes hi he c_74).symm | exact (seekK_end he).symm | exact (if_neg c_4).symm | fail) | fail), _, _, rfl⟩

