/-! begin -/
def begR (r : Nat → Int32) (c a d : Nat) : Nat → Int32 := upd (upd r (ix c 3) (nI a)) (ix c 2) (nI d)
def begV (r : Nat → Int32) (c n a d : Nat) : Int32 := daysR (begR r c a d) n (ix c 4)
def begF (r : Nat → Int32) (c n : Nat) (i : Nat) (z : Int32 × Int32) : Int32 × Int32 := if z.2 < begV r c n (i / 10) (i % 10) then (nI i, begV r c n (i / 10) (i % 10)) else z
def S_begin (r : Nat → Int32) (c n : Int32) : Int32 := if oneP r c ∧ lateP n then (it (begF r (N c) (N n)) 20 (nI 0, -1)).1 else (-1)
theorem begF_yes {r : Nat → Int32} {c n a d : Nat} {z : Int32 × Int32} (hd : d < 10) (h : z.2 < begV r c n a d) : begF r c n (10 * a + d) z = (nI (10 * a + d), begV r c n a d) := by
  have e1 : (10 * a + d) / 10 = a := by omega
  have e2 : (10 * a + d) % 10 = d := by omega
  unfold begF
  rw [e1, e2, if_pos h]
theorem begF_no {r : Nat → Int32} {c n a d : Nat} {z : Int32 × Int32} (hd : d < 10) (h : ¬ z.2 < begV r c n a d) : begF r c n (10 * a + d) z = z := by
  have e1 : (10 * a + d) / 10 = a := by omega
  have e2 : (10 * a + d) % 10 = d := by omega
  unfold begF
  rw [e1, e2, if_neg h]
theorem Iv_beg {r : Nat → Int32} {c a d : Nat} (h : Iv r) (ha : a < 2) (hd : d < 10) : Iv (begR r c a d) :=
  Iv_at (Iv_way h (by obtain rfl | rfl : a = 0 ∨ a = 1 := by omega
                      · exact Or.inl rfl
                      · exact Or.inr rfl)) hd
theorem many_beg {r : Nat → Int32} {c a d n : Nat} (h : Iv r) (ha : a < 2) (hd : d < 10) : many (daysR (begR r c a d) n) = many r :=
  many_of ((daysR_ok (Iv_beg h ha hd) n).2.1.trans ((upd_ne _ (by simp only [ix]; omega)).trans (upd_ne _ (by simp only [ix]; omega))))
set_option maxRecDepth 100000 in
set_option maxHeartbeats 800000 in
theorem c_begin (b : Int32) (X Y Z : DX) (im : Int32) (S : Nat → SX) (g h : Nat → Int32) (r : Nat → Int32) (hR : Rel b X r) (hI : Iv r) (h4 : r 4 = nI 0) (c n : Int32) : Ctr yX4_begin cX4_begin 7 (some .int) 7 0 0 [.ref 0, .int c, .int n] (mW X Y Z im S g h) (Look (.int (S_begin r c n)) X Z im S) := by
  refine Ctr.of rfl (Nat.le_of_ble_eq_true rfl) ⟨clS_of rfl, mW_cl _ _ _ _ _ _ _⟩ (fun K F X0 => ?_)
  show Go K 0 0 0 [(0, .ref 0), (1, .int c), (2, .int n)] [] (mW X Y Z im S g h)
  refine g_aload_n (pc := 0) F dX4_begin_0 rfl ?_
  refine g_iload_n (pc := 1) F dX4_begin_1 rfl ?_
  refine i_readV (pc := 2) F (c_isCorporal b X Y Z im S g h r _ hR hI) mi_X4_isCorporal kv_X4_78 rfl rfl dX4_begin_2 (by decide) (by decide) rfl (Nat.le_of_ble_eq_true rfl) (by decide) (by decide) ?_
  refine g_ifeq_d (pc := 5) F dX4_begin_5 (tgt := 15) rfl (fun c_5 => ?_) (fun c_5 => ?_)
  · refine g_iconst (pc := 15) F dX4_begin_15 (v := (-1 : Int32)) (by decide) ?_
    exact g_iret (pc := 16) F X0 dX4_begin_16 (Nat.le_of_ble_eq_true rfl) (Nat.le_of_ble_eq_true rfl) rfl ⟨congrArg (fun z => some (Value.int z)) (by first | (unfold S_begin; first | exact (if_neg (fun z => c_5 z.1)).symm | exact (if_neg (fun z => c_12 z.2)).symm | (rw [if_pos ⟨c_5, c_12⟩, N_nI (by omega), N_nI (by omega)]; try rfl)) | fail), _, _, _, rfl⟩
  · refine g_iload_n (pc := 8) F dX4_begin_8 rfl ?_
    refine h_readS (pc := 9) F (c_isDaysOn _) mi_X4_isDaysOn ks_X4_173 dX4_begin_9 [] rfl (by decide) (by decide) rfl rfl (Nat.le_of_ble_eq_true rfl) trivial (by decide) (by decide) ?_
    refine g_ifne_d (pc := 12) F dX4_begin_12 (tgt := 17) rfl (fun c_12 => ?_) (fun c_12 => ?_)
    · have hm6 := hI.1.2
      obtain ⟨j, hj, rfl⟩ := one_ex hI c_5
      obtain ⟨m0, hm0, rfl⟩ := late_ex c_12
      refine g_iconst (pc := 17) F dX4_begin_17 (v := nI 0) rfl ?_
      refine g_istore_n (pc := 18) F dX4_begin_18 (by decide) ?_
      refine g_iconst (pc := 19) F dX4_begin_19 (v := (-1 : Int32)) (by decide) ?_
      refine g_istore (pc := 20) F dX4_begin_20 (by decide) ?_
      refine g_iconst (pc := 22) F dX4_begin_22 (v := nI 0) rfl ?_
      refine g_istore (pc := 23) F dX4_begin_23 (by decide) ?_
      have L : ∀ a, a ≤ 2 → ∀ Ya, Go K 0 0 25 [(0, .ref 0), (1, .int (nI j)), (2, .int (nI m0)), (3, .int (it (begF r j m0) (10 * a) (nI 0, (-1))).1), (4, .int (it (begF r j m0) (10 * a) (nI 0, (-1))).2), (5, .int (nI (a)))] [] (mW X Ya Z im S g h) := loop_up (P := fun a => ∀ Ya, Go K 0 0 25 [(0, .ref 0), (1, .int (nI j)), (2, .int (nI m0)), (3, .int (it (begF r j m0) (10 * a) (nI 0, (-1))).1), (4, .int (it (begF r j m0) (10 * a) (nI 0, (-1))).2), (5, .int (nI (a)))] [] (mW X Ya Z im S g h)) (fun a hiL ih => by
        intro Ya
        refine g_iload (pc := 25) F dX4_begin_25 rfl ?_
        refine g_iconst (pc := 27) F dX4_begin_27 (v := nI 1) rfl ?_
        refine g_icN_gt (pc := 28) F dX4_begin_28 (tgt := 128) rfl rfl rfl (by omega) (by omega) (fun c_28 => ?_) (fun c_28 => ?_)
        · obtain rfl : a = 2 := by omega
          refine g_iload_n (pc := 128) F dX4_begin_128 rfl ?_
          exact g_iret (pc := 129) F X0 dX4_begin_129 (Nat.le_of_ble_eq_true rfl) (Nat.le_of_ble_eq_true rfl) rfl ⟨congrArg (fun z => some (Value.int z)) (by first | (unfold S_begin; first | exact (if_neg (fun z => c_5 z.1)).symm | exact (if_neg (fun z => c_12 z.2)).symm | (rw [if_pos ⟨c_5, c_12⟩, N_nI (by omega), N_nI (by omega)]; try rfl)) | fail), _, _, _, rfl⟩
        · have ha : a < 2 := by omega
          refine g_iconst (pc := 31) F dX4_begin_31 (v := nI 0) rfl ?_
          refine g_istore (pc := 32) F dX4_begin_32 (by decide) ?_
          have L2 : ∀ d, d ≤ 10 → ∀ Ya, Go K 0 0 34 [(0, .ref 0), (1, .int (nI j)), (2, .int (nI m0)), (3, .int (it (begF r j m0) (10 * a + d) (nI 0, (-1))).1), (4, .int (it (begF r j m0) (10 * a + d) (nI 0, (-1))).2), (5, .int (nI (a))), (6, .int (nI (d)))] [] (mW X Ya Z im S g h) := loop_up (P := fun d => ∀ Ya, Go K 0 0 34 [(0, .ref 0), (1, .int (nI j)), (2, .int (nI m0)), (3, .int (it (begF r j m0) (10 * a + d) (nI 0, (-1))).1), (4, .int (it (begF r j m0) (10 * a + d) (nI 0, (-1))).2), (5, .int (nI (a))), (6, .int (nI (d)))] [] (mW X Ya Z im S g h)) (fun d hiL2 ih2 => by
            intro Ya
            refine g_iload (pc := 34) F dX4_begin_34 rfl ?_
            refine g_bipush (pc := 36) F dX4_begin_36 (v := nI 10) rfl ?_
            refine g_icN_ge (pc := 38) F dX4_begin_38 (tgt := 122) rfl rfl rfl (by omega) (by omega) (fun c_38 => ?_) (fun c_38 => ?_)
            · obtain rfl : d = 10 := by omega
              refine g_iincN (pc := 122) F dX4_begin_122 rfl (by decide) ?_
              refine g_goto (pc := 125) F dX4_begin_125 (tgt := 25) rfl ?_
              refine g_less [0, 1, 2, 3, 4, 5] rfl ?_
              exact ih ha Ya
            · refine g_aload_n (pc := 41) F dX4_begin_41 rfl ?_
              refine g_getf (pc := 42) F fl_X4_16 dX4_begin_42 rfl rfl ?_
              refine g_aload_n (pc := 45) F dX4_begin_45 rfl ?_
              refine g_getf (pc := 46) F fl_X4_12 dX4_begin_46 rfl rfl ?_
              refine h_callV (pc := 49) F (c_becomes b Ya X r hR hI h4) mi_X0_becomes kv_X4_57 rfl rfl dX4_begin_49 [9, 10, 11, 12, 13, 14, 15, 16, 1, 2, 3, 4, 5, 6, 7, 8] sub_mn (by decide) (by decide) rfl rfl (Nat.le_of_ble_eq_true rfl) (by decide) (by decide) ?_
              rintro _ _ ⟨rfl, Y2, rfl, hY2⟩ -
              rw [place_mn]
              refine g_aload_n (pc := 52) F dX4_begin_52 rfl ?_
              refine g_getf (pc := 53) F fl_X4_16 dX4_begin_53 rfl rfl ?_
              refine g_getf (pc := 56) F fl_X4_91 dX4_begin_56 rfl rfl ?_
              refine g_iload_n (pc := 59) F dX4_begin_59 rfl ?_
              refine g_iload (pc := 60) F dX4_begin_60 rfl ?_
              refine g_iast2 (pc := 62) F dX4_begin_62 rfl rfl (by first | omega | (simp only [ix]; omega)) (by decide) ?_
              refine g_aload_n (pc := 63) F dX4_begin_63 rfl ?_
              refine g_getf (pc := 64) F fl_X4_16 dX4_begin_64 rfl rfl ?_
              refine g_getf (pc := 67) F fl_X4_88 dX4_begin_67 rfl rfl ?_
              refine g_iload_n (pc := 70) F dX4_begin_70 rfl ?_
              refine g_iload (pc := 71) F dX4_begin_71 rfl ?_
              refine g_iast2 (pc := 73) F dX4_begin_73 rfl rfl (by first | omega | (simp only [ix]; omega)) (by decide) ?_
              show Go K 0 0 74 _ _ (mW X (sA (sY Y2 (upd (dY Y2) j (nI a))) (upd (dA Y2) j (nI d))) Z im S g h)
              refine g_aload_n (pc := 74) F dX4_begin_74 rfl ?_
              refine g_getf (pc := 75) F fl_X4_16 dX4_begin_75 rfl rfl ?_
              refine g_iload_n (pc := 78) F dX4_begin_78 rfl ?_
              refine h_callV (pc := 79) F (c_passDays _ _ (begR r j a d) _ m0 (Rel_at (Rel_way hY2)) (Iv_beg hI ha c_38) rfl (by omega)) mi_X0_passDays kv_X4_170 rfl rfl dX4_begin_79 [9, 10, 11, 12, 13, 14, 15, 16] sub_mind (by decide) (by decide) rfl rfl (Nat.le_of_ble_eq_true rfl) (by decide) (by decide) ?_
              rintro _ _ ⟨rfl, Y3, rfl, hY3⟩ -
              rw [place_mind]
              have eB : dB Y3 j = begV r j m0 a d := (hY3.2.2.2 j (by rw [many_beg hI ha c_38]; exact hj)).2.2.2.2
              refine g_aload_n (pc := 82) F dX4_begin_82 rfl ?_
              refine g_getf (pc := 83) F fl_X4_16 dX4_begin_83 rfl rfl ?_
              refine g_getf (pc := 86) F fl_X4_94 dX4_begin_86 rfl rfl ?_
              refine g_iload_n (pc := 89) F dX4_begin_89 rfl ?_
              refine g_iald2 (pc := 90) F dX4_begin_90 rfl rfl (by first | omega | (simp only [ix]; omega)) (by decide) ?_
              rw [eB]
              refine g_iload (pc := 91) F dX4_begin_91 rfl ?_
              refine g_ic_le (pc := 93) F dX4_begin_93 (tgt := 116) rfl (fun c_93 => ?_) (fun c_93 => ?_)
              · refine g_iincN (pc := 116) F dX4_begin_116 rfl (by decide) ?_
                refine g_goto (pc := 119) F dX4_begin_119 (tgt := 34) rfl ?_
                first
                  | exact (congrArg (fun z => Go K 0 0 34 [(0, .ref 0), (1, .int (nI j)), (2, .int (nI m0)), (3, .int (z).1), (4, .int (z).2), (5, .int (nI (a))), (6, .int (nI (d + 1)))] [] (mW X Y3 Z im S g h)) ((it_succ (begF r j m0) (10 * a + d) (nI 0, (-1))).trans (begF_no c_38 (Int32.not_lt.mpr c_93)))).mp (ih2 c_38 _)
                  | exact (congrArg (fun z => Go K 0 0 34 [(0, .ref 0), (1, .int (nI j)), (2, .int (nI m0)), (3, .int (z).1), (4, .int (z).2), (5, .int (nI (a))), (6, .int (nI (d + 1)))] [] (mW X Y3 Z im S g h)) ((it_succ (begF r j m0) (10 * a + d) (nI 0, (-1))).trans (begF_yes c_38 (Int32.not_le.mp c_93)))).mp (ih2 c_38 _)
                  | fail
              · refine g_aload_n (pc := 96) F dX4_begin_96 rfl ?_
                refine g_getf (pc := 97) F fl_X4_16 dX4_begin_97 rfl rfl ?_
                refine g_getf (pc := 100) F fl_X4_94 dX4_begin_100 rfl rfl ?_
                refine g_iload_n (pc := 103) F dX4_begin_103 rfl ?_
                refine g_iald2 (pc := 104) F dX4_begin_104 rfl rfl (by first | omega | (simp only [ix]; omega)) (by decide) ?_
                rw [eB]
                refine g_istore (pc := 105) F dX4_begin_105 (by decide) ?_
                refine g_bipush (pc := 107) F dX4_begin_107 (v := nI 10) rfl ?_
                refine g_iload (pc := 109) F dX4_begin_109 rfl ?_
                refine g_imulN (pc := 111) F dX4_begin_111 ?_
                refine g_iload (pc := 112) F dX4_begin_112 rfl ?_
                refine g_iaddN (pc := 114) F dX4_begin_114 ?_
                refine g_istore_n (pc := 115) F dX4_begin_115 (by decide) ?_
                refine g_iincN (pc := 116) F dX4_begin_116 rfl (by decide) ?_
                refine g_goto (pc := 119) F dX4_begin_119 (tgt := 34) rfl ?_
                first
                  | exact (congrArg (fun z => Go K 0 0 34 [(0, .ref 0), (1, .int (nI j)), (2, .int (nI m0)), (3, .int (z).1), (4, .int (z).2), (5, .int (nI (a))), (6, .int (nI (d + 1)))] [] (mW X Y3 Z im S g h)) ((it_succ (begF r j m0) (10 * a + d) (nI 0, (-1))).trans (begF_no c_38 (Int32.not_lt.mpr c_93)))).mp (ih2 c_38 _)
                  | exact (congrArg (fun z => Go K 0 0 34 [(0, .ref 0), (1, .int (nI j)), (2, .int (nI m0)), (3, .int (z).1), (4, .int (z).2), (5, .int (nI (a))), (6, .int (nI (d + 1)))] [] (mW X Y3 Z im S g h)) ((it_succ (begF r j m0) (10 * a + d) (nI 0, (-1))).trans (begF_yes c_38 (Int32.not_le.mp c_93)))).mp (ih2 c_38 _)
                  | fail)
          exact L2 0 (by omega) Ya)
      exact L 0 (by omega) Y
    · refine g_iconst (pc := 15) F dX4_begin_15 (v := (-1 : Int32)) (by decide) ?_
      exact g_iret (pc := 16) F X0 dX4_begin_16 (Nat.le_of_ble_eq_true rfl) (Nat.le_of_ble_eq_true rfl) rfl ⟨congrArg (fun z => some (Value.int z)) (by first | (unfold S_begin; first | exact (if_neg (fun z => c_5 z.1)).symm | exact (if_neg (fun z => c_12 z.2)).symm | (rw [if_pos ⟨c_5, c_12⟩, N_nI (by omega), N_nI (by omega)]; try rfl)) | fail), _, _, _, rfl⟩

set_option maxRecDepth 100000 in
set_option maxHeartbeats 800000 in
theorem m_begin (s m ig ws : Nat → Int32) (hg : Int32) (T : TX) (V : VX) (hI : Iv s) (c n : Int32) : Ctr yX5_begin cX5_begin 6 (some .int) 7 0 0 [.ref 0, .int c, .int n] (rW s m ig ws hg T V) (LookR (.int (S_begin s c n)) s ig ws hg T) := by
  refine Ctr.of rfl (Nat.le_of_ble_eq_true rfl) ⟨clS_of rfl, clH_of rfl⟩ (fun K F X0 => ?_)
  show Go K 0 0 0 [(0, .ref 0), (1, .int c), (2, .int n)] [] (rW s m ig ws hg T V)
  refine g_aload_n (pc := 0) F dX5_begin_0 rfl ?_
  refine g_iload_n (pc := 1) F dX5_begin_1 rfl ?_
  refine i_readV (pc := 2) F (m_isOne s m ig ws hg T V _ hI) mi_X5_isOne kv_X5_123 rfl rfl dX5_begin_2 (by decide) (by decide) rfl (Nat.le_of_ble_eq_true rfl) (by decide) (by decide) ?_
  refine g_ifeq_d (pc := 5) F dX5_begin_5 (tgt := 15) rfl (fun c_5 => ?_) (fun c_5 => ?_)
  · refine g_iconst (pc := 15) F dX5_begin_15 (v := (-1 : Int32)) (by decide) ?_
    exact g_iret (pc := 16) F X0 dX5_begin_16 (Nat.le_of_ble_eq_true rfl) (Nat.le_of_ble_eq_true rfl) rfl ⟨congrArg (fun z => some (Value.int z)) (by first | (unfold S_begin; first | exact (if_neg (fun z => c_5 z.1)).symm | exact (if_neg (fun z => c_12 z.2)).symm | (rw [if_pos ⟨c_5, c_12⟩, N_nI (by omega), N_nI (by omega)]; try rfl)) | fail), _, _, rfl⟩
  · refine g_iload_n (pc := 8) F dX5_begin_8 rfl ?_
    refine h_readS (pc := 9) F (c_mLate _) mi_X5_isLate ks_X5_155 dX5_begin_9 [] rfl (by decide) (by decide) rfl rfl (Nat.le_of_ble_eq_true rfl) trivial (by decide) (by decide) ?_
    refine g_ifne_d (pc := 12) F dX5_begin_12 (tgt := 17) rfl (fun c_12 => ?_) (fun c_12 => ?_)
    · have hm6 := hI.1.2
      obtain ⟨j, hj, rfl⟩ := one_ex hI c_5
      obtain ⟨m0, hm0, rfl⟩ := late_ex c_12
      refine g_iconst (pc := 17) F dX5_begin_17 (v := nI 0) rfl ?_
      refine g_istore_n (pc := 18) F dX5_begin_18 (by decide) ?_
      refine g_iconst (pc := 19) F dX5_begin_19 (v := (-1 : Int32)) (by decide) ?_
      refine g_istore (pc := 20) F dX5_begin_20 (by decide) ?_
      refine g_iconst (pc := 22) F dX5_begin_22 (v := nI 0) rfl ?_
      refine g_istore (pc := 23) F dX5_begin_23 (by decide) ?_
      have L : ∀ i, i ≤ 20 → ∀ ma, Go K 0 0 25 [(0, .ref 0), (1, .int (nI j)), (2, .int (nI m0)), (3, .int (it (begF s j m0) (i) (nI 0, (-1))).1), (4, .int (it (begF s j m0) (i) (nI 0, (-1))).2), (5, .int (nI (i)))] [] (rW s ma ig ws hg T V) := loop_up (P := fun i => ∀ ma, Go K 0 0 25 [(0, .ref 0), (1, .int (nI j)), (2, .int (nI m0)), (3, .int (it (begF s j m0) (i) (nI 0, (-1))).1), (4, .int (it (begF s j m0) (i) (nI 0, (-1))).2), (5, .int (nI (i)))] [] (rW s ma ig ws hg T V)) (fun i hi ih => by
        intro ma
        refine g_iload (pc := 25) F dX5_begin_25 rfl ?_
        refine g_bipush (pc := 27) F dX5_begin_27 (v := nI 20) rfl ?_
        refine g_icN_ge (pc := 29) F dX5_begin_29 (tgt := 120) rfl rfl rfl (by omega) (by omega) (fun c_29 => ?_) (fun c_29 => ?_)
        · obtain rfl : i = 20 := by omega
          refine g_iload_n (pc := 120) F dX5_begin_120 rfl ?_
          exact g_iret (pc := 121) F X0 dX5_begin_121 (Nat.le_of_ble_eq_true rfl) (Nat.le_of_ble_eq_true rfl) rfl ⟨congrArg (fun z => some (Value.int z)) (by first | (unfold S_begin; first | exact (if_neg (fun z => c_5 z.1)).symm | exact (if_neg (fun z => c_12 z.2)).symm | (rw [if_pos ⟨c_5, c_12⟩, N_nI (by omega), N_nI (by omega)]; try rfl)) | fail), _, _, rfl⟩
        · refine g_aload_n (pc := 32) F dX5_begin_32 rfl ?_
          refine g_getf (pc := 33) F fl_X5_9 dX5_begin_33 rfl rfl ?_
          refine g_aload_n (pc := 36) F dX5_begin_36 rfl ?_
          refine g_getf (pc := 37) F fl_X5_13 dX5_begin_37 rfl rfl ?_
          refine h_callS (pc := 40) F (c_copyAll s ma) mi_X5_copies ks_X5_140 dX5_begin_40 [1, 2] rfl (by decide) (by decide) rfl rfl (Nat.le_of_ble_eq_true rfl) (by decide) (by decide) ?_
          rintro _ _ ⟨rfl, rfl⟩ -
          refine g_aload_n (pc := 43) F dX5_begin_43 rfl ?_
          refine g_getf (pc := 44) F fl_X5_13 dX5_begin_44 rfl rfl ?_
          refine g_iload_n (pc := 47) F dX5_begin_47 rfl ?_
          refine g_iconst (pc := 48) F dX5_begin_48 (v := nI 3) rfl ?_
          refine h_readS (pc := 49) F (c_of _ _) mi_X5_of ks_X5_47 dX5_begin_49 [] rfl (by decide) (by decide) rfl rfl (Nat.le_of_ble_eq_true rfl) trivial (by decide) (by decide) ?_
          refine g_iload (pc := 52) F dX5_begin_52 rfl ?_
          refine g_bipush (pc := 54) F dX5_begin_54 (v := nI 10) rfl ?_
          refine g_idivN (pc := 56) F dX5_begin_56 (by omega) (by omega) (by omega) ?_
          refine g_iast2 (pc := 57) F dX5_begin_57 rfl rfl (by first | omega | (simp only [ix]; omega)) (by decide) ?_
          refine g_aload_n (pc := 58) F dX5_begin_58 rfl ?_
          refine g_getf (pc := 59) F fl_X5_13 dX5_begin_59 rfl rfl ?_
          refine g_iload_n (pc := 62) F dX5_begin_62 rfl ?_
          refine g_iconst (pc := 63) F dX5_begin_63 (v := nI 2) rfl ?_
          refine h_readS (pc := 64) F (c_of _ _) mi_X5_of ks_X5_47 dX5_begin_64 [] rfl (by decide) (by decide) rfl rfl (Nat.le_of_ble_eq_true rfl) trivial (by decide) (by decide) ?_
          refine g_iload (pc := 67) F dX5_begin_67 rfl ?_
          refine g_bipush (pc := 69) F dX5_begin_69 (v := nI 10) rfl ?_
          refine g_iremN (pc := 71) F dX5_begin_71 (by omega) (by omega) (by omega) ?_
          refine g_iast2 (pc := 72) F dX5_begin_72 rfl rfl (by first | omega | (simp only [ix]; omega)) (by decide) ?_
          refine g_aload_n (pc := 73) F dX5_begin_73 rfl ?_
          refine g_getf (pc := 74) F fl_X5_13 dX5_begin_74 rfl rfl ?_
          refine g_iload_n (pc := 77) F dX5_begin_77 rfl ?_
          refine h_callS (pc := 78) F (c_daysOn (begR s j (i / 10) (i % 10)) _ m0 (Iv_beg hI (show i / 10 < 2 by omega) (show i % 10 < 10 by omega)) rfl (by omega)) mi_X5_daysOn ks_X5_130 dX5_begin_78 [2] rfl (by decide) (by decide) rfl rfl (Nat.le_of_ble_eq_true rfl) (by decide) (by decide) ?_
          rintro _ _ ⟨rfl, rfl⟩ -
          refine g_aload_n (pc := 81) F dX5_begin_81 rfl ?_
          refine g_getf (pc := 82) F fl_X5_13 dX5_begin_82 rfl rfl ?_
          refine g_iload_n (pc := 85) F dX5_begin_85 rfl ?_
          refine g_iconst (pc := 86) F dX5_begin_86 (v := nI 4) rfl ?_
          refine h_readS (pc := 87) F (c_of _ _) mi_X5_of ks_X5_47 dX5_begin_87 [] rfl (by decide) (by decide) rfl rfl (Nat.le_of_ble_eq_true rfl) trivial (by decide) (by decide) ?_
          refine g_iald2 (pc := 90) F dX5_begin_90 rfl rfl (by first | omega | (simp only [ix]; omega)) (by decide) ?_
          refine g_iload (pc := 91) F dX5_begin_91 rfl ?_
          refine g_ic_gt (pc := 93) F dX5_begin_93 (tgt := 99) rfl (fun c_93 => ?_) (fun c_93 => ?_)
          · refine g_iload (pc := 99) F dX5_begin_99 rfl ?_
            refine g_istore_n (pc := 101) F dX5_begin_101 (by decide) ?_
            refine g_aload_n (pc := 102) F dX5_begin_102 rfl ?_
            refine g_getf (pc := 103) F fl_X5_13 dX5_begin_103 rfl rfl ?_
            refine g_iload_n (pc := 106) F dX5_begin_106 rfl ?_
            refine g_iconst (pc := 107) F dX5_begin_107 (v := nI 4) rfl ?_
            refine h_readS (pc := 108) F (c_of _ _) mi_X5_of ks_X5_47 dX5_begin_108 [] rfl (by decide) (by decide) rfl rfl (Nat.le_of_ble_eq_true rfl) trivial (by decide) (by decide) ?_
            refine g_iald2 (pc := 111) F dX5_begin_111 rfl rfl (by first | omega | (simp only [ix]; omega)) (by decide) ?_
            refine g_istore (pc := 112) F dX5_begin_112 (by decide) ?_
            refine g_iincN (pc := 114) F dX5_begin_114 rfl (by decide) ?_
            refine g_goto (pc := 117) F dX5_begin_117 (tgt := 25) rfl ?_
            first
              | exact (congrArg (fun z => Go K 0 0 25 [(0, .ref 0), (1, .int (nI j)), (2, .int (nI m0)), (3, .int (z).1), (4, .int (z).2), (5, .int (nI (i + 1)))] [] (rW s (daysR (begR s j (i / 10) (i % 10)) m0) ig ws hg T V)) ((it_succ (begF s j m0) i (nI 0, (-1))).trans (if_neg c_93))).mp (ih c_29 _)
              | exact (congrArg (fun z => Go K 0 0 25 [(0, .ref 0), (1, .int (nI j)), (2, .int (nI m0)), (3, .int (z).1), (4, .int (z).2), (5, .int (nI (i + 1)))] [] (rW s (daysR (begR s j (i / 10) (i % 10)) m0) ig ws hg T V)) ((it_succ (begF s j m0) i (nI 0, (-1))).trans (if_pos c_93))).mp (ih c_29 _)
              | fail
          · refine g_goto (pc := 96) F dX5_begin_96 (tgt := 114) rfl ?_
            refine g_iincN (pc := 114) F dX5_begin_114 rfl (by decide) ?_
            refine g_goto (pc := 117) F dX5_begin_117 (tgt := 25) rfl ?_
            first
              | exact (congrArg (fun z => Go K 0 0 25 [(0, .ref 0), (1, .int (nI j)), (2, .int (nI m0)), (3, .int (z).1), (4, .int (z).2), (5, .int (nI (i + 1)))] [] (rW s (daysR (begR s j (i / 10) (i % 10)) m0) ig ws hg T V)) ((it_succ (begF s j m0) i (nI 0, (-1))).trans (if_neg c_93))).mp (ih c_29 _)
              | exact (congrArg (fun z => Go K 0 0 25 [(0, .ref 0), (1, .int (nI j)), (2, .int (nI m0)), (3, .int (z).1), (4, .int (z).2), (5, .int (nI (i + 1)))] [] (rW s (daysR (begR s j (i / 10) (i % 10)) m0) ig ws hg T V)) ((it_succ (begF s j m0) i (nI 0, (-1))).trans (if_pos c_93))).mp (ih c_29 _)
              | fail)
      exact L 0 (by omega) m
    · refine g_iconst (pc := 15) F dX5_begin_15 (v := (-1 : Int32)) (by decide) ?_
      exact g_iret (pc := 16) F X0 dX5_begin_16 (Nat.le_of_ble_eq_true rfl) (Nat.le_of_ble_eq_true rfl) rfl ⟨congrArg (fun z => some (Value.int z)) (by first | (unfold S_begin; first | exact (if_neg (fun z => c_5 z.1)).symm | exact (if_neg (fun z => c_12 z.2)).symm | (rw [if_pos ⟨c_5, c_12⟩, N_nI (by omega), N_nI (by omega)]; try rfl)) | fail), _, _, rfl⟩

