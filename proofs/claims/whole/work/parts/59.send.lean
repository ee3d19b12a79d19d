/-! bitCount, send -/
def usI (s y : Int32) : Int32 := (s.toUInt32 >>> (y.toUInt32 &&& Int32.toUInt32 31)).toInt32
def bc1 (s : Int32) : Int32 := s - (usI s (nI 1) &&& 1431655765)
def bc2 (s : Int32) : Int32 := (s &&& 858993459) + (usI s (nI 2) &&& 858993459)
def bc3 (s : Int32) : Int32 := (s + usI s (nI 4)) &&& 252645135
def bc4 (s : Int32) : Int32 := s + usI s (nI 8)
def bc5 (s : Int32) : Int32 := s + usI s (nI 16)
def bcI (s : Int32) : Int32 := bc5 (bc4 (bc3 (bc2 (bc1 s)))) &&& nI 63
theorem bc_bits : ∀ j, j < 1024 → bcI (nI j) = bitsR (nI j) := by decide +kernel
theorem done_step : ∀ i, i < 10 → ∀ j, j < 2 ^ i → nI j ||| (nI 1 <<< (nI i &&& 31)) = nI (j + 2 ^ i) := by decide +kernel
theorem done_none : ∀ j, j < 1024 → nI j ||| nI 0 = nI j := by decide +kernel
theorem doneR_bd (r : Nat → Int32) : ∀ i, i ≤ 10 → ∃ j, j < 2 ^ i ∧ it (fun d s => s ||| (if lf r d = 0 then nI 1 <<< (nI d &&& 31) else nI 0)) i (nI 0) = nI j
  | 0, _ => ⟨0, by decide, rfl⟩
  | i + 1, h => by
    obtain ⟨j, hj, e⟩ := doneR_bd r i (by omega)
    have h2 : 2 ^ i ≤ 2 ^ 10 := Nat.pow_le_pow_right (by decide) (by omega)
    have h3 : 2 ^ (i + 1) = 2 ^ i * 2 := rfl
    rw [it_succ, e]
    by_cases hc : lf r i = 0
    · exact ⟨j + 2 ^ i, by omega, (congrArg (fun z => nI j ||| z) (if_pos hc)).trans (done_step i (by omega) j hj)⟩
    · exact ⟨j, by omega, (congrArg (fun z => nI j ||| z) (if_neg hc)).trans (done_none j (by omega))⟩
theorem bc_done (r : Nat → Int32) : bcI (doneR r) = bitsR (doneR r) := by
  obtain ⟨j, hj, e⟩ := doneR_bd r 10 (by omega)
  have e2 : doneR r = nI j := e
  rw [e2]
  exact bc_bits j (by omega)
set_option maxRecDepth 100000 in
set_option maxHeartbeats 800000 in
theorem c_bitCount (s : Int32) : RCtr yJ6_bitCount_0f7a4 cJ6_bitCount_0f7a4 1 (some .int) 0 [.int s] ([]) (.int (bcI s)) := by
  refine Ctr.of rfl (Nat.le_of_ble_eq_true rfl) ⟨clS_of rfl, clH_of rfl⟩ (fun K F X0 => ?_)
  show Go K 0 0 0 [(0, .int s)] [] ([])
  refine g_iload_n (pc := 0) F dJ6_bitCount_0f7a4_0 rfl ?_
  refine g_iload_n (pc := 1) F dJ6_bitCount_0f7a4_1 rfl ?_
  refine g_iconst (pc := 2) F dJ6_bitCount_0f7a4_2 (v := nI 1) rfl ?_
  refine g_iushr (pc := 3) F dJ6_bitCount_0f7a4_3 ?_
  refine g_ldcw (pc := 4) F dJ6_bitCount_0f7a4_4 kc_J6_265 ?_
  refine g_iand (pc := 7) F dJ6_bitCount_0f7a4_7 ?_
  refine g_isub (pc := 8) F dJ6_bitCount_0f7a4_8 ?_
  refine g_istore_n (pc := 9) F dJ6_bitCount_0f7a4_9 (by decide) ?_
  refine g_iload_n (pc := 10) F dJ6_bitCount_0f7a4_10 rfl ?_
  refine g_ldcw (pc := 11) F dJ6_bitCount_0f7a4_11 kc_J6_266 ?_
  refine g_iand (pc := 14) F dJ6_bitCount_0f7a4_14 ?_
  refine g_iload_n (pc := 15) F dJ6_bitCount_0f7a4_15 rfl ?_
  refine g_iconst (pc := 16) F dJ6_bitCount_0f7a4_16 (v := nI 2) rfl ?_
  refine g_iushr (pc := 17) F dJ6_bitCount_0f7a4_17 ?_
  refine g_ldcw (pc := 18) F dJ6_bitCount_0f7a4_18 kc_J6_266 ?_
  refine g_iand (pc := 21) F dJ6_bitCount_0f7a4_21 ?_
  refine g_iadd (pc := 22) F dJ6_bitCount_0f7a4_22 ?_
  refine g_istore_n (pc := 23) F dJ6_bitCount_0f7a4_23 (by decide) ?_
  refine g_iload_n (pc := 24) F dJ6_bitCount_0f7a4_24 rfl ?_
  refine g_iload_n (pc := 25) F dJ6_bitCount_0f7a4_25 rfl ?_
  refine g_iconst (pc := 26) F dJ6_bitCount_0f7a4_26 (v := nI 4) rfl ?_
  refine g_iushr (pc := 27) F dJ6_bitCount_0f7a4_27 ?_
  refine g_iadd (pc := 28) F dJ6_bitCount_0f7a4_28 ?_
  refine g_ldcw (pc := 29) F dJ6_bitCount_0f7a4_29 kc_J6_267 ?_
  refine g_iand (pc := 32) F dJ6_bitCount_0f7a4_32 ?_
  refine g_istore_n (pc := 33) F dJ6_bitCount_0f7a4_33 (by decide) ?_
  refine g_iload_n (pc := 34) F dJ6_bitCount_0f7a4_34 rfl ?_
  refine g_iload_n (pc := 35) F dJ6_bitCount_0f7a4_35 rfl ?_
  refine g_bipush (pc := 36) F dJ6_bitCount_0f7a4_36 (v := nI 8) rfl ?_
  refine g_iushr (pc := 38) F dJ6_bitCount_0f7a4_38 ?_
  refine g_iadd (pc := 39) F dJ6_bitCount_0f7a4_39 ?_
  refine g_istore_n (pc := 40) F dJ6_bitCount_0f7a4_40 (by decide) ?_
  refine g_iload_n (pc := 41) F dJ6_bitCount_0f7a4_41 rfl ?_
  refine g_iload_n (pc := 42) F dJ6_bitCount_0f7a4_42 rfl ?_
  refine g_bipush (pc := 43) F dJ6_bitCount_0f7a4_43 (v := nI 16) rfl ?_
  refine g_iushr (pc := 45) F dJ6_bitCount_0f7a4_45 ?_
  refine g_iadd (pc := 46) F dJ6_bitCount_0f7a4_46 ?_
  refine g_istore_n (pc := 47) F dJ6_bitCount_0f7a4_47 (by decide) ?_
  refine g_iload_n (pc := 48) F dJ6_bitCount_0f7a4_48 rfl ?_
  refine g_bipush (pc := 49) F dJ6_bitCount_0f7a4_49 (v := nI 63) rfl ?_
  refine g_iand (pc := 51) F dJ6_bitCount_0f7a4_51 ?_
  exact g_iret (pc := 52) F X0 dJ6_bitCount_0f7a4_52 (Nat.le_of_ble_eq_true rfl) (Nat.le_of_ble_eq_true rfl) rfl ⟨rfl, rfl⟩

def sendV (r : Nat → Int32) (c n d : Nat) : Int32 := bitsR (doneR (daysR (upd r (ix c 2) (nI d)) n))
def sendF (r : Nat → Int32) (c n : Nat) (i : Nat) (z : Int32 × Int32) : Int32 × Int32 := if z.2 < sendV r c n i then (nI i, sendV r c n i) else z
def S_send (r : Nat → Int32) (c n wh : Int32) : Int32 := if oneP r c ∧ lateP n ∧ b01 wh then (if wh = 0 then (it (sendF r (N c) (N n)) 10 (nI 0, -1)).1 else (it (sendF r (N c) (N n)) 10 (nI 0, -1)).2) else (-1)
set_option maxRecDepth 100000 in
set_option maxHeartbeats 800000 in
theorem c_send (b : Int32) (X Y Z : DX) (im : Int32) (S : Nat → SX) (g h : Nat → Int32) (r : Nat → Int32) (hR : Rel b X r) (hI : Iv r) (h4 : r 4 = nI 0) (c n wh : Int32) : Ctr yX4_send cX4_send 8 (some .int) 7 0 0 [.ref 0, .int c, .int n, .int wh] (mW X Y Z im S g h) (Look (.int (S_send r c n wh)) X Z im S) := by
  refine Ctr.of rfl (Nat.le_of_ble_eq_true rfl) ⟨clS_of rfl, mW_cl _ _ _ _ _ _ _⟩ (fun K F X0 => ?_)
  show Go K 0 0 0 [(0, .ref 0), (1, .int c), (2, .int n), (3, .int wh)] [] (mW X Y Z im S g h)
  refine g_aload_n (pc := 0) F dX4_send_0 rfl ?_
  refine g_iload_n (pc := 1) F dX4_send_1 rfl ?_
  refine i_readV (pc := 2) F (c_isCorporal b X Y Z im S g h r _ hR hI) mi_X4_isCorporal kv_X4_78 rfl rfl dX4_send_2 (by decide) (by decide) rfl (Nat.le_of_ble_eq_true rfl) (by decide) (by decide) ?_
  refine g_ifeq_d (pc := 5) F dX4_send_5 (tgt := 24) rfl (fun c_5 => ?_) (fun c_5 => ?_)
  · refine g_iconst (pc := 24) F dX4_send_24 (v := (-1 : Int32)) (by decide) ?_
    exact g_iret (pc := 25) F X0 dX4_send_25 (Nat.le_of_ble_eq_true rfl) (Nat.le_of_ble_eq_true rfl) rfl ⟨congrArg (fun z => some (Value.int z)) (by first | (unfold S_send; first | exact (if_neg (fun z => c_5 z.1)).symm | exact (if_neg (fun z => c_12 z.2.1)).symm | exact (if_neg (fun z => c_21 z.2.2)).symm | (rw [if_pos ⟨c_5, c_12, c_21⟩, N_nI (by omega), N_nI (by omega)]; first | (rw [if_pos c_106]; try rfl) | (rw [if_neg c_106]; try rfl))) | fail), _, _, _, rfl⟩
  · refine g_iload_n (pc := 8) F dX4_send_8 rfl ?_
    refine h_readS (pc := 9) F (c_isDaysOn _) mi_X4_isDaysOn ks_X4_173 dX4_send_9 [] rfl (by decide) (by decide) rfl rfl (Nat.le_of_ble_eq_true rfl) trivial (by decide) (by decide) ?_
    refine g_ifeq_d (pc := 12) F dX4_send_12 (tgt := 24) rfl (fun c_12 => ?_) (fun c_12 => ?_)
    · refine g_iconst (pc := 24) F dX4_send_24 (v := (-1 : Int32)) (by decide) ?_
      exact g_iret (pc := 25) F X0 dX4_send_25 (Nat.le_of_ble_eq_true rfl) (Nat.le_of_ble_eq_true rfl) rfl ⟨congrArg (fun z => some (Value.int z)) (by first | (unfold S_send; first | exact (if_neg (fun z => c_5 z.1)).symm | exact (if_neg (fun z => c_12 z.2.1)).symm | exact (if_neg (fun z => c_21 z.2.2)).symm | (rw [if_pos ⟨c_5, c_12, c_21⟩, N_nI (by omega), N_nI (by omega)]; first | (rw [if_pos c_106]; try rfl) | (rw [if_neg c_106]; try rfl))) | fail), _, _, _, rfl⟩
    · refine g_iload_n (pc := 15) F dX4_send_15 rfl ?_
      refine g_iconst (pc := 16) F dX4_send_16 (v := nI 0) rfl ?_
      refine g_iconst (pc := 17) F dX4_send_17 (v := nI 1) rfl ?_
      refine h_readS (pc := 18) F (c_isWithin _ _ _) mi_X4_isWithin ks_X4_129 dX4_send_18 [] rfl (by decide) (by decide) rfl rfl (Nat.le_of_ble_eq_true rfl) trivial (by decide) (by decide) ?_
      refine g_ifne_d (pc := 21) F dX4_send_21 (tgt := 26) rfl (fun c_21 => ?_) (fun c_21 => ?_)
      · have hm6 := hI.1.2
        obtain ⟨j, hj, rfl⟩ := one_ex hI c_5
        obtain ⟨m0, hm0, rfl⟩ := late_ex c_12
        refine g_iconst (pc := 26) F dX4_send_26 (v := nI 0) rfl ?_
        refine g_istore (pc := 27) F dX4_send_27 (by decide) ?_
        refine g_iconst (pc := 29) F dX4_send_29 (v := (-1 : Int32)) (by decide) ?_
        refine g_istore (pc := 30) F dX4_send_30 (by decide) ?_
        refine g_iconst (pc := 32) F dX4_send_32 (v := nI 0) rfl ?_
        refine g_istore (pc := 33) F dX4_send_33 (by decide) ?_
        have L : ∀ i, i ≤ 10 → ∀ Ya, Go K 0 0 35 [(0, .ref 0), (1, .int (nI j)), (2, .int (nI m0)), (3, .int wh), (4, .int (it (sendF r j m0) i (nI 0, (-1))).1), (5, .int (it (sendF r j m0) i (nI 0, (-1))).2), (6, .int (nI (i)))] [] (mW X Ya Z im S g h) := loop_up (P := fun i => ∀ Ya, Go K 0 0 35 [(0, .ref 0), (1, .int (nI j)), (2, .int (nI m0)), (3, .int wh), (4, .int (it (sendF r j m0) i (nI 0, (-1))).1), (5, .int (it (sendF r j m0) i (nI 0, (-1))).2), (6, .int (nI (i)))] [] (mW X Ya Z im S g h)) (fun i hi ih => by
          intro Ya
          refine g_iload (pc := 35) F dX4_send_35 rfl ?_
          refine g_bipush (pc := 37) F dX4_send_37 (v := nI 10) rfl ?_
          refine g_icN_ge (pc := 39) F dX4_send_39 (tgt := 105) rfl rfl rfl (by omega) (by omega) (fun c_39 => ?_) (fun c_39 => ?_)
          · obtain rfl : i = 10 := by omega
            refine g_iload_n (pc := 105) F dX4_send_105 rfl ?_
            refine g_if_ne (pc := 106) F dX4_send_106 (tgt := 114) rfl (fun c_106 => ?_) (fun c_106 => ?_)
            · refine g_iload (pc := 114) F dX4_send_114 rfl ?_
              exact g_iret (pc := 116) F X0 dX4_send_116 (Nat.le_of_ble_eq_true rfl) (Nat.le_of_ble_eq_true rfl) rfl ⟨congrArg (fun z => some (Value.int z)) (by first | (unfold S_send; first | exact (if_neg (fun z => c_5 z.1)).symm | exact (if_neg (fun z => c_12 z.2.1)).symm | exact (if_neg (fun z => c_21 z.2.2)).symm | (rw [if_pos ⟨c_5, c_12, c_21⟩, N_nI (by omega), N_nI (by omega)]; first | (rw [if_pos c_106]; try rfl) | (rw [if_neg c_106]; try rfl))) | fail), _, _, _, rfl⟩
            · refine g_iload (pc := 109) F dX4_send_109 rfl ?_
              refine g_goto (pc := 111) F dX4_send_111 (tgt := 116) rfl ?_
              exact g_iret (pc := 116) F X0 dX4_send_116 (Nat.le_of_ble_eq_true rfl) (Nat.le_of_ble_eq_true rfl) rfl ⟨congrArg (fun z => some (Value.int z)) (by first | (unfold S_send; first | exact (if_neg (fun z => c_5 z.1)).symm | exact (if_neg (fun z => c_12 z.2.1)).symm | exact (if_neg (fun z => c_21 z.2.2)).symm | (rw [if_pos ⟨c_5, c_12, c_21⟩, N_nI (by omega), N_nI (by omega)]; first | (rw [if_pos c_106]; try rfl) | (rw [if_neg c_106]; try rfl))) | fail), _, _, _, rfl⟩
          · refine g_aload_n (pc := 42) F dX4_send_42 rfl ?_
            refine g_getf (pc := 43) F fl_X4_16 dX4_send_43 rfl rfl ?_
            refine g_aload_n (pc := 46) F dX4_send_46 rfl ?_
            refine g_getf (pc := 47) F fl_X4_12 dX4_send_47 rfl rfl ?_
            refine h_callV (pc := 50) F (c_becomes b Ya X r hR hI h4) mi_X0_becomes kv_X4_57 rfl rfl dX4_send_50 [9, 10, 11, 12, 13, 14, 15, 16, 1, 2, 3, 4, 5, 6, 7, 8] sub_mn (by decide) (by decide) rfl rfl (Nat.le_of_ble_eq_true rfl) (by decide) (by decide) ?_
            rintro _ _ ⟨rfl, Y2, rfl, hY2⟩ -
            rw [place_mn]
            refine g_aload_n (pc := 53) F dX4_send_53 rfl ?_
            refine g_getf (pc := 54) F fl_X4_16 dX4_send_54 rfl rfl ?_
            refine g_getf (pc := 57) F fl_X4_88 dX4_send_57 rfl rfl ?_
            refine g_iload_n (pc := 60) F dX4_send_60 rfl ?_
            refine g_iload (pc := 61) F dX4_send_61 rfl ?_
            refine g_iast2 (pc := 63) F dX4_send_63 rfl rfl (by first | omega | (simp only [ix]; omega)) (by decide) ?_
            show Go K 0 0 64 _ _ (mW X (sA Y2 (upd (dA Y2) j (nI i))) Z im S g h)
            refine g_aload_n (pc := 64) F dX4_send_64 rfl ?_
            refine g_getf (pc := 65) F fl_X4_16 dX4_send_65 rfl rfl ?_
            refine g_iload_n (pc := 68) F dX4_send_68 rfl ?_
            refine h_callV (pc := 69) F (c_passDays _ _ (upd r (ix j 2) (nI i)) _ m0 (Rel_at hY2) (Iv_at hI c_39) rfl (by omega)) mi_X0_passDays kv_X4_170 rfl rfl dX4_send_69 [9, 10, 11, 12, 13, 14, 15, 16] sub_mind (by decide) (by decide) rfl rfl (Nat.le_of_ble_eq_true rfl) (by decide) (by decide) ?_
            rintro _ _ ⟨rfl, Y3, rfl, hY3⟩ -
            rw [place_mind]
            refine g_aload_n (pc := 72) F dX4_send_72 rfl ?_
            refine g_getf (pc := 73) F fl_X4_16 dX4_send_73 rfl rfl ?_
            refine h_readV (pc := 76) F (c_doneDips _ Y3 _ hY3) mi_X0_doneDips kv_X4_179 rfl rfl dX4_send_76 [9, 10, 11, 12, 13, 14, 15, 16] sub_mind (by decide) (by decide) rfl rfl (Nat.le_of_ble_eq_true rfl) trivial (by decide) (by decide) ?_
            refine h_readS (pc := 79) F (c_bitCount _) mi_J6_bitCount_0f7a4 ks_X4_191 dX4_send_79 [] rfl (by decide) (by decide) rfl rfl (Nat.le_of_ble_eq_true rfl) trivial (by decide) (by decide) ?_
            rw [bc_done]
            refine g_istore (pc := 82) F dX4_send_82 (by decide) ?_
            refine g_iload (pc := 84) F dX4_send_84 rfl ?_
            refine g_iload (pc := 86) F dX4_send_86 rfl ?_
            refine g_ic_le (pc := 88) F dX4_send_88 (tgt := 99) rfl (fun c_88 => ?_) (fun c_88 => ?_)
            · refine g_iincN (pc := 99) F dX4_send_99 rfl (by decide) ?_
              refine g_goto (pc := 102) F dX4_send_102 (tgt := 35) rfl ?_
              refine g_less [0, 1, 2, 3, 4, 5, 6] rfl ?_
              first
                | exact (congrArg (fun z => Go K 0 0 35 [(0, .ref 0), (1, .int (nI j)), (2, .int (nI m0)), (3, .int wh), (4, .int (z).1), (5, .int (z).2), (6, .int (nI (i + 1)))] [] (mW X Y3 Z im S g h)) ((it_succ (sendF r j m0) i (nI 0, (-1))).trans (if_neg (Int32.not_lt.mpr c_88)))).mp (ih c_39 _)
                | exact (congrArg (fun z => Go K 0 0 35 [(0, .ref 0), (1, .int (nI j)), (2, .int (nI m0)), (3, .int wh), (4, .int (z).1), (5, .int (z).2), (6, .int (nI (i + 1)))] [] (mW X Y3 Z im S g h)) ((it_succ (sendF r j m0) i (nI 0, (-1))).trans (if_pos (Int32.not_le.mp c_88)))).mp (ih c_39 _)
                | fail
            · refine g_iload (pc := 91) F dX4_send_91 rfl ?_
              refine g_istore (pc := 93) F dX4_send_93 (by decide) ?_
              refine g_iload (pc := 95) F dX4_send_95 rfl ?_
              refine g_istore (pc := 97) F dX4_send_97 (by decide) ?_
              refine g_iincN (pc := 99) F dX4_send_99 rfl (by decide) ?_
              refine g_goto (pc := 102) F dX4_send_102 (tgt := 35) rfl ?_
              refine g_less [0, 1, 2, 3, 4, 5, 6] rfl ?_
              first
                | exact (congrArg (fun z => Go K 0 0 35 [(0, .ref 0), (1, .int (nI j)), (2, .int (nI m0)), (3, .int wh), (4, .int (z).1), (5, .int (z).2), (6, .int (nI (i + 1)))] [] (mW X Y3 Z im S g h)) ((it_succ (sendF r j m0) i (nI 0, (-1))).trans (if_neg (Int32.not_lt.mpr c_88)))).mp (ih c_39 _)
                | exact (congrArg (fun z => Go K 0 0 35 [(0, .ref 0), (1, .int (nI j)), (2, .int (nI m0)), (3, .int wh), (4, .int (z).1), (5, .int (z).2), (6, .int (nI (i + 1)))] [] (mW X Y3 Z im S g h)) ((it_succ (sendF r j m0) i (nI 0, (-1))).trans (if_pos (Int32.not_le.mp c_88)))).mp (ih c_39 _)
                | fail)
        exact L 0 (by omega) Y
      · refine g_iconst (pc := 24) F dX4_send_24 (v := (-1 : Int32)) (by decide) ?_
        exact g_iret (pc := 25) F X0 dX4_send_25 (Nat.le_of_ble_eq_true rfl) (Nat.le_of_ble_eq_true rfl) rfl ⟨congrArg (fun z => some (Value.int z)) (by first | (unfold S_send; first | exact (if_neg (fun z => c_5 z.1)).symm | exact (if_neg (fun z => c_12 z.2.1)).symm | exact (if_neg (fun z => c_21 z.2.2)).symm | (rw [if_pos ⟨c_5, c_12, c_21⟩, N_nI (by omega), N_nI (by omega)]; first | (rw [if_pos c_106]; try rfl) | (rw [if_neg c_106]; try rfl))) | fail), _, _, _, rfl⟩

set_option maxRecDepth 100000 in
set_option maxHeartbeats 800000 in
theorem m_send (s m ig ws : Nat → Int32) (hg : Int32) (T : TX) (V : VX) (hI : Iv s) (c n wh : Int32) : Ctr yX5_send cX5_send 7 (some .int) 7 0 0 [.ref 0, .int c, .int n, .int wh] (rW s m ig ws hg T V) (LookR (.int (S_send s c n wh)) s ig ws hg T) := by
  refine Ctr.of rfl (Nat.le_of_ble_eq_true rfl) ⟨clS_of rfl, clH_of rfl⟩ (fun K F X0 => ?_)
  show Go K 0 0 0 [(0, .ref 0), (1, .int c), (2, .int n), (3, .int wh)] [] (rW s m ig ws hg T V)
  refine g_aload_n (pc := 0) F dX5_send_0 rfl ?_
  refine g_iload_n (pc := 1) F dX5_send_1 rfl ?_
  refine i_readV (pc := 2) F (m_isOne s m ig ws hg T V _ hI) mi_X5_isOne kv_X5_123 rfl rfl dX5_send_2 (by decide) (by decide) rfl (Nat.le_of_ble_eq_true rfl) (by decide) (by decide) ?_
  refine g_ifeq_d (pc := 5) F dX5_send_5 (tgt := 24) rfl (fun c_5 => ?_) (fun c_5 => ?_)
  · refine g_iconst (pc := 24) F dX5_send_24 (v := (-1 : Int32)) (by decide) ?_
    exact g_iret (pc := 25) F X0 dX5_send_25 (Nat.le_of_ble_eq_true rfl) (Nat.le_of_ble_eq_true rfl) rfl ⟨congrArg (fun z => some (Value.int z)) (by first | (unfold S_send; first | exact (if_neg (fun z => c_5 z.1)).symm | exact (if_neg (fun z => c_12 z.2.1)).symm | exact (if_neg (fun z => c_21 z.2.2)).symm | (rw [if_pos ⟨c_5, c_12, c_21⟩, N_nI (by omega), N_nI (by omega)]; first | (rw [if_pos c_114]; try rfl) | (rw [if_neg c_114]; try rfl))) | fail), _, _, rfl⟩
  · refine g_iload_n (pc := 8) F dX5_send_8 rfl ?_
    refine h_readS (pc := 9) F (c_mLate _) mi_X5_isLate ks_X5_155 dX5_send_9 [] rfl (by decide) (by decide) rfl rfl (Nat.le_of_ble_eq_true rfl) trivial (by decide) (by decide) ?_
    refine g_ifeq_d (pc := 12) F dX5_send_12 (tgt := 24) rfl (fun c_12 => ?_) (fun c_12 => ?_)
    · refine g_iconst (pc := 24) F dX5_send_24 (v := (-1 : Int32)) (by decide) ?_
      exact g_iret (pc := 25) F X0 dX5_send_25 (Nat.le_of_ble_eq_true rfl) (Nat.le_of_ble_eq_true rfl) rfl ⟨congrArg (fun z => some (Value.int z)) (by first | (unfold S_send; first | exact (if_neg (fun z => c_5 z.1)).symm | exact (if_neg (fun z => c_12 z.2.1)).symm | exact (if_neg (fun z => c_21 z.2.2)).symm | (rw [if_pos ⟨c_5, c_12, c_21⟩, N_nI (by omega), N_nI (by omega)]; first | (rw [if_pos c_114]; try rfl) | (rw [if_neg c_114]; try rfl))) | fail), _, _, rfl⟩
    · refine g_iload_n (pc := 15) F dX5_send_15 rfl ?_
      refine g_iconst (pc := 16) F dX5_send_16 (v := nI 0) rfl ?_
      refine g_iconst (pc := 17) F dX5_send_17 (v := nI 1) rfl ?_
      refine h_readS (pc := 18) F (c_isIn _ _ _) mi_X5_isIn ks_X5_43 dX5_send_18 [] rfl (by decide) (by decide) rfl rfl (Nat.le_of_ble_eq_true rfl) trivial (by decide) (by decide) ?_
      refine g_ifne_d (pc := 21) F dX5_send_21 (tgt := 26) rfl (fun c_21 => ?_) (fun c_21 => ?_)
      · have hm6 := hI.1.2
        obtain ⟨j, hj, rfl⟩ := one_ex hI c_5
        obtain ⟨m0, hm0, rfl⟩ := late_ex c_12
        refine g_iconst (pc := 26) F dX5_send_26 (v := nI 0) rfl ?_
        refine g_istore (pc := 27) F dX5_send_27 (by decide) ?_
        refine g_iconst (pc := 29) F dX5_send_29 (v := (-1 : Int32)) (by decide) ?_
        refine g_istore (pc := 30) F dX5_send_30 (by decide) ?_
        refine g_iconst (pc := 32) F dX5_send_32 (v := nI 0) rfl ?_
        refine g_istore (pc := 33) F dX5_send_33 (by decide) ?_
        have L : ∀ i, i ≤ 10 → ∀ ma, Go K 0 0 35 [(0, .ref 0), (1, .int (nI j)), (2, .int (nI m0)), (3, .int wh), (4, .int (it (sendF s j m0) i (nI 0, (-1))).1), (5, .int (it (sendF s j m0) i (nI 0, (-1))).2), (6, .int (nI (i)))] [] (rW s ma ig ws hg T V) := loop_up (P := fun i => ∀ ma, Go K 0 0 35 [(0, .ref 0), (1, .int (nI j)), (2, .int (nI m0)), (3, .int wh), (4, .int (it (sendF s j m0) i (nI 0, (-1))).1), (5, .int (it (sendF s j m0) i (nI 0, (-1))).2), (6, .int (nI (i)))] [] (rW s ma ig ws hg T V)) (fun i hi ih => by
          intro ma
          refine g_iload (pc := 35) F dX5_send_35 rfl ?_
          refine g_bipush (pc := 37) F dX5_send_37 (v := nI 10) rfl ?_
          refine g_icN_ge (pc := 39) F dX5_send_39 (tgt := 113) rfl rfl rfl (by omega) (by omega) (fun c_39 => ?_) (fun c_39 => ?_)
          · obtain rfl : i = 10 := by omega
            refine g_iload_n (pc := 113) F dX5_send_113 rfl ?_
            refine g_if_ne (pc := 114) F dX5_send_114 (tgt := 122) rfl (fun c_114 => ?_) (fun c_114 => ?_)
            · refine g_iload (pc := 122) F dX5_send_122 rfl ?_
              exact g_iret (pc := 124) F X0 dX5_send_124 (Nat.le_of_ble_eq_true rfl) (Nat.le_of_ble_eq_true rfl) rfl ⟨congrArg (fun z => some (Value.int z)) (by first | (unfold S_send; first | exact (if_neg (fun z => c_5 z.1)).symm | exact (if_neg (fun z => c_12 z.2.1)).symm | exact (if_neg (fun z => c_21 z.2.2)).symm | (rw [if_pos ⟨c_5, c_12, c_21⟩, N_nI (by omega), N_nI (by omega)]; first | (rw [if_pos c_114]; try rfl) | (rw [if_neg c_114]; try rfl))) | fail), _, _, rfl⟩
            · refine g_iload (pc := 117) F dX5_send_117 rfl ?_
              refine g_goto (pc := 119) F dX5_send_119 (tgt := 124) rfl ?_
              exact g_iret (pc := 124) F X0 dX5_send_124 (Nat.le_of_ble_eq_true rfl) (Nat.le_of_ble_eq_true rfl) rfl ⟨congrArg (fun z => some (Value.int z)) (by first | (unfold S_send; first | exact (if_neg (fun z => c_5 z.1)).symm | exact (if_neg (fun z => c_12 z.2.1)).symm | exact (if_neg (fun z => c_21 z.2.2)).symm | (rw [if_pos ⟨c_5, c_12, c_21⟩, N_nI (by omega), N_nI (by omega)]; first | (rw [if_pos c_114]; try rfl) | (rw [if_neg c_114]; try rfl))) | fail), _, _, rfl⟩
          · refine g_aload_n (pc := 42) F dX5_send_42 rfl ?_
            refine g_getf (pc := 43) F fl_X5_9 dX5_send_43 rfl rfl ?_
            refine g_aload_n (pc := 46) F dX5_send_46 rfl ?_
            refine g_getf (pc := 47) F fl_X5_13 dX5_send_47 rfl rfl ?_
            refine h_callS (pc := 50) F (c_copyAll s ma) mi_X5_copies ks_X5_140 dX5_send_50 [1, 2] rfl (by decide) (by decide) rfl rfl (Nat.le_of_ble_eq_true rfl) (by decide) (by decide) ?_
            rintro _ _ ⟨rfl, rfl⟩ -
            refine g_aload_n (pc := 53) F dX5_send_53 rfl ?_
            refine g_getf (pc := 54) F fl_X5_13 dX5_send_54 rfl rfl ?_
            refine g_iload_n (pc := 57) F dX5_send_57 rfl ?_
            refine g_iconst (pc := 58) F dX5_send_58 (v := nI 2) rfl ?_
            refine h_readS (pc := 59) F (c_of _ _) mi_X5_of ks_X5_47 dX5_send_59 [] rfl (by decide) (by decide) rfl rfl (Nat.le_of_ble_eq_true rfl) trivial (by decide) (by decide) ?_
            refine g_iload (pc := 62) F dX5_send_62 rfl ?_
            refine g_iast2 (pc := 64) F dX5_send_64 rfl rfl (by first | omega | (simp only [ix]; omega)) (by decide) ?_
            refine g_aload_n (pc := 65) F dX5_send_65 rfl ?_
            refine g_getf (pc := 66) F fl_X5_13 dX5_send_66 rfl rfl ?_
            refine g_iload_n (pc := 69) F dX5_send_69 rfl ?_
            refine h_callS (pc := 70) F (c_daysOn (upd s (ix j 2) (nI i)) _ m0 (Iv_at hI c_39) rfl (by omega)) mi_X5_daysOn ks_X5_130 dX5_send_70 [2] rfl (by decide) (by decide) rfl rfl (Nat.le_of_ble_eq_true rfl) (by decide) (by decide) ?_
            rintro _ _ ⟨rfl, rfl⟩ -
            refine g_aload_n (pc := 73) F dX5_send_73 rfl ?_
            refine g_getf (pc := 74) F fl_X5_13 dX5_send_74 rfl rfl ?_
            refine h_readS (pc := 77) F (c_doneSet (daysR (upd s (ix j 2) (nI i)) m0)) mi_X5_doneSet ks_X5_162 dX5_send_77 [2] rfl (by decide) (by decide) rfl rfl (Nat.le_of_ble_eq_true rfl) trivial (by decide) (by decide) ?_
            refine h_readS (pc := 80) F (c_bits _) mi_X5_bits ks_X5_166 dX5_send_80 [] rfl (by decide) (by decide) rfl rfl (Nat.le_of_ble_eq_true rfl) trivial (by decide) (by decide) ?_
            refine g_iload (pc := 83) F dX5_send_83 rfl ?_
            refine g_ic_gt (pc := 85) F dX5_send_85 (tgt := 91) rfl (fun c_85 => ?_) (fun c_85 => ?_)
            · refine g_iload (pc := 91) F dX5_send_91 rfl ?_
              refine g_istore (pc := 93) F dX5_send_93 (by decide) ?_
              refine g_aload_n (pc := 95) F dX5_send_95 rfl ?_
              refine g_getf (pc := 96) F fl_X5_13 dX5_send_96 rfl rfl ?_
              refine h_readS (pc := 99) F (c_doneSet (daysR (upd s (ix j 2) (nI i)) m0)) mi_X5_doneSet ks_X5_162 dX5_send_99 [2] rfl (by decide) (by decide) rfl rfl (Nat.le_of_ble_eq_true rfl) trivial (by decide) (by decide) ?_
              refine h_readS (pc := 102) F (c_bits _) mi_X5_bits ks_X5_166 dX5_send_102 [] rfl (by decide) (by decide) rfl rfl (Nat.le_of_ble_eq_true rfl) trivial (by decide) (by decide) ?_
              refine g_istore (pc := 105) F dX5_send_105 (by decide) ?_
              refine g_iincN (pc := 107) F dX5_send_107 rfl (by decide) ?_
              refine g_goto (pc := 110) F dX5_send_110 (tgt := 35) rfl ?_
              first
                | exact (congrArg (fun z => Go K 0 0 35 [(0, .ref 0), (1, .int (nI j)), (2, .int (nI m0)), (3, .int wh), (4, .int (z).1), (5, .int (z).2), (6, .int (nI (i + 1)))] [] (rW s (daysR (upd s (ix j 2) (nI i)) m0) ig ws hg T V)) ((it_succ (sendF s j m0) i (nI 0, (-1))).trans (if_neg c_85))).mp (ih c_39 _)
                | exact (congrArg (fun z => Go K 0 0 35 [(0, .ref 0), (1, .int (nI j)), (2, .int (nI m0)), (3, .int wh), (4, .int (z).1), (5, .int (z).2), (6, .int (nI (i + 1)))] [] (rW s (daysR (upd s (ix j 2) (nI i)) m0) ig ws hg T V)) ((it_succ (sendF s j m0) i (nI 0, (-1))).trans (if_pos c_85))).mp (ih c_39 _)
                | fail
            · refine g_goto (pc := 88) F dX5_send_88 (tgt := 107) rfl ?_
              refine g_iincN (pc := 107) F dX5_send_107 rfl (by decide) ?_
              refine g_goto (pc := 110) F dX5_send_110 (tgt := 35) rfl ?_
              first
                | exact (congrArg (fun z => Go K 0 0 35 [(0, .ref 0), (1, .int (nI j)), (2, .int (nI m0)), (3, .int wh), (4, .int (z).1), (5, .int (z).2), (6, .int (nI (i + 1)))] [] (rW s (daysR (upd s (ix j 2) (nI i)) m0) ig ws hg T V)) ((it_succ (sendF s j m0) i (nI 0, (-1))).trans (if_neg c_85))).mp (ih c_39 _)
                | exact (congrArg (fun z => Go K 0 0 35 [(0, .ref 0), (1, .int (nI j)), (2, .int (nI m0)), (3, .int wh), (4, .int (z).1), (5, .int (z).2), (6, .int (nI (i + 1)))] [] (rW s (daysR (upd s (ix j 2) (nI i)) m0) ig ws hg T V)) ((it_succ (sendF s j m0) i (nI 0, (-1))).trans (if_pos c_85))).mp (ih c_39 _)
                | fail)
        exact L 0 (by omega) m
      · refine g_iconst (pc := 24) F dX5_send_24 (v := (-1 : Int32)) (by decide) ?_
        exact g_iret (pc := 25) F X0 dX5_send_25 (Nat.le_of_ble_eq_true rfl) (Nat.le_of_ble_eq_true rfl) rfl ⟨congrArg (fun z => some (Value.int z)) (by first | (unfold S_send; first | exact (if_neg (fun z => c_5 z.1)).symm | exact (if_neg (fun z => c_12 z.2.1)).symm | exact (if_neg (fun z => c_21 z.2.2)).symm | (rw [if_pos ⟨c_5, c_12, c_21⟩, N_nI (by omega), N_nI (by omega)]; first | (rw [if_pos c_114]; try rfl) | (rw [if_neg c_114]; try rfl))) | fail), _, _, rfl⟩

