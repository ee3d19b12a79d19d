/-! line, treaty, heap, slowest -/
def lineF (r : Nat → Int32) (c : Nat) (p : Int32 × Int32) : Int32 × Int32 := if r (ix c 3) = 0 then (mx p.1 (r (ix c 2)), p.2) else (p.1, mn p.2 (r (ix c 2)))
def lineR (r : Nat → Int32) : Int32 := nI 10 * (it (lineF r) (many r) (nI 0, nI 9)).1 + (it (lineF r) (many r) (nI 0, nI 9)).2
def S_line (r : Nat → Int32) (n : Int32) : Int32 := if lateP n then lineR (tkR r (N n)) else (-1)
def S_treaty (r : Nat → Int32) (n : Int32) : Int32 := if lateP n then booksR (tkR r (N n)) (nI 0) - booksR (tkR r (N n)) (nI 1) else 1000000001
def heapF (r : Nat → Int32) (d f : Nat) : Nat := if r (5 + f) < r (5 + d) then d else f
def heapR (r : Nat → Int32) : Nat := it (heapF r) 10 0
def S_heap (r : Nat → Int32) (n w : Int32) : Int32 := if lateP n ∧ b01 w then (if w = 0 then nI (heapR (tkR r (N n))) else tkR r (N n) (5 + heapR (tkR r (N n)))) else (-1)
def slowF (q r : Nat → Int32) (c : Nat) (p : Int32 × Int32) : Int32 × Int32 := if q (ix c 4) - r (ix c 4) < p.2 then (nI c, q (ix c 4) - r (ix c 4)) else p
def S_slowest (r : Nat → Int32) (n : Int32) : Int32 := if lateP n then (it (slowF (tkR r (N n)) r) (many r) ((-4), nI 10000)).1 else (-1)
theorem i32_1 (A B x : Int32) : A - B + x = (A + x) - (B + nI 0) := by
  rw [show B + nI 0 = B from Int32.add_zero B, Int32.sub_eq_add_neg, Int32.sub_eq_add_neg, Int32.add_assoc, Int32.add_comm (-B), ← Int32.add_assoc]
theorem i32_2 (A B x : Int32) : A - B + -x = (A + nI 0) - (B + x) := by
  rw [show A + nI 0 = A from Int32.add_zero A, Int32.sub_eq_add_neg, Int32.sub_eq_add_neg, Int32.neg_add, Int32.sub_eq_add_neg, Int32.add_assoc]
theorem heap_lt {r : Nat → Int32} : ∀ i, i ≤ 10 → it (heapF r) i 0 < 10 := by
  intro i
  induction i with
  | zero => exact fun _ => (by decide : (0 : Nat) < 10)
  | succ i ih =>
    intro hi
    rw [it_succ]
    unfold heapF
    split
    · omega
    · exact ih (by omega)
theorem heap_1 {r : Nat → Int32} : it (heapF r) 1 0 = 0 := by
  show (if r (5 + 0) < r (5 + 0) then 0 else 0) = 0
  exact ite_self 0
theorem tk_book {r : Nat → Int32} {n c : Nat} (hI : Iv r) (hc : c < many r) : (tkR r n (ix c 4) - r (ix c 4)).toInt ≤ 9999 := by
  obtain ⟨g1, g2⟩ := tkR_ok hI n
  obtain ⟨-, -, -, -, ⟨a1, a2⟩, -⟩ := g1.2.2.1 c (by rw [g2]; exact hc)
  obtain ⟨-, -, -, -, ⟨b1, b2⟩, -⟩ := hI.2.2.1 c hc
  rw [ti_sub (by omega) (by omega)]
  omega
theorem slow_far {r : Nat → Int32} {n : Nat} (hI : Iv r) : ∀ i, i < many r → it (slowF (tkR r n) r) (i + 1) ((-4), 1000000000) = it (slowF (tkR r n) r) (i + 1) ((-4), nI 10000) := by
  intro i
  induction i with
  | zero =>
    intro hc
    have h := tk_book (n := n) hI hc
    have e9 : (1000000000 : Int32).toInt = 1000000000 := by decide
    have h1 : tkR r n (ix 0 4) - r (ix 0 4) < (1000000000 : Int32) := (ti_lt _ _).mpr (by rw [e9]; omega)
    have h2 : tkR r n (ix 0 4) - r (ix 0 4) < nI 10000 := (ti_lt _ _).mpr (by rw [ti_n _ (by decide)]; omega)
    show (if tkR r n (ix 0 4) - r (ix 0 4) < (1000000000 : Int32) then (nI 0, tkR r n (ix 0 4) - r (ix 0 4)) else ((-4), 1000000000)) = (if tkR r n (ix 0 4) - r (ix 0 4) < nI 10000 then (nI 0, tkR r n (ix 0 4) - r (ix 0 4)) else ((-4), nI 10000))
    rw [if_pos h1, if_pos h2]
  | succ i ih =>
    intro hc
    rw [it_succ, ih (by omega)]
    exact (it_succ _ _ _).symm
def booksI (r : Nat → Int32) (way : Int32) (i : Nat) : Int32 := it (fun c v => v + (if way < 0 ∨ r (ix c 3) = way then r (ix c 4) else nI 0)) i (nI 0)
theorem booksI_in {r : Nat → Int32} {way : Int32} {i : Nat} (h : r (ix i 3) = way) : booksI r way (i + 1) = booksI r way i + r (ix i 4) := by
  unfold booksI
  rw [it_succ, if_pos (Or.inr h)]
theorem booksI_out {r : Nat → Int32} {way : Int32} {i : Nat} (h0 : ¬ way < 0) (h : ¬ r (ix i 3) = way) : booksI r way (i + 1) = booksI r way i + nI 0 := by
  unfold booksI
  rw [it_succ, if_neg (fun z => z.elim h0 h)]
theorem tr_0 {r : Nat → Int32} {i : Nat} (h : r (ix i 3) = 0) : booksI r (nI 0) (i + 1) - booksI r (nI 1) (i + 1) = booksI r (nI 0) i - booksI r (nI 1) i + r (ix i 4) := by
  rw [booksI_in (way := nI 0) h, booksI_out (way := nI 1) (by decide) (by rw [h]; decide), i32_1]
theorem tr_1 {r : Nat → Int32} {i : Nat} (h0 : ¬ r (ix i 3) = 0) (h : r (ix i 3) = nI 1) : booksI r (nI 0) (i + 1) - booksI r (nI 1) (i + 1) = booksI r (nI 0) i - booksI r (nI 1) i + -r (ix i 4) := by
  rw [booksI_out (way := nI 0) (by decide) h0, booksI_in (way := nI 1) h, i32_2]
set_option maxRecDepth 100000 in
set_option maxHeartbeats 800000 in
theorem c_line (b : Int32) (X Y Z : DX) (im : Int32) (S : Nat → SX) (g h : Nat → Int32) (r : Nat → Int32) (hR : Rel b X r) (hI : Iv r) (h4 : r 4 = nI 0) (n : Int32) : Ctr yX4_line cX4_line 5 (some .int) 7 0 0 [.ref 0, .int n] (mW X Y Z im S g h) (Look (.int (S_line r n)) X Z im S) := by
  refine Ctr.of rfl (Nat.le_of_ble_eq_true rfl) ⟨clS_of rfl, mW_cl _ _ _ _ _ _ _⟩ (fun K F X0 => ?_)
  show Go K 0 0 0 [(0, .ref 0), (1, .int n)] [] (mW X Y Z im S g h)
  refine g_iload_n (pc := 0) F dX4_line_0 rfl ?_
  refine h_readS (pc := 1) F (c_isDaysOn _) mi_X4_isDaysOn ks_X4_173 dX4_line_1 [] rfl (by decide) (by decide) rfl rfl (Nat.le_of_ble_eq_true rfl) trivial (by decide) (by decide) ?_
  refine g_ifne_d (pc := 4) F dX4_line_4 (tgt := 9) rfl (fun c_4 => ?_) (fun c_4 => ?_)
  · obtain ⟨m0, hm0, rfl⟩ := late_ex c_4
    refine g_aload_n (pc := 9) F dX4_line_9 rfl ?_
    refine g_iload_n (pc := 10) F dX4_line_10 rfl ?_
    refine i_callV (pc := 11) F (c_lookOn b X Y Z im S g h r _ m0 hR hI h4 rfl (by omega)) mi_X4_lookOn kv_X4_176 rfl rfl dX4_line_11 (by decide) (by decide) rfl (Nat.le_of_ble_eq_true rfl) (by decide) (by decide) ?_
    rintro _ _ ⟨rfl, Y2, rfl, hY2⟩ -
    obtain ⟨hI2, hm2⟩ := tkR_ok hI m0
    have hm6 := hI2.1.2
    have L : ∀ i, i ≤ many (tkR r m0) → Go K 0 0 22 [(0, .ref 0), (1, .int (nI m0)), (2, .int (it (lineF (tkR r m0)) i (nI 0, nI 9)).1), (3, .int (it (lineF (tkR r m0)) i (nI 0, nI 9)).2), (4, .int (nI (i)))] [] (mW X Y2 Z im S g h) := loop_up (P := fun i => Go K 0 0 22 [(0, .ref 0), (1, .int (nI m0)), (2, .int (it (lineF (tkR r m0)) i (nI 0, nI 9)).1), (3, .int (it (lineF (tkR r m0)) i (nI 0, nI 9)).2), (4, .int (nI (i)))] [] (mW X Y2 Z im S g h)) (fun i hi ih => by
      refine g_iload (pc := 22) F dX4_line_22 rfl ?_
      refine g_aload_n (pc := 24) F dX4_line_24 rfl ?_
      refine g_getf (pc := 25) F fl_X4_16 dX4_line_25 rfl rfl ?_
      refine g_getf (pc := 28) F fl_X4_148 dX4_line_28 rfl rfl ?_
      refine g_icN_ge (pc := 31) F dX4_line_31 (tgt := 86) rfl rfl (hY2.1.1.trans hI2.1.1) (by omega) (by omega) (fun c_31 => ?_) (fun c_31 => ?_)
      · obtain rfl : i = many (tkR r m0) := by omega
        refine g_bipush (pc := 86) F dX4_line_86 (v := nI 10) rfl ?_
        refine g_iload_n (pc := 88) F dX4_line_88 rfl ?_
        refine g_imul (pc := 89) F dX4_line_89 ?_
        refine g_iload_n (pc := 90) F dX4_line_90 rfl ?_
        refine g_iadd (pc := 91) F dX4_line_91 ?_
        exact g_iret (pc := 92) F X0 dX4_line_92 (Nat.le_of_ble_eq_true rfl) (Nat.le_of_ble_eq_true rfl) rfl ⟨congrArg (fun z => some (Value.int z)) (by first | (unfold S_line; first | exact (if_neg c_4).symm | (rw [if_pos c_4, N_nI (by omega)]; try rfl)) | fail), _, _, _, rfl⟩
      · obtain ⟨-, -, eA, eY, -⟩ := hY2.2.2.2 i c_31
        refine g_aload_n (pc := 34) F dX4_line_34 rfl ?_
        refine g_getf (pc := 35) F fl_X4_16 dX4_line_35 rfl rfl ?_
        refine g_getf (pc := 38) F fl_X4_91 dX4_line_38 rfl rfl ?_
        refine g_iload (pc := 41) F dX4_line_41 rfl ?_
        refine g_iald2 (pc := 43) F dX4_line_43 rfl rfl (by first | omega | (simp only [ix]; omega)) (by decide) ?_
        rw [eY]
        refine g_if_ne (pc := 44) F dX4_line_44 (tgt := 65) rfl (fun c_44 => ?_) (fun c_44 => ?_)
        · refine g_iload_n (pc := 65) F dX4_line_65 rfl ?_
          refine g_aload_n (pc := 66) F dX4_line_66 rfl ?_
          refine g_getf (pc := 67) F fl_X4_16 dX4_line_67 rfl rfl ?_
          refine g_getf (pc := 70) F fl_X4_88 dX4_line_70 rfl rfl ?_
          refine g_iload (pc := 73) F dX4_line_73 rfl ?_
          refine g_iald2 (pc := 75) F dX4_line_75 rfl rfl (by first | omega | (simp only [ix]; omega)) (by decide) ?_
          rw [eA]
          refine g_mminM (pc := 76) F dX4_line_76 km_X4_188 (by decide) (Nat.le_of_ble_eq_true rfl) (by decide) (by decide) ?_
          refine g_istore_n (pc := 79) F dX4_line_79 (by decide) ?_
          refine g_iincN (pc := 80) F dX4_line_80 rfl (by decide) ?_
          refine g_goto (pc := 83) F dX4_line_83 (tgt := 22) rfl ?_
          first
            | exact (congrArg (fun z => Go K 0 0 22 [(0, .ref 0), (1, .int (nI m0)), (2, .int (z).1), (3, .int (z).2), (4, .int (nI (i + 1)))] [] (mW X Y2 Z im S g h)) ((it_succ (lineF (tkR r m0)) i (nI 0, nI 9)).trans (if_pos c_44))).mp (ih c_31)
            | exact (congrArg (fun z => Go K 0 0 22 [(0, .ref 0), (1, .int (nI m0)), (2, .int (z).1), (3, .int (z).2), (4, .int (nI (i + 1)))] [] (mW X Y2 Z im S g h)) ((it_succ (lineF (tkR r m0)) i (nI 0, nI 9)).trans (if_neg c_44))).mp (ih c_31)
            | fail
        · refine g_iload_n (pc := 47) F dX4_line_47 rfl ?_
          refine g_aload_n (pc := 48) F dX4_line_48 rfl ?_
          refine g_getf (pc := 49) F fl_X4_16 dX4_line_49 rfl rfl ?_
          refine g_getf (pc := 52) F fl_X4_88 dX4_line_52 rfl rfl ?_
          refine g_iload (pc := 55) F dX4_line_55 rfl ?_
          refine g_iald2 (pc := 57) F dX4_line_57 rfl rfl (by first | omega | (simp only [ix]; omega)) (by decide) ?_
          rw [eA]
          refine g_mmaxM (pc := 58) F dX4_line_58 km_X4_72 (by decide) (Nat.le_of_ble_eq_true rfl) (by decide) (by decide) ?_
          refine g_istore_n (pc := 61) F dX4_line_61 (by decide) ?_
          refine g_goto (pc := 62) F dX4_line_62 (tgt := 80) rfl ?_
          refine g_iincN (pc := 80) F dX4_line_80 rfl (by decide) ?_
          refine g_goto (pc := 83) F dX4_line_83 (tgt := 22) rfl ?_
          first
            | exact (congrArg (fun z => Go K 0 0 22 [(0, .ref 0), (1, .int (nI m0)), (2, .int (z).1), (3, .int (z).2), (4, .int (nI (i + 1)))] [] (mW X Y2 Z im S g h)) ((it_succ (lineF (tkR r m0)) i (nI 0, nI 9)).trans (if_pos c_44))).mp (ih c_31)
            | exact (congrArg (fun z => Go K 0 0 22 [(0, .ref 0), (1, .int (nI m0)), (2, .int (z).1), (3, .int (z).2), (4, .int (nI (i + 1)))] [] (mW X Y2 Z im S g h)) ((it_succ (lineF (tkR r m0)) i (nI 0, nI 9)).trans (if_neg c_44))).mp (ih c_31)
            | fail)
    refine g_iconst (pc := 14) F dX4_line_14 (v := nI 0) rfl ?_
    refine g_istore_n (pc := 15) F dX4_line_15 (by decide) ?_
    refine g_bipush (pc := 16) F dX4_line_16 (v := nI 9) rfl ?_
    refine g_istore_n (pc := 18) F dX4_line_18 (by decide) ?_
    refine g_iconst (pc := 19) F dX4_line_19 (v := nI 0) rfl ?_
    refine g_istore (pc := 20) F dX4_line_20 (by decide) ?_
    exact L 0 (Nat.zero_le _)
  · refine g_iconst (pc := 7) F dX4_line_7 (v := (-1 : Int32)) (by decide) ?_
    exact g_iret (pc := 8) F X0 dX4_line_8 (Nat.le_of_ble_eq_true rfl) (Nat.le_of_ble_eq_true rfl) rfl ⟨congrArg (fun z => some (Value.int z)) (by first | (unfold S_line; first | exact (if_neg c_4).symm | (rw [if_pos c_4, N_nI (by omega)]; try rfl)) | fail), _, _, _, rfl⟩

set_option maxRecDepth 100000 in
set_option maxHeartbeats 800000 in
theorem m_line (s m ig ws : Nat → Int32) (hg : Int32) (T : TX) (V : VX) (hI : Iv s) (n : Int32) : Ctr yX5_line cX5_line 6 (some .int) 7 0 0 [.ref 0, .int n] (rW s m ig ws hg T V) (LookR (.int (S_line s n)) s ig ws hg T) := by
  refine Ctr.of rfl (Nat.le_of_ble_eq_true rfl) ⟨clS_of rfl, clH_of rfl⟩ (fun K F X0 => ?_)
  show Go K 0 0 0 [(0, .ref 0), (1, .int n)] [] (rW s m ig ws hg T V)
  refine g_iload_n (pc := 0) F dX5_line_0 rfl ?_
  refine h_readS (pc := 1) F (c_mLate _) mi_X5_isLate ks_X5_155 dX5_line_1 [] rfl (by decide) (by decide) rfl rfl (Nat.le_of_ble_eq_true rfl) trivial (by decide) (by decide) ?_
  refine g_ifne_d (pc := 4) F dX5_line_4 (tgt := 9) rfl (fun c_4 => ?_) (fun c_4 => ?_)
  · obtain ⟨m0, hm0, rfl⟩ := late_ex c_4
    refine g_aload_n (pc := 9) F dX5_line_9 rfl ?_
    refine g_iload_n (pc := 10) F dX5_line_10 rfl ?_
    refine i_callV (pc := 11) F (m_takes s m ig ws hg T V _ m0 hI rfl (by omega)) mi_X5_takes kv_X5_158 rfl rfl dX5_line_11 (by decide) (by decide) rfl (Nat.le_of_ble_eq_true rfl) (by decide) (by decide) ?_
    rintro _ _ ⟨rfl, rfl⟩ -
    obtain ⟨hI2, hm2⟩ := tkR_ok hI m0
    have hm6 := hI2.1.2
    have L : ∀ i, i ≤ many (tkR s m0) → ∀ L5, (L5 = [] ∨ ∃ v, L5 = [(5, Value.int v)]) → Go K 0 0 22 ([(0, .ref 0), (1, .int (nI m0)), (2, .int (it (lineF (tkR s m0)) i (nI 0, nI 9)).1), (3, .int (it (lineF (tkR s m0)) i (nI 0, nI 9)).2), (4, .int (nI (i)))] ++ L5) [] (rW s (tkR s m0) ig ws hg T V) := loop_up (P := fun i => ∀ L5, (L5 = [] ∨ ∃ v, L5 = [(5, Value.int v)]) → Go K 0 0 22 ([(0, .ref 0), (1, .int (nI m0)), (2, .int (it (lineF (tkR s m0)) i (nI 0, nI 9)).1), (3, .int (it (lineF (tkR s m0)) i (nI 0, nI 9)).2), (4, .int (nI (i)))] ++ L5) [] (rW s (tkR s m0) ig ws hg T V)) (fun i hi ih => by
      intro L5 hL5
      rcases hL5 with rfl | ⟨v5, rfl⟩
      · refine g_iload (pc := 22) F dX5_line_22 rfl ?_
        refine g_aload_n (pc := 24) F dX5_line_24 rfl ?_
        refine g_getf (pc := 25) F fl_X5_13 dX5_line_25 rfl rfl ?_
        refine g_iconst (pc := 28) F dX5_line_28 (v := nI 0) rfl ?_
        refine g_iald2 (pc := 29) F dX5_line_29 rfl rfl (by first | omega | (simp only [ix]; omega)) (by decide) ?_
        refine g_icN_ge (pc := 30) F dX5_line_30 (tgt := 83) rfl rfl hI2.1.1 (by omega) (by omega) (fun c_30 => ?_) (fun c_30 => ?_)
        · obtain rfl : i = many (tkR s m0) := by omega
          refine g_bipush (pc := 83) F dX5_line_83 (v := nI 10) rfl ?_
          refine g_iload_n (pc := 85) F dX5_line_85 rfl ?_
          refine g_imul (pc := 86) F dX5_line_86 ?_
          refine g_iload_n (pc := 87) F dX5_line_87 rfl ?_
          refine g_iadd (pc := 88) F dX5_line_88 ?_
          exact g_iret (pc := 89) F X0 dX5_line_89 (Nat.le_of_ble_eq_true rfl) (Nat.le_of_ble_eq_true rfl) rfl ⟨congrArg (fun z => some (Value.int z)) (by first | (unfold S_line; first | exact (if_neg c_4).symm | (rw [if_pos c_4, N_nI (by omega)]; try rfl)) | fail), _, _, rfl⟩
        · refine g_aload_n (pc := 33) F dX5_line_33 rfl ?_
          refine g_getf (pc := 34) F fl_X5_13 dX5_line_34 rfl rfl ?_
          refine g_iload (pc := 37) F dX5_line_37 rfl ?_
          refine g_iconst (pc := 39) F dX5_line_39 (v := nI 2) rfl ?_
          refine h_readS (pc := 40) F (c_of _ _) mi_X5_of ks_X5_47 dX5_line_40 [] rfl (by decide) (by decide) rfl rfl (Nat.le_of_ble_eq_true rfl) trivial (by decide) (by decide) ?_
          refine g_iald2 (pc := 43) F dX5_line_43 rfl rfl (by first | omega | (simp only [ix]; omega)) (by decide) ?_
          refine g_istore (pc := 44) F dX5_line_44 (by decide) ?_
          refine g_aload_n (pc := 46) F dX5_line_46 rfl ?_
          refine g_getf (pc := 47) F fl_X5_13 dX5_line_47 rfl rfl ?_
          refine g_iload (pc := 50) F dX5_line_50 rfl ?_
          refine g_iconst (pc := 52) F dX5_line_52 (v := nI 3) rfl ?_
          refine h_readS (pc := 53) F (c_of _ _) mi_X5_of ks_X5_47 dX5_line_53 [] rfl (by decide) (by decide) rfl rfl (Nat.le_of_ble_eq_true rfl) trivial (by decide) (by decide) ?_
          refine g_iald2 (pc := 56) F dX5_line_56 rfl rfl (by first | omega | (simp only [ix]; omega)) (by decide) ?_
          refine g_if_ne (pc := 57) F dX5_line_57 (tgt := 70) rfl (fun c_57 => ?_) (fun c_57 => ?_)
          · refine g_iload_n (pc := 70) F dX5_line_70 rfl ?_
            refine g_iload (pc := 71) F dX5_line_71 rfl ?_
            refine h_readS (pc := 73) F (c_least _ _) mi_X5_least ks_X5_55 dX5_line_73 [] rfl (by decide) (by decide) rfl rfl (Nat.le_of_ble_eq_true rfl) trivial (by decide) (by decide) ?_
            refine g_istore_n (pc := 76) F dX5_line_76 (by decide) ?_
            refine g_iincN (pc := 77) F dX5_line_77 rfl (by decide) ?_
            refine g_goto (pc := 80) F dX5_line_80 (tgt := 22) rfl ?_
            first
              | exact (congrArg (fun z => ∀ L5, (L5 = [] ∨ ∃ v, L5 = [(5, Value.int v)]) → Go K 0 0 22 ([(0, .ref 0), (1, .int (nI m0)), (2, .int (z).1), (3, .int (z).2), (4, .int (nI (i + 1)))] ++ L5) [] (rW s (tkR s m0) ig ws hg T V)) ((it_succ (lineF (tkR s m0)) i (nI 0, nI 9)).trans (if_pos c_57))).mp (ih c_30) [(5, Value.int (tkR s m0 (ix i 2)))] (Or.inr ⟨_, rfl⟩)
              | exact (congrArg (fun z => ∀ L5, (L5 = [] ∨ ∃ v, L5 = [(5, Value.int v)]) → Go K 0 0 22 ([(0, .ref 0), (1, .int (nI m0)), (2, .int (z).1), (3, .int (z).2), (4, .int (nI (i + 1)))] ++ L5) [] (rW s (tkR s m0) ig ws hg T V)) ((it_succ (lineF (tkR s m0)) i (nI 0, nI 9)).trans (if_neg c_57))).mp (ih c_30) [(5, Value.int (tkR s m0 (ix i 2)))] (Or.inr ⟨_, rfl⟩)
              | fail
          · refine g_iload_n (pc := 60) F dX5_line_60 rfl ?_
            refine g_iload (pc := 61) F dX5_line_61 rfl ?_
            refine h_readS (pc := 63) F (c_most _ _) mi_X5_most ks_X5_58 dX5_line_63 [] rfl (by decide) (by decide) rfl rfl (Nat.le_of_ble_eq_true rfl) trivial (by decide) (by decide) ?_
            refine g_istore_n (pc := 66) F dX5_line_66 (by decide) ?_
            refine g_goto (pc := 67) F dX5_line_67 (tgt := 77) rfl ?_
            refine g_iincN (pc := 77) F dX5_line_77 rfl (by decide) ?_
            refine g_goto (pc := 80) F dX5_line_80 (tgt := 22) rfl ?_
            first
              | exact (congrArg (fun z => ∀ L5, (L5 = [] ∨ ∃ v, L5 = [(5, Value.int v)]) → Go K 0 0 22 ([(0, .ref 0), (1, .int (nI m0)), (2, .int (z).1), (3, .int (z).2), (4, .int (nI (i + 1)))] ++ L5) [] (rW s (tkR s m0) ig ws hg T V)) ((it_succ (lineF (tkR s m0)) i (nI 0, nI 9)).trans (if_pos c_57))).mp (ih c_30) [(5, Value.int (tkR s m0 (ix i 2)))] (Or.inr ⟨_, rfl⟩)
              | exact (congrArg (fun z => ∀ L5, (L5 = [] ∨ ∃ v, L5 = [(5, Value.int v)]) → Go K 0 0 22 ([(0, .ref 0), (1, .int (nI m0)), (2, .int (z).1), (3, .int (z).2), (4, .int (nI (i + 1)))] ++ L5) [] (rW s (tkR s m0) ig ws hg T V)) ((it_succ (lineF (tkR s m0)) i (nI 0, nI 9)).trans (if_neg c_57))).mp (ih c_30) [(5, Value.int (tkR s m0 (ix i 2)))] (Or.inr ⟨_, rfl⟩)
              | fail
      · refine g_iload (pc := 22) F dX5_line_22 rfl ?_
        refine g_aload_n (pc := 24) F dX5_line_24 rfl ?_
        refine g_getf (pc := 25) F fl_X5_13 dX5_line_25 rfl rfl ?_
        refine g_iconst (pc := 28) F dX5_line_28 (v := nI 0) rfl ?_
        refine g_iald2 (pc := 29) F dX5_line_29 rfl rfl (by first | omega | (simp only [ix]; omega)) (by decide) ?_
        refine g_icN_ge (pc := 30) F dX5_line_30 (tgt := 83) rfl rfl hI2.1.1 (by omega) (by omega) (fun c_30 => ?_) (fun c_30 => ?_)
        · obtain rfl : i = many (tkR s m0) := by omega
          refine g_bipush (pc := 83) F dX5_line_83 (v := nI 10) rfl ?_
          refine g_iload_n (pc := 85) F dX5_line_85 rfl ?_
          refine g_imul (pc := 86) F dX5_line_86 ?_
          refine g_iload_n (pc := 87) F dX5_line_87 rfl ?_
          refine g_iadd (pc := 88) F dX5_line_88 ?_
          exact g_iret (pc := 89) F X0 dX5_line_89 (Nat.le_of_ble_eq_true rfl) (Nat.le_of_ble_eq_true rfl) rfl ⟨congrArg (fun z => some (Value.int z)) (by first | (unfold S_line; first | exact (if_neg c_4).symm | (rw [if_pos c_4, N_nI (by omega)]; try rfl)) | fail), _, _, rfl⟩
        · refine g_aload_n (pc := 33) F dX5_line_33 rfl ?_
          refine g_getf (pc := 34) F fl_X5_13 dX5_line_34 rfl rfl ?_
          refine g_iload (pc := 37) F dX5_line_37 rfl ?_
          refine g_iconst (pc := 39) F dX5_line_39 (v := nI 2) rfl ?_
          refine h_readS (pc := 40) F (c_of _ _) mi_X5_of ks_X5_47 dX5_line_40 [] rfl (by decide) (by decide) rfl rfl (Nat.le_of_ble_eq_true rfl) trivial (by decide) (by decide) ?_
          refine g_iald2 (pc := 43) F dX5_line_43 rfl rfl (by first | omega | (simp only [ix]; omega)) (by decide) ?_
          refine g_istore (pc := 44) F dX5_line_44 (by decide) ?_
          refine g_aload_n (pc := 46) F dX5_line_46 rfl ?_
          refine g_getf (pc := 47) F fl_X5_13 dX5_line_47 rfl rfl ?_
          refine g_iload (pc := 50) F dX5_line_50 rfl ?_
          refine g_iconst (pc := 52) F dX5_line_52 (v := nI 3) rfl ?_
          refine h_readS (pc := 53) F (c_of _ _) mi_X5_of ks_X5_47 dX5_line_53 [] rfl (by decide) (by decide) rfl rfl (Nat.le_of_ble_eq_true rfl) trivial (by decide) (by decide) ?_
          refine g_iald2 (pc := 56) F dX5_line_56 rfl rfl (by first | omega | (simp only [ix]; omega)) (by decide) ?_
          refine g_if_ne (pc := 57) F dX5_line_57 (tgt := 70) rfl (fun c_57 => ?_) (fun c_57 => ?_)
          · refine g_iload_n (pc := 70) F dX5_line_70 rfl ?_
            refine g_iload (pc := 71) F dX5_line_71 rfl ?_
            refine h_readS (pc := 73) F (c_least _ _) mi_X5_least ks_X5_55 dX5_line_73 [] rfl (by decide) (by decide) rfl rfl (Nat.le_of_ble_eq_true rfl) trivial (by decide) (by decide) ?_
            refine g_istore_n (pc := 76) F dX5_line_76 (by decide) ?_
            refine g_iincN (pc := 77) F dX5_line_77 rfl (by decide) ?_
            refine g_goto (pc := 80) F dX5_line_80 (tgt := 22) rfl ?_
            first
              | exact (congrArg (fun z => ∀ L5, (L5 = [] ∨ ∃ v, L5 = [(5, Value.int v)]) → Go K 0 0 22 ([(0, .ref 0), (1, .int (nI m0)), (2, .int (z).1), (3, .int (z).2), (4, .int (nI (i + 1)))] ++ L5) [] (rW s (tkR s m0) ig ws hg T V)) ((it_succ (lineF (tkR s m0)) i (nI 0, nI 9)).trans (if_pos c_57))).mp (ih c_30) [(5, Value.int (tkR s m0 (ix i 2)))] (Or.inr ⟨_, rfl⟩)
              | exact (congrArg (fun z => ∀ L5, (L5 = [] ∨ ∃ v, L5 = [(5, Value.int v)]) → Go K 0 0 22 ([(0, .ref 0), (1, .int (nI m0)), (2, .int (z).1), (3, .int (z).2), (4, .int (nI (i + 1)))] ++ L5) [] (rW s (tkR s m0) ig ws hg T V)) ((it_succ (lineF (tkR s m0)) i (nI 0, nI 9)).trans (if_neg c_57))).mp (ih c_30) [(5, Value.int (tkR s m0 (ix i 2)))] (Or.inr ⟨_, rfl⟩)
              | fail
          · refine g_iload_n (pc := 60) F dX5_line_60 rfl ?_
            refine g_iload (pc := 61) F dX5_line_61 rfl ?_
            refine h_readS (pc := 63) F (c_most _ _) mi_X5_most ks_X5_58 dX5_line_63 [] rfl (by decide) (by decide) rfl rfl (Nat.le_of_ble_eq_true rfl) trivial (by decide) (by decide) ?_
            refine g_istore_n (pc := 66) F dX5_line_66 (by decide) ?_
            refine g_goto (pc := 67) F dX5_line_67 (tgt := 77) rfl ?_
            refine g_iincN (pc := 77) F dX5_line_77 rfl (by decide) ?_
            refine g_goto (pc := 80) F dX5_line_80 (tgt := 22) rfl ?_
            first
              | exact (congrArg (fun z => ∀ L5, (L5 = [] ∨ ∃ v, L5 = [(5, Value.int v)]) → Go K 0 0 22 ([(0, .ref 0), (1, .int (nI m0)), (2, .int (z).1), (3, .int (z).2), (4, .int (nI (i + 1)))] ++ L5) [] (rW s (tkR s m0) ig ws hg T V)) ((it_succ (lineF (tkR s m0)) i (nI 0, nI 9)).trans (if_pos c_57))).mp (ih c_30) [(5, Value.int (tkR s m0 (ix i 2)))] (Or.inr ⟨_, rfl⟩)
              | exact (congrArg (fun z => ∀ L5, (L5 = [] ∨ ∃ v, L5 = [(5, Value.int v)]) → Go K 0 0 22 ([(0, .ref 0), (1, .int (nI m0)), (2, .int (z).1), (3, .int (z).2), (4, .int (nI (i + 1)))] ++ L5) [] (rW s (tkR s m0) ig ws hg T V)) ((it_succ (lineF (tkR s m0)) i (nI 0, nI 9)).trans (if_neg c_57))).mp (ih c_30) [(5, Value.int (tkR s m0 (ix i 2)))] (Or.inr ⟨_, rfl⟩)
              | fail)
    refine g_iconst (pc := 14) F dX5_line_14 (v := nI 0) rfl ?_
    refine g_istore_n (pc := 15) F dX5_line_15 (by decide) ?_
    refine g_bipush (pc := 16) F dX5_line_16 (v := nI 9) rfl ?_
    refine g_istore_n (pc := 18) F dX5_line_18 (by decide) ?_
    refine g_iconst (pc := 19) F dX5_line_19 (v := nI 0) rfl ?_
    refine g_istore (pc := 20) F dX5_line_20 (by decide) ?_
    exact L 0 (Nat.zero_le _) [] (Or.inl rfl)
  · refine g_iconst (pc := 7) F dX5_line_7 (v := (-1 : Int32)) (by decide) ?_
    exact g_iret (pc := 8) F X0 dX5_line_8 (Nat.le_of_ble_eq_true rfl) (Nat.le_of_ble_eq_true rfl) rfl ⟨congrArg (fun z => some (Value.int z)) (by first | (unfold S_line; first | exact (if_neg c_4).symm | (rw [if_pos c_4, N_nI (by omega)]; try rfl)) | fail), _, _, rfl⟩

set_option maxRecDepth 100000 in
set_option maxHeartbeats 800000 in
theorem c_treaty (b : Int32) (X Y Z : DX) (im : Int32) (S : Nat → SX) (g h : Nat → Int32) (r : Nat → Int32) (hR : Rel b X r) (hI : Iv r) (h4 : r 4 = nI 0) (n : Int32) : Ctr yX4_treaty cX4_treaty 4 (some .int) 7 0 0 [.ref 0, .int n] (mW X Y Z im S g h) (Look (.int (S_treaty r n)) X Z im S) := by
  refine Ctr.of rfl (Nat.le_of_ble_eq_true rfl) ⟨clS_of rfl, mW_cl _ _ _ _ _ _ _⟩ (fun K F X0 => ?_)
  show Go K 0 0 0 [(0, .ref 0), (1, .int n)] [] (mW X Y Z im S g h)
  refine g_iload_n (pc := 0) F dX4_treaty_0 rfl ?_
  refine h_readS (pc := 1) F (c_isDaysOn _) mi_X4_isDaysOn ks_X4_173 dX4_treaty_1 [] rfl (by decide) (by decide) rfl rfl (Nat.le_of_ble_eq_true rfl) trivial (by decide) (by decide) ?_
  refine g_ifne_d (pc := 4) F dX4_treaty_4 (tgt := 10) rfl (fun c_4 => ?_) (fun c_4 => ?_)
  · obtain ⟨m0, hm0, rfl⟩ := late_ex c_4
    refine g_aload_n (pc := 10) F dX4_treaty_10 rfl ?_
    refine g_iload_n (pc := 11) F dX4_treaty_11 rfl ?_
    refine i_callV (pc := 12) F (c_lookOn b X Y Z im S g h r _ m0 hR hI h4 rfl (by omega)) mi_X4_lookOn kv_X4_176 rfl rfl dX4_treaty_12 (by decide) (by decide) rfl (Nat.le_of_ble_eq_true rfl) (by decide) (by decide) ?_
    rintro _ _ ⟨rfl, Y2, rfl, hY2⟩ -
    obtain ⟨hI2, hm2⟩ := tkR_ok hI m0
    have hm6 := hI2.1.2
    have L : ∀ i, i ≤ many (tkR r m0) → Go K 0 0 19 [(0, .ref 0), (1, .int (nI m0)), (2, .int (booksI (tkR r m0) (nI 0) i - booksI (tkR r m0) (nI 1) i)), (3, .int (nI (i)))] [] (mW X Y2 Z im S g h) := loop_up (P := fun i => Go K 0 0 19 [(0, .ref 0), (1, .int (nI m0)), (2, .int (booksI (tkR r m0) (nI 0) i - booksI (tkR r m0) (nI 1) i)), (3, .int (nI (i)))] [] (mW X Y2 Z im S g h)) (fun i hi ih => by
      refine g_iload_n (pc := 19) F dX4_treaty_19 rfl ?_
      refine g_aload_n (pc := 20) F dX4_treaty_20 rfl ?_
      refine g_getf (pc := 21) F fl_X4_16 dX4_treaty_21 rfl rfl ?_
      refine g_getf (pc := 24) F fl_X4_148 dX4_treaty_24 rfl rfl ?_
      refine g_icN_ge (pc := 27) F dX4_treaty_27 (tgt := 73) rfl rfl (hY2.1.1.trans hI2.1.1) (by omega) (by omega) (fun c_27 => ?_) (fun c_27 => ?_)
      · obtain rfl : i = many (tkR r m0) := by omega
        refine g_iload_n (pc := 73) F dX4_treaty_73 rfl ?_
        exact g_iret (pc := 74) F X0 dX4_treaty_74 (Nat.le_of_ble_eq_true rfl) (Nat.le_of_ble_eq_true rfl) rfl ⟨congrArg (fun z => some (Value.int z)) (by first | (unfold S_treaty; first | exact (if_neg c_4).symm | (rw [if_pos c_4, N_nI (by omega)]; try rfl)) | fail), _, _, _, rfl⟩
      · obtain ⟨-, -, -, eY, eB⟩ := hY2.2.2.2 i c_27
        obtain ⟨-, -, -, ey, -⟩ := hI2.2.2.1 i c_27
        refine g_iload_n (pc := 30) F dX4_treaty_30 rfl ?_
        refine g_aload_n (pc := 31) F dX4_treaty_31 rfl ?_
        refine g_getf (pc := 32) F fl_X4_16 dX4_treaty_32 rfl rfl ?_
        refine g_getf (pc := 35) F fl_X4_91 dX4_treaty_35 rfl rfl ?_
        refine g_iload_n (pc := 38) F dX4_treaty_38 rfl ?_
        refine g_iald2 (pc := 39) F dX4_treaty_39 rfl rfl (by first | omega | (simp only [ix]; omega)) (by decide) ?_
        rw [eY]
        refine g_if_ne (pc := 40) F dX4_treaty_40 (tgt := 55) rfl (fun c_40 => ?_) (fun c_40 => ?_)
        · refine g_aload_n (pc := 55) F dX4_treaty_55 rfl ?_
          refine g_getf (pc := 56) F fl_X4_16 dX4_treaty_56 rfl rfl ?_
          refine g_getf (pc := 59) F fl_X4_94 dX4_treaty_59 rfl rfl ?_
          refine g_iload_n (pc := 62) F dX4_treaty_62 rfl ?_
          refine g_iald2 (pc := 63) F dX4_treaty_63 rfl rfl (by first | omega | (simp only [ix]; omega)) (by decide) ?_
          rw [eB]
          refine g_ineg (pc := 64) F dX4_treaty_64 ?_
          refine g_iadd (pc := 65) F dX4_treaty_65 ?_
          refine g_istore_n (pc := 66) F dX4_treaty_66 (by decide) ?_
          refine g_iincN (pc := 67) F dX4_treaty_67 rfl (by decide) ?_
          refine g_goto (pc := 70) F dX4_treaty_70 (tgt := 19) rfl ?_
          first
            | exact (congrArg (fun z => Go K 0 0 19 [(0, .ref 0), (1, .int (nI m0)), (2, .int (z)), (3, .int (nI (i + 1)))] [] (mW X Y2 Z im S g h)) (tr_0 c_40)).mp (ih c_27)
            | exact (congrArg (fun z => Go K 0 0 19 [(0, .ref 0), (1, .int (nI m0)), (2, .int (z)), (3, .int (nI (i + 1)))] [] (mW X Y2 Z im S g h)) (tr_1 c_40 (ey.resolve_left c_40))).mp (ih c_27)
            | fail
        · refine g_aload_n (pc := 43) F dX4_treaty_43 rfl ?_
          refine g_getf (pc := 44) F fl_X4_16 dX4_treaty_44 rfl rfl ?_
          refine g_getf (pc := 47) F fl_X4_94 dX4_treaty_47 rfl rfl ?_
          refine g_iload_n (pc := 50) F dX4_treaty_50 rfl ?_
          refine g_iald2 (pc := 51) F dX4_treaty_51 rfl rfl (by first | omega | (simp only [ix]; omega)) (by decide) ?_
          rw [eB]
          refine g_goto (pc := 52) F dX4_treaty_52 (tgt := 65) rfl ?_
          refine g_iadd (pc := 65) F dX4_treaty_65 ?_
          refine g_istore_n (pc := 66) F dX4_treaty_66 (by decide) ?_
          refine g_iincN (pc := 67) F dX4_treaty_67 rfl (by decide) ?_
          refine g_goto (pc := 70) F dX4_treaty_70 (tgt := 19) rfl ?_
          first
            | exact (congrArg (fun z => Go K 0 0 19 [(0, .ref 0), (1, .int (nI m0)), (2, .int (z)), (3, .int (nI (i + 1)))] [] (mW X Y2 Z im S g h)) (tr_0 c_40)).mp (ih c_27)
            | exact (congrArg (fun z => Go K 0 0 19 [(0, .ref 0), (1, .int (nI m0)), (2, .int (z)), (3, .int (nI (i + 1)))] [] (mW X Y2 Z im S g h)) (tr_1 c_40 (ey.resolve_left c_40))).mp (ih c_27)
            | fail)
    refine g_iconst (pc := 15) F dX4_treaty_15 (v := nI 0) rfl ?_
    refine g_istore_n (pc := 16) F dX4_treaty_16 (by decide) ?_
    refine g_iconst (pc := 17) F dX4_treaty_17 (v := nI 0) rfl ?_
    refine g_istore_n (pc := 18) F dX4_treaty_18 (by decide) ?_
    exact (congrArg (fun z => Go K 0 0 19 [(0, .ref 0), (1, .int (nI m0)), (2, .int (z)), (3, .int (nI (0)))] [] (mW X Y2 Z im S g h)) ((show nI 0 - nI 0 = nI 0 from by decide))).mp (L 0 (Nat.zero_le _))
  · refine g_ldc (pc := 7) F dX4_treaty_7 kc_X4_155 ?_
    exact g_iret (pc := 9) F X0 dX4_treaty_9 (Nat.le_of_ble_eq_true rfl) (Nat.le_of_ble_eq_true rfl) rfl ⟨congrArg (fun z => some (Value.int z)) (by first | (unfold S_treaty; first | exact (if_neg c_4).symm | (rw [if_pos c_4, N_nI (by omega)]; try rfl)) | fail), _, _, _, rfl⟩

set_option maxRecDepth 100000 in
set_option maxHeartbeats 800000 in
theorem m_treaty (s m ig ws : Nat → Int32) (hg : Int32) (T : TX) (V : VX) (hI : Iv s) (n : Int32) : Ctr yX5_treaty cX5_treaty 2 (some .int) 7 0 0 [.ref 0, .int n] (rW s m ig ws hg T V) (LookR (.int (S_treaty s n)) s ig ws hg T) := by
  refine Ctr.of rfl (Nat.le_of_ble_eq_true rfl) ⟨clS_of rfl, clH_of rfl⟩ (fun K F X0 => ?_)
  show Go K 0 0 0 [(0, .ref 0), (1, .int n)] [] (rW s m ig ws hg T V)
  refine g_iload_n (pc := 0) F dX5_treaty_0 rfl ?_
  refine h_readS (pc := 1) F (c_mLate _) mi_X5_isLate ks_X5_155 dX5_treaty_1 [] rfl (by decide) (by decide) rfl rfl (Nat.le_of_ble_eq_true rfl) trivial (by decide) (by decide) ?_
  refine g_ifne_d (pc := 4) F dX5_treaty_4 (tgt := 10) rfl (fun c_4 => ?_) (fun c_4 => ?_)
  · obtain ⟨m0, hm0, rfl⟩ := late_ex c_4
    refine g_aload_n (pc := 10) F dX5_treaty_10 rfl ?_
    refine g_iload_n (pc := 11) F dX5_treaty_11 rfl ?_
    refine i_callV (pc := 12) F (m_takes s m ig ws hg T V _ m0 hI rfl (by omega)) mi_X5_takes kv_X5_158 rfl rfl dX5_treaty_12 (by decide) (by decide) rfl (Nat.le_of_ble_eq_true rfl) (by decide) (by decide) ?_
    rintro _ _ ⟨rfl, rfl⟩ -
    obtain ⟨hI2, hm2⟩ := tkR_ok hI m0
    have hm6 := hI2.1.2
    refine g_aload_n (pc := 15) F dX5_treaty_15 rfl ?_
    refine g_getf (pc := 16) F fl_X5_13 dX5_treaty_16 rfl rfl ?_
    refine g_iconst (pc := 19) F dX5_treaty_19 (v := nI 0) rfl ?_
    refine h_readS (pc := 20) F (c_booksOf (tkR s m0) _ hI2) mi_X5_booksOf ks_X5_152 dX5_treaty_20 [2] rfl (by decide) (by decide) rfl rfl (Nat.le_of_ble_eq_true rfl) trivial (by decide) (by decide) ?_
    refine g_aload_n (pc := 23) F dX5_treaty_23 rfl ?_
    refine g_getf (pc := 24) F fl_X5_13 dX5_treaty_24 rfl rfl ?_
    refine g_iconst (pc := 27) F dX5_treaty_27 (v := nI 1) rfl ?_
    refine h_readS (pc := 28) F (c_booksOf (tkR s m0) _ hI2) mi_X5_booksOf ks_X5_152 dX5_treaty_28 [2] rfl (by decide) (by decide) rfl rfl (Nat.le_of_ble_eq_true rfl) trivial (by decide) (by decide) ?_
    refine g_isub (pc := 31) F dX5_treaty_31 ?_
    exact g_iret (pc := 32) F X0 dX5_treaty_32 (Nat.le_of_ble_eq_true rfl) (Nat.le_of_ble_eq_true rfl) rfl ⟨congrArg (fun z => some (Value.int z)) (by first | (unfold S_treaty; first | exact (if_neg c_4).symm | (rw [if_pos c_4, N_nI (by omega)]; try rfl)) | fail), _, _, rfl⟩
  · refine g_ldc (pc := 7) F dX5_treaty_7 kc_X5_151 ?_
    exact g_iret (pc := 9) F X0 dX5_treaty_9 (Nat.le_of_ble_eq_true rfl) (Nat.le_of_ble_eq_true rfl) rfl ⟨congrArg (fun z => some (Value.int z)) (by first | (unfold S_treaty; first | exact (if_neg c_4).symm | (rw [if_pos c_4, N_nI (by omega)]; try rfl)) | fail), _, _, rfl⟩

