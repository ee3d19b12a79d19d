/-! the reference's days, sums, fillings -/
abbrev A2 (r s : Nat → Int32) : Hp := [.inl (.int, 61, .inl r), .inl (.int, 61, .inl s)]
def cpy (r s : Nat → Int32) (i : Nat) : Nat → Int32 := fun j => if j < i then r j else s j
theorem cpy_0 (r s : Nat → Int32) : cpy r s 0 = s := funext fun j => if_neg (Nat.not_lt_zero j)
theorem cpy_s (r s : Nat → Int32) (i : Nat) : upd (cpy r s i) i (r i) = cpy r s (i + 1) := by
  funext j
  unfold upd cpy
  by_cases q : j = i
  · rw [if_pos q, if_pos (by omega), q]
  · rw [if_neg q]
    by_cases q2 : j < i
    · rw [if_pos q2, if_pos (by omega)]
    · rw [if_neg q2, if_neg (by omega)]
set_option maxRecDepth 100000 in
set_option maxHeartbeats 4000000 in
theorem c_copies (r s : Nat → Int32) : Ctr yX5_copies cX5_copies 3 none 0 0 0 [.ref 0, .ref 1] (A2 r s) (fun v h => v = none ∧ h = A2 r (cpy r s 61)) := by
  refine Ctr.of rfl (Nat.le_of_ble_eq_true rfl) ⟨clS_of rfl, clH_of rfl⟩ (fun K F X0 => ?_)
  have L : ∀ i, i ≤ 61 → Go K 0 0 2 [(0, .ref 0), (1, .ref 1), (2, .int (nI i))] [] (A2 r (cpy r s i)) := loop_up (P := fun i => Go K 0 0 2 [(0, .ref 0), (1, .ref 1), (2, .int (nI i))] [] (A2 r (cpy r s i))) (fun i hi ih => by
    refine g_iload_n (pc := 2) F dX5_copies_2 rfl ?_
    refine g_bipush (pc := 3) F dX5_copies_3 (v := nI 61) rfl ?_
    refine g_icN_ge (pc := 5) F dX5_copies_5 (tgt := 20) rfl rfl rfl (by omega) (by omega) (fun c_5 => ?_) (fun c_5 => ?_)
    · have hi9 : i = 61 := by omega
      subst hi9
      exact g_vret (pc := 20) F X0 dX5_copies_20 (Nat.le_of_ble_eq_true rfl) (Nat.le_of_ble_eq_true rfl) rfl ⟨rfl, rfl⟩
    · refine g_aload_n (pc := 8) F dX5_copies_8 rfl ?_
      refine g_iload_n (pc := 9) F dX5_copies_9 rfl ?_
      refine g_aload_n (pc := 10) F dX5_copies_10 rfl ?_
      refine g_iload_n (pc := 11) F dX5_copies_11 rfl ?_
      refine g_iald2 (pc := 12) F dX5_copies_12 rfl rfl (by first | omega | (simp only [ix]; omega)) (by decide) ?_
      refine g_iast2 (pc := 13) F dX5_copies_13 rfl rfl (by first | omega | (simp only [ix]; omega)) (by decide) ?_
      refine g_iincN (pc := 14) F dX5_copies_14 rfl (by decide) ?_
      refine g_goto (pc := 17) F dX5_copies_17 (tgt := 2) rfl ?_
      exact (congrArg (fun z => Go K 0 0 2 [(0, .ref 0), (1, .ref 1), (2, .int (nI (i + 1)))] [] (A2 r z)) ((cpy_s r s i).symm)).mp (ih c_5))
  show Go K 0 0 0 [(0, .ref 0), (1, .ref 1)] [] (A2 r s)
  refine g_iconst (pc := 0) F dX5_copies_0 (v := nI 0) rfl ?_
  refine g_istore_n (pc := 1) F dX5_copies_1 (by decide) ?_
  exact (congrArg (fun z => Go K 0 0 2 [(0, .ref 0), (1, .ref 1), (2, .int (nI 0))] [] (A2 r z)) (cpy_0 r s)).mp (L 0 (Nat.zero_le _))

set_option maxRecDepth 100000 in
set_option maxHeartbeats 4000000 in
theorem c_fillsIn (r : Nat → Int32) (x : Int32) (d : Nat) (v : Int32) (hx : x = nI d) (hd : d < 10) : Ctr yX5_fillsIn cX5_fillsIn 3 none 0 0 0 [.ref 0, .int x, .int v] (A1 r) (fun v2 h => v2 = none ∧ h = A1 (fillR r d v)) := by
  subst hx
  refine Ctr.of rfl (Nat.le_of_ble_eq_true rfl) ⟨clS_of rfl, clH_of rfl⟩ (fun K F X0 => ?_)
  show Go K 0 0 0 [(0, .ref 0), (1, .int (nI d)), (2, .int v)] [] (A1 r)
  refine g_aload_n (pc := 0) F dX5_fillsIn_0 rfl ?_
  refine g_iconst (pc := 1) F dX5_fillsIn_1 (v := nI 5) rfl ?_
  refine g_iload_n (pc := 2) F dX5_fillsIn_2 rfl ?_
  refine g_iaddN (pc := 3) F dX5_fillsIn_3 ?_
  refine g_iload_n (pc := 4) F dX5_fillsIn_4 rfl ?_
  refine g_iast2 (pc := 5) F dX5_fillsIn_5 rfl rfl (by first | omega | (simp only [ix]; omega)) (by decide) ?_
  refine g_aload_n (pc := 6) F dX5_fillsIn_6 rfl ?_
  refine g_bipush (pc := 7) F dX5_fillsIn_7 (v := nI 15) rfl ?_
  refine g_iload_n (pc := 9) F dX5_fillsIn_9 rfl ?_
  refine g_iaddN (pc := 10) F dX5_fillsIn_10 ?_
  refine g_iconst (pc := 11) F dX5_fillsIn_11 (v := nI 0) rfl ?_
  refine g_iast2 (pc := 12) F dX5_fillsIn_12 rfl rfl (by first | omega | (simp only [ix]; omega)) (by decide) ?_
  exact g_vret (pc := 13) F X0 dX5_fillsIn_13 (Nat.le_of_ble_eq_true rfl) (Nat.le_of_ble_eq_true rfl) rfl ⟨rfl, rfl⟩

set_option maxRecDepth 100000 in
set_option maxHeartbeats 4000000 in
theorem c_bits (s : Int32) : RCtr yX5_bits cX5_bits 3 (some .int) 0 [.int s] ([]) (.int (bitsR s)) := by
  refine Ctr.of rfl (Nat.le_of_ble_eq_true rfl) ⟨clS_of rfl, clH_of rfl⟩ (fun K F X0 => ?_)
  have L : ∀ i, i ≤ 10 → Go K 0 0 4 [(0, .int s), (1, .int (it (fun k n => n + (s >>> (nI k &&& 31) &&& nI 1)) i (nI 0))), (2, .int (nI i))] [] [] := loop_up (P := fun i => Go K 0 0 4 [(0, .int s), (1, .int (it (fun k n => n + (s >>> (nI k &&& 31) &&& nI 1)) i (nI 0))), (2, .int (nI i))] [] []) (fun i hi ih => by
    refine g_iload_n (pc := 4) F dX5_bits_4 rfl ?_
    refine g_bipush (pc := 5) F dX5_bits_5 (v := nI 10) rfl ?_
    refine g_icN_ge (pc := 7) F dX5_bits_7 (tgt := 24) rfl rfl rfl (by omega) (by omega) (fun c_7 => ?_) (fun c_7 => ?_)
    · have hi9 : i = 10 := by omega
      subst hi9
      refine g_iload_n (pc := 24) F dX5_bits_24 rfl ?_
      exact g_iret (pc := 25) F X0 dX5_bits_25 (Nat.le_of_ble_eq_true rfl) (Nat.le_of_ble_eq_true rfl) rfl ⟨rfl, rfl⟩
    · refine g_iload_n (pc := 10) F dX5_bits_10 rfl ?_
      refine g_iload_n (pc := 11) F dX5_bits_11 rfl ?_
      refine g_iload_n (pc := 12) F dX5_bits_12 rfl ?_
      refine g_ishr (pc := 13) F dX5_bits_13 ?_
      refine g_iconst (pc := 14) F dX5_bits_14 (v := nI 1) rfl ?_
      refine g_iand (pc := 15) F dX5_bits_15 ?_
      refine g_iadd (pc := 16) F dX5_bits_16 ?_
      refine g_istore_n (pc := 17) F dX5_bits_17 (by decide) ?_
      refine g_iincN (pc := 18) F dX5_bits_18 rfl (by decide) ?_
      refine g_goto (pc := 21) F dX5_bits_21 (tgt := 4) rfl ?_
      exact (congrArg (fun z => Go K 0 0 4 [(0, .int s), (1, .int z), (2, .int (nI (i + 1)))] [] []) (it_succ (fun k n => n + (s >>> (nI k &&& 31) &&& nI 1)) i (nI 0))).mp (ih c_7))
  show Go K 0 0 0 [(0, .int s)] [] ([])
  refine g_iconst (pc := 0) F dX5_bits_0 (v := nI 0) rfl ?_
  refine g_istore_n (pc := 1) F dX5_bits_1 (by decide) ?_
  refine g_iconst (pc := 2) F dX5_bits_2 (v := nI 0) rfl ?_
  refine g_istore_n (pc := 3) F dX5_bits_3 (by decide) ?_
  exact L 0 (Nat.zero_le _)

set_option maxRecDepth 100000 in
set_option maxHeartbeats 4000000 in
theorem c_doneSet (r : Nat → Int32) : RCtr yX5_doneSet cX5_doneSet 3 (some .int) 1 [.ref 0] (A1 r) (.int (doneR r)) := by
  refine Ctr.of rfl (Nat.le_of_ble_eq_true rfl) ⟨clS_of rfl, clH_of rfl⟩ (fun K F X0 => ?_)
  have L : ∀ i, i ≤ 10 → Go K 0 0 4 [(0, .ref 0), (1, .int (it (fun d s => s ||| (if lf r d = 0 then nI 1 <<< (nI d &&& 31) else nI 0)) i (nI 0))), (2, .int (nI (i)))] [] (A1 r) := loop_up (P := fun i => Go K 0 0 4 [(0, .ref 0), (1, .int (it (fun d s => s ||| (if lf r d = 0 then nI 1 <<< (nI d &&& 31) else nI 0)) i (nI 0))), (2, .int (nI (i)))] [] (A1 r)) (fun i hi ih => by
    refine g_iload_n (pc := 4) F dX5_doneSet_4 rfl ?_
    refine g_bipush (pc := 5) F dX5_doneSet_5 (v := nI 10) rfl ?_
    refine g_icN_ge (pc := 7) F dX5_doneSet_7 (tgt := 34) rfl rfl rfl (by omega) (by omega) (fun c_7 => ?_) (fun c_7 => ?_)
    · have hi9 : i = 10 := by omega
      subst hi9
      refine g_iload_n (pc := 34) F dX5_doneSet_34 rfl ?_
      exact g_iret (pc := 35) F X0 dX5_doneSet_35 (Nat.le_of_ble_eq_true rfl) (Nat.le_of_ble_eq_true rfl) rfl ⟨rfl, rfl⟩
    · refine g_iload_n (pc := 10) F dX5_doneSet_10 rfl ?_
      refine g_aload_n (pc := 11) F dX5_doneSet_11 rfl ?_
      refine g_iload_n (pc := 12) F dX5_doneSet_12 rfl ?_
      refine h_readS (pc := 13) F (c_left r _ i rfl (by omega)) mi_X5_left ks_X5_51 dX5_doneSet_13 [0] rfl (by decide) (by decide) rfl rfl (Nat.le_of_ble_eq_true rfl) trivial (by decide) (by decide) ?_
      refine g_if_ne (pc := 16) F dX5_doneSet_16 (tgt := 25) rfl (fun c_16 => ?_) (fun c_16 => ?_)
      · refine g_iconst (pc := 25) F dX5_doneSet_25 (v := nI 0) rfl ?_
        refine g_ior (pc := 26) F dX5_doneSet_26 ?_
        refine g_istore_n (pc := 27) F dX5_doneSet_27 (by decide) ?_
        refine g_iincN (pc := 28) F dX5_doneSet_28 rfl (by decide) ?_
        refine g_goto (pc := 31) F dX5_doneSet_31 (tgt := 4) rfl ?_
        first
          | exact (congrArg (fun z => Go K 0 0 4 [(0, .ref 0), (1, .int (z)), (2, .int (nI (i + 1)))] [] (A1 r)) ((it_succ (fun d s => s ||| (if lf r d = 0 then nI 1 <<< (nI d &&& 31) else nI 0)) i (nI 0)).trans (congrArg (fun z => it (fun d s => s ||| (if lf r d = 0 then nI 1 <<< (nI d &&& 31) else nI 0)) i (nI 0) ||| z) (if_pos c_16)))).mp (ih c_7)
          | exact (congrArg (fun z => Go K 0 0 4 [(0, .ref 0), (1, .int (z)), (2, .int (nI (i + 1)))] [] (A1 r)) ((it_succ (fun d s => s ||| (if lf r d = 0 then nI 1 <<< (nI d &&& 31) else nI 0)) i (nI 0)).trans (congrArg (fun z => it (fun d s => s ||| (if lf r d = 0 then nI 1 <<< (nI d &&& 31) else nI 0)) i (nI 0) ||| z) (if_neg c_16)))).mp (ih c_7)
      · refine g_iconst (pc := 19) F dX5_doneSet_19 (v := nI 1) rfl ?_
        refine g_iload_n (pc := 20) F dX5_doneSet_20 rfl ?_
        refine g_ishl (pc := 21) F dX5_doneSet_21 ?_
        refine g_goto (pc := 22) F dX5_doneSet_22 (tgt := 26) rfl ?_
        refine g_ior (pc := 26) F dX5_doneSet_26 ?_
        refine g_istore_n (pc := 27) F dX5_doneSet_27 (by decide) ?_
        refine g_iincN (pc := 28) F dX5_doneSet_28 rfl (by decide) ?_
        refine g_goto (pc := 31) F dX5_doneSet_31 (tgt := 4) rfl ?_
        first
          | exact (congrArg (fun z => Go K 0 0 4 [(0, .ref 0), (1, .int (z)), (2, .int (nI (i + 1)))] [] (A1 r)) ((it_succ (fun d s => s ||| (if lf r d = 0 then nI 1 <<< (nI d &&& 31) else nI 0)) i (nI 0)).trans (congrArg (fun z => it (fun d s => s ||| (if lf r d = 0 then nI 1 <<< (nI d &&& 31) else nI 0)) i (nI 0) ||| z) (if_pos c_16)))).mp (ih c_7)
          | exact (congrArg (fun z => Go K 0 0 4 [(0, .ref 0), (1, .int (z)), (2, .int (nI (i + 1)))] [] (A1 r)) ((it_succ (fun d s => s ||| (if lf r d = 0 then nI 1 <<< (nI d &&& 31) else nI 0)) i (nI 0)).trans (congrArg (fun z => it (fun d s => s ||| (if lf r d = 0 then nI 1 <<< (nI d &&& 31) else nI 0)) i (nI 0) ||| z) (if_neg c_16)))).mp (ih c_7))
  show Go K 0 0 0 [(0, .ref 0)] [] (A1 r)
  refine g_iconst (pc := 0) F dX5_doneSet_0 (v := nI 0) rfl ?_
  refine g_istore_n (pc := 1) F dX5_doneSet_1 (by decide) ?_
  refine g_iconst (pc := 2) F dX5_doneSet_2 (v := nI 0) rfl ?_
  refine g_istore_n (pc := 3) F dX5_doneSet_3 (by decide) ?_
  exact L 0 (Nat.zero_le _)

set_option maxRecDepth 100000 in
set_option maxHeartbeats 4000000 in
theorem c_booksOf (r : Nat → Int32) (way : Int32) (hI : Iv r) : RCtr yX5_booksOf cX5_booksOf 4 (some .int) 1 [.ref 0, .int way] (A1 r) (.int (booksR r way)) := by
  have hm6 := hI.1.2
  refine Ctr.of rfl (Nat.le_of_ble_eq_true rfl) ⟨clS_of rfl, clH_of rfl⟩ (fun K F X0 => ?_)
  have L : ∀ i, i ≤ many r → Go K 0 0 4 [(0, .ref 0), (1, .int way), (2, .int (it (fun c v => v + (if way < 0 ∨ r (ix c 3) = way then r (ix c 4) else nI 0)) i (nI 0))), (3, .int (nI (i)))] [] (A1 r) := loop_up (P := fun i => Go K 0 0 4 [(0, .ref 0), (1, .int way), (2, .int (it (fun c v => v + (if way < 0 ∨ r (ix c 3) = way then r (ix c 4) else nI 0)) i (nI 0))), (3, .int (nI (i)))] [] (A1 r)) (fun i hi ih => by
    refine g_iload_n (pc := 4) F dX5_booksOf_4 rfl ?_
    refine g_aload_n (pc := 5) F dX5_booksOf_5 rfl ?_
    refine g_iconst (pc := 6) F dX5_booksOf_6 (v := nI 0) rfl ?_
    refine g_iald2 (pc := 7) F dX5_booksOf_7 rfl rfl (by first | omega | (simp only [ix]; omega)) (by decide) ?_
    refine g_icN_ge (pc := 8) F dX5_booksOf_8 (tgt := 46) rfl rfl hI.1.1 (by omega) (by omega) (fun c_8 => ?_) (fun c_8 => ?_)
    · have hi9 : i = many r := by omega
      subst hi9
      refine g_iload_n (pc := 46) F dX5_booksOf_46 rfl ?_
      exact g_iret (pc := 47) F X0 dX5_booksOf_47 (Nat.le_of_ble_eq_true rfl) (Nat.le_of_ble_eq_true rfl) rfl ⟨rfl, rfl⟩
    · refine g_iload_n (pc := 11) F dX5_booksOf_11 rfl ?_
      refine g_iload_n (pc := 12) F dX5_booksOf_12 rfl ?_
      refine g_if_lt (pc := 13) F dX5_booksOf_13 (tgt := 27) rfl (fun c_13 => ?_) (fun c_13 => ?_)
      · refine g_aload_n (pc := 27) F dX5_booksOf_27 rfl ?_
        refine g_iload_n (pc := 28) F dX5_booksOf_28 rfl ?_
        refine g_iconst (pc := 29) F dX5_booksOf_29 (v := nI 4) rfl ?_
        refine h_readS (pc := 30) F (c_of _ _) mi_X5_of ks_X5_47 dX5_booksOf_30 [] rfl (by decide) (by decide) rfl rfl (Nat.le_of_ble_eq_true rfl) trivial (by decide) (by decide) ?_
        refine g_iald2 (pc := 33) F dX5_booksOf_33 rfl rfl (by first | omega | (simp only [ix]; omega)) (by decide) ?_
        refine g_goto (pc := 34) F dX5_booksOf_34 (tgt := 38) rfl ?_
        refine g_iadd (pc := 38) F dX5_booksOf_38 ?_
        refine g_istore_n (pc := 39) F dX5_booksOf_39 (by decide) ?_
        refine g_iincN (pc := 40) F dX5_booksOf_40 rfl (by decide) ?_
        refine g_goto (pc := 43) F dX5_booksOf_43 (tgt := 4) rfl ?_
        first
          | exact (congrArg (fun z => Go K 0 0 4 [(0, .ref 0), (1, .int way), (2, .int (z)), (3, .int (nI (i + 1)))] [] (A1 r)) ((it_succ (fun c v => v + (if way < 0 ∨ r (ix c 3) = way then r (ix c 4) else nI 0)) i (nI 0)).trans (congrArg (fun z => it (fun c v => v + (if way < 0 ∨ r (ix c 3) = way then r (ix c 4) else nI 0)) i (nI 0) + z) (if_pos (Or.inl c_13))))).mp (ih c_8)
          | exact (congrArg (fun z => Go K 0 0 4 [(0, .ref 0), (1, .int way), (2, .int (z)), (3, .int (nI (i + 1)))] [] (A1 r)) ((it_succ (fun c v => v + (if way < 0 ∨ r (ix c 3) = way then r (ix c 4) else nI 0)) i (nI 0)).trans (congrArg (fun z => it (fun c v => v + (if way < 0 ∨ r (ix c 3) = way then r (ix c 4) else nI 0)) i (nI 0) + z) (if_pos (Or.inr c_24))))).mp (ih c_8)
          | exact (congrArg (fun z => Go K 0 0 4 [(0, .ref 0), (1, .int way), (2, .int (z)), (3, .int (nI (i + 1)))] [] (A1 r)) ((it_succ (fun c v => v + (if way < 0 ∨ r (ix c 3) = way then r (ix c 4) else nI 0)) i (nI 0)).trans (congrArg (fun z => it (fun c v => v + (if way < 0 ∨ r (ix c 3) = way then r (ix c 4) else nI 0)) i (nI 0) + z) (if_neg (fun h => h.elim c_13 c_24))))).mp (ih c_8)
      · refine g_aload_n (pc := 16) F dX5_booksOf_16 rfl ?_
        refine g_iload_n (pc := 17) F dX5_booksOf_17 rfl ?_
        refine g_iconst (pc := 18) F dX5_booksOf_18 (v := nI 3) rfl ?_
        refine h_readS (pc := 19) F (c_of _ _) mi_X5_of ks_X5_47 dX5_booksOf_19 [] rfl (by decide) (by decide) rfl rfl (Nat.le_of_ble_eq_true rfl) trivial (by decide) (by decide) ?_
        refine g_iald2 (pc := 22) F dX5_booksOf_22 rfl rfl (by first | omega | (simp only [ix]; omega)) (by decide) ?_
        refine g_iload_n (pc := 23) F dX5_booksOf_23 rfl ?_
        refine g_ic_ne (pc := 24) F dX5_booksOf_24 (tgt := 37) rfl (fun c_24 => ?_) (fun c_24 => ?_)
        · refine g_iconst (pc := 37) F dX5_booksOf_37 (v := nI 0) rfl ?_
          refine g_iadd (pc := 38) F dX5_booksOf_38 ?_
          refine g_istore_n (pc := 39) F dX5_booksOf_39 (by decide) ?_
          refine g_iincN (pc := 40) F dX5_booksOf_40 rfl (by decide) ?_
          refine g_goto (pc := 43) F dX5_booksOf_43 (tgt := 4) rfl ?_
          first
            | exact (congrArg (fun z => Go K 0 0 4 [(0, .ref 0), (1, .int way), (2, .int (z)), (3, .int (nI (i + 1)))] [] (A1 r)) ((it_succ (fun c v => v + (if way < 0 ∨ r (ix c 3) = way then r (ix c 4) else nI 0)) i (nI 0)).trans (congrArg (fun z => it (fun c v => v + (if way < 0 ∨ r (ix c 3) = way then r (ix c 4) else nI 0)) i (nI 0) + z) (if_pos (Or.inl c_13))))).mp (ih c_8)
            | exact (congrArg (fun z => Go K 0 0 4 [(0, .ref 0), (1, .int way), (2, .int (z)), (3, .int (nI (i + 1)))] [] (A1 r)) ((it_succ (fun c v => v + (if way < 0 ∨ r (ix c 3) = way then r (ix c 4) else nI 0)) i (nI 0)).trans (congrArg (fun z => it (fun c v => v + (if way < 0 ∨ r (ix c 3) = way then r (ix c 4) else nI 0)) i (nI 0) + z) (if_pos (Or.inr c_24))))).mp (ih c_8)
            | exact (congrArg (fun z => Go K 0 0 4 [(0, .ref 0), (1, .int way), (2, .int (z)), (3, .int (nI (i + 1)))] [] (A1 r)) ((it_succ (fun c v => v + (if way < 0 ∨ r (ix c 3) = way then r (ix c 4) else nI 0)) i (nI 0)).trans (congrArg (fun z => it (fun c v => v + (if way < 0 ∨ r (ix c 3) = way then r (ix c 4) else nI 0)) i (nI 0) + z) (if_neg (fun h => h.elim c_13 c_24))))).mp (ih c_8)
        · refine g_aload_n (pc := 27) F dX5_booksOf_27 rfl ?_
          refine g_iload_n (pc := 28) F dX5_booksOf_28 rfl ?_
          refine g_iconst (pc := 29) F dX5_booksOf_29 (v := nI 4) rfl ?_
          refine h_readS (pc := 30) F (c_of _ _) mi_X5_of ks_X5_47 dX5_booksOf_30 [] rfl (by decide) (by decide) rfl rfl (Nat.le_of_ble_eq_true rfl) trivial (by decide) (by decide) ?_
          refine g_iald2 (pc := 33) F dX5_booksOf_33 rfl rfl (by first | omega | (simp only [ix]; omega)) (by decide) ?_
          refine g_goto (pc := 34) F dX5_booksOf_34 (tgt := 38) rfl ?_
          refine g_iadd (pc := 38) F dX5_booksOf_38 ?_
          refine g_istore_n (pc := 39) F dX5_booksOf_39 (by decide) ?_
          refine g_iincN (pc := 40) F dX5_booksOf_40 rfl (by decide) ?_
          refine g_goto (pc := 43) F dX5_booksOf_43 (tgt := 4) rfl ?_
          first
            | exact (congrArg (fun z => Go K 0 0 4 [(0, .ref 0), (1, .int way), (2, .int (z)), (3, .int (nI (i + 1)))] [] (A1 r)) ((it_succ (fun c v => v + (if way < 0 ∨ r (ix c 3) = way then r (ix c 4) else nI 0)) i (nI 0)).trans (congrArg (fun z => it (fun c v => v + (if way < 0 ∨ r (ix c 3) = way then r (ix c 4) else nI 0)) i (nI 0) + z) (if_pos (Or.inl c_13))))).mp (ih c_8)
            | exact (congrArg (fun z => Go K 0 0 4 [(0, .ref 0), (1, .int way), (2, .int (z)), (3, .int (nI (i + 1)))] [] (A1 r)) ((it_succ (fun c v => v + (if way < 0 ∨ r (ix c 3) = way then r (ix c 4) else nI 0)) i (nI 0)).trans (congrArg (fun z => it (fun c v => v + (if way < 0 ∨ r (ix c 3) = way then r (ix c 4) else nI 0)) i (nI 0) + z) (if_pos (Or.inr c_24))))).mp (ih c_8)
            | exact (congrArg (fun z => Go K 0 0 4 [(0, .ref 0), (1, .int way), (2, .int (z)), (3, .int (nI (i + 1)))] [] (A1 r)) ((it_succ (fun c v => v + (if way < 0 ∨ r (ix c 3) = way then r (ix c 4) else nI 0)) i (nI 0)).trans (congrArg (fun z => it (fun c v => v + (if way < 0 ∨ r (ix c 3) = way then r (ix c 4) else nI 0)) i (nI 0) + z) (if_neg (fun h => h.elim c_13 c_24))))).mp (ih c_8))
  show Go K 0 0 0 [(0, .ref 0), (1, .int way)] [] (A1 r)
  refine g_iconst (pc := 0) F dX5_booksOf_0 (v := nI 0) rfl ?_
  refine g_istore_n (pc := 1) F dX5_booksOf_1 (by decide) ?_
  refine g_iconst (pc := 2) F dX5_booksOf_2 (v := nI 0) rfl ?_
  refine g_istore_n (pc := 3) F dX5_booksOf_3 (by decide) ?_
  exact L 0 (Nat.zero_le _)

set_option maxRecDepth 100000 in
set_option maxHeartbeats 4000000 in
theorem c_floods (r : Nat → Int32) (hI : Iv r) : Ctr yX5_floods cX5_floods 2 none 1 0 0 [.ref 0] (A1 r) (fun v h => v = none ∧ h = A1 (floodR r)) := by
  have hm6 := hI.1.2
  refine Ctr.of rfl (Nat.le_of_ble_eq_true rfl) ⟨clS_of rfl, clH_of rfl⟩ (fun K F X0 => ?_)
  have L2 : ∀ i, i ≤ many r → Go K 0 0 23 [(0, .ref 0), (1, .int (nI i))] [] (A1 (it (fun c r => upd r (ix c 4) (nI 0)) i (it (fun d r => upd r (15 + d) (nI 0)) 10 r))) := loop_up (P := fun i => Go K 0 0 23 [(0, .ref 0), (1, .int (nI i))] [] (A1 (it (fun c r => upd r (ix c 4) (nI 0)) i (it (fun d r => upd r (15 + d) (nI 0)) 10 r)))) (fun i hi ih => by
    have ei : it (fun c r => upd r (ix c 4) (nI 0)) i (it (fun d r => upd r (15 + d) (nI 0)) 10 r) 0 = nI (many r) := ((flood2_ok (flood1_ok hI 10 (by omega)).1 i).2 0 (by omega)).trans (((flood1_ok hI 10 (by omega)).2 0 (by omega)).trans hI.1.1)
    refine g_iload_n (pc := 23) F dX5_floods_23 rfl ?_
    refine g_aload_n (pc := 24) F dX5_floods_24 rfl ?_
    refine g_iconst (pc := 25) F dX5_floods_25 (v := nI 0) rfl ?_
    refine g_iald2 (pc := 26) F dX5_floods_26 rfl rfl (by first | omega | (simp only [ix]; omega)) (by decide) ?_
    refine g_icN_ge (pc := 27) F dX5_floods_27 (tgt := 44) rfl rfl ei (by omega) (by omega) (fun c_27 => ?_) (fun c_27 => ?_)
    · have hi9 : i = many r := by omega
      subst hi9
      exact g_vret (pc := 44) F X0 dX5_floods_44 (Nat.le_of_ble_eq_true rfl) (Nat.le_of_ble_eq_true rfl) rfl ⟨rfl, rfl⟩
    · refine g_aload_n (pc := 30) F dX5_floods_30 rfl ?_
      refine g_iload_n (pc := 31) F dX5_floods_31 rfl ?_
      refine g_iconst (pc := 32) F dX5_floods_32 (v := nI 4) rfl ?_
      refine h_readS (pc := 33) F (c_of _ _) mi_X5_of ks_X5_47 dX5_floods_33 [] rfl (by decide) (by decide) rfl rfl (Nat.le_of_ble_eq_true rfl) trivial (by decide) (by decide) ?_
      refine g_iconst (pc := 36) F dX5_floods_36 (v := nI 0) rfl ?_
      refine g_iast2 (pc := 37) F dX5_floods_37 rfl rfl (by first | omega | (simp only [ix]; omega)) (by decide) ?_
      refine g_iincN (pc := 38) F dX5_floods_38 rfl (by decide) ?_
      refine g_goto (pc := 41) F dX5_floods_41 (tgt := 23) rfl ?_
      exact ih c_27)
  have L1 : ∀ i, i ≤ 10 → Go K 0 0 2 [(0, .ref 0), (1, .int (nI i))] [] (A1 (it (fun d r => upd r (15 + d) (nI 0)) i r)) := loop_up (P := fun i => Go K 0 0 2 [(0, .ref 0), (1, .int (nI i))] [] (A1 (it (fun d r => upd r (15 + d) (nI 0)) i r))) (fun i hi ih => by
    refine g_iload_n (pc := 2) F dX5_floods_2 rfl ?_
    refine g_bipush (pc := 3) F dX5_floods_3 (v := nI 10) rfl ?_
    refine g_icN_ge (pc := 5) F dX5_floods_5 (tgt := 21) rfl rfl rfl (by omega) (by omega) (fun c_5 => ?_) (fun c_5 => ?_)
    · have hi9 : i = 10 := by omega
      subst hi9
      refine g_iconst (pc := 21) F dX5_floods_21 (v := nI 0) rfl ?_
      refine g_istore_n (pc := 22) F dX5_floods_22 (by decide) ?_
      exact L2 0 (Nat.zero_le _)
    · refine g_aload_n (pc := 8) F dX5_floods_8 rfl ?_
      refine g_bipush (pc := 9) F dX5_floods_9 (v := nI 15) rfl ?_
      refine g_iload_n (pc := 11) F dX5_floods_11 rfl ?_
      refine g_iaddN (pc := 12) F dX5_floods_12 ?_
      refine g_iconst (pc := 13) F dX5_floods_13 (v := nI 0) rfl ?_
      refine g_iast2 (pc := 14) F dX5_floods_14 rfl rfl (by first | omega | (simp only [ix]; omega)) (by decide) ?_
      refine g_iincN (pc := 15) F dX5_floods_15 rfl (by decide) ?_
      refine g_goto (pc := 18) F dX5_floods_18 (tgt := 2) rfl ?_
      exact ih c_5)
  show Go K 0 0 0 [(0, .ref 0)] [] (A1 r)
  refine g_iconst (pc := 0) F dX5_floods_0 (v := nI 0) rfl ?_
  refine g_istore_n (pc := 1) F dX5_floods_1 (by decide) ?_
  exact L1 0 (Nat.zero_le _)

