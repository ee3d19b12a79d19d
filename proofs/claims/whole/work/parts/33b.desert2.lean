/-! the class's deserts: the rest -/
def fillF (f : Nat → Int32) (v : Int32) (i : Nat) : Nat → Int32 := fun j => if j < i then v else f j
theorem fillF_0 (f : Nat → Int32) (v : Int32) : fillF f v 0 = f := funext fun j => if_neg (Nat.not_lt_zero j)
theorem fillF_s (f : Nat → Int32) (v : Int32) (i : Nat) : upd (fillF f v i) i v = fillF f v (i + 1) := by
  funext j
  unfold upd fillF
  by_cases q : j = i
  · rw [if_pos q, if_pos (by omega)]
  · rw [if_neg q]
    by_cases q2 : j < i
    · rw [if_pos q2, if_pos (by omega)]
    · rw [if_neg q2, if_neg (by omega)]
theorem fillF_in {f : Nat → Int32} {v : Int32} {n d : Nat} (h : d < n) : fillF f v n d = v := if_pos h
theorem cpyF_in {f g : Nat → Int32} {n d : Nat} (hn : n < 2 ^ 31) (h : d < n) : va_cpy f g (nI 0).toNatClampNeg (nI 0).toNatClampNeg (nI n).toNatClampNeg d = f d := by
  rw [nI_clamp hn, nI_clamp (by omega), pk_cpy_in (by omega) (by omega)]
  exact congrArg f (by omega)
set_option maxRecDepth 100000 in
set_option maxHeartbeats 4000000 in
theorem c_fill (f : Nat → Int32) (v : Int32) (n : Nat) (hn : n < 2 ^ 31) : Ctr yJ7_fill_53178 cJ7_fill_53178 4 none 0 0 0 [.ref 0, .int v] ([.inl (.int, n, .inl f)]) (fun v2 h => v2 = none ∧ h = [.inl (.int, n, .inl (fillF f v n))]) := by
  refine Ctr.of rfl (Nat.le_of_ble_eq_true rfl) ⟨clS_of rfl, clH_of rfl⟩ (fun K F X0 => ?_)
  have L : ∀ i, i ≤ n → Go K 0 0 5 [(0, .ref 0), (1, .int v), (2, .int (nI i)), (3, .int (nI n))] [] [.inl (.int, n, .inl (fillF f v i))] := loop_up (P := fun i => Go K 0 0 5 [(0, .ref 0), (1, .int v), (2, .int (nI i)), (3, .int (nI n))] [] [.inl (.int, n, .inl (fillF f v i))]) (fun i hi ih => by
    refine g_iload_n (pc := 5) F dJ7_fill_53178_5 rfl ?_
    refine g_iload_n (pc := 6) F dJ7_fill_53178_6 rfl ?_
    refine g_icN_ge (pc := 7) F dJ7_fill_53178_7 (tgt := 20) rfl rfl rfl (by omega) (by omega) (fun c_7 => ?_) (fun c_7 => ?_)
    · obtain rfl : i = n := by omega
      exact g_vret (pc := 20) F X0 dJ7_fill_53178_20 (Nat.le_of_ble_eq_true rfl) (Nat.le_of_ble_eq_true rfl) rfl ⟨rfl, rfl⟩
    · refine g_aload_n (pc := 10) F dJ7_fill_53178_10 rfl ?_
      refine g_iload_n (pc := 11) F dJ7_fill_53178_11 rfl ?_
      refine g_iload_n (pc := 12) F dJ7_fill_53178_12 rfl ?_
      refine g_iast2 (pc := 13) F dJ7_fill_53178_13 rfl rfl c_7 hn ?_
      refine g_iincN (pc := 14) F dJ7_fill_53178_14 rfl (by decide) ?_
      refine g_goto (pc := 17) F dJ7_fill_53178_17 (tgt := 5) rfl ?_
      exact (congrArg (fun z => Go K 0 0 5 [(0, .ref 0), (1, .int v), (2, .int (nI (i + 1))), (3, .int (nI n))] [] [.inl (.int, n, .inl z)]) ((fillF_s f v i).symm)).mp (ih c_7))
  show Go K 0 0 0 [(0, .ref 0), (1, .int v)] [] ([.inl (.int, n, .inl f)])
  refine g_iconst (pc := 0) F dJ7_fill_53178_0 (v := nI 0) rfl ?_
  refine g_istore_n (pc := 1) F dJ7_fill_53178_1 (by decide) ?_
  refine g_aload_n (pc := 2) F dJ7_fill_53178_2 rfl ?_
  refine g_alen (pc := 3) F dJ7_fill_53178_3 rfl (v := (nI n)) rfl ?_
  refine g_istore_n (pc := 4) F dJ7_fill_53178_4 (by decide) ?_
  exact (congrArg (fun z => Go K 0 0 5 [(0, .ref 0), (1, .int v), (2, .int (nI 0)), (3, .int (nI n))] [] [.inl (.int, n, .inl z)]) (fillF_0 f v)).mp (L 0 (Nat.zero_le _))

set_option maxRecDepth 100000 in
set_option maxHeartbeats 4000000 in
theorem c_hasRoom (b : Int32) (X : DX) (r : Nat → Int32) (hR : Rel b X r) (hI : Iv r) : RCtr yX0_hasRoom cX0_hasRoom 1 (some .boolean) 0 [.ref 0] (dW 0 X) (.int (bI (decide (many r < 6)))) := by
  have hm6 := hI.1.2
  refine Ctr.of rfl (Nat.le_of_ble_eq_true rfl) ⟨clS_of rfl, clH_of rfl⟩ (fun K F X0 => ?_)
  show Go K 0 0 0 [(0, .ref 0)] [] (dW 0 X)
  refine g_aload_n (pc := 0) F dX0_hasRoom_0 rfl ?_
  refine g_getf (pc := 1) F fl_X0_33 dX0_hasRoom_1 rfl rfl ?_
  refine g_bipush (pc := 4) F dX0_hasRoom_4 (v := nI 6) rfl ?_
  refine g_icN_ge (pc := 6) F dX0_hasRoom_6 (tgt := 13) rfl (hR.1.1.trans hI.1.1) rfl (by omega) (by omega) (fun c_6 => ?_) (fun c_6 => ?_)
  · refine g_iconst (pc := 13) F dX0_hasRoom_13 (v := nI 0) rfl ?_
    exact g_zret (pc := 14) F X0 dX0_hasRoom_14 (by first | exact bI_nar _ | rfl) (Nat.le_of_ble_eq_true rfl) (Nat.le_of_ble_eq_true rfl) rfl ⟨congrArg (fun z => some (Value.int z)) (by first | (rw [decide_eq_true c_6]; rfl) | (rw [decide_eq_false (by omega)]; rfl)), rfl⟩
  · refine g_iconst (pc := 9) F dX0_hasRoom_9 (v := nI 1) rfl ?_
    refine g_goto (pc := 10) F dX0_hasRoom_10 (tgt := 14) rfl ?_
    exact g_zret (pc := 14) F X0 dX0_hasRoom_14 (by first | exact bI_nar _ | rfl) (Nat.le_of_ble_eq_true rfl) (Nat.le_of_ble_eq_true rfl) rfl ⟨congrArg (fun z => some (Value.int z)) (by first | (rw [decide_eq_true c_6]; rfl) | (rw [decide_eq_false (by omega)]; rfl)), rfl⟩

set_option maxRecDepth 100000 in
set_option maxHeartbeats 4000000 in
theorem c_refill (b : Int32) (X : DX) (r : Nat → Int32) (x v : Int32) (d : Nat) (hR : Rel b X r) (hx : x = nI d) (hd : d < 10) : Ctr yX0_refill cX0_refill 3 none 0 0 0 [.ref 0, .int x, .int v] (dW 0 X) (fun v2 h => v2 = none ∧ ∃ X2, h = dW 0 X2 ∧ Rel b X2 (fillR r d v)) := by
  subst hx
  refine Ctr.of rfl (Nat.le_of_ble_eq_true rfl) ⟨clS_of rfl, clH_of rfl⟩ (fun K F X0 => ?_)
  show Go K 0 0 0 [(0, .ref 0), (1, .int (nI d)), (2, .int v)] [] (dW 0 X)
  refine g_aload_n (pc := 0) F dX0_refill_0 rfl ?_
  refine g_getf (pc := 1) F fl_X0_9 dX0_refill_1 rfl rfl ?_
  refine g_iload_n (pc := 4) F dX0_refill_4 rfl ?_
  refine g_iload_n (pc := 5) F dX0_refill_5 rfl ?_
  refine g_iast2 (pc := 6) F dX0_refill_6 rfl rfl (by first | omega | (simp only [ix]; omega)) (by decide) ?_
  refine g_aload_n (pc := 7) F dX0_refill_7 rfl ?_
  refine g_getf (pc := 8) F fl_X0_15 dX0_refill_8 rfl rfl ?_
  refine g_iload_n (pc := 11) F dX0_refill_11 rfl ?_
  refine g_iconst (pc := 12) F dX0_refill_12 (v := nI 0) rfl ?_
  refine g_iast2 (pc := 13) F dX0_refill_13 rfl rfl (by first | omega | (simp only [ix]; omega)) (by decide) ?_
  exact g_vret (pc := 14) F X0 dX0_refill_14 (Nat.le_of_ble_eq_true rfl) (Nat.le_of_ble_eq_true rfl) rfl ⟨rfl, sD (sG X (upd (dG X) d v)) (upd (dD X) d (nI 0)), rfl, Rel_fill hR hd⟩

set_option maxRecDepth 100000 in
set_option maxHeartbeats 4000000 in
theorem c_turnRest (b : Int32) (X : DX) (r : Nat → Int32) (x : Int32) (c : Nat) (hR : Rel b X r) (hI : Iv r) (hx : x = nI c) (hc : c < many r) (h4 : r 4 = nI 0) : Ctr yX0_turnRest cX0_turnRest 2 none 0 0 0 [.ref 0, .int x] (dW 0 X) (fun v2 h => v2 = none ∧ ∃ X2, h = dW 0 X2 ∧ Rel b X2 (turnR r c)) := by
  subst hx
  refine Ctr.of rfl (Nat.le_of_ble_eq_true rfl) ⟨clS_of rfl, clH_of rfl⟩ (fun K F X0 => ?_)
  show Go K 0 0 0 [(0, .ref 0), (1, .int (nI c))] [] (dW 0 X)
  refine g_aload_n (pc := 0) F dX0_turnRest_0 rfl ?_
  refine g_dup (pc := 1) F dX0_turnRest_1 rfl ?_
  refine g_getf (pc := 2) F fl_X0_37 dX0_turnRest_2 rfl rfl ?_
  refine g_iconst (pc := 5) F dX0_turnRest_5 (v := nI 1) rfl ?_
  refine g_iload_n (pc := 6) F dX0_turnRest_6 rfl ?_
  refine g_ishl (pc := 7) F dX0_turnRest_7 ?_
  refine g_ixor (pc := 8) F dX0_turnRest_8 ?_
  refine g_putf (pc := 9) F fl_X0_37 dX0_turnRest_9 rfl (Nat.le_of_ble_eq_true rfl) ?_
  exact g_vret (pc := 12) F X0 dX0_turnRest_12 (Nat.le_of_ble_eq_true rfl) (Nat.le_of_ble_eq_true rfl) rfl ⟨rfl, sR X (dR X ^^^ (nI 1 <<< (nI c &&& 31))), rfl, Rel_turn hR hI hc h4⟩

set_option maxRecDepth 100000 in
set_option maxHeartbeats 4000000 in
theorem c_setBack (b : Int32) (X : DX) (r : Nat → Int32) (hR : Rel b X r) (hI : Iv r) : Ctr yX0_setBack cX0_setBack 1 none 1 0 0 [.ref 0] (dW 0 X) (fun v2 h => v2 = none ∧ ∃ X2, h = dW 0 X2 ∧ Rel b X2 (floodR r)) := by
  refine Ctr.of rfl (Nat.le_of_ble_eq_true rfl) ⟨clS_of rfl, clH_of rfl⟩ (fun K F X0 => ?_)
  show Go K 0 0 0 [(0, .ref 0)] [] (dW 0 X)
  refine g_aload_n (pc := 0) F dX0_setBack_0 rfl ?_
  refine g_getf (pc := 1) F fl_X0_15 dX0_setBack_1 rfl rfl ?_
  refine g_iconst (pc := 4) F dX0_setBack_4 (v := nI 0) rfl ?_
  refine h_callS (pc := 5) F (c_fill (dD X) (nI 0) 10 (by decide)) mi_J7_fill_53178 ks_X0_52 dX0_setBack_5 [2] rfl (by decide) (by decide) rfl rfl (Nat.le_of_ble_eq_true rfl) (by decide) (by decide) ?_
  rintro _ _ ⟨rfl, rfl⟩ -
  refine g_aload_n (pc := 8) F dX0_setBack_8 rfl ?_
  refine g_getf (pc := 9) F fl_X0_30 dX0_setBack_9 rfl rfl ?_
  refine g_iconst (pc := 12) F dX0_setBack_12 (v := nI 0) rfl ?_
  refine h_callS (pc := 13) F (c_fill (dB X) (nI 0) 6 (by decide)) mi_J7_fill_53178 ks_X0_52 dX0_setBack_13 [7] rfl (by decide) (by decide) rfl rfl (Nat.le_of_ble_eq_true rfl) (by decide) (by decide) ?_
  rintro _ _ ⟨rfl, rfl⟩ -
  exact g_vret (pc := 16) F X0 dX0_setBack_16 (Nat.le_of_ble_eq_true rfl) (Nat.le_of_ble_eq_true rfl) rfl ⟨rfl, sB (sD X (fillF (dD X) (nI 0) 10)) (fillF (dB X) (nI 0) 6), rfl, Rel_flood hR ⟨rfl, rfl, rfl, rfl, rfl, rfl⟩ (fun d hd => fillF_in hd) (fun c hc => fillF_in hc) hI.1.2⟩

set_option maxRecDepth 100000 in
set_option maxHeartbeats 4000000 in
theorem c_takesIn (b : Int32) (X : DX) (r : Nat → Int32) (k f d y : Int32) (hR : Rel b X r) (hI : Iv r) (h6 : many r < 6) : Ctr yX0_takesIn cX0_takesIn 5 none 1 0 0 [.ref 0, .int k, .int f, .int d, .int y] (dW 0 X) (fun v2 h => v2 = none ∧ ∃ X2, h = dW 0 X2 ∧ Rel b X2 (addR r k f d y)) := by
  have eN : dN X = nI (many r) := hR.1.1.trans hI.1.1
  refine Ctr.of rfl (Nat.le_of_ble_eq_true rfl) ⟨clS_of rfl, clH_of rfl⟩ (fun K F X0 => ?_)
  show Go K 0 0 0 [(0, .ref 0), (1, .int k), (2, .int f), (3, .int d), (4, .int y)] [] (dW 0 X)
  refine g_aload_n (pc := 0) F dX0_takesIn_0 rfl ?_
  refine h_readV (pc := 1) F (c_hasRoom b X r hR hI) mi_X0_hasRoom kv_X0_64 rfl rfl dX0_takesIn_1 [0, 1, 2, 3, 4, 5, 6, 7] rfl (by decide) (by decide) rfl rfl (Nat.le_of_ble_eq_true rfl) trivial (by decide) (by decide) ?_
  refine g_ifne_d (pc := 4) F dX0_takesIn_4 (tgt := 8) rfl (fun c_4 => ?_) (fun c_4 => absurd h6 c_4)
  refine g_aload_n (pc := 8) F dX0_takesIn_8 rfl ?_
  refine g_getf (pc := 9) F fl_X0_18 dX0_takesIn_9 rfl rfl ?_
  refine g_aload_n (pc := 12) F dX0_takesIn_12 rfl ?_
  refine g_getf (pc := 13) F fl_X0_33 dX0_takesIn_13 rfl rfl ?_
  refine g_iload_n (pc := 16) F dX0_takesIn_16 rfl ?_
  refine g_iast2 (pc := 17) F dX0_takesIn_17 rfl eN (by first | omega | (simp only [ix]; omega)) (by decide) ?_
  refine g_aload_n (pc := 18) F dX0_takesIn_18 rfl ?_
  refine g_getf (pc := 19) F fl_X0_21 dX0_takesIn_19 rfl rfl ?_
  refine g_aload_n (pc := 22) F dX0_takesIn_22 rfl ?_
  refine g_getf (pc := 23) F fl_X0_33 dX0_takesIn_23 rfl rfl ?_
  refine g_iload_n (pc := 26) F dX0_takesIn_26 rfl ?_
  refine g_iast2 (pc := 27) F dX0_takesIn_27 rfl eN (by first | omega | (simp only [ix]; omega)) (by decide) ?_
  refine g_aload_n (pc := 28) F dX0_takesIn_28 rfl ?_
  refine g_getf (pc := 29) F fl_X0_24 dX0_takesIn_29 rfl rfl ?_
  refine g_aload_n (pc := 32) F dX0_takesIn_32 rfl ?_
  refine g_getf (pc := 33) F fl_X0_33 dX0_takesIn_33 rfl rfl ?_
  refine g_iload_n (pc := 36) F dX0_takesIn_36 rfl ?_
  refine g_iast2 (pc := 37) F dX0_takesIn_37 rfl eN (by first | omega | (simp only [ix]; omega)) (by decide) ?_
  refine g_aload_n (pc := 38) F dX0_takesIn_38 rfl ?_
  refine g_getf (pc := 39) F fl_X0_27 dX0_takesIn_39 rfl rfl ?_
  refine g_aload_n (pc := 42) F dX0_takesIn_42 rfl ?_
  refine g_getf (pc := 43) F fl_X0_33 dX0_takesIn_43 rfl rfl ?_
  refine g_iload (pc := 46) F dX0_takesIn_46 rfl ?_
  refine g_iast2 (pc := 48) F dX0_takesIn_48 rfl eN (by first | omega | (simp only [ix]; omega)) (by decide) ?_
  refine g_aload_n (pc := 49) F dX0_takesIn_49 rfl ?_
  refine g_getf (pc := 50) F fl_X0_30 dX0_takesIn_50 rfl rfl ?_
  refine g_aload_n (pc := 53) F dX0_takesIn_53 rfl ?_
  refine g_getf (pc := 54) F fl_X0_33 dX0_takesIn_54 rfl rfl ?_
  refine g_iconst (pc := 57) F dX0_takesIn_57 (v := nI 0) rfl ?_
  refine g_iast2 (pc := 58) F dX0_takesIn_58 rfl eN (by first | omega | (simp only [ix]; omega)) (by decide) ?_
  refine g_aload_n (pc := 59) F dX0_takesIn_59 rfl ?_
  refine g_dup (pc := 60) F dX0_takesIn_60 rfl ?_
  refine g_getf (pc := 61) F fl_X0_33 dX0_takesIn_61 rfl rfl ?_
  refine g_iconst (pc := 64) F dX0_takesIn_64 (v := nI 1) rfl ?_
  refine g_iadd (pc := 65) F dX0_takesIn_65 ?_
  refine g_putf (pc := 66) F fl_X0_33 dX0_takesIn_66 rfl (Nat.le_of_ble_eq_true rfl) ?_
  exact g_vret (pc := 69) F X0 dX0_takesIn_69 (Nat.le_of_ble_eq_true rfl) (Nat.le_of_ble_eq_true rfl) rfl ⟨rfl, sN (sB (sY (sA (sF (sK X (upd (dK X) (many r) k)) (upd (dF X) (many r) f)) (upd (dA X) (many r) d)) (upd (dY X) (many r) y)) (upd (dB X) (many r) (nI 0))) (dN X + nI 1), rfl, Rel_add hR hI h6⟩

set_option maxRecDepth 100000 in
set_option maxHeartbeats 4000000 in
theorem c_allGrains (b : Int32) (X : DX) (r : Nat → Int32) (hR : Rel b X r) : RCtr yX0_allGrains cX0_allGrains 3 (some .int) 0 [.ref 0] (dW 0 X) (.int (sumR r 5)) := by
  refine Ctr.of rfl (Nat.le_of_ble_eq_true rfl) ⟨clS_of rfl, clH_of rfl⟩ (fun K F X0 => ?_)
  have L : ∀ i, i ≤ 10 → Go K 0 0 4 [(0, .ref 0), (1, .int (it (fun d v => v + r (5 + d)) i (nI 0))), (2, .int (nI i))] [] (dW 0 X) := loop_up (P := fun i => Go K 0 0 4 [(0, .ref 0), (1, .int (it (fun d v => v + r (5 + d)) i (nI 0))), (2, .int (nI i))] [] (dW 0 X)) (fun i hi ih => by
    refine g_iload_n (pc := 4) F dX0_allGrains_4 rfl ?_
    refine g_bipush (pc := 5) F dX0_allGrains_5 (v := nI 10) rfl ?_
    refine g_icN_ge (pc := 7) F dX0_allGrains_7 (tgt := 25) rfl rfl rfl (by omega) (by omega) (fun c_7 => ?_) (fun c_7 => ?_)
    · obtain rfl : i = 10 := by omega
      refine g_iload_n (pc := 25) F dX0_allGrains_25 rfl ?_
      exact g_iret (pc := 26) F X0 dX0_allGrains_26 (Nat.le_of_ble_eq_true rfl) (Nat.le_of_ble_eq_true rfl) rfl ⟨rfl, rfl⟩
    · refine g_iload_n (pc := 10) F dX0_allGrains_10 rfl ?_
      refine g_aload_n (pc := 11) F dX0_allGrains_11 rfl ?_
      refine g_getf (pc := 12) F fl_X0_9 dX0_allGrains_12 rfl rfl ?_
      refine g_iload_n (pc := 15) F dX0_allGrains_15 rfl ?_
      refine g_iald2 (pc := 16) F dX0_allGrains_16 rfl rfl (by first | omega | (simp only [ix]; omega)) (by decide) ?_
      rw [(hR.2.2.1 i (by omega)).1]
      refine g_iadd (pc := 17) F dX0_allGrains_17 ?_
      refine g_istore_n (pc := 18) F dX0_allGrains_18 (by decide) ?_
      refine g_iincN (pc := 19) F dX0_allGrains_19 rfl (by decide) ?_
      refine g_goto (pc := 22) F dX0_allGrains_22 (tgt := 4) rfl ?_
      exact (congrArg (fun z => Go K 0 0 4 [(0, .ref 0), (1, .int z), (2, .int (nI (i + 1)))] [] (dW 0 X)) (it_succ (fun d v => v + r (5 + d)) i (nI 0))).mp (ih c_7))
  show Go K 0 0 0 [(0, .ref 0)] [] (dW 0 X)
  refine g_iconst (pc := 0) F dX0_allGrains_0 (v := nI 0) rfl ?_
  refine g_istore_n (pc := 1) F dX0_allGrains_1 (by decide) ?_
  refine g_iconst (pc := 2) F dX0_allGrains_2 (v := nI 0) rfl ?_
  refine g_istore_n (pc := 3) F dX0_allGrains_3 (by decide) ?_
  exact L 0 (Nat.zero_le _)

set_option maxRecDepth 100000 in
set_option maxHeartbeats 4000000 in
theorem c_allDone (b : Int32) (X : DX) (r : Nat → Int32) (hR : Rel b X r) : RCtr yX0_allDone cX0_allDone 3 (some .int) 0 [.ref 0] (dW 0 X) (.int (sumR r 15)) := by
  refine Ctr.of rfl (Nat.le_of_ble_eq_true rfl) ⟨clS_of rfl, clH_of rfl⟩ (fun K F X0 => ?_)
  have L : ∀ i, i ≤ 10 → Go K 0 0 4 [(0, .ref 0), (1, .int (it (fun d v => v + r (15 + d)) i (nI 0))), (2, .int (nI i))] [] (dW 0 X) := loop_up (P := fun i => Go K 0 0 4 [(0, .ref 0), (1, .int (it (fun d v => v + r (15 + d)) i (nI 0))), (2, .int (nI i))] [] (dW 0 X)) (fun i hi ih => by
    refine g_iload_n (pc := 4) F dX0_allDone_4 rfl ?_
    refine g_bipush (pc := 5) F dX0_allDone_5 (v := nI 10) rfl ?_
    refine g_icN_ge (pc := 7) F dX0_allDone_7 (tgt := 25) rfl rfl rfl (by omega) (by omega) (fun c_7 => ?_) (fun c_7 => ?_)
    · obtain rfl : i = 10 := by omega
      refine g_iload_n (pc := 25) F dX0_allDone_25 rfl ?_
      exact g_iret (pc := 26) F X0 dX0_allDone_26 (Nat.le_of_ble_eq_true rfl) (Nat.le_of_ble_eq_true rfl) rfl ⟨rfl, rfl⟩
    · refine g_iload_n (pc := 10) F dX0_allDone_10 rfl ?_
      refine g_aload_n (pc := 11) F dX0_allDone_11 rfl ?_
      refine g_getf (pc := 12) F fl_X0_15 dX0_allDone_12 rfl rfl ?_
      refine g_iload_n (pc := 15) F dX0_allDone_15 rfl ?_
      refine g_iald2 (pc := 16) F dX0_allDone_16 rfl rfl (by first | omega | (simp only [ix]; omega)) (by decide) ?_
      rw [(hR.2.2.1 i (by omega)).2]
      refine g_iadd (pc := 17) F dX0_allDone_17 ?_
      refine g_istore_n (pc := 18) F dX0_allDone_18 (by decide) ?_
      refine g_iincN (pc := 19) F dX0_allDone_19 rfl (by decide) ?_
      refine g_goto (pc := 22) F dX0_allDone_22 (tgt := 4) rfl ?_
      exact (congrArg (fun z => Go K 0 0 4 [(0, .ref 0), (1, .int z), (2, .int (nI (i + 1)))] [] (dW 0 X)) (it_succ (fun d v => v + r (15 + d)) i (nI 0))).mp (ih c_7))
  show Go K 0 0 0 [(0, .ref 0)] [] (dW 0 X)
  refine g_iconst (pc := 0) F dX0_allDone_0 (v := nI 0) rfl ?_
  refine g_istore_n (pc := 1) F dX0_allDone_1 (by decide) ?_
  refine g_iconst (pc := 2) F dX0_allDone_2 (v := nI 0) rfl ?_
  refine g_istore_n (pc := 3) F dX0_allDone_3 (by decide) ?_
  exact L 0 (Nat.zero_le _)

set_option maxRecDepth 100000 in
set_option maxHeartbeats 4000000 in
theorem c_allBooks (b : Int32) (X : DX) (r : Nat → Int32) (hR : Rel b X r) (hI : Iv r) : RCtr yX0_allBooks cX0_allBooks 3 (some .int) 0 [.ref 0] (dW 0 X) (.int (booksR r (-1))) := by
  have hm6 := hI.1.2
  refine Ctr.of rfl (Nat.le_of_ble_eq_true rfl) ⟨clS_of rfl, clH_of rfl⟩ (fun K F X0 => ?_)
  have L : ∀ i, i ≤ many r → Go K 0 0 4 [(0, .ref 0), (1, .int (it (fun c v => v + (if (-1 : Int32) < 0 ∨ r (ix c 3) = (-1 : Int32) then r (ix c 4) else nI 0)) i (nI 0))), (2, .int (nI i))] [] (dW 0 X) := loop_up (P := fun i => Go K 0 0 4 [(0, .ref 0), (1, .int (it (fun c v => v + (if (-1 : Int32) < 0 ∨ r (ix c 3) = (-1 : Int32) then r (ix c 4) else nI 0)) i (nI 0))), (2, .int (nI i))] [] (dW 0 X)) (fun i hi ih => by
    refine g_iload_n (pc := 4) F dX0_allBooks_4 rfl ?_
    refine g_aload_n (pc := 5) F dX0_allBooks_5 rfl ?_
    refine g_getf (pc := 6) F fl_X0_33 dX0_allBooks_6 rfl rfl ?_
    refine g_icN_ge (pc := 9) F dX0_allBooks_9 (tgt := 27) rfl rfl (hR.1.1.trans hI.1.1) (by omega) (by omega) (fun c_9 => ?_) (fun c_9 => ?_)
    · obtain rfl : i = many r := by omega
      refine g_iload_n (pc := 27) F dX0_allBooks_27 rfl ?_
      exact g_iret (pc := 28) F X0 dX0_allBooks_28 (Nat.le_of_ble_eq_true rfl) (Nat.le_of_ble_eq_true rfl) rfl ⟨rfl, rfl⟩
    · refine g_iload_n (pc := 12) F dX0_allBooks_12 rfl ?_
      refine g_aload_n (pc := 13) F dX0_allBooks_13 rfl ?_
      refine g_getf (pc := 14) F fl_X0_30 dX0_allBooks_14 rfl rfl ?_
      refine g_iload_n (pc := 17) F dX0_allBooks_17 rfl ?_
      refine g_iald2 (pc := 18) F dX0_allBooks_18 rfl rfl (by first | omega | (simp only [ix]; omega)) (by decide) ?_
      rw [(hR.2.2.2 i c_9).2.2.2.2]
      refine g_iadd (pc := 19) F dX0_allBooks_19 ?_
      refine g_istore_n (pc := 20) F dX0_allBooks_20 (by decide) ?_
      refine g_iincN (pc := 21) F dX0_allBooks_21 rfl (by decide) ?_
      refine g_goto (pc := 24) F dX0_allBooks_24 (tgt := 4) rfl ?_
      exact (congrArg (fun z => Go K 0 0 4 [(0, .ref 0), (1, .int z), (2, .int (nI (i + 1)))] [] (dW 0 X)) ((it_succ (fun c v => v + (if (-1 : Int32) < 0 ∨ r (ix c 3) = (-1 : Int32) then r (ix c 4) else nI 0)) i (nI 0)).trans (congrArg (fun z => it (fun c v => v + (if (-1 : Int32) < 0 ∨ r (ix c 3) = (-1 : Int32) then r (ix c 4) else nI 0)) i (nI 0) + z) (if_pos (Or.inl (by decide)))))).mp (ih c_9))
  show Go K 0 0 0 [(0, .ref 0)] [] (dW 0 X)
  refine g_iconst (pc := 0) F dX0_allBooks_0 (v := nI 0) rfl ?_
  refine g_istore_n (pc := 1) F dX0_allBooks_1 (by decide) ?_
  refine g_iconst (pc := 2) F dX0_allBooks_2 (v := nI 0) rfl ?_
  refine g_istore_n (pc := 3) F dX0_allBooks_3 (by decide) ?_
  exact L 0 (Nat.zero_le _)

set_option maxRecDepth 100000 in
set_option maxHeartbeats 4000000 in
theorem c_doneDips (b : Int32) (X : DX) (r : Nat → Int32) (hR : Rel b X r) : RCtr yX0_doneDips cX0_doneDips 3 (some .int) 1 [.ref 0] (dW 0 X) (.int (doneR r)) := by
  refine Ctr.of rfl (Nat.le_of_ble_eq_true rfl) ⟨clS_of rfl, clH_of rfl⟩ (fun K F X0 => ?_)
  have L : ∀ i, i ≤ 10 → Go K 0 0 4 [(0, .ref 0), (1, .int (it (fun d s => s ||| (if lf r d = 0 then nI 1 <<< (nI d &&& 31) else nI 0)) i (nI 0))), (2, .int (nI i))] [] (dW 0 X) := loop_up (P := fun i => Go K 0 0 4 [(0, .ref 0), (1, .int (it (fun d s => s ||| (if lf r d = 0 then nI 1 <<< (nI d &&& 31) else nI 0)) i (nI 0))), (2, .int (nI i))] [] (dW 0 X)) (fun i hi ih => by
    refine g_iload_n (pc := 4) F dX0_doneDips_4 rfl ?_
    refine g_bipush (pc := 5) F dX0_doneDips_5 (v := nI 10) rfl ?_
    refine g_icN_ge (pc := 7) F dX0_doneDips_7 (tgt := 34) rfl rfl rfl (by omega) (by omega) (fun c_7 => ?_) (fun c_7 => ?_)
    · obtain rfl : i = 10 := by omega
      refine g_iload_n (pc := 34) F dX0_doneDips_34 rfl ?_
      exact g_iret (pc := 35) F X0 dX0_doneDips_35 (Nat.le_of_ble_eq_true rfl) (Nat.le_of_ble_eq_true rfl) rfl ⟨rfl, rfl⟩
    · have e0 : lf r i = 0 ↔ dD X i = dG X i := by rw [(hR.2.2.1 i c_7).1, (hR.2.2.1 i c_7).2]; exact sub_0.symm
      refine g_iload_n (pc := 10) F dX0_doneDips_10 rfl ?_
      refine g_aload_n (pc := 11) F dX0_doneDips_11 rfl ?_
      refine g_iload_n (pc := 12) F dX0_doneDips_12 rfl ?_
      refine h_readV (pc := 13) F (c_isDone X _ i rfl (by omega)) mi_X0_isDone kv_X0_68 rfl rfl dX0_doneDips_13 [0, 1, 2, 3, 4, 5, 6, 7] rfl (by decide) (by decide) rfl rfl (Nat.le_of_ble_eq_true rfl) trivial (by decide) (by decide) ?_
      refine g_ifeq_d (pc := 16) F dX0_doneDips_16 (tgt := 25) rfl (fun c_16 => ?_) (fun c_16 => ?_)
      · refine g_iconst (pc := 25) F dX0_doneDips_25 (v := nI 0) rfl ?_
        refine g_ior (pc := 26) F dX0_doneDips_26 ?_
        refine g_istore_n (pc := 27) F dX0_doneDips_27 (by decide) ?_
        refine g_iincN (pc := 28) F dX0_doneDips_28 rfl (by decide) ?_
        refine g_goto (pc := 31) F dX0_doneDips_31 (tgt := 4) rfl ?_
        first
          | exact (congrArg (fun z => Go K 0 0 4 [(0, .ref 0), (1, .int z), (2, .int (nI (i + 1)))] [] (dW 0 X)) ((it_succ (fun d s => s ||| (if lf r d = 0 then nI 1 <<< (nI d &&& 31) else nI 0)) i (nI 0)).trans (congrArg (fun z => it (fun d s => s ||| (if lf r d = 0 then nI 1 <<< (nI d &&& 31) else nI 0)) i (nI 0) ||| z) (if_pos (e0.mpr c_16))))).mp (ih c_7)
          | exact (congrArg (fun z => Go K 0 0 4 [(0, .ref 0), (1, .int z), (2, .int (nI (i + 1)))] [] (dW 0 X)) ((it_succ (fun d s => s ||| (if lf r d = 0 then nI 1 <<< (nI d &&& 31) else nI 0)) i (nI 0)).trans (congrArg (fun z => it (fun d s => s ||| (if lf r d = 0 then nI 1 <<< (nI d &&& 31) else nI 0)) i (nI 0) ||| z) (if_neg (fun h => c_16 (e0.mp h)))))).mp (ih c_7)
      · refine g_iconst (pc := 19) F dX0_doneDips_19 (v := nI 1) rfl ?_
        refine g_iload_n (pc := 20) F dX0_doneDips_20 rfl ?_
        refine g_ishl (pc := 21) F dX0_doneDips_21 ?_
        refine g_goto (pc := 22) F dX0_doneDips_22 (tgt := 26) rfl ?_
        refine g_ior (pc := 26) F dX0_doneDips_26 ?_
        refine g_istore_n (pc := 27) F dX0_doneDips_27 (by decide) ?_
        refine g_iincN (pc := 28) F dX0_doneDips_28 rfl (by decide) ?_
        refine g_goto (pc := 31) F dX0_doneDips_31 (tgt := 4) rfl ?_
        first
          | exact (congrArg (fun z => Go K 0 0 4 [(0, .ref 0), (1, .int z), (2, .int (nI (i + 1)))] [] (dW 0 X)) ((it_succ (fun d s => s ||| (if lf r d = 0 then nI 1 <<< (nI d &&& 31) else nI 0)) i (nI 0)).trans (congrArg (fun z => it (fun d s => s ||| (if lf r d = 0 then nI 1 <<< (nI d &&& 31) else nI 0)) i (nI 0) ||| z) (if_pos (e0.mpr c_16))))).mp (ih c_7)
          | exact (congrArg (fun z => Go K 0 0 4 [(0, .ref 0), (1, .int z), (2, .int (nI (i + 1)))] [] (dW 0 X)) ((it_succ (fun d s => s ||| (if lf r d = 0 then nI 1 <<< (nI d &&& 31) else nI 0)) i (nI 0)).trans (congrArg (fun z => it (fun d s => s ||| (if lf r d = 0 then nI 1 <<< (nI d &&& 31) else nI 0)) i (nI 0) ||| z) (if_neg (fun h => c_16 (e0.mp h)))))).mp (ih c_7))
  show Go K 0 0 0 [(0, .ref 0)] [] (dW 0 X)
  refine g_iconst (pc := 0) F dX0_doneDips_0 (v := nI 0) rfl ?_
  refine g_istore_n (pc := 1) F dX0_doneDips_1 (by decide) ?_
  refine g_iconst (pc := 2) F dX0_doneDips_2 (v := nI 0) rfl ?_
  refine g_istore_n (pc := 3) F dX0_doneDips_3 (by decide) ?_
  exact L 0 (Nat.zero_le _)

set_option maxRecDepth 100000 in
set_option maxHeartbeats 4000000 in
theorem c_whoIsAt (b : Int32) (X : DX) (r : Nat → Int32) (x : Int32) (hR : Rel b X r) (hI : Iv r) : RCtr yX0_whoIsAt cX0_whoIsAt 4 (some .int) 0 [.ref 0, .int x] (dW 0 X) (.int (whoR r x)) := by
  have hm6 := hI.1.2
  refine Ctr.of rfl (Nat.le_of_ble_eq_true rfl) ⟨clS_of rfl, clH_of rfl⟩ (fun K F X0 => ?_)
  have L : ∀ i, i ≤ many r → Go K 0 0 4 [(0, .ref 0), (1, .int x), (2, .int (it (fun c s => s ||| (if r (ix c 2) = x then nI 1 <<< (nI c &&& 31) else nI 0)) i (nI 0))), (3, .int (nI i))] [] (dW 0 X) := loop_up (P := fun i => Go K 0 0 4 [(0, .ref 0), (1, .int x), (2, .int (it (fun c s => s ||| (if r (ix c 2) = x then nI 1 <<< (nI c &&& 31) else nI 0)) i (nI 0))), (3, .int (nI i))] [] (dW 0 X)) (fun i hi ih => by
    refine g_iload_n (pc := 4) F dX0_whoIsAt_4 rfl ?_
    refine g_aload_n (pc := 5) F dX0_whoIsAt_5 rfl ?_
    refine g_getf (pc := 6) F fl_X0_33 dX0_whoIsAt_6 rfl rfl ?_
    refine g_icN_ge (pc := 9) F dX0_whoIsAt_9 (tgt := 38) rfl rfl (hR.1.1.trans hI.1.1) (by omega) (by omega) (fun c_9 => ?_) (fun c_9 => ?_)
    · obtain rfl : i = many r := by omega
      refine g_iload_n (pc := 38) F dX0_whoIsAt_38 rfl ?_
      exact g_iret (pc := 39) F X0 dX0_whoIsAt_39 (Nat.le_of_ble_eq_true rfl) (Nat.le_of_ble_eq_true rfl) rfl ⟨rfl, rfl⟩
    · refine g_iload_n (pc := 12) F dX0_whoIsAt_12 rfl ?_
      refine g_aload_n (pc := 13) F dX0_whoIsAt_13 rfl ?_
      refine g_getf (pc := 14) F fl_X0_24 dX0_whoIsAt_14 rfl rfl ?_
      refine g_iload_n (pc := 17) F dX0_whoIsAt_17 rfl ?_
      refine g_iald2 (pc := 18) F dX0_whoIsAt_18 rfl rfl (by first | omega | (simp only [ix]; omega)) (by decide) ?_
      rw [(hR.2.2.2 i c_9).2.2.1]
      refine g_iload_n (pc := 19) F dX0_whoIsAt_19 rfl ?_
      refine g_ic_ne (pc := 20) F dX0_whoIsAt_20 (tgt := 29) rfl (fun c_20 => ?_) (fun c_20 => ?_)
      · refine g_iconst (pc := 29) F dX0_whoIsAt_29 (v := nI 0) rfl ?_
        refine g_ior (pc := 30) F dX0_whoIsAt_30 ?_
        refine g_istore_n (pc := 31) F dX0_whoIsAt_31 (by decide) ?_
        refine g_iincN (pc := 32) F dX0_whoIsAt_32 rfl (by decide) ?_
        refine g_goto (pc := 35) F dX0_whoIsAt_35 (tgt := 4) rfl ?_
        first
          | exact (congrArg (fun z => Go K 0 0 4 [(0, .ref 0), (1, .int x), (2, .int z), (3, .int (nI (i + 1)))] [] (dW 0 X)) ((it_succ (fun c s => s ||| (if r (ix c 2) = x then nI 1 <<< (nI c &&& 31) else nI 0)) i (nI 0)).trans (congrArg (fun z => it (fun c s => s ||| (if r (ix c 2) = x then nI 1 <<< (nI c &&& 31) else nI 0)) i (nI 0) ||| z) (if_pos c_20)))).mp (ih c_9)
          | exact (congrArg (fun z => Go K 0 0 4 [(0, .ref 0), (1, .int x), (2, .int z), (3, .int (nI (i + 1)))] [] (dW 0 X)) ((it_succ (fun c s => s ||| (if r (ix c 2) = x then nI 1 <<< (nI c &&& 31) else nI 0)) i (nI 0)).trans (congrArg (fun z => it (fun c s => s ||| (if r (ix c 2) = x then nI 1 <<< (nI c &&& 31) else nI 0)) i (nI 0) ||| z) (if_neg c_20)))).mp (ih c_9)
      · refine g_iconst (pc := 23) F dX0_whoIsAt_23 (v := nI 1) rfl ?_
        refine g_iload_n (pc := 24) F dX0_whoIsAt_24 rfl ?_
        refine g_ishl (pc := 25) F dX0_whoIsAt_25 ?_
        refine g_goto (pc := 26) F dX0_whoIsAt_26 (tgt := 30) rfl ?_
        refine g_ior (pc := 30) F dX0_whoIsAt_30 ?_
        refine g_istore_n (pc := 31) F dX0_whoIsAt_31 (by decide) ?_
        refine g_iincN (pc := 32) F dX0_whoIsAt_32 rfl (by decide) ?_
        refine g_goto (pc := 35) F dX0_whoIsAt_35 (tgt := 4) rfl ?_
        first
          | exact (congrArg (fun z => Go K 0 0 4 [(0, .ref 0), (1, .int x), (2, .int z), (3, .int (nI (i + 1)))] [] (dW 0 X)) ((it_succ (fun c s => s ||| (if r (ix c 2) = x then nI 1 <<< (nI c &&& 31) else nI 0)) i (nI 0)).trans (congrArg (fun z => it (fun c s => s ||| (if r (ix c 2) = x then nI 1 <<< (nI c &&& 31) else nI 0)) i (nI 0) ||| z) (if_pos c_20)))).mp (ih c_9)
          | exact (congrArg (fun z => Go K 0 0 4 [(0, .ref 0), (1, .int x), (2, .int z), (3, .int (nI (i + 1)))] [] (dW 0 X)) ((it_succ (fun c s => s ||| (if r (ix c 2) = x then nI 1 <<< (nI c &&& 31) else nI 0)) i (nI 0)).trans (congrArg (fun z => it (fun c s => s ||| (if r (ix c 2) = x then nI 1 <<< (nI c &&& 31) else nI 0)) i (nI 0) ||| z) (if_neg c_20)))).mp (ih c_9))
  show Go K 0 0 0 [(0, .ref 0), (1, .int x)] [] (dW 0 X)
  refine g_iconst (pc := 0) F dX0_whoIsAt_0 (v := nI 0) rfl ?_
  refine g_istore_n (pc := 1) F dX0_whoIsAt_1 (by decide) ?_
  refine g_iconst (pc := 2) F dX0_whoIsAt_2 (v := nI 0) rfl ?_
  refine g_istore_n (pc := 3) F dX0_whoIsAt_3 (by decide) ?_
  exact L 0 (Nat.zero_le _)

theorem Rel_becomes {X Y : DX} {b : Int32} {r : Nat → Int32} (h : Rel b Y r) (hI : Iv r) (h4 : r 4 = nI 0) : Rel (nI 0 - r 3) (va_cpy (dG Y) (dG X) (nI 0).toNatClampNeg (nI 0).toNatClampNeg (nI 10).toNatClampNeg, va_cpy (dD Y) (dD X) (nI 0).toNatClampNeg (nI 0).toNatClampNeg (nI 10).toNatClampNeg, va_cpy (dK Y) (dK X) (nI 0).toNatClampNeg (nI 0).toNatClampNeg (nI 6).toNatClampNeg, va_cpy (dF Y) (dF X) (nI 0).toNatClampNeg (nI 0).toNatClampNeg (nI 6).toNatClampNeg, va_cpy (dA Y) (dA X) (nI 0).toNatClampNeg (nI 0).toNatClampNeg (nI 6).toNatClampNeg, va_cpy (dY Y) (dY X) (nI 0).toNatClampNeg (nI 0).toNatClampNeg (nI 6).toNatClampNeg, va_cpy (dB Y) (dB X) (nI 0).toNatClampNeg (nI 0).toNatClampNeg (nI 6).toNatClampNeg, dN Y, dR Y, nI 0, dWi Y, dDy Y, nI 0) r := by
  obtain ⟨⟨a1, a2, a3, a4, a5, a6⟩, a7, a8, a9⟩ := h
  have h6 := hI.1.2
  refine ⟨⟨a1, a2, a3, h4.symm, ?_, a6⟩, a7, fun d hd => ?_, fun c hc => ?_⟩
  · show nI 0 = r 3 + (nI 0 - r 3)
    rw [Int32.add_comm, Int32.sub_add_cancel]
  · exact ⟨(cpyF_in (by decide) hd).trans (a8 d hd).1, (cpyF_in (by decide) hd).trans (a8 d hd).2⟩
  · obtain ⟨y0, y1, y2, y3, y4⟩ := a9 c hc
    have c6 : c < 6 := by omega
    exact ⟨(cpyF_in (by decide) c6).trans y0, (cpyF_in (by decide) c6).trans y1, (cpyF_in (by decide) c6).trans y2, (cpyF_in (by decide) c6).trans y3, (cpyF_in (by decide) c6).trans y4⟩
set_option maxRecDepth 100000 in
set_option maxHeartbeats 4000000 in
theorem c_becomes (b : Int32) (X Y : DX) (r : Nat → Int32) (hR : Rel b Y r) (hI : Iv r) (h4 : r 4 = nI 0) : Ctr yX0_becomes cX0_becomes 2 none 2 0 0 [.ref 0, .ref 8] (dW 0 X ++ dW 8 Y) (fun v2 h => v2 = none ∧ ∃ X2, h = dW 0 X2 ++ dW 8 Y ∧ Rel (nI 0 - r 3) X2 r) := by
  refine Ctr.of rfl (Nat.le_of_ble_eq_true rfl) ⟨clS_of rfl, clH_of rfl⟩ (fun K F X0 => ?_)
  show Go K 0 0 0 [(0, .ref 0), (1, .ref 8)] [] (dW 0 X ++ dW 8 Y)
  refine g_aload_n (pc := 0) F dX0_becomes_0 rfl ?_
  refine g_getf (pc := 1) F fl_X0_9 dX0_becomes_1 rfl rfl ?_
  refine g_iconst (pc := 4) F dX0_becomes_4 (v := nI 0) rfl ?_
  refine g_aload_n (pc := 5) F dX0_becomes_5 rfl ?_
  refine g_getf (pc := 6) F fl_X0_9 dX0_becomes_6 rfl rfl ?_
  refine g_iconst (pc := 9) F dX0_becomes_9 (v := nI 0) rfl ?_
  refine g_bipush (pc := 10) F dX0_becomes_10 (v := nI 10) rfl ?_
  refine g_acopy (pc := 12) F dX0_becomes_12 kcopy_X0_58 (by decide) (Nat.le_of_ble_eq_true rfl) rfl rfl (by decide) (by decide) (by decide) (by decide) (by decide) ?_
  refine g_aload_n (pc := 15) F dX0_becomes_15 rfl ?_
  refine g_getf (pc := 16) F fl_X0_15 dX0_becomes_16 rfl rfl ?_
  refine g_iconst (pc := 19) F dX0_becomes_19 (v := nI 0) rfl ?_
  refine g_aload_n (pc := 20) F dX0_becomes_20 rfl ?_
  refine g_getf (pc := 21) F fl_X0_15 dX0_becomes_21 rfl rfl ?_
  refine g_iconst (pc := 24) F dX0_becomes_24 (v := nI 0) rfl ?_
  refine g_bipush (pc := 25) F dX0_becomes_25 (v := nI 10) rfl ?_
  refine g_acopy (pc := 27) F dX0_becomes_27 kcopy_X0_58 (by decide) (Nat.le_of_ble_eq_true rfl) rfl rfl (by decide) (by decide) (by decide) (by decide) (by decide) ?_
  refine g_aload_n (pc := 30) F dX0_becomes_30 rfl ?_
  refine g_getf (pc := 31) F fl_X0_18 dX0_becomes_31 rfl rfl ?_
  refine g_iconst (pc := 34) F dX0_becomes_34 (v := nI 0) rfl ?_
  refine g_aload_n (pc := 35) F dX0_becomes_35 rfl ?_
  refine g_getf (pc := 36) F fl_X0_18 dX0_becomes_36 rfl rfl ?_
  refine g_iconst (pc := 39) F dX0_becomes_39 (v := nI 0) rfl ?_
  refine g_bipush (pc := 40) F dX0_becomes_40 (v := nI 6) rfl ?_
  refine g_acopy (pc := 42) F dX0_becomes_42 kcopy_X0_58 (by decide) (Nat.le_of_ble_eq_true rfl) rfl rfl (by decide) (by decide) (by decide) (by decide) (by decide) ?_
  refine g_aload_n (pc := 45) F dX0_becomes_45 rfl ?_
  refine g_getf (pc := 46) F fl_X0_21 dX0_becomes_46 rfl rfl ?_
  refine g_iconst (pc := 49) F dX0_becomes_49 (v := nI 0) rfl ?_
  refine g_aload_n (pc := 50) F dX0_becomes_50 rfl ?_
  refine g_getf (pc := 51) F fl_X0_21 dX0_becomes_51 rfl rfl ?_
  refine g_iconst (pc := 54) F dX0_becomes_54 (v := nI 0) rfl ?_
  refine g_bipush (pc := 55) F dX0_becomes_55 (v := nI 6) rfl ?_
  refine g_acopy (pc := 57) F dX0_becomes_57 kcopy_X0_58 (by decide) (Nat.le_of_ble_eq_true rfl) rfl rfl (by decide) (by decide) (by decide) (by decide) (by decide) ?_
  refine g_aload_n (pc := 60) F dX0_becomes_60 rfl ?_
  refine g_getf (pc := 61) F fl_X0_24 dX0_becomes_61 rfl rfl ?_
  refine g_iconst (pc := 64) F dX0_becomes_64 (v := nI 0) rfl ?_
  refine g_aload_n (pc := 65) F dX0_becomes_65 rfl ?_
  refine g_getf (pc := 66) F fl_X0_24 dX0_becomes_66 rfl rfl ?_
  refine g_iconst (pc := 69) F dX0_becomes_69 (v := nI 0) rfl ?_
  refine g_bipush (pc := 70) F dX0_becomes_70 (v := nI 6) rfl ?_
  refine g_acopy (pc := 72) F dX0_becomes_72 kcopy_X0_58 (by decide) (Nat.le_of_ble_eq_true rfl) rfl rfl (by decide) (by decide) (by decide) (by decide) (by decide) ?_
  refine g_aload_n (pc := 75) F dX0_becomes_75 rfl ?_
  refine g_getf (pc := 76) F fl_X0_27 dX0_becomes_76 rfl rfl ?_
  refine g_iconst (pc := 79) F dX0_becomes_79 (v := nI 0) rfl ?_
  refine g_aload_n (pc := 80) F dX0_becomes_80 rfl ?_
  refine g_getf (pc := 81) F fl_X0_27 dX0_becomes_81 rfl rfl ?_
  refine g_iconst (pc := 84) F dX0_becomes_84 (v := nI 0) rfl ?_
  refine g_bipush (pc := 85) F dX0_becomes_85 (v := nI 6) rfl ?_
  refine g_acopy (pc := 87) F dX0_becomes_87 kcopy_X0_58 (by decide) (Nat.le_of_ble_eq_true rfl) rfl rfl (by decide) (by decide) (by decide) (by decide) (by decide) ?_
  refine g_aload_n (pc := 90) F dX0_becomes_90 rfl ?_
  refine g_getf (pc := 91) F fl_X0_30 dX0_becomes_91 rfl rfl ?_
  refine g_iconst (pc := 94) F dX0_becomes_94 (v := nI 0) rfl ?_
  refine g_aload_n (pc := 95) F dX0_becomes_95 rfl ?_
  refine g_getf (pc := 96) F fl_X0_30 dX0_becomes_96 rfl rfl ?_
  refine g_iconst (pc := 99) F dX0_becomes_99 (v := nI 0) rfl ?_
  refine g_bipush (pc := 100) F dX0_becomes_100 (v := nI 6) rfl ?_
  refine g_acopy (pc := 102) F dX0_becomes_102 kcopy_X0_58 (by decide) (Nat.le_of_ble_eq_true rfl) rfl rfl (by decide) (by decide) (by decide) (by decide) (by decide) ?_
  refine g_aload_n (pc := 105) F dX0_becomes_105 rfl ?_
  refine g_aload_n (pc := 106) F dX0_becomes_106 rfl ?_
  refine g_getf (pc := 107) F fl_X0_33 dX0_becomes_107 rfl rfl ?_
  refine g_putf (pc := 110) F fl_X0_33 dX0_becomes_110 rfl (Nat.le_of_ble_eq_true rfl) ?_
  refine g_aload_n (pc := 113) F dX0_becomes_113 rfl ?_
  refine g_aload_n (pc := 114) F dX0_becomes_114 rfl ?_
  refine g_getf (pc := 115) F fl_X0_37 dX0_becomes_115 rfl rfl ?_
  refine g_putf (pc := 118) F fl_X0_37 dX0_becomes_118 rfl (Nat.le_of_ble_eq_true rfl) ?_
  refine g_aload_n (pc := 121) F dX0_becomes_121 rfl ?_
  refine g_iconst (pc := 122) F dX0_becomes_122 (v := nI 0) rfl ?_
  refine g_putf (pc := 123) F fl_X0_40 dX0_becomes_123 rfl (Nat.le_of_ble_eq_true rfl) ?_
  refine g_aload_n (pc := 126) F dX0_becomes_126 rfl ?_
  refine g_aload_n (pc := 127) F dX0_becomes_127 rfl ?_
  refine g_getf (pc := 128) F fl_X0_43 dX0_becomes_128 rfl rfl ?_
  refine g_putf (pc := 131) F fl_X0_43 dX0_becomes_131 rfl (Nat.le_of_ble_eq_true rfl) ?_
  refine g_aload_n (pc := 134) F dX0_becomes_134 rfl ?_
  refine g_aload_n (pc := 135) F dX0_becomes_135 rfl ?_
  refine g_getf (pc := 136) F fl_X0_46 dX0_becomes_136 rfl rfl ?_
  refine g_putf (pc := 139) F fl_X0_46 dX0_becomes_139 rfl (Nat.le_of_ble_eq_true rfl) ?_
  refine g_aload_n (pc := 142) F dX0_becomes_142 rfl ?_
  refine g_iconst (pc := 143) F dX0_becomes_143 (v := nI 0) rfl ?_
  refine g_putf (pc := 144) F fl_X0_49 dX0_becomes_144 rfl (Nat.le_of_ble_eq_true rfl) ?_
  exact g_vret (pc := 147) F X0 dX0_becomes_147 (Nat.le_of_ble_eq_true rfl) (Nat.le_of_ble_eq_true rfl) rfl ⟨rfl, (va_cpy (dG Y) (dG X) (nI 0).toNatClampNeg (nI 0).toNatClampNeg (nI 10).toNatClampNeg, va_cpy (dD Y) (dD X) (nI 0).toNatClampNeg (nI 0).toNatClampNeg (nI 10).toNatClampNeg, va_cpy (dK Y) (dK X) (nI 0).toNatClampNeg (nI 0).toNatClampNeg (nI 6).toNatClampNeg, va_cpy (dF Y) (dF X) (nI 0).toNatClampNeg (nI 0).toNatClampNeg (nI 6).toNatClampNeg, va_cpy (dA Y) (dA X) (nI 0).toNatClampNeg (nI 0).toNatClampNeg (nI 6).toNatClampNeg, va_cpy (dY Y) (dY X) (nI 0).toNatClampNeg (nI 0).toNatClampNeg (nI 6).toNatClampNeg, va_cpy (dB Y) (dB X) (nI 0).toNatClampNeg (nI 0).toNatClampNeg (nI 6).toNatClampNeg, dN Y, dR Y, nI 0, dWi Y, dDy Y, nI 0), rfl, Rel_becomes hR hI h4⟩

