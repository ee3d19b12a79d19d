set_option maxRecDepth 100000 in
set_option maxHeartbeats 4000000 in
theorem c_isCorporal (b : Int32) (X Y Z : DX) (im : Int32) (S : Nat → SX) (g h : Nat → Int32) (r : Nat → Int32) (c : Int32) (hR : Rel b X r) (hI : Iv r) : RCtr yX4_isCorporal cX4_isCorporal 2 (some .boolean) 1 [.ref 0, .int c] (mW X Y Z im S g h) (.int (bI (decide (nI 0 ≤ c ∧ c ≤ nI (many r) - nI 1)))) := by
  refine Ctr.of rfl (Nat.le_of_ble_eq_true rfl) ⟨clS_of rfl, mW_cl _ _ _ _ _ _ _⟩ (fun K F X0 => ?_)
  show Go K 0 0 0 [(0, .ref 0), (1, .int c)] [] (mW X Y Z im S g h)
  refine g_iload_n (pc := 0) F dX4_isCorporal_0 rfl ?_
  refine g_iconst (pc := 1) F dX4_isCorporal_1 (v := nI 0) rfl ?_
  refine g_aload_n (pc := 2) F dX4_isCorporal_2 rfl ?_
  refine g_getf (pc := 3) F fl_X4_12 dX4_isCorporal_3 rfl rfl ?_
  refine g_getf (pc := 6) F fl_X4_148 dX4_isCorporal_6 rfl rfl ?_
  rw [show dN X = nI (many r) from hR.1.1.trans hI.1.1]
  refine g_iconst (pc := 9) F dX4_isCorporal_9 (v := nI 1) rfl ?_
  refine g_isub (pc := 10) F dX4_isCorporal_10 ?_
  refine h_readS (pc := 11) F (c_isWithin _ _ _) mi_X4_isWithin ks_X4_129 dX4_isCorporal_11 [] rfl (by decide) (by decide) rfl rfl (Nat.le_of_ble_eq_true rfl) trivial (by decide) (by decide) ?_
  exact g_zret (pc := 14) F X0 dX4_isCorporal_14 (by first | exact bI_nar _ | rfl) (Nat.le_of_ble_eq_true rfl) (Nat.le_of_ble_eq_true rfl) rfl ⟨rfl, rfl⟩

set_option maxRecDepth 100000 in
set_option maxHeartbeats 4000000 in
theorem c_shelfSome (X Y Z : DX) (im : Int32) (S : Nat → SX) (g h : Nat → Int32) (x : Int32) (j : Nat) (hx : x = nI j) (hj : j < 8) : RCtr yX4_shelfOrNull cX4_shelfOrNull 2 (some (.object "DesertIsCounted$Shelf")) 1 [.ref 0, .int x] (mW X Y Z im S g h) (.ref (28 + 2 * j)) := by
  subst hx
  refine Ctr.of rfl (Nat.le_of_ble_eq_true rfl) ⟨clS_of rfl, mW_cl _ _ _ _ _ _ _⟩ (fun K F X0 => ?_)
  show Go K 0 0 0 [(0, .ref 0), (1, .int (nI j))] [] (mW X Y Z im S g h)
  refine g_iload_n (pc := 0) F dX4_shelfOrNull_0 rfl ?_
  refine g_iconst (pc := 1) F dX4_shelfOrNull_1 (v := nI 0) rfl ?_
  refine g_bipush (pc := 2) F dX4_shelfOrNull_2 (v := nI 7) rfl ?_
  refine h_readS (pc := 4) F (c_isWithin _ _ _) mi_X4_isWithin ks_X4_129 dX4_shelfOrNull_4 [] rfl (by decide) (by decide) rfl rfl (Nat.le_of_ble_eq_true rfl) trivial (by decide) (by decide) ?_
  refine g_ifeq_d (pc := 7) F dX4_shelfOrNull_7 (tgt := 19) rfl (fun c_7 => absurd ⟨nI_leI (by decide) (by omega) |>.mpr (Nat.zero_le _), nI_leI (by omega) (by decide) |>.mpr (by omega)⟩ c_7) (fun c_7 => ?_)
  refine g_aload_n (pc := 10) F dX4_shelfOrNull_10 rfl ?_
  refine g_getf (pc := 11) F fl_X4_28 dX4_shelfOrNull_11 rfl rfl ?_
  refine g_iload_n (pc := 14) F dX4_shelfOrNull_14 rfl ?_
  refine g_aald2 (pc := 15) F dX4_shelfOrNull_15 rfl rfl hj (by decide) (if_pos hj) ?_
  refine g_goto (pc := 16) F dX4_shelfOrNull_16 (tgt := 20) rfl ?_
  exact g_aret (pc := 20) F X0 dX4_shelfOrNull_20 (Or.inr ⟨_, rfl⟩) (Nat.le_of_ble_eq_true rfl) (Nat.le_of_ble_eq_true rfl) rfl ⟨rfl, rfl⟩

set_option maxRecDepth 100000 in
set_option maxHeartbeats 4000000 in
theorem c_shelfNone (X Y Z : DX) (im : Int32) (S : Nat → SX) (g h : Nat → Int32) (x : Int32) (hx : ¬ (nI 0 ≤ x ∧ x ≤ nI 7)) : RCtr yX4_shelfOrNull cX4_shelfOrNull 2 (some (.object "DesertIsCounted$Shelf")) 1 [.ref 0, .int x] (mW X Y Z im S g h) (.null) := by
  refine Ctr.of rfl (Nat.le_of_ble_eq_true rfl) ⟨clS_of rfl, mW_cl _ _ _ _ _ _ _⟩ (fun K F X0 => ?_)
  show Go K 0 0 0 [(0, .ref 0), (1, .int x)] [] (mW X Y Z im S g h)
  refine g_iload_n (pc := 0) F dX4_shelfOrNull_0 rfl ?_
  refine g_iconst (pc := 1) F dX4_shelfOrNull_1 (v := nI 0) rfl ?_
  refine g_bipush (pc := 2) F dX4_shelfOrNull_2 (v := nI 7) rfl ?_
  refine h_readS (pc := 4) F (c_isWithin _ _ _) mi_X4_isWithin ks_X4_129 dX4_shelfOrNull_4 [] rfl (by decide) (by decide) rfl rfl (Nat.le_of_ble_eq_true rfl) trivial (by decide) (by decide) ?_
  refine g_ifeq_d (pc := 7) F dX4_shelfOrNull_7 (tgt := 19) rfl (fun c_7 => ?_) (fun c_7 => absurd c_7 hx)
  refine g_null (pc := 19) F dX4_shelfOrNull_19 ?_
  exact g_aret (pc := 20) F X0 dX4_shelfOrNull_20 (Or.inl rfl) (Nat.le_of_ble_eq_true rfl) (Nat.le_of_ble_eq_true rfl) rfl ⟨rfl, rfl⟩

/-- 0, or why it isn't as wanted -/
def refU (held wanted : Int32) : Int32 := if held = 0 then (-11) else if held = wanted then nI 0 else (-12)
set_option maxRecDepth 100000 in
set_option maxHeartbeats 4000000 in
theorem c_refusal (S : SX) (wa : Int32) : RCtr yX4_refusalUnless cX4_refusalUnless 2 (some .int) 0 [.ref 0, .int wa] (sW 0 S) (.int (refU (sH S) wa)) := by
  refine Ctr.of rfl (Nat.le_of_ble_eq_true rfl) ⟨clS_of rfl, clH_of rfl⟩ (fun K F X0 => ?_)
  show Go K 0 0 0 [(0, .ref 0), (1, .int wa)] [] (sW 0 S)
  refine g_aload_n (pc := 0) F dX4_refusalUnless_0 rfl ?_
  refine g_ifnonnull (pc := 1) F dX4_refusalUnless_1 (tgt := 6) rfl ?_
  refine g_aload_n (pc := 6) F dX4_refusalUnless_6 rfl ?_
  refine g_getf (pc := 7) F fl_X4_44 dX4_refusalUnless_7 rfl rfl ?_
  refine g_if_ne (pc := 10) F dX4_refusalUnless_10 (tgt := 16) rfl (fun c_10 => ?_) (fun c_10 => ?_)
  · refine g_aload_n (pc := 16) F dX4_refusalUnless_16 rfl ?_
    refine g_getf (pc := 17) F fl_X4_44 dX4_refusalUnless_17 rfl rfl ?_
    refine g_iload_n (pc := 20) F dX4_refusalUnless_20 rfl ?_
    refine g_ic_ne (pc := 21) F dX4_refusalUnless_21 (tgt := 28) rfl (fun c_21 => ?_) (fun c_21 => ?_)
    · refine g_bipush (pc := 28) F dX4_refusalUnless_28 (v := (-12 : Int32)) (by decide) ?_
      exact g_iret (pc := 30) F X0 dX4_refusalUnless_30 (Nat.le_of_ble_eq_true rfl) (Nat.le_of_ble_eq_true rfl) rfl ⟨congrArg (fun z => some (Value.int z)) (by unfold refU; first | rw [if_pos c_10] | (rw [if_neg c_10]; first | rw [if_pos c_21] | rw [if_neg c_21])), rfl⟩
    · refine g_iconst (pc := 24) F dX4_refusalUnless_24 (v := nI 0) rfl ?_
      refine g_goto (pc := 25) F dX4_refusalUnless_25 (tgt := 30) rfl ?_
      exact g_iret (pc := 30) F X0 dX4_refusalUnless_30 (Nat.le_of_ble_eq_true rfl) (Nat.le_of_ble_eq_true rfl) rfl ⟨congrArg (fun z => some (Value.int z)) (by unfold refU; first | rw [if_pos c_10] | (rw [if_neg c_10]; first | rw [if_pos c_21] | rw [if_neg c_21])), rfl⟩
  · refine g_bipush (pc := 13) F dX4_refusalUnless_13 (v := (-11 : Int32)) (by decide) ?_
    exact g_iret (pc := 15) F X0 dX4_refusalUnless_15 (Nat.le_of_ble_eq_true rfl) (Nat.le_of_ble_eq_true rfl) rfl ⟨congrArg (fun z => some (Value.int z)) (by unfold refU; first | rw [if_pos c_10] | (rw [if_neg c_10]; first | rw [if_pos c_21] | rw [if_neg c_21])), rfl⟩

set_option maxRecDepth 100000 in
set_option maxHeartbeats 4000000 in
theorem c_refusalN (wa : Int32) : RCtr yX4_refusalUnless cX4_refusalUnless 2 (some .int) 0 [.null, .int wa] ([]) (.int (-1)) := by
  refine Ctr.of rfl (Nat.le_of_ble_eq_true rfl) ⟨clS_of rfl, clH_of rfl⟩ (fun K F X0 => ?_)
  show Go K 0 0 0 [(0, .null), (1, .int wa)] [] ([])
  refine g_aload_nN (pc := 0) F dX4_refusalUnless_0 rfl ?_
  refine g_ifnonnullN (pc := 1) F dX4_refusalUnless_1 ?_
  refine g_iconst (pc := 4) F dX4_refusalUnless_4 (v := (-1 : Int32)) (by decide) ?_
  exact g_iret (pc := 5) F X0 dX4_refusalUnless_5 (Nat.le_of_ble_eq_true rfl) (Nat.le_of_ble_eq_true rfl) rfl ⟨rfl, rfl⟩

/-- the row in mind, n days on -/
def tkR (r : Nat → Int32) (n : Nat) : Nat → Int32 := daysR (upd r 3 (nI 0)) n
theorem tkR_ok {r : Nat → Int32} (h : Iv r) (n : Nat) : Iv (tkR r n) ∧ many (tkR r n) = many r := by
  obtain ⟨g1, g2, -⟩ := daysR_ok (Iv_free (j := 3) (v := nI 0) h (Or.inr (Or.inl rfl))) n
  exact ⟨g1, many_of (g2.trans (upd_ne _ (by decide)))⟩
theorem Rel_zero {X : DX} {r : Nat → Int32} (h : Rel (nI 0 - r 3) X r) : Rel (nI 0) X (upd r 3 (nI 0)) := by
  obtain ⟨⟨a1, a2, a3, a4, a5, a6⟩, a7, a8, a9⟩ := h
  have e : ∀ j, j ≠ 3 → upd r 3 (nI 0) j = r j := fun j hj => upd_ne _ hj
  refine ⟨⟨?_, ?_, ?_, ?_, ?_, ?_⟩, NW_cong a7 (e 0 (by decide)) (e 4 (by decide)) (fun c _ => e _ (by simp only [ix]; omega)), fun d hd => ?_, fun c hc => ?_⟩
  · rw [e 0 (by decide)]; exact a1
  · rw [e 1 (by decide)]; exact a2
  · rw [e 2 (by decide)]; exact a3
  · rw [e 4 (by decide)]; exact a4
  · rw [a5, upd_at, Int32.add_comm, Int32.sub_add_cancel]; rfl
  · rw [restR_cong (e 0 (by decide)) (fun c _ => e _ (by simp only [ix]; omega))]; exact a6
  · rw [e _ (by omega), e _ (by omega)]; exact a8 d hd
  · rw [many_of (e 0 (by decide))] at hc
    simp only [ix]
    rw [e _ (by omega), e _ (by omega), e _ (by omega), e _ (by omega), e _ (by omega)]
    exact a9 c hc
set_option maxRecDepth 100000 in
set_option maxHeartbeats 4000000 in
theorem c_lookOn (b : Int32) (X Y Z : DX) (im : Int32) (S : Nat → SX) (g h : Nat → Int32) (r : Nat → Int32) (x : Int32) (m : Nat) (hR : Rel b X r) (hI : Iv r) (h4 : r 4 = nI 0) (hx : x = nI m) (hm : m < 1000) : Ctr yX4_lookOn cX4_lookOn 2 none 6 0 0 [.ref 0, .int x] (mW X Y Z im S g h) (fun v hh => v = none ∧ ∃ Y2, hh = mW X Y2 Z im S g h ∧ Rel (nI 0) Y2 (tkR r m)) := by
  subst hx
  refine Ctr.of rfl (Nat.le_of_ble_eq_true rfl) ⟨clS_of rfl, mW_cl _ _ _ _ _ _ _⟩ (fun K F X0 => ?_)
  show Go K 0 0 0 [(0, .ref 0), (1, .int (nI m))] [] (mW X Y Z im S g h)
  refine g_aload_n (pc := 0) F dX4_lookOn_0 rfl ?_
  refine g_getf (pc := 1) F fl_X4_16 dX4_lookOn_1 rfl rfl ?_
  refine g_aload_n (pc := 4) F dX4_lookOn_4 rfl ?_
  refine g_getf (pc := 5) F fl_X4_12 dX4_lookOn_5 rfl rfl ?_
  refine h_callV (pc := 8) F (c_becomes b Y X r hR hI h4) mi_X0_becomes kv_X4_57 rfl rfl dX4_lookOn_8 [9, 10, 11, 12, 13, 14, 15, 16, 1, 2, 3, 4, 5, 6, 7, 8] sub_mn (by decide) (by decide) rfl rfl (Nat.le_of_ble_eq_true rfl) (by decide) (by decide) ?_
  rintro _ _ ⟨rfl, Y2, rfl, hY2⟩ -
  rw [place_mn]
  refine g_aload_n (pc := 11) F dX4_lookOn_11 rfl ?_
  refine g_getf (pc := 12) F fl_X4_16 dX4_lookOn_12 rfl rfl ?_
  refine g_iload_n (pc := 15) F dX4_lookOn_15 rfl ?_
  refine h_callV (pc := 16) F (c_passDays _ Y2 (upd r 3 (nI 0)) _ m (Rel_zero hY2) (Iv_free hI (Or.inr (Or.inl rfl))) rfl hm) mi_X0_passDays kv_X4_170 rfl rfl dX4_lookOn_16 [9, 10, 11, 12, 13, 14, 15, 16] sub_mind (by decide) (by decide) rfl rfl (Nat.le_of_ble_eq_true rfl) (by decide) (by decide) ?_
  rintro _ _ ⟨rfl, Y3, rfl, hY3⟩ -
  rw [place_mind]
  exact g_vret (pc := 19) F X0 dX4_lookOn_19 (Nat.le_of_ble_eq_true rfl) (Nat.le_of_ble_eq_true rfl) rfl ⟨rfl, Y3, rfl, hY3⟩

