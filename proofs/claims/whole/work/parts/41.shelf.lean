/-! the class's shelves -/
abbrev SX : Type := (Nat → Int32) × Int32 × Int32 × Int32 × Int32 × Int32
abbrev sE (S : SX) : Nat → Int32 := S.1
abbrev sH (S : SX) : Int32 := S.2.1
abbrev sKi (S : SX) : Int32 := S.2.2.1
abbrev sFi (S : SX) : Int32 := S.2.2.2.1
abbrev sSo (S : SX) : Int32 := S.2.2.2.2.1
abbrev sSi (S : SX) : Int32 := S.2.2.2.2.2
def sW (b : Nat) (S : SX) : Hp := [.inr (1, [.ref (b + 1), .int (sH S), .int (sKi S), .int (sFi S), .int (sSo S), .int (sSi S)]), .inl (.int, 100, .inl (sE S))]
def nar (so v : Int32) : Int32 := if so = 0 then v.toInt8.toInt32 else if so = nI 1 then v.toInt16.toInt32 else v
def lst (so : Int32) : Int32 := if so = 0 then (-128) else if so = nI 1 then (-32768) else (-2147483648)
def bhd (p : Nat → Bool) : Nat → Nat
  | 0 => 0
  | n + 1 => if p n = true then bhd p n else n + 1
theorem bhd_le (p : Nat → Bool) : ∀ n, bhd p n ≤ n
  | 0 => Nat.le_refl 0
  | n + 1 => by
    unfold bhd
    split
    · exact Nat.le_trans (bhd_le p n) (Nat.le_succ n)
    · exact Nat.le_refl _
theorem bhd_skip (p : Nat → Bool) : ∀ n k, bhd p n ≤ k → k < n → p k = true
  | 0, k, _, h => absurd h (Nat.not_lt_zero k)
  | n + 1, k, h1, h2 => by
    unfold bhd at h1
    by_cases q : p n = true
    · rw [if_pos q] at h1
      rcases Nat.lt_or_ge k n with z | z
      · exact bhd_skip p n k h1 z
      · have : k = n := by omega
        rw [this]; exact q
    · rw [if_neg q] at h1
      omega
def skp (S : SX) (k : Nat) : Bool := decide (sE S k = lst (sSo S))
set_option maxRecDepth 100000 in
set_option maxHeartbeats 4000000 in
theorem c_holdNothing (S : SX) : Ctr yX2_holdNothing cX2_holdNothing 1 none 0 0 0 [.ref 0] (sW 0 S) (fun v h => v = none ∧ h = sW 0 (sE S, nI 0, sKi S, sFi S, sSo S, sSi S)) := by
  refine Ctr.of rfl (Nat.le_of_ble_eq_true rfl) ⟨clS_of rfl, clH_of rfl⟩ (fun K F X0 => ?_)
  show Go K 0 0 0 [(0, .ref 0)] [] (sW 0 S)
  refine g_aload_n (pc := 0) F dX2_holdNothing_0 rfl ?_
  refine g_iconst (pc := 1) F dX2_holdNothing_1 (v := nI 0) rfl ?_
  refine g_putf (pc := 2) F fl_X2_15 dX2_holdNothing_2 rfl (Nat.le_of_ble_eq_true rfl) ?_
  exact g_vret (pc := 5) F X0 dX2_holdNothing_5 (Nat.le_of_ble_eq_true rfl) (Nat.le_of_ble_eq_true rfl) rfl ⟨rfl, rfl⟩

set_option maxRecDepth 100000 in
set_option maxHeartbeats 4000000 in
theorem c_holdKind (S : SX) (k f : Int32) : Ctr yX2_holdKind cX2_holdKind 3 none 0 0 0 [.ref 0, .int k, .int f] (sW 0 S) (fun v h => v = none ∧ h = sW 0 (sE S, nI 1, k, f, sSo S, sSi S)) := by
  refine Ctr.of rfl (Nat.le_of_ble_eq_true rfl) ⟨clS_of rfl, clH_of rfl⟩ (fun K F X0 => ?_)
  show Go K 0 0 0 [(0, .ref 0), (1, .int k), (2, .int f)] [] (sW 0 S)
  refine g_aload_n (pc := 0) F dX2_holdKind_0 rfl ?_
  refine g_iconst (pc := 1) F dX2_holdKind_1 (v := nI 1) rfl ?_
  refine g_putf (pc := 2) F fl_X2_15 dX2_holdKind_2 rfl (Nat.le_of_ble_eq_true rfl) ?_
  refine g_aload_n (pc := 5) F dX2_holdKind_5 rfl ?_
  refine g_iload_n (pc := 6) F dX2_holdKind_6 rfl ?_
  refine g_putf (pc := 7) F fl_X2_19 dX2_holdKind_7 rfl (Nat.le_of_ble_eq_true rfl) ?_
  refine g_aload_n (pc := 10) F dX2_holdKind_10 rfl ?_
  refine g_iload_n (pc := 11) F dX2_holdKind_11 rfl ?_
  refine g_putf (pc := 12) F fl_X2_22 dX2_holdKind_12 rfl (Nat.le_of_ble_eq_true rfl) ?_
  exact g_vret (pc := 15) F X0 dX2_holdKind_15 (Nat.le_of_ble_eq_true rfl) (Nat.le_of_ble_eq_true rfl) rfl ⟨rfl, rfl⟩

set_option maxRecDepth 100000 in
set_option maxHeartbeats 4000000 in
theorem c_holdRow (S : SX) (so n : Int32) : Ctr yX2_holdRow cX2_holdRow 3 none 1 0 0 [.ref 0, .int so, .int n] (sW 0 S) (fun v h => v = none ∧ h = sW 0 (fillF (sE S) (nI 0) 100, nI 2, sKi S, sFi S, so, n)) := by
  refine Ctr.of rfl (Nat.le_of_ble_eq_true rfl) ⟨clS_of rfl, clH_of rfl⟩ (fun K F X0 => ?_)
  show Go K 0 0 0 [(0, .ref 0), (1, .int so), (2, .int n)] [] (sW 0 S)
  refine g_aload_n (pc := 0) F dX2_holdRow_0 rfl ?_
  refine g_iconst (pc := 1) F dX2_holdRow_1 (v := nI 2) rfl ?_
  refine g_putf (pc := 2) F fl_X2_15 dX2_holdRow_2 rfl (Nat.le_of_ble_eq_true rfl) ?_
  refine g_aload_n (pc := 5) F dX2_holdRow_5 rfl ?_
  refine g_iload_n (pc := 6) F dX2_holdRow_6 rfl ?_
  refine g_putf (pc := 7) F fl_X2_25 dX2_holdRow_7 rfl (Nat.le_of_ble_eq_true rfl) ?_
  refine g_aload_n (pc := 10) F dX2_holdRow_10 rfl ?_
  refine g_iload_n (pc := 11) F dX2_holdRow_11 rfl ?_
  refine g_putf (pc := 12) F fl_X2_28 dX2_holdRow_12 rfl (Nat.le_of_ble_eq_true rfl) ?_
  refine g_aload_n (pc := 15) F dX2_holdRow_15 rfl ?_
  refine g_getf (pc := 16) F fl_X2_9 dX2_holdRow_16 rfl rfl ?_
  refine g_iconst (pc := 19) F dX2_holdRow_19 (v := nI 0) rfl ?_
  refine h_callS (pc := 20) F (c_fill (sE S) (nI 0) 100 (by decide)) mi_J7_fill_53178 ks_X2_31 dX2_holdRow_20 [1] rfl (by decide) (by decide) rfl rfl (Nat.le_of_ble_eq_true rfl) (by decide) (by decide) ?_
  rintro _ _ ⟨rfl, rfl⟩ -
  exact g_vret (pc := 23) F X0 dX2_holdRow_23 (Nat.le_of_ble_eq_true rfl) (Nat.le_of_ble_eq_true rfl) rfl ⟨rfl, rfl⟩

set_option maxRecDepth 100000 in
set_option maxHeartbeats 4000000 in
theorem c_hasPlace (S : SX) (i : Int32) : RCtr yX2_hasPlace cX2_hasPlace 2 (some .boolean) 1 [.ref 0, .int i] (sW 0 S) (.int (bI (decide (nI 0 ≤ i ∧ i ≤ sSi S - nI 1)))) := by
  refine Ctr.of rfl (Nat.le_of_ble_eq_true rfl) ⟨clS_of rfl, clH_of rfl⟩ (fun K F X0 => ?_)
  show Go K 0 0 0 [(0, .ref 0), (1, .int i)] [] (sW 0 S)
  refine g_iload_n (pc := 0) F dX2_hasPlace_0 rfl ?_
  refine g_iconst (pc := 1) F dX2_hasPlace_1 (v := nI 0) rfl ?_
  refine g_aload_n (pc := 2) F dX2_hasPlace_2 rfl ?_
  refine g_getf (pc := 3) F fl_X2_28 dX2_hasPlace_3 rfl rfl ?_
  refine g_iconst (pc := 6) F dX2_hasPlace_6 (v := nI 1) rfl ?_
  refine g_isub (pc := 7) F dX2_hasPlace_7 ?_
  refine h_readSN (pc := 8) F (c_isWithin _ _ _) mi_X4_isWithin kn_X2_37 kn2_X2_37 dX2_hasPlace_8 [] rfl (by decide) (by decide) rfl rfl (Nat.le_of_ble_eq_true rfl) trivial (by decide) (by decide) ?_
  exact g_zret (pc := 11) F X0 dX2_hasPlace_11 (by first | exact bI_nar _ | rfl) (Nat.le_of_ble_eq_true rfl) (Nat.le_of_ble_eq_true rfl) rfl ⟨rfl, rfl⟩

set_option maxRecDepth 100000 in
set_option maxHeartbeats 4000000 in
theorem c_hasStretch (S : SX) (f n : Int32) : RCtr yX2_hasStretch cX2_hasStretch 3 (some .boolean) 0 [.ref 0, .int f, .int n] (sW 0 S) (.int (bI (decide (¬ f < 0 ∧ n ≤ sSi S ∧ f ≤ sSi S - n)))) := by
  refine Ctr.of rfl (Nat.le_of_ble_eq_true rfl) ⟨clS_of rfl, clH_of rfl⟩ (fun K F X0 => ?_)
  show Go K 0 0 0 [(0, .ref 0), (1, .int f), (2, .int n)] [] (sW 0 S)
  refine g_iload_n (pc := 0) F dX2_hasStretch_0 rfl ?_
  refine g_if_lt (pc := 1) F dX2_hasStretch_1 (tgt := 26) rfl (fun c_1 => ?_) (fun c_1 => ?_)
  · refine g_iconst (pc := 26) F dX2_hasStretch_26 (v := nI 0) rfl ?_
    exact g_zret (pc := 27) F X0 dX2_hasStretch_27 (by first | exact bI_nar _ | rfl) (Nat.le_of_ble_eq_true rfl) (Nat.le_of_ble_eq_true rfl) rfl ⟨congrArg (fun z => some (Value.int z)) (by first | (rw [decide_eq_true ⟨c_1, Int32.not_lt.mp c_9, Int32.not_lt.mp c_19⟩]; rfl) | (rw [decide_eq_false (by first | exact (fun h => absurd c_1 h.1) | exact (fun h => Int32.not_le.mpr c_9 h.2.1) | exact (fun h => Int32.not_le.mpr c_19 h.2.2))]; rfl)), rfl⟩
  · refine g_iload_n (pc := 4) F dX2_hasStretch_4 rfl ?_
    refine g_aload_n (pc := 5) F dX2_hasStretch_5 rfl ?_
    refine g_getf (pc := 6) F fl_X2_28 dX2_hasStretch_6 rfl rfl ?_
    refine g_ic_gt (pc := 9) F dX2_hasStretch_9 (tgt := 26) rfl (fun c_9 => ?_) (fun c_9 => ?_)
    · refine g_iconst (pc := 26) F dX2_hasStretch_26 (v := nI 0) rfl ?_
      exact g_zret (pc := 27) F X0 dX2_hasStretch_27 (by first | exact bI_nar _ | rfl) (Nat.le_of_ble_eq_true rfl) (Nat.le_of_ble_eq_true rfl) rfl ⟨congrArg (fun z => some (Value.int z)) (by first | (rw [decide_eq_true ⟨c_1, Int32.not_lt.mp c_9, Int32.not_lt.mp c_19⟩]; rfl) | (rw [decide_eq_false (by first | exact (fun h => absurd c_1 h.1) | exact (fun h => Int32.not_le.mpr c_9 h.2.1) | exact (fun h => Int32.not_le.mpr c_19 h.2.2))]; rfl)), rfl⟩
    · refine g_iload_n (pc := 12) F dX2_hasStretch_12 rfl ?_
      refine g_aload_n (pc := 13) F dX2_hasStretch_13 rfl ?_
      refine g_getf (pc := 14) F fl_X2_28 dX2_hasStretch_14 rfl rfl ?_
      refine g_iload_n (pc := 17) F dX2_hasStretch_17 rfl ?_
      refine g_isub (pc := 18) F dX2_hasStretch_18 ?_
      refine g_ic_gt (pc := 19) F dX2_hasStretch_19 (tgt := 26) rfl (fun c_19 => ?_) (fun c_19 => ?_)
      · refine g_iconst (pc := 26) F dX2_hasStretch_26 (v := nI 0) rfl ?_
        exact g_zret (pc := 27) F X0 dX2_hasStretch_27 (by first | exact bI_nar _ | rfl) (Nat.le_of_ble_eq_true rfl) (Nat.le_of_ble_eq_true rfl) rfl ⟨congrArg (fun z => some (Value.int z)) (by first | (rw [decide_eq_true ⟨c_1, Int32.not_lt.mp c_9, Int32.not_lt.mp c_19⟩]; rfl) | (rw [decide_eq_false (by first | exact (fun h => absurd c_1 h.1) | exact (fun h => Int32.not_le.mpr c_9 h.2.1) | exact (fun h => Int32.not_le.mpr c_19 h.2.2))]; rfl)), rfl⟩
      · refine g_iconst (pc := 22) F dX2_hasStretch_22 (v := nI 1) rfl ?_
        refine g_goto (pc := 23) F dX2_hasStretch_23 (tgt := 27) rfl ?_
        exact g_zret (pc := 27) F X0 dX2_hasStretch_27 (by first | exact bI_nar _ | rfl) (Nat.le_of_ble_eq_true rfl) (Nat.le_of_ble_eq_true rfl) rfl ⟨congrArg (fun z => some (Value.int z)) (by first | (rw [decide_eq_true ⟨c_1, Int32.not_lt.mp c_9, Int32.not_lt.mp c_19⟩]; rfl) | (rw [decide_eq_false (by first | exact (fun h => absurd c_1 h.1) | exact (fun h => Int32.not_le.mpr c_9 h.2.1) | exact (fun h => Int32.not_le.mpr c_19 h.2.2))]; rfl)), rfl⟩

set_option maxRecDepth 100000 in
set_option maxHeartbeats 4000000 in
theorem c_sset (S : SX) (x v : Int32) (i : Nat) (hx : x = nI i) (hi : i < 100) : Ctr yX2_set cX2_set 3 none 0 0 0 [.ref 0, .int x, .int v] (sW 0 S) (fun v2 h => v2 = none ∧ h = sW 0 (upd (sE S) i (nar (sSo S) v), sH S, sKi S, sFi S, sSo S, sSi S)) := by
  subst hx
  refine Ctr.of rfl (Nat.le_of_ble_eq_true rfl) ⟨clS_of rfl, clH_of rfl⟩ (fun K F X0 => ?_)
  show Go K 0 0 0 [(0, .ref 0), (1, .int (nI i)), (2, .int v)] [] (sW 0 S)
  refine g_aload_n (pc := 0) F dX2_set_0 rfl ?_
  refine g_getf (pc := 1) F fl_X2_9 dX2_set_1 rfl rfl ?_
  refine g_iload_n (pc := 4) F dX2_set_4 rfl ?_
  refine g_aload_n (pc := 5) F dX2_set_5 rfl ?_
  refine g_getf (pc := 6) F fl_X2_25 dX2_set_6 rfl rfl ?_
  refine g_if_ne (pc := 9) F dX2_set_9 (tgt := 17) rfl (fun c_9 => ?_) (fun c_9 => ?_)
  · refine g_aload_n (pc := 17) F dX2_set_17 rfl ?_
    refine g_getf (pc := 18) F fl_X2_25 dX2_set_18 rfl rfl ?_
    refine g_iconst (pc := 21) F dX2_set_21 (v := nI 1) rfl ?_
    refine g_ic_ne (pc := 22) F dX2_set_22 (tgt := 30) rfl (fun c_22 => ?_) (fun c_22 => ?_)
    · refine g_iload_n (pc := 30) F dX2_set_30 rfl ?_
      refine g_iast2 (pc := 31) F dX2_set_31 rfl rfl (by first | omega | (simp only [ix]; omega)) (by decide) ?_
      exact g_vret (pc := 32) F X0 dX2_set_32 (Nat.le_of_ble_eq_true rfl) (Nat.le_of_ble_eq_true rfl) rfl ⟨rfl, congrArg (fun z => sW 0 (upd (sE S) i z, sH S, sKi S, sFi S, sSo S, sSi S)) (by unfold nar; first | rw [if_pos c_9] | (rw [if_neg c_9]; first | rw [if_pos c_22] | rw [if_neg c_22]))⟩
    · refine g_iload_n (pc := 25) F dX2_set_25 rfl ?_
      refine g_i2s (pc := 26) F dX2_set_26 ?_
      refine g_goto (pc := 27) F dX2_set_27 (tgt := 31) rfl ?_
      refine g_iast2 (pc := 31) F dX2_set_31 rfl rfl (by first | omega | (simp only [ix]; omega)) (by decide) ?_
      exact g_vret (pc := 32) F X0 dX2_set_32 (Nat.le_of_ble_eq_true rfl) (Nat.le_of_ble_eq_true rfl) rfl ⟨rfl, congrArg (fun z => sW 0 (upd (sE S) i z, sH S, sKi S, sFi S, sSo S, sSi S)) (by unfold nar; first | rw [if_pos c_9] | (rw [if_neg c_9]; first | rw [if_pos c_22] | rw [if_neg c_22]))⟩
  · refine g_iload_n (pc := 12) F dX2_set_12 rfl ?_
    refine g_i2b (pc := 13) F dX2_set_13 ?_
    refine g_goto (pc := 14) F dX2_set_14 (tgt := 31) rfl ?_
    refine g_iast2 (pc := 31) F dX2_set_31 rfl rfl (by first | omega | (simp only [ix]; omega)) (by decide) ?_
    exact g_vret (pc := 32) F X0 dX2_set_32 (Nat.le_of_ble_eq_true rfl) (Nat.le_of_ble_eq_true rfl) rfl ⟨rfl, congrArg (fun z => sW 0 (upd (sE S) i z, sH S, sKi S, sFi S, sSo S, sSi S)) (by unfold nar; first | rw [if_pos c_9] | (rw [if_neg c_9]; first | rw [if_pos c_22] | rw [if_neg c_22]))⟩

set_option maxRecDepth 100000 in
set_option maxHeartbeats 4000000 in
theorem c_leastNumber (S : SX) : RCtr yX2_leastNumber cX2_leastNumber 1 (some .int) 0 [.ref 0] (sW 0 S) (.int (lst (sSo S))) := by
  refine Ctr.of rfl (Nat.le_of_ble_eq_true rfl) ⟨clS_of rfl, clH_of rfl⟩ (fun K F X0 => ?_)
  show Go K 0 0 0 [(0, .ref 0)] [] (sW 0 S)
  refine g_aload_n (pc := 0) F dX2_leastNumber_0 rfl ?_
  refine g_getf (pc := 1) F fl_X2_25 dX2_leastNumber_1 rfl rfl ?_
  refine g_if_ne (pc := 4) F dX2_leastNumber_4 (tgt := 12) rfl (fun c_4 => ?_) (fun c_4 => ?_)
  · refine g_aload_n (pc := 12) F dX2_leastNumber_12 rfl ?_
    refine g_getf (pc := 13) F fl_X2_25 dX2_leastNumber_13 rfl rfl ?_
    refine g_iconst (pc := 16) F dX2_leastNumber_16 (v := nI 1) rfl ?_
    refine g_ic_ne (pc := 17) F dX2_leastNumber_17 (tgt := 26) rfl (fun c_17 => ?_) (fun c_17 => ?_)
    · refine g_ldc (pc := 26) F dX2_leastNumber_26 kc_X2_41 ?_
      exact g_iret (pc := 28) F X0 dX2_leastNumber_28 (Nat.le_of_ble_eq_true rfl) (Nat.le_of_ble_eq_true rfl) rfl ⟨congrArg (fun z => some (Value.int z)) (by unfold lst; first | rw [if_pos c_4] | (rw [if_neg c_4]; first | rw [if_pos c_17] | rw [if_neg c_17])), rfl⟩
    · refine g_sipush (pc := 20) F dX2_leastNumber_20 (v := (-32768 : Int32)) (by decide) ?_
      refine g_goto (pc := 23) F dX2_leastNumber_23 (tgt := 28) rfl ?_
      exact g_iret (pc := 28) F X0 dX2_leastNumber_28 (Nat.le_of_ble_eq_true rfl) (Nat.le_of_ble_eq_true rfl) rfl ⟨congrArg (fun z => some (Value.int z)) (by unfold lst; first | rw [if_pos c_4] | (rw [if_neg c_4]; first | rw [if_pos c_17] | rw [if_neg c_17])), rfl⟩
  · refine g_bipush (pc := 7) F dX2_leastNumber_7 (v := (-128 : Int32)) (by decide) ?_
    refine g_goto (pc := 9) F dX2_leastNumber_9 (tgt := 28) rfl ?_
    exact g_iret (pc := 28) F X0 dX2_leastNumber_28 (Nat.le_of_ble_eq_true rfl) (Nat.le_of_ble_eq_true rfl) rfl ⟨congrArg (fun z => some (Value.int z)) (by unfold lst; first | rw [if_pos c_4] | (rw [if_neg c_4]; first | rw [if_pos c_17] | rw [if_neg c_17])), rfl⟩

set_option maxRecDepth 100000 in
set_option maxHeartbeats 4000000 in
theorem c_isSkipped (S : SX) (x : Int32) (i : Nat) (hx : x = nI i) (hi : i < 100) : RCtr yX2_isSkipped cX2_isSkipped 2 (some .boolean) 1 [.ref 0, .int x] (sW 0 S) (.int (bI (skp S i))) := by
  subst hx
  refine Ctr.of rfl (Nat.le_of_ble_eq_true rfl) ⟨clS_of rfl, clH_of rfl⟩ (fun K F X0 => ?_)
  show Go K 0 0 0 [(0, .ref 0), (1, .int (nI i))] [] (sW 0 S)
  refine g_aload_n (pc := 0) F dX2_isSkipped_0 rfl ?_
  refine g_getf (pc := 1) F fl_X2_9 dX2_isSkipped_1 rfl rfl ?_
  refine g_iload_n (pc := 4) F dX2_isSkipped_4 rfl ?_
  refine g_iald2 (pc := 5) F dX2_isSkipped_5 rfl rfl (by first | omega | (simp only [ix]; omega)) (by decide) ?_
  refine g_aload_n (pc := 6) F dX2_isSkipped_6 rfl ?_
  refine h_readV (pc := 7) F (c_leastNumber _) mi_X2_leastNumber kv_X2_42 rfl rfl dX2_isSkipped_7 [0, 1] rfl (by decide) (by decide) rfl rfl (Nat.le_of_ble_eq_true rfl) trivial (by decide) (by decide) ?_
  refine g_ic_ne (pc := 10) F dX2_isSkipped_10 (tgt := 17) rfl (fun c_10 => ?_) (fun c_10 => ?_)
  · refine g_iconst (pc := 17) F dX2_isSkipped_17 (v := nI 0) rfl ?_
    exact g_zret (pc := 18) F X0 dX2_isSkipped_18 (by first | exact bI_nar _ | rfl) (Nat.le_of_ble_eq_true rfl) (Nat.le_of_ble_eq_true rfl) rfl ⟨congrArg (fun z => some (Value.int z)) (by unfold skp; first | (rw [decide_eq_true c_10]; rfl) | (rw [decide_eq_false c_10]; rfl)), rfl⟩
  · refine g_iconst (pc := 13) F dX2_isSkipped_13 (v := nI 1) rfl ?_
    refine g_goto (pc := 14) F dX2_isSkipped_14 (tgt := 18) rfl ?_
    exact g_zret (pc := 18) F X0 dX2_isSkipped_18 (by first | exact bI_nar _ | rfl) (Nat.le_of_ble_eq_true rfl) (Nat.le_of_ble_eq_true rfl) rfl ⟨congrArg (fun z => some (Value.int z)) (by unfold skp; first | (rw [decide_eq_true c_10]; rfl) | (rw [decide_eq_false c_10]; rfl)), rfl⟩

set_option maxRecDepth 100000 in
set_option maxHeartbeats 4000000 in
theorem c_allows (S : SX) (x v : Int32) (i : Nat) (hx : x = nI i) (hi : i < 100) : RCtr yX2_allows cX2_allows 3 (some .boolean) 2 [.ref 0, .int x, .int v] (sW 0 S) (.int (bI (decide (skp S i = true ∨ sE S i = v)))) := by
  subst hx
  refine Ctr.of rfl (Nat.le_of_ble_eq_true rfl) ⟨clS_of rfl, clH_of rfl⟩ (fun K F X0 => ?_)
  show Go K 0 0 0 [(0, .ref 0), (1, .int (nI i)), (2, .int v)] [] (sW 0 S)
  refine g_aload_n (pc := 0) F dX2_allows_0 rfl ?_
  refine g_iload_n (pc := 1) F dX2_allows_1 rfl ?_
  refine h_readV (pc := 2) F (c_isSkipped S _ i rfl hi) mi_X2_isSkipped kv_X2_46 rfl rfl dX2_allows_2 [0, 1] rfl (by decide) (by decide) rfl rfl (Nat.le_of_ble_eq_true rfl) trivial (by decide) (by decide) ?_
  refine g_ifne_b (pc := 5) F dX2_allows_5 (tgt := 18) rfl (fun c_5 => ?_) (fun c_5 => ?_)
  · refine g_iconst (pc := 18) F dX2_allows_18 (v := nI 1) rfl ?_
    refine g_goto (pc := 19) F dX2_allows_19 (tgt := 23) rfl ?_
    exact g_zret (pc := 23) F X0 dX2_allows_23 (by first | exact bI_nar _ | rfl) (Nat.le_of_ble_eq_true rfl) (Nat.le_of_ble_eq_true rfl) rfl ⟨congrArg (fun z => some (Value.int z)) (by first | (rw [decide_eq_true (Or.inl c_5)]; rfl) | (rw [decide_eq_true (Or.inr c_15)]; rfl) | (rw [decide_eq_false (fun h => h.elim (fun z => Bool.noConfusion (c_5.symm.trans z)) c_15)]; rfl)), rfl⟩
  · refine g_aload_n (pc := 8) F dX2_allows_8 rfl ?_
    refine g_getf (pc := 9) F fl_X2_9 dX2_allows_9 rfl rfl ?_
    refine g_iload_n (pc := 12) F dX2_allows_12 rfl ?_
    refine g_iald2 (pc := 13) F dX2_allows_13 rfl rfl (by first | omega | (simp only [ix]; omega)) (by decide) ?_
    refine g_iload_n (pc := 14) F dX2_allows_14 rfl ?_
    refine g_ic_ne (pc := 15) F dX2_allows_15 (tgt := 22) rfl (fun c_15 => ?_) (fun c_15 => ?_)
    · refine g_iconst (pc := 22) F dX2_allows_22 (v := nI 0) rfl ?_
      exact g_zret (pc := 23) F X0 dX2_allows_23 (by first | exact bI_nar _ | rfl) (Nat.le_of_ble_eq_true rfl) (Nat.le_of_ble_eq_true rfl) rfl ⟨congrArg (fun z => some (Value.int z)) (by first | (rw [decide_eq_true (Or.inl c_5)]; rfl) | (rw [decide_eq_true (Or.inr c_15)]; rfl) | (rw [decide_eq_false (fun h => h.elim (fun z => Bool.noConfusion (c_5.symm.trans z)) c_15)]; rfl)), rfl⟩
    · refine g_iconst (pc := 18) F dX2_allows_18 (v := nI 1) rfl ?_
      refine g_goto (pc := 19) F dX2_allows_19 (tgt := 23) rfl ?_
      exact g_zret (pc := 23) F X0 dX2_allows_23 (by first | exact bI_nar _ | rfl) (Nat.le_of_ble_eq_true rfl) (Nat.le_of_ble_eq_true rfl) rfl ⟨congrArg (fun z => some (Value.int z)) (by first | (rw [decide_eq_true (Or.inl c_5)]; rfl) | (rw [decide_eq_true (Or.inr c_15)]; rfl) | (rw [decide_eq_false (fun h => h.elim (fun z => Bool.noConfusion (c_5.symm.trans z)) c_15)]; rfl)), rfl⟩

set_option maxRecDepth 100000 in
set_option maxHeartbeats 4000000 in
theorem c_behind (S : SX) (n : Nat) (hs : sSi S = nI n) (hn : n ≤ 100) : RCtr yX2_behindLastTold cX2_behindLastTold 2 (some .int) 2 [.ref 0] (sW 0 S) (.int (nI (bhd (skp S) n))) := by
  refine Ctr.of rfl (Nat.le_of_ble_eq_true rfl) ⟨clS_of rfl, clH_of rfl⟩ (fun K F X0 => ?_)
  have L : ∀ e, e ≤ n → bhd (skp S) e = bhd (skp S) n → Go K 0 0 5 [(0, .ref 0), (1, .int (nI e))] [] (sW 0 S) := by
    intro e
    induction e with
    | zero =>
      intro _ he
      refine g_iload_n (pc := 5) F dX2_behindLastTold_5 rfl ?_
      refine g_if_le (pc := 6) F dX2_behindLastTold_6 (tgt := 25) rfl (fun c_6 => ?_) (fun c_6 => absurd (by decide) c_6)
      refine g_iload_n (pc := 25) F dX2_behindLastTold_25 rfl ?_
      exact g_iret (pc := 26) F X0 dX2_behindLastTold_26 (Nat.le_of_ble_eq_true rfl) (Nat.le_of_ble_eq_true rfl) rfl ⟨congrArg (fun z => some (Value.int (nI z))) he, rfl⟩
    | succ e ih =>
      intro hn9 he
      refine g_iload_n (pc := 5) F dX2_behindLastTold_5 rfl ?_
      refine g_if_le (pc := 6) F dX2_behindLastTold_6 (tgt := 25) rfl (fun c_6 => absurd c_6 (nI_nle (by omega) (by omega))) (fun c_6 => ?_)
      refine g_aload_n (pc := 9) F dX2_behindLastTold_9 rfl ?_
      refine g_iload_n (pc := 10) F dX2_behindLastTold_10 rfl ?_
      refine g_iconst (pc := 11) F dX2_behindLastTold_11 (v := nI 1) rfl ?_
      refine g_isubN (pc := 12) F dX2_behindLastTold_12 (by omega) ?_
      refine h_readV (pc := 13) F (c_isSkipped S _ e rfl (by omega)) mi_X2_isSkipped kv_X2_46 rfl rfl dX2_behindLastTold_13 [0, 1] rfl (by decide) (by decide) rfl rfl (Nat.le_of_ble_eq_true rfl) trivial (by decide) (by decide) ?_
      refine g_ifeq_b (pc := 16) F dX2_behindLastTold_16 (tgt := 25) rfl (fun c_16 => ?_) (fun c_16 => ?_)
      · refine g_iload_n (pc := 25) F dX2_behindLastTold_25 rfl ?_
        exact g_iret (pc := 26) F X0 dX2_behindLastTold_26 (Nat.le_of_ble_eq_true rfl) (Nat.le_of_ble_eq_true rfl) rfl ⟨congrArg (fun z => some (Value.int (nI z))) (by rw [← he]; exact (if_neg (by rw [c_16]; decide)).symm), rfl⟩
      · refine g_iincD (pc := 19) F dX2_behindLastTold_19 rfl (by decide) ?_
        refine g_goto (pc := 22) F dX2_behindLastTold_22 (tgt := 5) rfl ?_
        exact ih (by omega) (by rw [← he]; exact (if_pos c_16).symm)
  show Go K 0 0 0 [(0, .ref 0)] [] (sW 0 S)
  refine g_aload_n (pc := 0) F dX2_behindLastTold_0 rfl ?_
  refine g_getf (pc := 1) F fl_X2_28 dX2_behindLastTold_1 rfl rfl ?_
  rw [hs]
  refine g_istore_n (pc := 4) F dX2_behindLastTold_4 (by decide) ?_
  exact L n (Nat.le_refl _) rfl

