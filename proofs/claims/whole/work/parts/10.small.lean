/-! small functions of both sides -/
theorem within_t {v a b : Int32} (h1 : ¬ v < a) (h2 : ¬ b < v) : nI 1 = bI (decide (a ≤ v ∧ v ≤ b)) := by
  rw [decide_eq_true ⟨Int32.not_lt.mp h1, Int32.not_lt.mp h2⟩]; rfl
theorem within_f1 {v a b : Int32} (h1 : v < a) : nI 0 = bI (decide (a ≤ v ∧ v ≤ b)) := by
  rw [decide_eq_false (fun h => absurd h1 (Int32.not_lt.mpr h.1))]; rfl
theorem within_f2 {v a b : Int32} (h1 : b < v) : nI 0 = bI (decide (a ≤ v ∧ v ≤ b)) := by
  rw [decide_eq_false (fun h => absurd h1 (Int32.not_lt.mpr h.2))]; rfl
abbrev ix (c w : Nat) : Nat := 25 + 6 * c + w
def hasb (s k : Int32) : Bool := decide ((s >>> (k &&& 31)) &&& nI 1 = nI 1)
set_option maxRecDepth 100000 in
set_option maxHeartbeats 4000000 in
theorem c_isWithin (v a b : Int32) : RCtr yX4_isWithin cX4_isWithin 3 (some .boolean) 0 [.int v, .int a, .int b] ([]) (.int (bI (decide (a ≤ v ∧ v ≤ b)))) := by
  refine Ctr.of rfl (Nat.le_of_ble_eq_true rfl) ⟨clS_of rfl, clH_of rfl⟩ (fun K F X0 => ?_)
  show Go K 0 0 0 [(0, .int v), (1, .int a), (2, .int b)] [] ([])
  refine g_iload_n (pc := 0) F dX4_isWithin_0 rfl ?_
  refine g_iload_n (pc := 1) F dX4_isWithin_1 rfl ?_
  refine g_ic_lt (pc := 2) F dX4_isWithin_2 (tgt := 14) rfl (fun c_2 => ?_) (fun c_2 => ?_)
  · refine g_iconst (pc := 14) F dX4_isWithin_14 (v := nI 0) rfl ?_
    exact g_zret (pc := 15) F X0 dX4_isWithin_15 (by first | exact bI_nar _ | rfl) (Nat.le_of_ble_eq_true rfl) (Nat.le_of_ble_eq_true rfl) rfl ⟨congrArg (fun z => some (Value.int z)) (by first | exact within_t c_2 c_7 | exact within_f1 c_2 | exact within_f2 c_7), rfl⟩
  · refine g_iload_n (pc := 5) F dX4_isWithin_5 rfl ?_
    refine g_iload_n (pc := 6) F dX4_isWithin_6 rfl ?_
    refine g_ic_gt (pc := 7) F dX4_isWithin_7 (tgt := 14) rfl (fun c_7 => ?_) (fun c_7 => ?_)
    · refine g_iconst (pc := 14) F dX4_isWithin_14 (v := nI 0) rfl ?_
      exact g_zret (pc := 15) F X0 dX4_isWithin_15 (by first | exact bI_nar _ | rfl) (Nat.le_of_ble_eq_true rfl) (Nat.le_of_ble_eq_true rfl) rfl ⟨congrArg (fun z => some (Value.int z)) (by first | exact within_t c_2 c_7 | exact within_f1 c_2 | exact within_f2 c_7), rfl⟩
    · refine g_iconst (pc := 10) F dX4_isWithin_10 (v := nI 1) rfl ?_
      refine g_goto (pc := 11) F dX4_isWithin_11 (tgt := 15) rfl ?_
      exact g_zret (pc := 15) F X0 dX4_isWithin_15 (by first | exact bI_nar _ | rfl) (Nat.le_of_ble_eq_true rfl) (Nat.le_of_ble_eq_true rfl) rfl ⟨congrArg (fun z => some (Value.int z)) (by first | exact within_t c_2 c_7 | exact within_f1 c_2 | exact within_f2 c_7), rfl⟩

set_option maxRecDepth 100000 in
set_option maxHeartbeats 4000000 in
theorem c_isIn (v a b : Int32) : RCtr yX5_isIn cX5_isIn 3 (some .boolean) 0 [.int v, .int a, .int b] ([]) (.int (bI (decide (a ≤ v ∧ v ≤ b)))) := by
  refine Ctr.of rfl (Nat.le_of_ble_eq_true rfl) ⟨clS_of rfl, clH_of rfl⟩ (fun K F X0 => ?_)
  show Go K 0 0 0 [(0, .int v), (1, .int a), (2, .int b)] [] ([])
  refine g_iload_n (pc := 0) F dX5_isIn_0 rfl ?_
  refine g_iload_n (pc := 1) F dX5_isIn_1 rfl ?_
  refine g_ic_lt (pc := 2) F dX5_isIn_2 (tgt := 14) rfl (fun c_2 => ?_) (fun c_2 => ?_)
  · refine g_iconst (pc := 14) F dX5_isIn_14 (v := nI 0) rfl ?_
    exact g_zret (pc := 15) F X0 dX5_isIn_15 (by first | exact bI_nar _ | rfl) (Nat.le_of_ble_eq_true rfl) (Nat.le_of_ble_eq_true rfl) rfl ⟨congrArg (fun z => some (Value.int z)) (by first | exact within_t c_2 c_7 | exact within_f1 c_2 | exact within_f2 c_7), rfl⟩
  · refine g_iload_n (pc := 5) F dX5_isIn_5 rfl ?_
    refine g_iload_n (pc := 6) F dX5_isIn_6 rfl ?_
    refine g_ic_gt (pc := 7) F dX5_isIn_7 (tgt := 14) rfl (fun c_7 => ?_) (fun c_7 => ?_)
    · refine g_iconst (pc := 14) F dX5_isIn_14 (v := nI 0) rfl ?_
      exact g_zret (pc := 15) F X0 dX5_isIn_15 (by first | exact bI_nar _ | rfl) (Nat.le_of_ble_eq_true rfl) (Nat.le_of_ble_eq_true rfl) rfl ⟨congrArg (fun z => some (Value.int z)) (by first | exact within_t c_2 c_7 | exact within_f1 c_2 | exact within_f2 c_7), rfl⟩
    · refine g_iconst (pc := 10) F dX5_isIn_10 (v := nI 1) rfl ?_
      refine g_goto (pc := 11) F dX5_isIn_11 (tgt := 15) rfl ?_
      exact g_zret (pc := 15) F X0 dX5_isIn_15 (by first | exact bI_nar _ | rfl) (Nat.le_of_ble_eq_true rfl) (Nat.le_of_ble_eq_true rfl) rfl ⟨congrArg (fun z => some (Value.int z)) (by first | exact within_t c_2 c_7 | exact within_f1 c_2 | exact within_f2 c_7), rfl⟩

set_option maxRecDepth 100000 in
set_option maxHeartbeats 4000000 in
theorem c_least (a b : Int32) : RCtr yX5_least cX5_least 2 (some .int) 0 [.int a, .int b] ([]) (.int (mn a b)) := by
  refine Ctr.of rfl (Nat.le_of_ble_eq_true rfl) ⟨clS_of rfl, clH_of rfl⟩ (fun K F X0 => ?_)
  show Go K 0 0 0 [(0, .int a), (1, .int b)] [] ([])
  refine g_iload_n (pc := 0) F dX5_least_0 rfl ?_
  refine g_iload_n (pc := 1) F dX5_least_1 rfl ?_
  refine g_ic_ge (pc := 2) F dX5_least_2 (tgt := 9) rfl (fun c_2 => ?_) (fun c_2 => ?_)
  · refine g_iload_n (pc := 9) F dX5_least_9 rfl ?_
    exact g_iret (pc := 10) F X0 dX5_least_10 (Nat.le_of_ble_eq_true rfl) (Nat.le_of_ble_eq_true rfl) rfl ⟨congrArg (fun z => some (Value.int z)) (by unfold mn; first | rw [if_pos (by first | exact c_2 | exact Int32.not_le.mp c_2)] | rw [if_neg (by first | exact Int32.not_lt.mpr c_2 | exact c_2)]), rfl⟩
  · refine g_iload_n (pc := 5) F dX5_least_5 rfl ?_
    refine g_goto (pc := 6) F dX5_least_6 (tgt := 10) rfl ?_
    exact g_iret (pc := 10) F X0 dX5_least_10 (Nat.le_of_ble_eq_true rfl) (Nat.le_of_ble_eq_true rfl) rfl ⟨congrArg (fun z => some (Value.int z)) (by unfold mn; first | rw [if_pos (by first | exact c_2 | exact Int32.not_le.mp c_2)] | rw [if_neg (by first | exact Int32.not_lt.mpr c_2 | exact c_2)]), rfl⟩

set_option maxRecDepth 100000 in
set_option maxHeartbeats 4000000 in
theorem c_most (a b : Int32) : RCtr yX5_most cX5_most 2 (some .int) 0 [.int a, .int b] ([]) (.int (mx a b)) := by
  refine Ctr.of rfl (Nat.le_of_ble_eq_true rfl) ⟨clS_of rfl, clH_of rfl⟩ (fun K F X0 => ?_)
  show Go K 0 0 0 [(0, .int a), (1, .int b)] [] ([])
  refine g_iload_n (pc := 0) F dX5_most_0 rfl ?_
  refine g_iload_n (pc := 1) F dX5_most_1 rfl ?_
  refine g_ic_le (pc := 2) F dX5_most_2 (tgt := 9) rfl (fun c_2 => ?_) (fun c_2 => ?_)
  · refine g_iload_n (pc := 9) F dX5_most_9 rfl ?_
    exact g_iret (pc := 10) F X0 dX5_most_10 (Nat.le_of_ble_eq_true rfl) (Nat.le_of_ble_eq_true rfl) rfl ⟨congrArg (fun z => some (Value.int z)) (by unfold mx; first | rw [if_pos (by first | exact c_2 | exact Int32.not_le.mp c_2)] | rw [if_neg (by first | exact Int32.not_lt.mpr c_2 | exact c_2)]), rfl⟩
  · refine g_iload_n (pc := 5) F dX5_most_5 rfl ?_
    refine g_goto (pc := 6) F dX5_most_6 (tgt := 10) rfl ?_
    exact g_iret (pc := 10) F X0 dX5_most_10 (Nat.le_of_ble_eq_true rfl) (Nat.le_of_ble_eq_true rfl) rfl ⟨congrArg (fun z => some (Value.int z)) (by unfold mx; first | rw [if_pos (by first | exact c_2 | exact Int32.not_le.mp c_2)] | rw [if_neg (by first | exact Int32.not_lt.mpr c_2 | exact c_2)]), rfl⟩

set_option maxRecDepth 100000 in
set_option maxHeartbeats 4000000 in
theorem c_of (c w : Nat) : RCtr yX5_of cX5_of 2 (some .int) 0 [.int (nI c), .int (nI w)] ([]) (.int (nI (ix c w))) := by
  refine Ctr.of rfl (Nat.le_of_ble_eq_true rfl) ⟨clS_of rfl, clH_of rfl⟩ (fun K F X0 => ?_)
  show Go K 0 0 0 [(0, .int (nI c)), (1, .int (nI w))] [] ([])
  refine g_bipush (pc := 0) F dX5_of_0 (v := nI 25) rfl ?_
  refine g_bipush (pc := 2) F dX5_of_2 (v := nI 6) rfl ?_
  refine g_iload_n (pc := 4) F dX5_of_4 rfl ?_
  refine g_imulN (pc := 5) F dX5_of_5 ?_
  refine g_iaddN (pc := 6) F dX5_of_6 ?_
  refine g_iload_n (pc := 7) F dX5_of_7 rfl ?_
  refine g_iaddN (pc := 8) F dX5_of_8 ?_
  exact g_iret (pc := 9) F X0 dX5_of_9 (Nat.le_of_ble_eq_true rfl) (Nat.le_of_ble_eq_true rfl) rfl ⟨rfl, rfl⟩

set_option maxRecDepth 100000 in
set_option maxHeartbeats 4000000 in
theorem c_isDip (v : Int32) : RCtr yX4_isDip cX4_isDip 1 (some .boolean) 1 [.int v] ([]) (.int (bI (decide (nI 0 ≤ v ∧ v ≤ nI 9)))) := by
  refine Ctr.of rfl (Nat.le_of_ble_eq_true rfl) ⟨clS_of rfl, clH_of rfl⟩ (fun K F X0 => ?_)
  show Go K 0 0 0 [(0, .int v)] [] ([])
  refine g_iload_n (pc := 0) F dX4_isDip_0 rfl ?_
  refine g_iconst (pc := 1) F dX4_isDip_1 (v := nI 0) rfl ?_
  refine g_bipush (pc := 2) F dX4_isDip_2 (v := nI 9) rfl ?_
  refine h_readS (pc := 4) F (c_isWithin _ _ _) mi_X4_isWithin ks_X4_129 dX4_isDip_4 [] rfl (by decide) (by decide) rfl rfl (Nat.le_of_ble_eq_true rfl) trivial (by decide) (by decide) ?_
  exact g_zret (pc := 7) F X0 dX4_isDip_7 (by first | exact bI_nar _ | rfl) (Nat.le_of_ble_eq_true rfl) (Nat.le_of_ble_eq_true rfl) rfl ⟨rfl, rfl⟩

set_option maxRecDepth 100000 in
set_option maxHeartbeats 4000000 in
theorem c_isDaysOn (v : Int32) : RCtr yX4_isDaysOn cX4_isDaysOn 1 (some .boolean) 1 [.int v] ([]) (.int (bI (decide (nI 0 ≤ v ∧ v ≤ nI 60)))) := by
  refine Ctr.of rfl (Nat.le_of_ble_eq_true rfl) ⟨clS_of rfl, clH_of rfl⟩ (fun K F X0 => ?_)
  show Go K 0 0 0 [(0, .int v)] [] ([])
  refine g_iload_n (pc := 0) F dX4_isDaysOn_0 rfl ?_
  refine g_iconst (pc := 1) F dX4_isDaysOn_1 (v := nI 0) rfl ?_
  refine g_bipush (pc := 2) F dX4_isDaysOn_2 (v := nI 60) rfl ?_
  refine h_readS (pc := 4) F (c_isWithin _ _ _) mi_X4_isWithin ks_X4_129 dX4_isDaysOn_4 [] rfl (by decide) (by decide) rfl rfl (Nat.le_of_ble_eq_true rfl) trivial (by decide) (by decide) ?_
  exact g_zret (pc := 7) F X0 dX4_isDaysOn_7 (by first | exact bI_nar _ | rfl) (Nat.le_of_ble_eq_true rfl) (Nat.le_of_ble_eq_true rfl) rfl ⟨rfl, rfl⟩

set_option maxRecDepth 100000 in
set_option maxHeartbeats 4000000 in
theorem c_mDip (v : Int32) : RCtr yX5_isDip cX5_isDip 1 (some .boolean) 1 [.int v] ([]) (.int (bI (decide (nI 0 ≤ v ∧ v ≤ nI 9)))) := by
  refine Ctr.of rfl (Nat.le_of_ble_eq_true rfl) ⟨clS_of rfl, clH_of rfl⟩ (fun K F X0 => ?_)
  show Go K 0 0 0 [(0, .int v)] [] ([])
  refine g_iload_n (pc := 0) F dX5_isDip_0 rfl ?_
  refine g_iconst (pc := 1) F dX5_isDip_1 (v := nI 0) rfl ?_
  refine g_bipush (pc := 2) F dX5_isDip_2 (v := nI 9) rfl ?_
  refine h_readS (pc := 4) F (c_isIn _ _ _) mi_X5_isIn ks_X5_43 dX5_isDip_4 [] rfl (by decide) (by decide) rfl rfl (Nat.le_of_ble_eq_true rfl) trivial (by decide) (by decide) ?_
  exact g_zret (pc := 7) F X0 dX5_isDip_7 (by first | exact bI_nar _ | rfl) (Nat.le_of_ble_eq_true rfl) (Nat.le_of_ble_eq_true rfl) rfl ⟨rfl, rfl⟩

set_option maxRecDepth 100000 in
set_option maxHeartbeats 4000000 in
theorem c_mLate (v : Int32) : RCtr yX5_isLate cX5_isLate 1 (some .boolean) 1 [.int v] ([]) (.int (bI (decide (nI 0 ≤ v ∧ v ≤ nI 60)))) := by
  refine Ctr.of rfl (Nat.le_of_ble_eq_true rfl) ⟨clS_of rfl, clH_of rfl⟩ (fun K F X0 => ?_)
  show Go K 0 0 0 [(0, .int v)] [] ([])
  refine g_iload_n (pc := 0) F dX5_isLate_0 rfl ?_
  refine g_iconst (pc := 1) F dX5_isLate_1 (v := nI 0) rfl ?_
  refine g_bipush (pc := 2) F dX5_isLate_2 (v := nI 60) rfl ?_
  refine h_readS (pc := 4) F (c_isIn _ _ _) mi_X5_isIn ks_X5_43 dX5_isLate_4 [] rfl (by decide) (by decide) rfl rfl (Nat.le_of_ble_eq_true rfl) trivial (by decide) (by decide) ?_
  exact g_zret (pc := 7) F X0 dX5_isLate_7 (by first | exact bI_nar _ | rfl) (Nat.le_of_ble_eq_true rfl) (Nat.le_of_ble_eq_true rfl) rfl ⟨rfl, rfl⟩

set_option maxRecDepth 100000 in
set_option maxHeartbeats 4000000 in
theorem c_mShelf (v : Int32) : RCtr yX5_isShelf cX5_isShelf 1 (some .boolean) 1 [.int v] ([]) (.int (bI (decide (nI 0 ≤ v ∧ v ≤ nI 7)))) := by
  refine Ctr.of rfl (Nat.le_of_ble_eq_true rfl) ⟨clS_of rfl, clH_of rfl⟩ (fun K F X0 => ?_)
  show Go K 0 0 0 [(0, .int v)] [] ([])
  refine g_iload_n (pc := 0) F dX5_isShelf_0 rfl ?_
  refine g_iconst (pc := 1) F dX5_isShelf_1 (v := nI 0) rfl ?_
  refine g_bipush (pc := 2) F dX5_isShelf_2 (v := nI 7) rfl ?_
  refine h_readS (pc := 4) F (c_isIn _ _ _) mi_X5_isIn ks_X5_43 dX5_isShelf_4 [] rfl (by decide) (by decide) rfl rfl (Nat.le_of_ble_eq_true rfl) trivial (by decide) (by decide) ?_
  exact g_zret (pc := 7) F X0 dX5_isShelf_7 (by first | exact bI_nar _ | rfl) (Nat.le_of_ble_eq_true rfl) (Nat.le_of_ble_eq_true rfl) rfl ⟨rfl, rfl⟩

set_option maxRecDepth 100000 in
set_option maxHeartbeats 4000000 in
theorem c_hasBit (s k : Int32) : RCtr yX4_hasBit cX4_hasBit 2 (some .boolean) 0 [.int s, .int k] ([]) (.int (bI (hasb s k))) := by
  refine Ctr.of rfl (Nat.le_of_ble_eq_true rfl) ⟨clS_of rfl, clH_of rfl⟩ (fun K F X0 => ?_)
  show Go K 0 0 0 [(0, .int s), (1, .int k)] [] ([])
  refine g_iload_n (pc := 0) F dX4_hasBit_0 rfl ?_
  refine g_iload_n (pc := 1) F dX4_hasBit_1 rfl ?_
  refine g_ishr (pc := 2) F dX4_hasBit_2 ?_
  refine g_iconst (pc := 3) F dX4_hasBit_3 (v := nI 1) rfl ?_
  refine g_iand (pc := 4) F dX4_hasBit_4 ?_
  refine g_iconst (pc := 5) F dX4_hasBit_5 (v := nI 1) rfl ?_
  refine g_ic_ne (pc := 6) F dX4_hasBit_6 (tgt := 13) rfl (fun c_6 => ?_) (fun c_6 => ?_)
  · refine g_iconst (pc := 13) F dX4_hasBit_13 (v := nI 0) rfl ?_
    exact g_zret (pc := 14) F X0 dX4_hasBit_14 (by first | exact bI_nar _ | rfl) (Nat.le_of_ble_eq_true rfl) (Nat.le_of_ble_eq_true rfl) rfl ⟨congrArg (fun z => some (Value.int z)) (by unfold hasb; first | rw [decide_eq_true c_6]; rfl | rw [decide_eq_false c_6]; rfl), rfl⟩
  · refine g_iconst (pc := 9) F dX4_hasBit_9 (v := nI 1) rfl ?_
    refine g_goto (pc := 10) F dX4_hasBit_10 (tgt := 14) rfl ?_
    exact g_zret (pc := 14) F X0 dX4_hasBit_14 (by first | exact bI_nar _ | rfl) (Nat.le_of_ble_eq_true rfl) (Nat.le_of_ble_eq_true rfl) rfl ⟨congrArg (fun z => some (Value.int z)) (by unfold hasb; first | rw [decide_eq_true c_6]; rfl | rw [decide_eq_false c_6]; rfl), rfl⟩

set_option maxRecDepth 100000 in
set_option maxHeartbeats 4000000 in
theorem c_has (s k : Int32) : RCtr yX5_has cX5_has 2 (some .boolean) 0 [.int s, .int k] ([]) (.int (bI (hasb s k))) := by
  refine Ctr.of rfl (Nat.le_of_ble_eq_true rfl) ⟨clS_of rfl, clH_of rfl⟩ (fun K F X0 => ?_)
  show Go K 0 0 0 [(0, .int s), (1, .int k)] [] ([])
  refine g_iload_n (pc := 0) F dX5_has_0 rfl ?_
  refine g_iload_n (pc := 1) F dX5_has_1 rfl ?_
  refine g_ishr (pc := 2) F dX5_has_2 ?_
  refine g_iconst (pc := 3) F dX5_has_3 (v := nI 1) rfl ?_
  refine g_iand (pc := 4) F dX5_has_4 ?_
  refine g_iconst (pc := 5) F dX5_has_5 (v := nI 1) rfl ?_
  refine g_ic_ne (pc := 6) F dX5_has_6 (tgt := 13) rfl (fun c_6 => ?_) (fun c_6 => ?_)
  · refine g_iconst (pc := 13) F dX5_has_13 (v := nI 0) rfl ?_
    exact g_zret (pc := 14) F X0 dX5_has_14 (by first | exact bI_nar _ | rfl) (Nat.le_of_ble_eq_true rfl) (Nat.le_of_ble_eq_true rfl) rfl ⟨congrArg (fun z => some (Value.int z)) (by unfold hasb; first | rw [decide_eq_true c_6]; rfl | rw [decide_eq_false c_6]; rfl), rfl⟩
  · refine g_iconst (pc := 9) F dX5_has_9 (v := nI 1) rfl ?_
    refine g_goto (pc := 10) F dX5_has_10 (tgt := 14) rfl ?_
    exact g_zret (pc := 14) F X0 dX5_has_14 (by first | exact bI_nar _ | rfl) (Nat.le_of_ble_eq_true rfl) (Nat.le_of_ble_eq_true rfl) rfl ⟨congrArg (fun z => some (Value.int z)) (by unfold hasb; first | rw [decide_eq_true c_6]; rfl | rw [decide_eq_false c_6]; rfl), rfl⟩

