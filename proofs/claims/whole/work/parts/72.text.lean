/-! the text of a desert -/
abbrev dgP (x : Int32) : Prop := nI 48 ≤ x ∧ x ≤ nI 57
/-- bytes as the class sees them -/
def byU (U : SX) (n i : Nat) : Int32 := if i < n then sE U i else (-1)
def dgt (x : Int32) : Nat := if dgP x then N x - 48 else 0
theorem dgt_y {x : Int32} (h : dgP x) : x = nI (dgt x + 48) ∧ dgt x ≤ 9 := by
  obtain ⟨j, hj, rfl⟩ := in_ex (by decide) (⟨Int32.le_trans (by decide) h.1, h.2⟩ : nI 0 ≤ x ∧ x ≤ nI 57)
  have h1 := (nI_leI (by decide) (by omega)).mp h.1
  unfold dgt
  rw [if_pos h, N_nI (by omega)]
  exact ⟨congrArg nI (by omega), by omega⟩
theorem dgt_le (x : Int32) : dgt x ≤ 9 := by
  by_cases h : dgP x
  · exact (dgt_y h).2
  · unfold dgt
    rw [if_neg h]
    decide
/-- how many digits a letter wants -/
def kL (x : Int32) : Nat := if x = nI 99 ∨ x = nI 103 then 4 else if x = nI 100 then 2 else if x = nI 101 ∨ x = nI 114 ∨ x = nI 119 then 1 else 0
abbrev letP (x : Int32) : Prop := x = nI 99 ∨ x = nI 103 ∨ x = nI 100 ∨ x = nI 101 ∨ x = nI 114 ∨ x = nI 119 ∨ x = nI 102
def kI (x : Int32) : Int32 := if letP x then nI (kL x) else (-1)
theorem kL_le (x : Int32) : kL x ≤ 4 := by
  unfold kL
  split
  · decide
  · split
    · decide
    · split <;> decide
/-- how many digits stand from p on, k at most -/
def ldN (B : Nat → Int32) : Nat → Nat → Nat
  | _, 0 => 0
  | p, k + 1 => if dgP (B p) then ldN B (p + 1) k + 1 else 0
theorem ldN_le (B : Nat → Int32) : ∀ p k, ldN B p k ≤ k
  | _, 0 => Nat.le_refl 0
  | p, k + 1 => by
    have := ldN_le B (p + 1) k
    unfold ldN
    split <;> omega
abbrev okS (B : Nat → Int32) (p : Nat) : Prop := letP (B p) ∧ ldN B (p + 1) (kL (B p)) = kL (B p) ∧ B (p + 1 + kL (B p)) = nI 59
def badS (B : Nat → Int32) (p : Nat) : Nat := if letP (B p) then p + 1 + ldN B (p + 1) (kL (B p)) else p
abbrev lenS (B : Nat → Int32) (p : Nat) : Nat := kL (B p) + 2
def numN (B : Nat → Int32) (p k : Nat) : Nat := it (fun i z => 10 * z + dgt (B (p + i))) k 0
theorem numN_le (B : Nat → Int32) (p : Nat) : ∀ k, numN B p k < 10 ^ k
  | 0 => (show 0 < 1 from Nat.one_pos)
  | k + 1 => by
    have h := numN_le B p k
    have h2 := dgt_le (B (p + k))
    have e : numN B p (k + 1) = 10 * numN B p k + dgt (B (p + k)) := rfl
    have e2 : 10 ^ (k + 1) = 10 ^ k * 10 := rfl
    omega
theorem pl_in {p n : Nat} (h : p < n) (hn : n ≤ 100) : nI 0 ≤ nI p ∧ nI p ≤ nI n - nI 1 := by
  refine ⟨(nI_leI (by decide) (by omega)).mpr (Nat.zero_le _), ?_⟩
  rw [ti_le, ti_sub (by rw [ti_n _ (by omega), ti_n _ (by omega)]; omega) (by rw [ti_n _ (by omega), ti_n _ (by omega)]; omega), ti_n _ (by omega), ti_n _ (by omega), ti_n _ (by omega)]
  omega
set_option maxRecDepth 100000 in
set_option maxHeartbeats 800000 in
theorem c_byteAt (U : SX) (n p : Nat) (hs : sSi U = nI n) (hn : n ≤ 100) (x : Int32) (hx : x = nI p) (hp : p < 1000) : RCtr yX3_byteAt cX3_byteAt 2 (some .int) 2 [.ref 0, .int x] (sW 0 U) (.int (byU U n p)) := by
  subst hx
  refine Ctr.of rfl (Nat.le_of_ble_eq_true rfl) ⟨clS_of rfl, clH_of rfl⟩ (fun K F X0 => ?_)
  show Go K 0 0 0 [(0, .ref 0), (1, .int (nI p))] [] (sW 0 U)
  refine g_aload_n (pc := 0) F dX3_byteAt_0 rfl ?_
  refine g_iload_n (pc := 1) F dX3_byteAt_1 rfl ?_
  refine h_readV (pc := 2) F (c_hasPlace U _) mi_X2_hasPlace kv_X3_84 rfl rfl dX3_byteAt_2 [0, 1] rfl (by decide) (by decide) rfl rfl (Nat.le_of_ble_eq_true rfl) trivial (by decide) (by decide) ?_
  refine g_ifeq_d (pc := 5) F dX3_byteAt_5 (tgt := 17) rfl (fun c_5 => ?_) (fun c_5 => ?_)
  · refine g_iconst (pc := 17) F dX3_byteAt_17 (v := (-1 : Int32)) (by decide) ?_
    exact g_iret (pc := 18) F X0 dX3_byteAt_18 (Nat.le_of_ble_eq_true rfl) (Nat.le_of_ble_eq_true rfl) rfl ⟨congrArg (fun z => some (Value.int z)) (by first | exact (if_pos hpn).symm | exact (if_neg (fun z => c_5 (by rw [hs]; exact pl_in z hn))).symm | fail), rfl⟩
  · have hpn : p < n := by
      rw [hs] at c_5
      obtain ⟨q, hq, e⟩ := lt_ex (by omega) c_5
      have := (nI_eq (by omega) (by omega)).mp e
      omega
    refine g_aload_n (pc := 8) F dX3_byteAt_8 rfl ?_
    refine g_getf (pc := 9) F fl_X3_87 dX3_byteAt_9 rfl rfl ?_
    refine g_iload_n (pc := 12) F dX3_byteAt_12 rfl ?_
    refine g_iald2 (pc := 13) F dX3_byteAt_13 rfl rfl (by omega) (by decide) ?_
    refine g_goto (pc := 14) F dX3_byteAt_14 (tgt := 18) rfl ?_
    exact g_iret (pc := 18) F X0 dX3_byteAt_18 (Nat.le_of_ble_eq_true rfl) (Nat.le_of_ble_eq_true rfl) rfl ⟨congrArg (fun z => some (Value.int z)) (by first | exact (if_pos hpn).symm | exact (if_neg (fun z => c_5 (by rw [hs]; exact pl_in z hn))).symm | fail), rfl⟩

set_option maxRecDepth 100000 in
set_option maxHeartbeats 800000 in
theorem c_tDigit (x : Int32) : RCtr yX3_isDigit cX3_isDigit 1 (some .boolean) 1 [.int x] ([]) (.int (bI (decide (dgP x)))) := by
  refine Ctr.of rfl (Nat.le_of_ble_eq_true rfl) ⟨clS_of rfl, clH_of rfl⟩ (fun K F X0 => ?_)
  show Go K 0 0 0 [(0, .int x)] [] ([])
  refine g_iload_n (pc := 0) F dX3_isDigit_0 rfl ?_
  refine g_bipush (pc := 1) F dX3_isDigit_1 (v := nI 48) rfl ?_
  refine g_bipush (pc := 3) F dX3_isDigit_3 (v := nI 57) rfl ?_
  refine h_readSN (pc := 5) F (c_isWithin _ _ _) mi_X4_isWithin kn_X3_74 kn2_X3_74 dX3_isDigit_5 [] rfl (by decide) (by decide) rfl rfl (Nat.le_of_ble_eq_true rfl) trivial (by decide) (by decide) ?_
  exact g_zret (pc := 8) F X0 dX3_isDigit_8 (by first | exact bI_nar _ | rfl) (Nat.le_of_ble_eq_true rfl) (Nat.le_of_ble_eq_true rfl) rfl ⟨rfl, rfl⟩

theorem kI_o {x : Int32} (h : x.toInt < (99 : Nat) ∨ ((119 : Nat) : Int) < x.toInt) : kI x = (-1) := by
  refine if_neg (fun z => ?_)
  rcases z with rfl | rfl | rfl | rfl | rfl | rfl | rfl <;> exact absurd h (by decide)
set_option maxRecDepth 100000 in
set_option maxHeartbeats 800000 in
theorem c_digits (x : Int32) : RCtr yX3_digitsBehind cX3_digitsBehind 1 (some .int) 0 [.int x] ([]) (.int (kI x)) := by
  refine Ctr.of rfl (Nat.le_of_ble_eq_true rfl) ⟨clS_of rfl, clH_of rfl⟩ (fun K F X0 => ?_)
  show Go K 0 0 0 [(0, .int x)] [] ([])
  refine g_iload_n (pc := 0) F dX3_digitsBehind_0 rfl ?_
  rcases sw_cases 99 119 x (by decide) with ⟨j_1, j1_1, j2_1, hx_1⟩ | ho_1
  · rcases (show j_1 = 99 ∨ j_1 = 100 ∨ j_1 = 101 ∨ j_1 = 102 ∨ j_1 = 103 ∨ j_1 = 104 ∨ j_1 = 105 ∨ j_1 = 106 ∨ j_1 = 107 ∨ j_1 = 108 ∨ j_1 = 109 ∨ j_1 = 110 ∨ j_1 = 111 ∨ j_1 = 112 ∨ j_1 = 113 ∨ j_1 = 114 ∨ j_1 = 115 ∨ j_1 = 116 ∨ j_1 = 117 ∨ j_1 = 118 ∨ j_1 = 119 by omega) with rfl | rfl | rfl | rfl | rfl | rfl | rfl | rfl | rfl | rfl | rfl | rfl | rfl | rfl | rfl | rfl | rfl | rfl | rfl | rfl | rfl
    · refine g_tableIn2 (pc := 1) F dX3_digitsBehind_1 hx_1 (by decide) (by decide) (tgt := 100) rfl rfl ?_
      refine g_iconst (pc := 100) F dX3_digitsBehind_100 (v := nI 4) rfl ?_
      exact g_iret (pc := 101) F X0 dX3_digitsBehind_101 (Nat.le_of_ble_eq_true rfl) (Nat.le_of_ble_eq_true rfl) rfl ⟨congrArg (fun z => some (Value.int z)) (by first | exact (kI_o ho_1).symm | (rw [hx_1]; decide) | fail), rfl⟩
    · refine g_tableIn2 (pc := 1) F dX3_digitsBehind_1 hx_1 (by decide) (by decide) (tgt := 102) rfl rfl ?_
      refine g_iconst (pc := 102) F dX3_digitsBehind_102 (v := nI 2) rfl ?_
      exact g_iret (pc := 103) F X0 dX3_digitsBehind_103 (Nat.le_of_ble_eq_true rfl) (Nat.le_of_ble_eq_true rfl) rfl ⟨congrArg (fun z => some (Value.int z)) (by first | exact (kI_o ho_1).symm | (rw [hx_1]; decide) | fail), rfl⟩
    · refine g_tableIn2 (pc := 1) F dX3_digitsBehind_1 hx_1 (by decide) (by decide) (tgt := 104) rfl rfl ?_
      refine g_iconst (pc := 104) F dX3_digitsBehind_104 (v := nI 1) rfl ?_
      exact g_iret (pc := 105) F X0 dX3_digitsBehind_105 (Nat.le_of_ble_eq_true rfl) (Nat.le_of_ble_eq_true rfl) rfl ⟨congrArg (fun z => some (Value.int z)) (by first | exact (kI_o ho_1).symm | (rw [hx_1]; decide) | fail), rfl⟩
    · refine g_tableIn2 (pc := 1) F dX3_digitsBehind_1 hx_1 (by decide) (by decide) (tgt := 106) rfl rfl ?_
      refine g_iconst (pc := 106) F dX3_digitsBehind_106 (v := nI 0) rfl ?_
      exact g_iret (pc := 107) F X0 dX3_digitsBehind_107 (Nat.le_of_ble_eq_true rfl) (Nat.le_of_ble_eq_true rfl) rfl ⟨congrArg (fun z => some (Value.int z)) (by first | exact (kI_o ho_1).symm | (rw [hx_1]; decide) | fail), rfl⟩
    · refine g_tableIn2 (pc := 1) F dX3_digitsBehind_1 hx_1 (by decide) (by decide) (tgt := 100) rfl rfl ?_
      refine g_iconst (pc := 100) F dX3_digitsBehind_100 (v := nI 4) rfl ?_
      exact g_iret (pc := 101) F X0 dX3_digitsBehind_101 (Nat.le_of_ble_eq_true rfl) (Nat.le_of_ble_eq_true rfl) rfl ⟨congrArg (fun z => some (Value.int z)) (by first | exact (kI_o ho_1).symm | (rw [hx_1]; decide) | fail), rfl⟩
    · refine g_tableIn2 (pc := 1) F dX3_digitsBehind_1 hx_1 (by decide) (by decide) (tgt := 108) rfl rfl ?_
      refine g_iconst (pc := 108) F dX3_digitsBehind_108 (v := (-1 : Int32)) (by decide) ?_
      exact g_iret (pc := 109) F X0 dX3_digitsBehind_109 (Nat.le_of_ble_eq_true rfl) (Nat.le_of_ble_eq_true rfl) rfl ⟨congrArg (fun z => some (Value.int z)) (by first | exact (kI_o ho_1).symm | (rw [hx_1]; decide) | fail), rfl⟩
    · refine g_tableIn2 (pc := 1) F dX3_digitsBehind_1 hx_1 (by decide) (by decide) (tgt := 108) rfl rfl ?_
      refine g_iconst (pc := 108) F dX3_digitsBehind_108 (v := (-1 : Int32)) (by decide) ?_
      exact g_iret (pc := 109) F X0 dX3_digitsBehind_109 (Nat.le_of_ble_eq_true rfl) (Nat.le_of_ble_eq_true rfl) rfl ⟨congrArg (fun z => some (Value.int z)) (by first | exact (kI_o ho_1).symm | (rw [hx_1]; decide) | fail), rfl⟩
    · refine g_tableIn2 (pc := 1) F dX3_digitsBehind_1 hx_1 (by decide) (by decide) (tgt := 108) rfl rfl ?_
      refine g_iconst (pc := 108) F dX3_digitsBehind_108 (v := (-1 : Int32)) (by decide) ?_
      exact g_iret (pc := 109) F X0 dX3_digitsBehind_109 (Nat.le_of_ble_eq_true rfl) (Nat.le_of_ble_eq_true rfl) rfl ⟨congrArg (fun z => some (Value.int z)) (by first | exact (kI_o ho_1).symm | (rw [hx_1]; decide) | fail), rfl⟩
    · refine g_tableIn2 (pc := 1) F dX3_digitsBehind_1 hx_1 (by decide) (by decide) (tgt := 108) rfl rfl ?_
      refine g_iconst (pc := 108) F dX3_digitsBehind_108 (v := (-1 : Int32)) (by decide) ?_
      exact g_iret (pc := 109) F X0 dX3_digitsBehind_109 (Nat.le_of_ble_eq_true rfl) (Nat.le_of_ble_eq_true rfl) rfl ⟨congrArg (fun z => some (Value.int z)) (by first | exact (kI_o ho_1).symm | (rw [hx_1]; decide) | fail), rfl⟩
    · refine g_tableIn2 (pc := 1) F dX3_digitsBehind_1 hx_1 (by decide) (by decide) (tgt := 108) rfl rfl ?_
      refine g_iconst (pc := 108) F dX3_digitsBehind_108 (v := (-1 : Int32)) (by decide) ?_
      exact g_iret (pc := 109) F X0 dX3_digitsBehind_109 (Nat.le_of_ble_eq_true rfl) (Nat.le_of_ble_eq_true rfl) rfl ⟨congrArg (fun z => some (Value.int z)) (by first | exact (kI_o ho_1).symm | (rw [hx_1]; decide) | fail), rfl⟩
    · refine g_tableIn2 (pc := 1) F dX3_digitsBehind_1 hx_1 (by decide) (by decide) (tgt := 108) rfl rfl ?_
      refine g_iconst (pc := 108) F dX3_digitsBehind_108 (v := (-1 : Int32)) (by decide) ?_
      exact g_iret (pc := 109) F X0 dX3_digitsBehind_109 (Nat.le_of_ble_eq_true rfl) (Nat.le_of_ble_eq_true rfl) rfl ⟨congrArg (fun z => some (Value.int z)) (by first | exact (kI_o ho_1).symm | (rw [hx_1]; decide) | fail), rfl⟩
    · refine g_tableIn2 (pc := 1) F dX3_digitsBehind_1 hx_1 (by decide) (by decide) (tgt := 108) rfl rfl ?_
      refine g_iconst (pc := 108) F dX3_digitsBehind_108 (v := (-1 : Int32)) (by decide) ?_
      exact g_iret (pc := 109) F X0 dX3_digitsBehind_109 (Nat.le_of_ble_eq_true rfl) (Nat.le_of_ble_eq_true rfl) rfl ⟨congrArg (fun z => some (Value.int z)) (by first | exact (kI_o ho_1).symm | (rw [hx_1]; decide) | fail), rfl⟩
    · refine g_tableIn2 (pc := 1) F dX3_digitsBehind_1 hx_1 (by decide) (by decide) (tgt := 108) rfl rfl ?_
      refine g_iconst (pc := 108) F dX3_digitsBehind_108 (v := (-1 : Int32)) (by decide) ?_
      exact g_iret (pc := 109) F X0 dX3_digitsBehind_109 (Nat.le_of_ble_eq_true rfl) (Nat.le_of_ble_eq_true rfl) rfl ⟨congrArg (fun z => some (Value.int z)) (by first | exact (kI_o ho_1).symm | (rw [hx_1]; decide) | fail), rfl⟩
    · refine g_tableIn2 (pc := 1) F dX3_digitsBehind_1 hx_1 (by decide) (by decide) (tgt := 108) rfl rfl ?_
      refine g_iconst (pc := 108) F dX3_digitsBehind_108 (v := (-1 : Int32)) (by decide) ?_
      exact g_iret (pc := 109) F X0 dX3_digitsBehind_109 (Nat.le_of_ble_eq_true rfl) (Nat.le_of_ble_eq_true rfl) rfl ⟨congrArg (fun z => some (Value.int z)) (by first | exact (kI_o ho_1).symm | (rw [hx_1]; decide) | fail), rfl⟩
    · refine g_tableIn2 (pc := 1) F dX3_digitsBehind_1 hx_1 (by decide) (by decide) (tgt := 108) rfl rfl ?_
      refine g_iconst (pc := 108) F dX3_digitsBehind_108 (v := (-1 : Int32)) (by decide) ?_
      exact g_iret (pc := 109) F X0 dX3_digitsBehind_109 (Nat.le_of_ble_eq_true rfl) (Nat.le_of_ble_eq_true rfl) rfl ⟨congrArg (fun z => some (Value.int z)) (by first | exact (kI_o ho_1).symm | (rw [hx_1]; decide) | fail), rfl⟩
    · refine g_tableIn2 (pc := 1) F dX3_digitsBehind_1 hx_1 (by decide) (by decide) (tgt := 104) rfl rfl ?_
      refine g_iconst (pc := 104) F dX3_digitsBehind_104 (v := nI 1) rfl ?_
      exact g_iret (pc := 105) F X0 dX3_digitsBehind_105 (Nat.le_of_ble_eq_true rfl) (Nat.le_of_ble_eq_true rfl) rfl ⟨congrArg (fun z => some (Value.int z)) (by first | exact (kI_o ho_1).symm | (rw [hx_1]; decide) | fail), rfl⟩
    · refine g_tableIn2 (pc := 1) F dX3_digitsBehind_1 hx_1 (by decide) (by decide) (tgt := 108) rfl rfl ?_
      refine g_iconst (pc := 108) F dX3_digitsBehind_108 (v := (-1 : Int32)) (by decide) ?_
      exact g_iret (pc := 109) F X0 dX3_digitsBehind_109 (Nat.le_of_ble_eq_true rfl) (Nat.le_of_ble_eq_true rfl) rfl ⟨congrArg (fun z => some (Value.int z)) (by first | exact (kI_o ho_1).symm | (rw [hx_1]; decide) | fail), rfl⟩
    · refine g_tableIn2 (pc := 1) F dX3_digitsBehind_1 hx_1 (by decide) (by decide) (tgt := 108) rfl rfl ?_
      refine g_iconst (pc := 108) F dX3_digitsBehind_108 (v := (-1 : Int32)) (by decide) ?_
      exact g_iret (pc := 109) F X0 dX3_digitsBehind_109 (Nat.le_of_ble_eq_true rfl) (Nat.le_of_ble_eq_true rfl) rfl ⟨congrArg (fun z => some (Value.int z)) (by first | exact (kI_o ho_1).symm | (rw [hx_1]; decide) | fail), rfl⟩
    · refine g_tableIn2 (pc := 1) F dX3_digitsBehind_1 hx_1 (by decide) (by decide) (tgt := 108) rfl rfl ?_
      refine g_iconst (pc := 108) F dX3_digitsBehind_108 (v := (-1 : Int32)) (by decide) ?_
      exact g_iret (pc := 109) F X0 dX3_digitsBehind_109 (Nat.le_of_ble_eq_true rfl) (Nat.le_of_ble_eq_true rfl) rfl ⟨congrArg (fun z => some (Value.int z)) (by first | exact (kI_o ho_1).symm | (rw [hx_1]; decide) | fail), rfl⟩
    · refine g_tableIn2 (pc := 1) F dX3_digitsBehind_1 hx_1 (by decide) (by decide) (tgt := 108) rfl rfl ?_
      refine g_iconst (pc := 108) F dX3_digitsBehind_108 (v := (-1 : Int32)) (by decide) ?_
      exact g_iret (pc := 109) F X0 dX3_digitsBehind_109 (Nat.le_of_ble_eq_true rfl) (Nat.le_of_ble_eq_true rfl) rfl ⟨congrArg (fun z => some (Value.int z)) (by first | exact (kI_o ho_1).symm | (rw [hx_1]; decide) | fail), rfl⟩
    · refine g_tableIn2 (pc := 1) F dX3_digitsBehind_1 hx_1 (by decide) (by decide) (tgt := 104) rfl rfl ?_
      refine g_iconst (pc := 104) F dX3_digitsBehind_104 (v := nI 1) rfl ?_
      exact g_iret (pc := 105) F X0 dX3_digitsBehind_105 (Nat.le_of_ble_eq_true rfl) (Nat.le_of_ble_eq_true rfl) rfl ⟨congrArg (fun z => some (Value.int z)) (by first | exact (kI_o ho_1).symm | (rw [hx_1]; decide) | fail), rfl⟩
  · refine g_tableOut (pc := 1) F dX3_digitsBehind_1 ho_1 (tgt := 108) rfl ?_
    refine g_iconst (pc := 108) F dX3_digitsBehind_108 (v := (-1 : Int32)) (by decide) ?_
    exact g_iret (pc := 109) F X0 dX3_digitsBehind_109 (Nat.le_of_ble_eq_true rfl) (Nat.le_of_ble_eq_true rfl) rfl ⟨congrArg (fun z => some (Value.int z)) (by first | exact (kI_o ho_1).symm | (rw [hx_1]; decide) | fail), rfl⟩

theorem dg_sub {x : Int32} (h : dgP x) : x - nI 48 = nI (dgt x) := by
  obtain ⟨h1, h2⟩ := dgt_y h
  generalize dgt x = d at h1 h2
  rw [h1, ← nI_add, Int32.add_sub_cancel]
set_option maxRecDepth 100000 in
set_option maxHeartbeats 800000 in
theorem c_digitAt (U : SX) (n p : Nat) (hs : sSi U = nI n) (hn : n ≤ 100) (x : Int32) (hx : x = nI p) (hp : p < 1000) : RCtr yX3_digitAt cX3_digitAt 3 (some .int) 3 [.ref 0, .int x] (sW 0 U) (.int (nI (dgt (byU U n p)))) := by
  subst hx
  refine Ctr.of rfl (Nat.le_of_ble_eq_true rfl) ⟨clS_of rfl, clH_of rfl⟩ (fun K F X0 => ?_)
  show Go K 0 0 0 [(0, .ref 0), (1, .int (nI p))] [] (sW 0 U)
  refine g_aload_n (pc := 0) F dX3_digitAt_0 rfl ?_
  refine g_iload_n (pc := 1) F dX3_digitAt_1 rfl ?_
  refine h_readS (pc := 2) F (c_byteAt U n p hs hn _ rfl hp) mi_X3_byteAt ks_X3_9 dX3_digitAt_2 [0, 1] rfl (by decide) (by decide) rfl rfl (Nat.le_of_ble_eq_true rfl) trivial (by decide) (by decide) ?_
  refine g_istore_n (pc := 5) F dX3_digitAt_5 (by decide) ?_
  refine g_iload_n (pc := 6) F dX3_digitAt_6 rfl ?_
  refine h_readS (pc := 7) F (c_tDigit _) mi_X3_isDigit ks_X3_19 dX3_digitAt_7 [] rfl (by decide) (by decide) rfl rfl (Nat.le_of_ble_eq_true rfl) trivial (by decide) (by decide) ?_
  refine g_ifeq_d (pc := 10) F dX3_digitAt_10 (tgt := 20) rfl (fun c_10 => ?_) (fun c_10 => ?_)
  · refine g_iconst (pc := 20) F dX3_digitAt_20 (v := nI 0) rfl ?_
    exact g_iret (pc := 21) F X0 dX3_digitAt_21 (Nat.le_of_ble_eq_true rfl) (Nat.le_of_ble_eq_true rfl) rfl ⟨congrArg (fun z => some (Value.int z)) (by first | exact dg_sub c_10 | exact (congrArg nI (if_neg c_10)).symm | fail), rfl⟩
  · refine g_iload_n (pc := 13) F dX3_digitAt_13 rfl ?_
    refine g_bipush (pc := 14) F dX3_digitAt_14 (v := nI 48) rfl ?_
    refine g_isub (pc := 16) F dX3_digitAt_16 ?_
    refine g_goto (pc := 17) F dX3_digitAt_17 (tgt := 21) rfl ?_
    exact g_iret (pc := 21) F X0 dX3_digitAt_21 (Nat.le_of_ble_eq_true rfl) (Nat.le_of_ble_eq_true rfl) rfl ⟨congrArg (fun z => some (Value.int z)) (by first | exact dg_sub c_10 | exact (congrArg nI (if_neg c_10)).symm | fail), rfl⟩

set_option maxRecDepth 100000 in
set_option maxHeartbeats 800000 in
theorem c_numberAt (U : SX) (n p k : Nat) (hs : sSi U = nI n) (hn : n ≤ 100) (hp : p < 900) (hk : k ≤ 4) (x : Int32) (hx : x = nI p) : RCtr yX3_numberAt cX3_numberAt 5 (some .int) 4 [.ref 0, .int x, .int (nI k)] (sW 0 U) (.int (nI (numN (byU U n) p k))) := by
  subst hx
  refine Ctr.of rfl (Nat.le_of_ble_eq_true rfl) ⟨clS_of rfl, clH_of rfl⟩ (fun K F X0 => ?_)
  show Go K 0 0 0 [(0, .ref 0), (1, .int (nI p)), (2, .int (nI k))] [] (sW 0 U)
  refine g_iconst (pc := 0) F dX3_numberAt_0 (v := nI 0) rfl ?_
  refine g_istore_n (pc := 1) F dX3_numberAt_1 (by decide) ?_
  refine g_iconst (pc := 2) F dX3_numberAt_2 (v := nI 0) rfl ?_
  refine g_istore (pc := 3) F dX3_numberAt_3 (by decide) ?_
  have L : ∀ i, i ≤ k → Go K 0 0 5 [(0, .ref 0), (1, .int (nI p)), (2, .int (nI k)), (3, .int (nI (numN (byU U n) p i))), (4, .int (nI (i)))] [] (sW 0 U) := loop_up (P := fun i => Go K 0 0 5 [(0, .ref 0), (1, .int (nI p)), (2, .int (nI k)), (3, .int (nI (numN (byU U n) p i))), (4, .int (nI (i)))] [] (sW 0 U)) (fun i hi ih => by
    refine g_iload (pc := 5) F dX3_numberAt_5 rfl ?_
    refine g_iload_n (pc := 7) F dX3_numberAt_7 rfl ?_
    refine g_icN_ge (pc := 8) F dX3_numberAt_8 (tgt := 31) rfl rfl rfl (by omega) (by omega) (fun c_8 => ?_) (fun c_8 => ?_)
    · have hik : i = k := by omega
      refine g_iload_n (pc := 31) F dX3_numberAt_31 rfl ?_
      exact g_iret (pc := 32) F X0 dX3_numberAt_32 (Nat.le_of_ble_eq_true rfl) (Nat.le_of_ble_eq_true rfl) rfl ⟨congrArg (fun z => some (Value.int z)) (by rw [hik]), rfl⟩
    · refine g_bipush (pc := 11) F dX3_numberAt_11 (v := nI 10) rfl ?_
      refine g_iload_n (pc := 13) F dX3_numberAt_13 rfl ?_
      refine g_imulN (pc := 14) F dX3_numberAt_14 ?_
      refine g_aload_n (pc := 15) F dX3_numberAt_15 rfl ?_
      refine g_iload_n (pc := 16) F dX3_numberAt_16 rfl ?_
      refine g_iload (pc := 17) F dX3_numberAt_17 rfl ?_
      refine g_iaddN (pc := 19) F dX3_numberAt_19 ?_
      refine h_readS (pc := 20) F (c_digitAt U n (p + i) hs hn _ rfl (by omega)) mi_X3_digitAt ks_X3_29 dX3_numberAt_20 [0, 1] rfl (by decide) (by decide) rfl rfl (Nat.le_of_ble_eq_true rfl) trivial (by decide) (by decide) ?_
      refine g_iaddN (pc := 23) F dX3_numberAt_23 ?_
      refine g_istore_n (pc := 24) F dX3_numberAt_24 (by decide) ?_
      refine g_iincN (pc := 25) F dX3_numberAt_25 rfl (by decide) ?_
      refine g_goto (pc := 28) F dX3_numberAt_28 (tgt := 5) rfl ?_
      exact ih c_8)
  exact L 0 (Nat.zero_le _)

theorem kI_nn {x : Int32} (h : letP x) : kI x = nI (kL x) := if_pos h
theorem kI_no {x : Int32} (h : ¬ letP x) : kI x = (-1) := if_neg h
theorem kI_let {x : Int32} (h : ¬ kI x < 0) : letP x := Decidable.byContradiction (fun z => h (by rw [kI_no z]; decide))
theorem kI_nlet {x : Int32} (h : kI x < 0) : ¬ letP x := fun z => by
  rw [kI_nn z] at h
  exact nI_nneg (by have := kL_le x; omega) h
theorem mx_len (B : Nat → Int32) (p : Nat) : mx (nI 2) (nI (lenS B p)) = nI (lenS B p) := by
  have := kL_le (B p)
  show mx (nI 2) (nI (kL (B p) + 2)) = nI (kL (B p) + 2)
  rw [mx_nI (by decide) (by omega), Nat.max_eq_right (Nat.le_add_left 2 _)]
set_option maxRecDepth 100000 in
set_option maxHeartbeats 800000 in
theorem c_lenS (U : SX) (n p : Nat) (hs : sSi U = nI n) (hn : n ≤ 100) (hp : p < 900) (x : Int32) (hx : x = nI p) (hl : letP (byU U n p)) : RCtr yX3_lengthOfStatement cX3_lengthOfStatement 2 (some .int) 3 [.ref 0, .int x] (sW 0 U) (.int (nI (lenS (byU U n) p))) := by
  subst hx
  refine Ctr.of rfl (Nat.le_of_ble_eq_true rfl) ⟨clS_of rfl, clH_of rfl⟩ (fun K F X0 => ?_)
  show Go K 0 0 0 [(0, .ref 0), (1, .int (nI p))] [] (sW 0 U)
  refine g_iconst (pc := 0) F dX3_lengthOfStatement_0 (v := nI 2) rfl ?_
  refine g_aload_n (pc := 1) F dX3_lengthOfStatement_1 rfl ?_
  refine g_iload_n (pc := 2) F dX3_lengthOfStatement_2 rfl ?_
  refine h_readS (pc := 3) F (c_byteAt U n p hs hn _ rfl (by omega)) mi_X3_byteAt ks_X3_9 dX3_lengthOfStatement_3 [0, 1] rfl (by decide) (by decide) rfl rfl (Nat.le_of_ble_eq_true rfl) trivial (by decide) (by decide) ?_
  refine h_readS (pc := 6) F (c_digits _) mi_X3_digitsBehind ks_X3_15 dX3_lengthOfStatement_6 [] rfl (by decide) (by decide) rfl rfl (Nat.le_of_ble_eq_true rfl) trivial (by decide) (by decide) ?_
  rw [kI_nn hl]
  refine g_iaddN (pc := 9) F dX3_lengthOfStatement_9 ?_
  exact g_iret (pc := 10) F X0 dX3_lengthOfStatement_10 (Nat.le_of_ble_eq_true rfl) (Nat.le_of_ble_eq_true rfl) rfl ⟨congrArg (fun z => some (Value.int z)) (by exact congrArg nI (Nat.add_comm _ _)), rfl⟩

/-- the first bad place from p on, -1 if there is none -/
def frm (B : Nat → Int32) (n : Nat) : Nat → Nat → Int32
  | 0, _ => (-1)
  | f + 1, p => if okS B p then (if p + lenS B p < n then frm B n f (p + lenS B p) else (-1)) else nI (badS B p)
theorem frm_b {B : Nat → Int32} {n f p : Nat} (h : ¬ okS B p) : frm B n (f + 1) p = nI (badS B p) := if_neg h
theorem frm_e {B : Nat → Int32} {n f p : Nat} (h : okS B p) (h2 : ¬ p + lenS B p < n) : frm B n (f + 1) p = (-1) := (if_pos h).trans (if_neg h2)
theorem frm_s {B : Nat → Int32} {n f p : Nat} (h : okS B p) (h2 : p + lenS B p < n) : frm B n (f + 1) p = frm B n f (p + lenS B p) := (if_pos h).trans (if_pos h2)
theorem bad_l {B : Nat → Int32} {p : Nat} (h : ¬ letP (B p)) : badS B p = p := if_neg h
theorem bad_d {B : Nat → Int32} {p q : Nat} (h : letP (B p)) (h2 : p + 1 + ldN B (p + 1) (kL (B p)) = q) : badS B p = q := (if_pos h).trans h2
theorem byB_lt {U : SX} {n i : Nat} {B : Nat → Int32} (hB : B = byU U n) (h : ¬ B i = (-1)) : i < n := by
  rw [hB] at h
  exact Decidable.byContradiction (fun z => h (if_neg z))
set_option maxRecDepth 100000 in
set_option maxHeartbeats 800000 in
theorem c_form (U : SX) (n : Nat) (hs : sSi U = nI n) (hn : n ≤ 100) (B : Nat → Int32) (hB : B = byU U n) : RCtr yX3_placeOfBadForm cX3_placeOfBadForm 5 (some .int) 3 [.ref 0] (sW 0 U) (.int (frm B n (n + 1) 0)) := by
  have hbt : ∀ p, p < 1000 → RCtr yX3_byteAt cX3_byteAt 2 (some .int) 2 [.ref 0, .int (nI p)] (sW 0 U) (.int (B p)) := fun p hp => by
    rw [hB]
    exact c_byteAt U n p hs hn _ rfl hp
  refine Ctr.of rfl (Nat.le_of_ble_eq_true rfl) ⟨clS_of rfl, clH_of rfl⟩ (fun K F X0 => ?_)
  show Go K 0 0 0 [(0, .ref 0)] [] (sW 0 U)
  refine g_iconst (pc := 0) F dX3_placeOfBadForm_0 (v := nI 0) rfl ?_
  refine g_istore_n (pc := 1) F dX3_placeOfBadForm_1 (by decide) ?_
  obtain ⟨A, hA⟩ : ∃ A, frm B n (n + 1) 0 = A := ⟨_, rfl⟩
  rw [hA] at X0
  have L : ∀ f, ∀ p, p ≤ n → n < p + f → frm B n f p = A → Go K 0 0 2 [(0, .ref 0), (1, .int (nI p))] [] (sW 0 U) := by
    intro f
    induction f with
    | zero =>
      intro p h1 h2 hfr
      omega
    | succ f ih =>
      intro p h1 h2 hfr
      refine g_aload_n (pc := 2) F dX3_placeOfBadForm_2 rfl ?_
      refine g_iload_n (pc := 3) F dX3_placeOfBadForm_3 rfl ?_
      refine h_readS (pc := 4) F (hbt p (by omega)) mi_X3_byteAt ks_X3_9 dX3_placeOfBadForm_4 [0, 1] rfl (by decide) (by decide) rfl rfl (Nat.le_of_ble_eq_true rfl) trivial (by decide) (by decide) ?_
      refine h_readS (pc := 7) F (c_digits _) mi_X3_digitsBehind ks_X3_15 dX3_placeOfBadForm_7 [] rfl (by decide) (by decide) rfl rfl (Nat.le_of_ble_eq_true rfl) trivial (by decide) (by decide) ?_
      refine g_istore_n (pc := 10) F dX3_placeOfBadForm_10 (by decide) ?_
      refine g_iload_n (pc := 11) F dX3_placeOfBadForm_11 rfl ?_
      refine g_if_ge (pc := 12) F dX3_placeOfBadForm_12 (tgt := 17) rfl (fun c_12 => ?_) (fun c_12 => ?_)
      · have hl := kI_let (Int32.not_lt.mpr c_12)
        rw [kI_nn hl]
        refine g_iload_n (pc := 17) F dX3_placeOfBadForm_17 rfl ?_
        refine g_iload_n (pc := 18) F dX3_placeOfBadForm_18 rfl ?_
        refine g_iaddN (pc := 19) F dX3_placeOfBadForm_19 ?_
        refine g_iconst (pc := 20) F dX3_placeOfBadForm_20 (v := nI 1) rfl ?_
        refine g_iaddN (pc := 21) F dX3_placeOfBadForm_21 ?_
        refine g_istore_n (pc := 22) F dX3_placeOfBadForm_22 (by decide) ?_
        refine g_iload_n (pc := 23) F dX3_placeOfBadForm_23 rfl ?_
        refine g_iconst (pc := 24) F dX3_placeOfBadForm_24 (v := nI 1) rfl ?_
        refine g_iaddN (pc := 25) F dX3_placeOfBadForm_25 ?_
        refine g_istore (pc := 26) F dX3_placeOfBadForm_26 (by decide) ?_
        have hk4 := kL_le (B p)
        have L2 : ∀ i, i ≤ p + 1 + kL (B p) → p + 1 + ldN B (p + 1) (kL (B p)) = i + ldN B i (p + 1 + kL (B p) - i) → p + 1 ≤ i → Go K 0 0 28 [(0, .ref 0), (1, .int (nI p)), (2, .int (nI (kL (B p)))), (3, .int (nI (p + kL (B p) + 1))), (4, .int (nI i))] [] (sW 0 U) := loop_up (P := fun i => p + 1 + ldN B (p + 1) (kL (B p)) = i + ldN B i (p + 1 + kL (B p) - i) → p + 1 ≤ i → Go K 0 0 28 [(0, .ref 0), (1, .int (nI p)), (2, .int (nI (kL (B p)))), (3, .int (nI (p + kL (B p) + 1))), (4, .int (nI i))] [] (sW 0 U)) (fun i hi ih2 => by
          intro he h1
          refine g_iload (pc := 28) F dX3_placeOfBadForm_28 rfl ?_
          refine g_iload_n (pc := 30) F dX3_placeOfBadForm_30 rfl ?_
          refine g_icN_ge (pc := 31) F dX3_placeOfBadForm_31 (tgt := 55) rfl rfl rfl (by omega) (by omega) (fun c_31 => ?_) (fun c_31 => ?_)
          · have hik : i = p + 1 + kL (B p) := by omega
            have hld : ldN B (p + 1) (kL (B p)) = kL (B p) := by
              rw [hik, Nat.sub_self] at he
              have e0 : ldN B (p + 1 + kL (B p)) 0 = 0 := by unfold ldN; rfl
              omega
            refine g_aload_n (pc := 55) F dX3_placeOfBadForm_55 rfl ?_
            refine g_iload_n (pc := 56) F dX3_placeOfBadForm_56 rfl ?_
            refine h_readS (pc := 57) F (hbt (p + kL (B p) + 1) (by omega)) mi_X3_byteAt ks_X3_9 dX3_placeOfBadForm_57 [0, 1] rfl (by decide) (by decide) rfl rfl (Nat.le_of_ble_eq_true rfl) trivial (by decide) (by decide) ?_
            refine g_bipush (pc := 60) F dX3_placeOfBadForm_60 (v := nI 59) rfl ?_
            refine g_ic_eq (pc := 62) F dX3_placeOfBadForm_62 (tgt := 67) rfl (fun c_62 => ?_) (fun c_62 => ?_)
            · have hok : okS B p := ⟨hl, hld, by rw [show p + 1 + kL (B p) = p + kL (B p) + 1 by omega]; exact c_62⟩
              have hin := byB_lt hB (show ¬ B (p + 1 + kL (B p)) = (-1) from fun z => absurd (hok.2.2.symm.trans z) (by decide))
              refine g_iload_n (pc := 67) F dX3_placeOfBadForm_67 rfl ?_
              refine g_iload_n (pc := 68) F dX3_placeOfBadForm_68 rfl ?_
              refine g_iconst (pc := 69) F dX3_placeOfBadForm_69 (v := nI 2) rfl ?_
              refine g_iaddN (pc := 70) F dX3_placeOfBadForm_70 ?_
              refine g_iaddN (pc := 71) F dX3_placeOfBadForm_71 ?_
              refine g_istore_n (pc := 72) F dX3_placeOfBadForm_72 (by decide) ?_
              refine g_iload_n (pc := 73) F dX3_placeOfBadForm_73 rfl ?_
              refine g_aload_n (pc := 74) F dX3_placeOfBadForm_74 rfl ?_
              refine g_getf (pc := 75) F fl_X3_23 dX3_placeOfBadForm_75 rfl rfl ?_
              refine g_icN_lt (pc := 78) F dX3_placeOfBadForm_78 (tgt := 2) rfl rfl hs (by omega) (by omega) (fun c_78 => ?_) (fun c_78 => ?_)
              · have hnx : p + lenS B p < n := by show p + (kL (B p) + 2) < n; omega
                refine g_less [0, 1] rfl ?_
                exact ih (p + (kL (B p) + 2)) (by omega) (by omega) (by rw [← hfr, frm_s hok hnx])
              · have hnx : ¬ p + lenS B p < n := by show ¬ p + (kL (B p) + 2) < n; omega
                refine g_iconst (pc := 81) F dX3_placeOfBadForm_81 (v := (-1 : Int32)) (by decide) ?_
                exact g_iret (pc := 82) F X0 dX3_placeOfBadForm_82 (Nat.le_of_ble_eq_true rfl) (Nat.le_of_ble_eq_true rfl) rfl ⟨congrArg (fun z => some (Value.int z)) (by rw [← hfr, frm_e hok hnx]), rfl⟩
            · refine g_iload_n (pc := 65) F dX3_placeOfBadForm_65 rfl ?_
              exact g_iret (pc := 66) F X0 dX3_placeOfBadForm_66 (Nat.le_of_ble_eq_true rfl) (Nat.le_of_ble_eq_true rfl) rfl ⟨congrArg (fun z => some (Value.int z)) (by rw [← hfr, frm_b (fun z => c_62 (by rw [show p + kL (B p) + 1 = p + 1 + kL (B p) by omega]; exact z.2.2)), bad_d (q := p + kL (B p) + 1) hl (by omega)]), rfl⟩
          · refine g_aload_n (pc := 34) F dX3_placeOfBadForm_34 rfl ?_
            refine g_iload (pc := 35) F dX3_placeOfBadForm_35 rfl ?_
            refine h_readS (pc := 37) F (hbt i (by omega)) mi_X3_byteAt ks_X3_9 dX3_placeOfBadForm_37 [0, 1] rfl (by decide) (by decide) rfl rfl (Nat.le_of_ble_eq_true rfl) trivial (by decide) (by decide) ?_
            refine h_readS (pc := 40) F (c_tDigit _) mi_X3_isDigit ks_X3_19 dX3_placeOfBadForm_40 [] rfl (by decide) (by decide) rfl rfl (Nat.le_of_ble_eq_true rfl) trivial (by decide) (by decide) ?_
            refine g_ifne_d (pc := 43) F dX3_placeOfBadForm_43 (tgt := 49) rfl (fun c_43 => ?_) (fun c_43 => ?_)
            · refine g_iincN (pc := 49) F dX3_placeOfBadForm_49 rfl (by decide) ?_
              refine g_goto (pc := 52) F dX3_placeOfBadForm_52 (tgt := 28) rfl ?_
              refine ih2 (by omega) ?_ (by omega)
              rw [he, (show p + 1 + kL (B p) - i = (p + 1 + kL (B p) - (i + 1)) + 1 by omega)]
              show i + (if dgP (B i) then ldN B (i + 1) (p + 1 + kL (B p) - (i + 1)) + 1 else 0) = _
              rw [if_pos c_43]
              omega
            · have hn0 : ldN B i (p + 1 + kL (B p) - i) = 0 := by
                rw [(show p + 1 + kL (B p) - i = (p + 1 + kL (B p) - (i + 1)) + 1 by omega)]
                exact if_neg c_43
              refine g_iload (pc := 46) F dX3_placeOfBadForm_46 rfl ?_
              exact g_iret (pc := 48) F X0 dX3_placeOfBadForm_48 (Nat.le_of_ble_eq_true rfl) (Nat.le_of_ble_eq_true rfl) rfl ⟨congrArg (fun z => some (Value.int z)) (by rw [← hfr, frm_b (fun z => by have z2 := z.2.1; rw [hn0] at he; omega), bad_d (q := i) hl (by omega)]), rfl⟩)
        exact L2 (p + 1) (by omega) (by rw [show p + 1 + kL (B p) - (p + 1) = kL (B p) by omega]) (Nat.le_refl _)
      · have hl := kI_nlet (Int32.not_le.mp c_12)
        refine g_iload_n (pc := 15) F dX3_placeOfBadForm_15 rfl ?_
        exact g_iret (pc := 16) F X0 dX3_placeOfBadForm_16 (Nat.le_of_ble_eq_true rfl) (Nat.le_of_ble_eq_true rfl) rfl ⟨congrArg (fun z => some (Value.int z)) (by rw [← hfr, frm_b (fun z => hl z.1), bad_l hl]), rfl⟩
  exact L (n + 1) 0 (Nat.zero_le _) (by omega) hA

