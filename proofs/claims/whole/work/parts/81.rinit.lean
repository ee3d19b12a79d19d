/-! the constructor of the reference -/
def nX5 : List Value := [.null, .null, .null, .null, .int 0, .int 0, .int 0, .int 0, .null, .int 0, .null, .null, .null, .null, .null, .null, .int 0]
theorem nX5_ok : ∀ j, j < 17 → defaultValue (tyX5 j) = vp_V nX5 j := by
  intro j hj
  rcases (show j = 0 ∨ j = 1 ∨ j = 2 ∨ j = 3 ∨ j = 4 ∨ j = 5 ∨ j = 6 ∨ j = 7 ∨ j = 8 ∨ j = 9 ∨ j = 10 ∨ j = 11 ∨ j = 12 ∨ j = 13 ∨ j = 14 ∨ j = 15 ∨ j = 16 by omega) with rfl | rfl | rfl | rfl | rfl | rfl | rfl | rfl | rfl | rfl | rfl | rfl | rfl | rfl | rfl | rfl | rfl <;> rfl
def rI (i : Nat) : Nat → Int32 := fun j => if 5 ≤ j ∧ j < 5 + i then nI 100 else 0
theorem rI_0 : z0 = rI 0 := by
  funext j
  exact (if_neg (by omega)).symm
theorem rI_s (i : Nat) : upd (rI i) (5 + i) (nI 100) = rI (i + 1) := by
  funext j
  unfold upd rI
  by_cases q : j = 5 + i
  · rw [if_pos q, if_pos (by omega)]
  · rw [if_neg q]
    by_cases q2 : 5 ≤ j ∧ j < 5 + i
    · rw [if_pos q2, if_pos (by omega)]
    · rw [if_neg q2, if_neg (by omega)]
def T00 : TX := (z0, z0, z0, z0, z0, z0)
def V00 : VX := (z0, 0, 0, 0, 0, 0)
set_option maxRecDepth 100000 in
set_option maxHeartbeats 800000 in
theorem c_initR  : Ctr yX5_init cX5_init 2 none 1 11 1088 [.ref 0] ([.inr (3, nX5)]) (fun v h => v = none ∧ h = rW (rI 10) z0 z0 z0 0 T00 V00) := by
  refine Ctr.of rfl (Nat.le_of_ble_eq_true rfl) ⟨clS_of rfl, clH_of rfl⟩ (fun K F X0 => ?_)
  have L : ∀ i, i ≤ 10 → Go K 11 1088 94 [(0, .ref 0), (1, .int (nI i))] [] (rW (rI i) z0 z0 z0 0 T00 V00) := loop_up (P := fun i => Go K 11 1088 94 [(0, .ref 0), (1, .int (nI i))] [] (rW (rI i) z0 z0 z0 0 T00 V00)) (fun i hi ih => by
    refine g_iload_n (pc := 94) F dX5_init_94 rfl ?_
    refine g_bipush (pc := 95) F dX5_init_95 (v := nI 10) rfl ?_
    refine g_icN_ge (pc := 97) F dX5_init_97 (tgt := 116) rfl rfl rfl (by omega) (by omega) (fun c_97 => ?_) (fun c_97 => ?_)
    · obtain rfl : i = 10 := by omega
      exact g_vret (pc := 116) F X0 dX5_init_116 (Nat.le_of_ble_eq_true rfl) (Nat.le_of_ble_eq_true rfl) rfl ⟨rfl, rfl⟩
    · refine g_aload_n (pc := 100) F dX5_init_100 rfl ?_
      refine g_getf (pc := 101) F fl_X5_9 dX5_init_101 rfl rfl ?_
      refine g_iconst (pc := 104) F dX5_init_104 (v := nI 5) rfl ?_
      refine g_iload_n (pc := 105) F dX5_init_105 rfl ?_
      refine g_iaddN (pc := 106) F dX5_init_106 ?_
      refine g_bipush (pc := 107) F dX5_init_107 (v := nI 100) rfl ?_
      refine g_iast2 (pc := 109) F dX5_init_109 rfl rfl (by first | omega | (simp only [ix]; omega)) (by decide) ?_
      refine g_iincN (pc := 110) F dX5_init_110 rfl (by decide) ?_
      refine g_goto (pc := 113) F dX5_init_113 (tgt := 94) rfl ?_
      exact (congrArg (fun z => Go K 11 1088 94 [(0, .ref 0), (1, .int (nI (i + 1)))] [] (rW z z0 z0 z0 0 T00 V00)) ((rI_s i).symm)).mp (ih c_97))
  show Go K 0 0 0 [(0, .ref 0)] [] ([.inr (3, nX5)])
  refine g_aload_n (pc := 0) F dX5_init_0 rfl ?_
  refine g_objInit (pc := 1) F dX5_init_1 ko_X5_1 (by decide) (Nat.le_of_ble_eq_true rfl) ?_
  refine g_aload_n (pc := 4) F dX5_init_4 rfl ?_
  refine g_bipush (pc := 5) F dX5_init_5 (v := nI 61) rfl ?_
  refine g_newI (pc := 7) F dX5_init_7 (by decide) rfl (by decide) (Nat.le_of_ble_eq_true rfl) (Nat.le_of_ble_eq_true rfl) ?_
  simp only [List.cons_append, List.nil_append, List.length_cons, List.length_nil, Nat.reduceAdd, List.set_cons_zero, List.set_cons_succ]
  refine g_putF (pc := 9) F X0 fl_X5_9 dX5_init_9 rfl (Nat.le_of_ble_eq_true rfl) (fun _ => ⟨rfl, rfl⟩) rfl ?_
  simp only [List.set_cons_zero, List.set_cons_succ]
  refine g_aload_n (pc := 12) F dX5_init_12 rfl ?_
  refine g_bipush (pc := 13) F dX5_init_13 (v := nI 61) rfl ?_
  refine g_newI (pc := 15) F dX5_init_15 (by decide) rfl (by decide) (Nat.le_of_ble_eq_true rfl) (Nat.le_of_ble_eq_true rfl) ?_
  simp only [List.cons_append, List.nil_append, List.length_cons, List.length_nil, Nat.reduceAdd, List.set_cons_zero, List.set_cons_succ]
  refine g_putF (pc := 17) F X0 fl_X5_13 dX5_init_17 rfl (Nat.le_of_ble_eq_true rfl) (fun _ => ⟨rfl, rfl⟩) rfl ?_
  simp only [List.set_cons_zero, List.set_cons_succ]
  refine g_aload_n (pc := 20) F dX5_init_20 rfl ?_
  refine g_bipush (pc := 21) F dX5_init_21 (v := nI 61) rfl ?_
  refine g_newI (pc := 23) F dX5_init_23 (by decide) rfl (by decide) (Nat.le_of_ble_eq_true rfl) (Nat.le_of_ble_eq_true rfl) ?_
  simp only [List.cons_append, List.nil_append, List.length_cons, List.length_nil, Nat.reduceAdd, List.set_cons_zero, List.set_cons_succ]
  refine g_putF (pc := 25) F X0 fl_X5_16 dX5_init_25 rfl (Nat.le_of_ble_eq_true rfl) (fun _ => ⟨rfl, rfl⟩) rfl ?_
  simp only [List.set_cons_zero, List.set_cons_succ]
  refine g_aload_n (pc := 28) F dX5_init_28 rfl ?_
  refine g_bipush (pc := 29) F dX5_init_29 (v := nI 61) rfl ?_
  refine g_newI (pc := 31) F dX5_init_31 (by decide) rfl (by decide) (Nat.le_of_ble_eq_true rfl) (Nat.le_of_ble_eq_true rfl) ?_
  simp only [List.cons_append, List.nil_append, List.length_cons, List.length_nil, Nat.reduceAdd, List.set_cons_zero, List.set_cons_succ]
  refine g_putF (pc := 33) F X0 fl_X5_19 dX5_init_33 rfl (Nat.le_of_ble_eq_true rfl) (fun _ => ⟨rfl, rfl⟩) rfl ?_
  simp only [List.set_cons_zero, List.set_cons_succ]
  refine g_aload_n (pc := 36) F dX5_init_36 rfl ?_
  refine g_iconst (pc := 37) F dX5_init_37 (v := nI 4) rfl ?_
  refine g_newI (pc := 38) F dX5_init_38 (by decide) rfl (by decide) (Nat.le_of_ble_eq_true rfl) (Nat.le_of_ble_eq_true rfl) ?_
  simp only [List.cons_append, List.nil_append, List.length_cons, List.length_nil, Nat.reduceAdd, List.set_cons_zero, List.set_cons_succ]
  refine g_putF (pc := 40) F X0 fl_X5_22 dX5_init_40 rfl (Nat.le_of_ble_eq_true rfl) (fun _ => ⟨rfl, rfl⟩) rfl ?_
  simp only [List.set_cons_zero, List.set_cons_succ]
  refine g_aload_n (pc := 43) F dX5_init_43 rfl ?_
  refine g_bipush (pc := 44) F dX5_init_44 (v := nI 8) rfl ?_
  refine g_newI (pc := 46) F dX5_init_46 (by decide) rfl (by decide) (Nat.le_of_ble_eq_true rfl) (Nat.le_of_ble_eq_true rfl) ?_
  simp only [List.cons_append, List.nil_append, List.length_cons, List.length_nil, Nat.reduceAdd, List.set_cons_zero, List.set_cons_succ]
  refine g_putF (pc := 48) F X0 fl_X5_25 dX5_init_48 rfl (Nat.le_of_ble_eq_true rfl) (fun _ => ⟨rfl, rfl⟩) rfl ?_
  simp only [List.set_cons_zero, List.set_cons_succ]
  refine g_aload_n (pc := 51) F dX5_init_51 rfl ?_
  refine g_bipush (pc := 52) F dX5_init_52 (v := nI 8) rfl ?_
  refine g_newI (pc := 54) F dX5_init_54 (by decide) rfl (by decide) (Nat.le_of_ble_eq_true rfl) (Nat.le_of_ble_eq_true rfl) ?_
  simp only [List.cons_append, List.nil_append, List.length_cons, List.length_nil, Nat.reduceAdd, List.set_cons_zero, List.set_cons_succ]
  refine g_putF (pc := 56) F X0 fl_X5_28 dX5_init_56 rfl (Nat.le_of_ble_eq_true rfl) (fun _ => ⟨rfl, rfl⟩) rfl ?_
  simp only [List.set_cons_zero, List.set_cons_succ]
  refine g_aload_n (pc := 59) F dX5_init_59 rfl ?_
  refine g_bipush (pc := 60) F dX5_init_60 (v := nI 8) rfl ?_
  refine g_newI (pc := 62) F dX5_init_62 (by decide) rfl (by decide) (Nat.le_of_ble_eq_true rfl) (Nat.le_of_ble_eq_true rfl) ?_
  simp only [List.cons_append, List.nil_append, List.length_cons, List.length_nil, Nat.reduceAdd, List.set_cons_zero, List.set_cons_succ]
  refine g_putF (pc := 64) F X0 fl_X5_31 dX5_init_64 rfl (Nat.le_of_ble_eq_true rfl) (fun _ => ⟨rfl, rfl⟩) rfl ?_
  simp only [List.set_cons_zero, List.set_cons_succ]
  refine g_aload_n (pc := 67) F dX5_init_67 rfl ?_
  refine g_bipush (pc := 68) F dX5_init_68 (v := nI 8) rfl ?_
  refine g_newI (pc := 70) F dX5_init_70 (by decide) rfl (by decide) (Nat.le_of_ble_eq_true rfl) (Nat.le_of_ble_eq_true rfl) ?_
  simp only [List.cons_append, List.nil_append, List.length_cons, List.length_nil, Nat.reduceAdd, List.set_cons_zero, List.set_cons_succ]
  refine g_putF (pc := 72) F X0 fl_X5_34 dX5_init_72 rfl (Nat.le_of_ble_eq_true rfl) (fun _ => ⟨rfl, rfl⟩) rfl ?_
  simp only [List.set_cons_zero, List.set_cons_succ]
  refine g_aload_n (pc := 75) F dX5_init_75 rfl ?_
  refine g_bipush (pc := 76) F dX5_init_76 (v := nI 8) rfl ?_
  refine g_newI (pc := 78) F dX5_init_78 (by decide) rfl (by decide) (Nat.le_of_ble_eq_true rfl) (Nat.le_of_ble_eq_true rfl) ?_
  simp only [List.cons_append, List.nil_append, List.length_cons, List.length_nil, Nat.reduceAdd, List.set_cons_zero, List.set_cons_succ]
  refine g_putF (pc := 80) F X0 fl_X5_37 dX5_init_80 rfl (Nat.le_of_ble_eq_true rfl) (fun _ => ⟨rfl, rfl⟩) rfl ?_
  simp only [List.set_cons_zero, List.set_cons_succ]
  refine g_aload_n (pc := 83) F dX5_init_83 rfl ?_
  refine g_sipush (pc := 84) F dX5_init_84 (v := nI 800) rfl ?_
  refine g_newI (pc := 87) F dX5_init_87 (by decide) rfl (by decide) (Nat.le_of_ble_eq_true rfl) (Nat.le_of_ble_eq_true rfl) ?_
  simp only [List.cons_append, List.nil_append, List.length_cons, List.length_nil, Nat.reduceAdd, List.set_cons_zero, List.set_cons_succ]
  refine g_putF (pc := 89) F X0 fl_X5_40 dX5_init_89 rfl (Nat.le_of_ble_eq_true rfl) (fun _ => ⟨rfl, rfl⟩) rfl ?_
  simp only [List.set_cons_zero, List.set_cons_succ]
  refine g_iconst (pc := 92) F dX5_init_92 (v := nI 0) rfl ?_
  refine g_istore_n (pc := 93) F dX5_init_93 (by decide) ?_
  exact (congrArg (fun z => Go K 11 1088 94 [(0, .ref 0), (1, .int (nI 0))] [] (rW z z0 z0 z0 0 T00 V00)) (rI_0.symm)).mp (L 0 (Nat.zero_le _))

