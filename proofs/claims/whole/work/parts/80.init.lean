/-! the constructors -/
def nX0 : List Value := [.null, .null, .null, .null, .null, .null, .null, .int 0, .int 0, .int 0, .int 0, .int 0, .int 0]
theorem nX0_ok : ∀ j, j < 13 → defaultValue (tyX0 j) = vp_V nX0 j := by
  intro j hj
  rcases (show j = 0 ∨ j = 1 ∨ j = 2 ∨ j = 3 ∨ j = 4 ∨ j = 5 ∨ j = 6 ∨ j = 7 ∨ j = 8 ∨ j = 9 ∨ j = 10 ∨ j = 11 ∨ j = 12 by omega) with rfl | rfl | rfl | rfl | rfl | rfl | rfl | rfl | rfl | rfl | rfl | rfl | rfl <;> rfl
def nX2 : List Value := [.null, .int 0, .int 0, .int 0, .int 0, .int 0]
theorem nX2_ok : ∀ j, j < 6 → defaultValue (tyX2 j) = vp_V nX2 j := by
  intro j hj
  rcases (show j = 0 ∨ j = 1 ∨ j = 2 ∨ j = 3 ∨ j = 4 ∨ j = 5 by omega) with rfl | rfl | rfl | rfl | rfl | rfl <;> rfl
abbrev z0 : Nat → Int32 := fun _ => 0
def X00 : DX := (fillF z0 (nI 100) 10, z0, z0, z0, z0, z0, z0, nI 0, nI 0, nI 0, nI 0, nI 0, nI 0)
def S00 : SX := (z0, nI 0, nI 0, nI 0, nI 0, nI 0)
set_option maxRecDepth 100000 in
set_option maxHeartbeats 4000000 in
theorem c_initS  : Ctr yX2_init cX2_init 1 none 1 1 100 [.ref 0] ([.inr (1, nX2)]) (fun v h => v = none ∧ h = sW 0 S00) := by
  unfold nX2
  refine Ctr.of rfl (Nat.le_of_ble_eq_true rfl) ⟨clS_of rfl, clH_of rfl⟩ (fun K F X0 => ?_)
  show Go K 0 0 0 [(0, .ref 0)] [] ([.inr (1, nX2)])
  refine g_aload_n (pc := 0) F dX2_init_0 rfl ?_
  refine g_objInit (pc := 1) F dX2_init_1 ko_X2_3 (by decide) (Nat.le_of_ble_eq_true rfl) ?_
  refine g_aload_n (pc := 4) F dX2_init_4 rfl ?_
  refine g_bipush (pc := 5) F dX2_init_5 (v := nI 100) rfl ?_
  refine g_newI (pc := 7) F dX2_init_7 (by decide) rfl (by decide) (Nat.le_of_ble_eq_true rfl) (Nat.le_of_ble_eq_true rfl) ?_
  simp only [List.cons_append, List.nil_append, List.length_cons, List.length_nil, Nat.reduceAdd, List.set_cons_zero, List.set_cons_succ]
  refine g_putF (pc := 9) F X0 fl_X2_9 dX2_init_9 rfl (Nat.le_of_ble_eq_true rfl) (fun _ => ⟨rfl, rfl⟩) rfl ?_
  simp only [List.set_cons_zero, List.set_cons_succ]
  refine g_aload_n (pc := 12) F dX2_init_12 rfl ?_
  refine g_iconst (pc := 13) F dX2_init_13 (v := nI 0) rfl ?_
  refine g_putf (pc := 14) F fl_X2_15 dX2_init_14 rfl (Nat.le_of_ble_eq_true rfl) ?_
  refine g_aload_n (pc := 17) F dX2_init_17 rfl ?_
  refine g_iconst (pc := 18) F dX2_init_18 (v := nI 0) rfl ?_
  refine g_putf (pc := 19) F fl_X2_19 dX2_init_19 rfl (Nat.le_of_ble_eq_true rfl) ?_
  refine g_aload_n (pc := 22) F dX2_init_22 rfl ?_
  refine g_iconst (pc := 23) F dX2_init_23 (v := nI 0) rfl ?_
  refine g_putf (pc := 24) F fl_X2_22 dX2_init_24 rfl (Nat.le_of_ble_eq_true rfl) ?_
  refine g_aload_n (pc := 27) F dX2_init_27 rfl ?_
  refine g_iconst (pc := 28) F dX2_init_28 (v := nI 0) rfl ?_
  refine g_putf (pc := 29) F fl_X2_25 dX2_init_29 rfl (Nat.le_of_ble_eq_true rfl) ?_
  refine g_aload_n (pc := 32) F dX2_init_32 rfl ?_
  refine g_iconst (pc := 33) F dX2_init_33 (v := nI 0) rfl ?_
  refine g_putf (pc := 34) F fl_X2_28 dX2_init_34 rfl (Nat.le_of_ble_eq_true rfl) ?_
  exact g_vret (pc := 37) F X0 dX2_init_37 (Nat.le_of_ble_eq_true rfl) (Nat.le_of_ble_eq_true rfl) rfl ⟨rfl, rfl⟩

set_option maxRecDepth 100000 in
set_option maxHeartbeats 4000000 in
theorem c_initD  : Ctr yX0_init cX0_init 1 none 1 7 50 [.ref 0] ([.inr (0, nX0)]) (fun v h => v = none ∧ h = dW 0 X00) := by
  unfold nX0
  refine Ctr.of rfl (Nat.le_of_ble_eq_true rfl) ⟨clS_of rfl, clH_of rfl⟩ (fun K F X0 => ?_)
  show Go K 0 0 0 [(0, .ref 0)] [] ([.inr (0, nX0)])
  refine g_aload_n (pc := 0) F dX0_init_0 rfl ?_
  refine g_objInit (pc := 1) F dX0_init_1 ko_X0_3 (by decide) (Nat.le_of_ble_eq_true rfl) ?_
  refine g_aload_n (pc := 4) F dX0_init_4 rfl ?_
  refine g_bipush (pc := 5) F dX0_init_5 (v := nI 10) rfl ?_
  refine g_newI (pc := 7) F dX0_init_7 (by decide) rfl (by decide) (Nat.le_of_ble_eq_true rfl) (Nat.le_of_ble_eq_true rfl) ?_
  simp only [List.cons_append, List.nil_append, List.length_cons, List.length_nil, Nat.reduceAdd, List.set_cons_zero, List.set_cons_succ]
  refine g_putF (pc := 9) F X0 fl_X0_9 dX0_init_9 rfl (Nat.le_of_ble_eq_true rfl) (fun _ => ⟨rfl, rfl⟩) rfl ?_
  simp only [List.set_cons_zero, List.set_cons_succ]
  refine g_aload_n (pc := 12) F dX0_init_12 rfl ?_
  refine g_bipush (pc := 13) F dX0_init_13 (v := nI 10) rfl ?_
  refine g_newI (pc := 15) F dX0_init_15 (by decide) rfl (by decide) (Nat.le_of_ble_eq_true rfl) (Nat.le_of_ble_eq_true rfl) ?_
  simp only [List.cons_append, List.nil_append, List.length_cons, List.length_nil, Nat.reduceAdd, List.set_cons_zero, List.set_cons_succ]
  refine g_putF (pc := 17) F X0 fl_X0_15 dX0_init_17 rfl (Nat.le_of_ble_eq_true rfl) (fun _ => ⟨rfl, rfl⟩) rfl ?_
  simp only [List.set_cons_zero, List.set_cons_succ]
  refine g_aload_n (pc := 20) F dX0_init_20 rfl ?_
  refine g_bipush (pc := 21) F dX0_init_21 (v := nI 6) rfl ?_
  refine g_newI (pc := 23) F dX0_init_23 (by decide) rfl (by decide) (Nat.le_of_ble_eq_true rfl) (Nat.le_of_ble_eq_true rfl) ?_
  simp only [List.cons_append, List.nil_append, List.length_cons, List.length_nil, Nat.reduceAdd, List.set_cons_zero, List.set_cons_succ]
  refine g_putF (pc := 25) F X0 fl_X0_18 dX0_init_25 rfl (Nat.le_of_ble_eq_true rfl) (fun _ => ⟨rfl, rfl⟩) rfl ?_
  simp only [List.set_cons_zero, List.set_cons_succ]
  refine g_aload_n (pc := 28) F dX0_init_28 rfl ?_
  refine g_bipush (pc := 29) F dX0_init_29 (v := nI 6) rfl ?_
  refine g_newI (pc := 31) F dX0_init_31 (by decide) rfl (by decide) (Nat.le_of_ble_eq_true rfl) (Nat.le_of_ble_eq_true rfl) ?_
  simp only [List.cons_append, List.nil_append, List.length_cons, List.length_nil, Nat.reduceAdd, List.set_cons_zero, List.set_cons_succ]
  refine g_putF (pc := 33) F X0 fl_X0_21 dX0_init_33 rfl (Nat.le_of_ble_eq_true rfl) (fun _ => ⟨rfl, rfl⟩) rfl ?_
  simp only [List.set_cons_zero, List.set_cons_succ]
  refine g_aload_n (pc := 36) F dX0_init_36 rfl ?_
  refine g_bipush (pc := 37) F dX0_init_37 (v := nI 6) rfl ?_
  refine g_newI (pc := 39) F dX0_init_39 (by decide) rfl (by decide) (Nat.le_of_ble_eq_true rfl) (Nat.le_of_ble_eq_true rfl) ?_
  simp only [List.cons_append, List.nil_append, List.length_cons, List.length_nil, Nat.reduceAdd, List.set_cons_zero, List.set_cons_succ]
  refine g_putF (pc := 41) F X0 fl_X0_24 dX0_init_41 rfl (Nat.le_of_ble_eq_true rfl) (fun _ => ⟨rfl, rfl⟩) rfl ?_
  simp only [List.set_cons_zero, List.set_cons_succ]
  refine g_aload_n (pc := 44) F dX0_init_44 rfl ?_
  refine g_bipush (pc := 45) F dX0_init_45 (v := nI 6) rfl ?_
  refine g_newI (pc := 47) F dX0_init_47 (by decide) rfl (by decide) (Nat.le_of_ble_eq_true rfl) (Nat.le_of_ble_eq_true rfl) ?_
  simp only [List.cons_append, List.nil_append, List.length_cons, List.length_nil, Nat.reduceAdd, List.set_cons_zero, List.set_cons_succ]
  refine g_putF (pc := 49) F X0 fl_X0_27 dX0_init_49 rfl (Nat.le_of_ble_eq_true rfl) (fun _ => ⟨rfl, rfl⟩) rfl ?_
  simp only [List.set_cons_zero, List.set_cons_succ]
  refine g_aload_n (pc := 52) F dX0_init_52 rfl ?_
  refine g_bipush (pc := 53) F dX0_init_53 (v := nI 6) rfl ?_
  refine g_newI (pc := 55) F dX0_init_55 (by decide) rfl (by decide) (Nat.le_of_ble_eq_true rfl) (Nat.le_of_ble_eq_true rfl) ?_
  simp only [List.cons_append, List.nil_append, List.length_cons, List.length_nil, Nat.reduceAdd, List.set_cons_zero, List.set_cons_succ]
  refine g_putF (pc := 57) F X0 fl_X0_30 dX0_init_57 rfl (Nat.le_of_ble_eq_true rfl) (fun _ => ⟨rfl, rfl⟩) rfl ?_
  simp only [List.set_cons_zero, List.set_cons_succ]
  refine g_aload_n (pc := 60) F dX0_init_60 rfl ?_
  refine g_iconst (pc := 61) F dX0_init_61 (v := nI 0) rfl ?_
  refine g_putf (pc := 62) F fl_X0_33 dX0_init_62 rfl (Nat.le_of_ble_eq_true rfl) ?_
  refine g_aload_n (pc := 65) F dX0_init_65 rfl ?_
  refine g_iconst (pc := 66) F dX0_init_66 (v := nI 0) rfl ?_
  refine g_putf (pc := 67) F fl_X0_37 dX0_init_67 rfl (Nat.le_of_ble_eq_true rfl) ?_
  refine g_aload_n (pc := 70) F dX0_init_70 rfl ?_
  refine g_iconst (pc := 71) F dX0_init_71 (v := nI 0) rfl ?_
  refine g_putf (pc := 72) F fl_X0_40 dX0_init_72 rfl (Nat.le_of_ble_eq_true rfl) ?_
  refine g_aload_n (pc := 75) F dX0_init_75 rfl ?_
  refine g_iconst (pc := 76) F dX0_init_76 (v := nI 0) rfl ?_
  refine g_putf (pc := 77) F fl_X0_43 dX0_init_77 rfl (Nat.le_of_ble_eq_true rfl) ?_
  refine g_aload_n (pc := 80) F dX0_init_80 rfl ?_
  refine g_iconst (pc := 81) F dX0_init_81 (v := nI 0) rfl ?_
  refine g_putf (pc := 82) F fl_X0_46 dX0_init_82 rfl (Nat.le_of_ble_eq_true rfl) ?_
  refine g_aload_n (pc := 85) F dX0_init_85 rfl ?_
  refine g_iconst (pc := 86) F dX0_init_86 (v := nI 0) rfl ?_
  refine g_putf (pc := 87) F fl_X0_49 dX0_init_87 rfl (Nat.le_of_ble_eq_true rfl) ?_
  refine g_aload_n (pc := 90) F dX0_init_90 rfl ?_
  refine g_getf (pc := 91) F fl_X0_9 dX0_init_91 rfl rfl ?_
  refine g_bipush (pc := 94) F dX0_init_94 (v := nI 100) rfl ?_
  refine h_callS (pc := 96) F (c_fill _ _ 10 (by decide)) mi_J7_fill_53178 ks_X0_52 dX0_init_96 [1] rfl (by decide) (by decide) rfl rfl (Nat.le_of_ble_eq_true rfl) (by decide) (by decide) ?_
  rintro _ _ ⟨rfl, rfl⟩ -
  exact g_vret (pc := 99) F X0 dX0_init_99 (Nat.le_of_ble_eq_true rfl) (Nat.le_of_ble_eq_true rfl) rfl ⟨rfl, rfl⟩

