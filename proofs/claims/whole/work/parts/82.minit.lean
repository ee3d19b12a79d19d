/-! the constructor of the class -/
def nX4 : List Value := [.null, .null, .null, .int 0, .null, .null, .null]
theorem nX4_ok : ∀ j, j < 7 → defaultValue (tyX4 j) = vp_V nX4 j := by
  intro j hj
  rcases (show j = 0 ∨ j = 1 ∨ j = 2 ∨ j = 3 ∨ j = 4 ∨ j = 5 ∨ j = 6 by omega) with rfl | rfl | rfl | rfl | rfl | rfl | rfl <;> rfl
def shA : Nat → Nat → Option Nat
  | 0 => fun _ => none
  | i + 1 => va_up (shA i) (nI i).toNatClampNeg (some (28 + 2 * i))
theorem shA_ok : shA 8 = shF := by
  funext j
  unfold shF
  by_cases h : j < 8
  · rw [if_pos h]
    rcases (show j = 0 ∨ j = 1 ∨ j = 2 ∨ j = 3 ∨ j = 4 ∨ j = 5 ∨ j = 6 ∨ j = 7 by omega) with rfl | rfl | rfl | rfl | rfl | rfl | rfl | rfl <;> rfl
  · rw [if_neg h]
    have g : ∀ i, i ≤ 8 → shA i j = none := by
      intro i
      induction i with
      | zero => exact fun _ => rfl
      | succ i ih =>
        intro hi
        show va_up (shA i) (nI i).toNatClampNeg (some (28 + 2 * i)) j = none
        unfold va_up
        rw [nI_clamp (by omega), if_neg (by omega)]
        exact ih (by omega)
    exact g 8 (Nat.le_refl _)
def des (b : Nat) : Ce := .inr (0, [.ref (b + 1), .ref (b + 2), .ref (b + 3), .ref (b + 4), .ref (b + 5), .ref (b + 6), .ref (b + 7), .int (nI 0), .int (nI 0), .int (nI 0), .int (nI 0), .int (nI 0), .int (nI 0)])
def she (b : Nat) : Ce := .inr (1, [.ref (b + 1), .int (nI 0), .int (nI 0), .int (nI 0), .int (nI 0), .int (nI 0)])
def ar (n : Nat) : Ce := .inl (.int, n, .inl z0)
def arG : Ce := .inl (.int, 10, .inl (dG X00))
set_option maxRecDepth 100000 in
set_option maxHeartbeats 4000000 in
theorem world_00 : ([.inr (2, [.ref 1, .ref 9, .ref 17, .int (nI 0), .ref 25, .ref 26, .ref 27]), des 1, arG, ar 10, ar 6, ar 6, ar 6, ar 6, ar 6, des 9, arG, ar 10, ar 6, ar 6, ar 6, ar 6, ar 6, des 17, arG, ar 10, ar 6, ar 6, ar 6, ar 6, ar 6, .inl (.object RX2, 8, .inr (.inr (.inr (.inr (shA 8))))), ar 4, ar 4, she 28, ar 100, she 30, ar 100, she 32, ar 100, she 34, ar 100, she 36, ar 100, she 38, ar 100, she 40, ar 100, she 42, ar 100] : Hp) = mW X00 X00 X00 (nI 0) (fun _ => S00) z0 z0 := by
  rw [shA_ok]
  rfl
set_option maxRecDepth 100000 in
set_option maxHeartbeats 800000 in
theorem c_initM  : Ctr yX4_init cX4_init 2 none 2 43 1053 [.ref 0] ([.inr (2, nX4)]) (fun v h => v = none ∧ h = mW X00 X00 X00 (nI 0) (fun _ => S00) z0 z0) := by
  refine Ctr.of rfl (Nat.le_of_ble_eq_true rfl) ⟨clS_of rfl, clH_of rfl⟩ (fun K F X0 => ?_)
  show Go K 0 0 0 [(0, .ref 0)] [] ([.inr (2, nX4)])
  refine g_aload_n (pc := 0) F dX4_init_0 rfl ?_
  refine g_objInit (pc := 1) F dX4_init_1 ko_X4_3 (by decide) (Nat.le_of_ble_eq_true rfl) ?_
  refine g_aload_n (pc := 4) F dX4_init_4 rfl ?_
  refine g_newO (pc := 5) F fc_X0 dX4_init_5 kcl_X4_9 kinst_X0 kini_X0 (fs := nX0) nX0_ok rfl (Nat.le_of_ble_eq_true rfl) (Nat.le_of_ble_eq_true rfl) ?_
  show Go _ _ _ _ _ [.ref 1, .ref 0] [.inr (2, [.null, .null, .null, .int 0, .null, .null, .null]), .inr (0, nX0)]
  refine g_dup (pc := 8) F dX4_init_8 rfl ?_
  refine h_callI (pc := 9) F (c_initD) mi_X0_init ki_X4_11 dX4_init_9 [1] rfl (by decide) (by decide) rfl rfl (Nat.le_of_ble_eq_true rfl) (by decide) (by decide) ?_
  rintro _ _ ⟨rfl, rfl⟩ -
  show Go _ _ _ _ _ [.ref 1, .ref 0] [.inr (2, [.null, .null, .null, .int 0, .null, .null, .null]), des 1, arG, ar 10, ar 6, ar 6, ar 6, ar 6, ar 6]
  refine g_putF (pc := 12) F X0 fl_X4_12 dX4_init_12 rfl (Nat.le_of_ble_eq_true rfl) (fun _ => ⟨rfl, rfl⟩) rfl ?_
  show Go _ _ _ _ _ [] [.inr (2, [.ref 1, .null, .null, .int 0, .null, .null, .null]), des 1, arG, ar 10, ar 6, ar 6, ar 6, ar 6, ar 6]
  refine g_aload_n (pc := 15) F dX4_init_15 rfl ?_
  refine g_newO (pc := 16) F fc_X0 dX4_init_16 kcl_X4_9 kinst_X0 kini_X0 (fs := nX0) nX0_ok rfl (Nat.le_of_ble_eq_true rfl) (Nat.le_of_ble_eq_true rfl) ?_
  show Go _ _ _ _ _ [.ref 9, .ref 0] [.inr (2, [.ref 1, .null, .null, .int 0, .null, .null, .null]), des 1, arG, ar 10, ar 6, ar 6, ar 6, ar 6, ar 6, .inr (0, nX0)]
  refine g_dup (pc := 19) F dX4_init_19 rfl ?_
  refine h_callI (pc := 20) F (c_initD) mi_X0_init ki_X4_11 dX4_init_20 [9] rfl (by decide) (by decide) rfl rfl (Nat.le_of_ble_eq_true rfl) (by decide) (by decide) ?_
  rintro _ _ ⟨rfl, rfl⟩ -
  show Go _ _ _ _ _ [.ref 9, .ref 0] [.inr (2, [.ref 1, .null, .null, .int 0, .null, .null, .null]), des 1, arG, ar 10, ar 6, ar 6, ar 6, ar 6, ar 6, des 9, arG, ar 10, ar 6, ar 6, ar 6, ar 6, ar 6]
  refine g_putF (pc := 23) F X0 fl_X4_16 dX4_init_23 rfl (Nat.le_of_ble_eq_true rfl) (fun _ => ⟨rfl, rfl⟩) rfl ?_
  show Go _ _ _ _ _ [] [.inr (2, [.ref 1, .ref 9, .null, .int 0, .null, .null, .null]), des 1, arG, ar 10, ar 6, ar 6, ar 6, ar 6, ar 6, des 9, arG, ar 10, ar 6, ar 6, ar 6, ar 6, ar 6]
  refine g_aload_n (pc := 26) F dX4_init_26 rfl ?_
  refine g_newO (pc := 27) F fc_X0 dX4_init_27 kcl_X4_9 kinst_X0 kini_X0 (fs := nX0) nX0_ok rfl (Nat.le_of_ble_eq_true rfl) (Nat.le_of_ble_eq_true rfl) ?_
  show Go _ _ _ _ _ [.ref 17, .ref 0] [.inr (2, [.ref 1, .ref 9, .null, .int 0, .null, .null, .null]), des 1, arG, ar 10, ar 6, ar 6, ar 6, ar 6, ar 6, des 9, arG, ar 10, ar 6, ar 6, ar 6, ar 6, ar 6, .inr (0, nX0)]
  refine g_dup (pc := 30) F dX4_init_30 rfl ?_
  refine h_callI (pc := 31) F (c_initD) mi_X0_init ki_X4_11 dX4_init_31 [17] rfl (by decide) (by decide) rfl rfl (Nat.le_of_ble_eq_true rfl) (by decide) (by decide) ?_
  rintro _ _ ⟨rfl, rfl⟩ -
  show Go _ _ _ _ _ [.ref 17, .ref 0] [.inr (2, [.ref 1, .ref 9, .null, .int 0, .null, .null, .null]), des 1, arG, ar 10, ar 6, ar 6, ar 6, ar 6, ar 6, des 9, arG, ar 10, ar 6, ar 6, ar 6, ar 6, ar 6, des 17, arG, ar 10, ar 6, ar 6, ar 6, ar 6, ar 6]
  refine g_putF (pc := 34) F X0 fl_X4_19 dX4_init_34 rfl (Nat.le_of_ble_eq_true rfl) (fun _ => ⟨rfl, rfl⟩) rfl ?_
  show Go _ _ _ _ _ [] [.inr (2, [.ref 1, .ref 9, .ref 17, .int 0, .null, .null, .null]), des 1, arG, ar 10, ar 6, ar 6, ar 6, ar 6, ar 6, des 9, arG, ar 10, ar 6, ar 6, ar 6, ar 6, ar 6, des 17, arG, ar 10, ar 6, ar 6, ar 6, ar 6, ar 6]
  refine g_aload_n (pc := 37) F dX4_init_37 rfl ?_
  refine g_iconst (pc := 38) F dX4_init_38 (v := nI 0) rfl ?_
  refine g_putz (pc := 39) F fl_X4_22 dX4_init_39 rfl (Nat.le_of_ble_eq_true rfl) rfl rfl ?_
  refine g_aload_n (pc := 42) F dX4_init_42 rfl ?_
  refine g_bipush (pc := 43) F dX4_init_43 (v := nI 8) rfl ?_
  refine g_newQ (pc := 45) F dX4_init_45 kcl_X4_26 (by decide) rfl (by decide) (Nat.le_of_ble_eq_true rfl) (Nat.le_of_ble_eq_true rfl) ?_
  show Go _ _ _ _ _ [.ref 25, .ref 0] [.inr (2, [.ref 1, .ref 9, .ref 17, .int (nI 0), .null, .null, .null]), des 1, arG, ar 10, ar 6, ar 6, ar 6, ar 6, ar 6, des 9, arG, ar 10, ar 6, ar 6, ar 6, ar 6, ar 6, des 17, arG, ar 10, ar 6, ar 6, ar 6, ar 6, ar 6, .inl (.object RX2, 8, .inr (.inr (.inr (.inr (shA 0)))))]
  refine g_putF (pc := 48) F X0 fl_X4_28 dX4_init_48 rfl (Nat.le_of_ble_eq_true rfl) (fun _ => ⟨rfl, rfl⟩) rfl ?_
  show Go _ _ _ _ _ [] [.inr (2, [.ref 1, .ref 9, .ref 17, .int (nI 0), .ref 25, .null, .null]), des 1, arG, ar 10, ar 6, ar 6, ar 6, ar 6, ar 6, des 9, arG, ar 10, ar 6, ar 6, ar 6, ar 6, ar 6, des 17, arG, ar 10, ar 6, ar 6, ar 6, ar 6, ar 6, .inl (.object RX2, 8, .inr (.inr (.inr (.inr (shA 0)))))]
  refine g_aload_n (pc := 51) F dX4_init_51 rfl ?_
  refine g_iconst (pc := 52) F dX4_init_52 (v := nI 4) rfl ?_
  refine g_newI (pc := 53) F dX4_init_53 (by decide) rfl (by decide) (Nat.le_of_ble_eq_true rfl) (Nat.le_of_ble_eq_true rfl) ?_
  show Go _ _ _ _ _ [.ref 26, .ref 0] [.inr (2, [.ref 1, .ref 9, .ref 17, .int (nI 0), .ref 25, .null, .null]), des 1, arG, ar 10, ar 6, ar 6, ar 6, ar 6, ar 6, des 9, arG, ar 10, ar 6, ar 6, ar 6, ar 6, ar 6, des 17, arG, ar 10, ar 6, ar 6, ar 6, ar 6, ar 6, .inl (.object RX2, 8, .inr (.inr (.inr (.inr (shA 0))))), ar 4]
  refine g_putF (pc := 55) F X0 fl_X4_32 dX4_init_55 rfl (Nat.le_of_ble_eq_true rfl) (fun _ => ⟨rfl, rfl⟩) rfl ?_
  show Go _ _ _ _ _ [] [.inr (2, [.ref 1, .ref 9, .ref 17, .int (nI 0), .ref 25, .ref 26, .null]), des 1, arG, ar 10, ar 6, ar 6, ar 6, ar 6, ar 6, des 9, arG, ar 10, ar 6, ar 6, ar 6, ar 6, ar 6, des 17, arG, ar 10, ar 6, ar 6, ar 6, ar 6, ar 6, .inl (.object RX2, 8, .inr (.inr (.inr (.inr (shA 0))))), ar 4]
  refine g_aload_n (pc := 58) F dX4_init_58 rfl ?_
  refine g_iconst (pc := 59) F dX4_init_59 (v := nI 4) rfl ?_
  refine g_newI (pc := 60) F dX4_init_60 (by decide) rfl (by decide) (Nat.le_of_ble_eq_true rfl) (Nat.le_of_ble_eq_true rfl) ?_
  show Go _ _ _ _ _ [.ref 27, .ref 0] [.inr (2, [.ref 1, .ref 9, .ref 17, .int (nI 0), .ref 25, .ref 26, .null]), des 1, arG, ar 10, ar 6, ar 6, ar 6, ar 6, ar 6, des 9, arG, ar 10, ar 6, ar 6, ar 6, ar 6, ar 6, des 17, arG, ar 10, ar 6, ar 6, ar 6, ar 6, ar 6, .inl (.object RX2, 8, .inr (.inr (.inr (.inr (shA 0))))), ar 4, ar 4]
  refine g_putF (pc := 62) F X0 fl_X4_36 dX4_init_62 rfl (Nat.le_of_ble_eq_true rfl) (fun _ => ⟨rfl, rfl⟩) rfl ?_
  show Go _ _ _ _ _ [] [.inr (2, [.ref 1, .ref 9, .ref 17, .int (nI 0), .ref 25, .ref 26, .ref 27]), des 1, arG, ar 10, ar 6, ar 6, ar 6, ar 6, ar 6, des 9, arG, ar 10, ar 6, ar 6, ar 6, ar 6, ar 6, des 17, arG, ar 10, ar 6, ar 6, ar 6, ar 6, ar 6, .inl (.object RX2, 8, .inr (.inr (.inr (.inr (shA 0))))), ar 4, ar 4]
  refine g_iconst (pc := 65) F dX4_init_65 (v := nI 0) rfl ?_
  refine g_istore_n (pc := 66) F dX4_init_66 (by decide) ?_
  refine g_iload_n (pc := 67) F dX4_init_67 rfl ?_
  refine g_bipush (pc := 68) F dX4_init_68 (v := nI 8) rfl ?_
  refine g_icN_ge (pc := 70) F dX4_init_70 (tgt := 92) rfl rfl rfl (by omega) (by omega) (fun c_70 => absurd c_70 (by omega)) (fun c_70 => ?_)
  refine g_aload_n (pc := 73) F dX4_init_73 rfl ?_
  refine g_getf (pc := 74) F fl_X4_28 dX4_init_74 rfl rfl ?_
  refine g_iload_n (pc := 77) F dX4_init_77 rfl ?_
  refine g_newO (pc := 78) F fc_X2 dX4_init_78 kcl_X4_26 kinst_X2 kini_X2 (fs := nX2) nX2_ok rfl (Nat.le_of_ble_eq_true rfl) (Nat.le_of_ble_eq_true rfl) ?_
  show Go _ _ _ _ _ [.ref 28, .int (nI 0), .ref 25] [.inr (2, [.ref 1, .ref 9, .ref 17, .int (nI 0), .ref 25, .ref 26, .ref 27]), des 1, arG, ar 10, ar 6, ar 6, ar 6, ar 6, ar 6, des 9, arG, ar 10, ar 6, ar 6, ar 6, ar 6, ar 6, des 17, arG, ar 10, ar 6, ar 6, ar 6, ar 6, ar 6, .inl (.object RX2, 8, .inr (.inr (.inr (.inr (shA 0))))), ar 4, ar 4, .inr (1, nX2)]
  refine g_dup (pc := 81) F dX4_init_81 rfl ?_
  refine h_callIN (pc := 82) F (c_initS) mi_X2_init kn_X4_39 kn2_X4_39 rfl dX4_init_82 [28] rfl (by decide) (by decide) rfl rfl (Nat.le_of_ble_eq_true rfl) (by decide) (by decide) ?_
  rintro _ _ ⟨rfl, rfl⟩ -
  show Go _ _ _ _ _ [.ref 28, .int (nI 0), .ref 25] [.inr (2, [.ref 1, .ref 9, .ref 17, .int (nI 0), .ref 25, .ref 26, .ref 27]), des 1, arG, ar 10, ar 6, ar 6, ar 6, ar 6, ar 6, des 9, arG, ar 10, ar 6, ar 6, ar 6, ar 6, ar 6, des 17, arG, ar 10, ar 6, ar 6, ar 6, ar 6, ar 6, .inl (.object RX2, 8, .inr (.inr (.inr (.inr (shA 0))))), ar 4, ar 4, she 28, ar 100]
  refine g_astS (pc := 85) F dX4_init_85 rfl rfl (vp_in_nI (by decide) (by decide)) ?_
  refine g_iincN (pc := 86) F dX4_init_86 rfl (by decide) ?_
  refine g_goto (pc := 89) F dX4_init_89 (tgt := 67) rfl ?_
  show Go _ _ _ _ [(0, .ref 0), (1, .int (nI 1))] [] [.inr (2, [.ref 1, .ref 9, .ref 17, .int (nI 0), .ref 25, .ref 26, .ref 27]), des 1, arG, ar 10, ar 6, ar 6, ar 6, ar 6, ar 6, des 9, arG, ar 10, ar 6, ar 6, ar 6, ar 6, ar 6, des 17, arG, ar 10, ar 6, ar 6, ar 6, ar 6, ar 6, .inl (.object RX2, 8, .inr (.inr (.inr (.inr (shA 1))))), ar 4, ar 4, she 28, ar 100]
  refine g_iload_n (pc := 67) F dX4_init_67 rfl ?_
  refine g_bipush (pc := 68) F dX4_init_68 (v := nI 8) rfl ?_
  refine g_icN_ge (pc := 70) F dX4_init_70 (tgt := 92) rfl rfl rfl (by omega) (by omega) (fun c_70 => absurd c_70 (by omega)) (fun c_70 => ?_)
  refine g_aload_n (pc := 73) F dX4_init_73 rfl ?_
  refine g_getf (pc := 74) F fl_X4_28 dX4_init_74 rfl rfl ?_
  refine g_iload_n (pc := 77) F dX4_init_77 rfl ?_
  refine g_newO (pc := 78) F fc_X2 dX4_init_78 kcl_X4_26 kinst_X2 kini_X2 (fs := nX2) nX2_ok rfl (Nat.le_of_ble_eq_true rfl) (Nat.le_of_ble_eq_true rfl) ?_
  show Go _ _ _ _ _ [.ref 30, .int (nI 1), .ref 25] [.inr (2, [.ref 1, .ref 9, .ref 17, .int (nI 0), .ref 25, .ref 26, .ref 27]), des 1, arG, ar 10, ar 6, ar 6, ar 6, ar 6, ar 6, des 9, arG, ar 10, ar 6, ar 6, ar 6, ar 6, ar 6, des 17, arG, ar 10, ar 6, ar 6, ar 6, ar 6, ar 6, .inl (.object RX2, 8, .inr (.inr (.inr (.inr (shA 1))))), ar 4, ar 4, she 28, ar 100, .inr (1, nX2)]
  refine g_dup (pc := 81) F dX4_init_81 rfl ?_
  refine h_callIN (pc := 82) F (c_initS) mi_X2_init kn_X4_39 kn2_X4_39 rfl dX4_init_82 [30] rfl (by decide) (by decide) rfl rfl (Nat.le_of_ble_eq_true rfl) (by decide) (by decide) ?_
  rintro _ _ ⟨rfl, rfl⟩ -
  show Go _ _ _ _ _ [.ref 30, .int (nI 1), .ref 25] [.inr (2, [.ref 1, .ref 9, .ref 17, .int (nI 0), .ref 25, .ref 26, .ref 27]), des 1, arG, ar 10, ar 6, ar 6, ar 6, ar 6, ar 6, des 9, arG, ar 10, ar 6, ar 6, ar 6, ar 6, ar 6, des 17, arG, ar 10, ar 6, ar 6, ar 6, ar 6, ar 6, .inl (.object RX2, 8, .inr (.inr (.inr (.inr (shA 1))))), ar 4, ar 4, she 28, ar 100, she 30, ar 100]
  refine g_astS (pc := 85) F dX4_init_85 rfl rfl (vp_in_nI (by decide) (by decide)) ?_
  refine g_iincN (pc := 86) F dX4_init_86 rfl (by decide) ?_
  refine g_goto (pc := 89) F dX4_init_89 (tgt := 67) rfl ?_
  show Go _ _ _ _ [(0, .ref 0), (1, .int (nI 2))] [] [.inr (2, [.ref 1, .ref 9, .ref 17, .int (nI 0), .ref 25, .ref 26, .ref 27]), des 1, arG, ar 10, ar 6, ar 6, ar 6, ar 6, ar 6, des 9, arG, ar 10, ar 6, ar 6, ar 6, ar 6, ar 6, des 17, arG, ar 10, ar 6, ar 6, ar 6, ar 6, ar 6, .inl (.object RX2, 8, .inr (.inr (.inr (.inr (shA 2))))), ar 4, ar 4, she 28, ar 100, she 30, ar 100]
  refine g_iload_n (pc := 67) F dX4_init_67 rfl ?_
  refine g_bipush (pc := 68) F dX4_init_68 (v := nI 8) rfl ?_
  refine g_icN_ge (pc := 70) F dX4_init_70 (tgt := 92) rfl rfl rfl (by omega) (by omega) (fun c_70 => absurd c_70 (by omega)) (fun c_70 => ?_)
  refine g_aload_n (pc := 73) F dX4_init_73 rfl ?_
  refine g_getf (pc := 74) F fl_X4_28 dX4_init_74 rfl rfl ?_
  refine g_iload_n (pc := 77) F dX4_init_77 rfl ?_
  refine g_newO (pc := 78) F fc_X2 dX4_init_78 kcl_X4_26 kinst_X2 kini_X2 (fs := nX2) nX2_ok rfl (Nat.le_of_ble_eq_true rfl) (Nat.le_of_ble_eq_true rfl) ?_
  show Go _ _ _ _ _ [.ref 32, .int (nI 2), .ref 25] [.inr (2, [.ref 1, .ref 9, .ref 17, .int (nI 0), .ref 25, .ref 26, .ref 27]), des 1, arG, ar 10, ar 6, ar 6, ar 6, ar 6, ar 6, des 9, arG, ar 10, ar 6, ar 6, ar 6, ar 6, ar 6, des 17, arG, ar 10, ar 6, ar 6, ar 6, ar 6, ar 6, .inl (.object RX2, 8, .inr (.inr (.inr (.inr (shA 2))))), ar 4, ar 4, she 28, ar 100, she 30, ar 100, .inr (1, nX2)]
  refine g_dup (pc := 81) F dX4_init_81 rfl ?_
  refine h_callIN (pc := 82) F (c_initS) mi_X2_init kn_X4_39 kn2_X4_39 rfl dX4_init_82 [32] rfl (by decide) (by decide) rfl rfl (Nat.le_of_ble_eq_true rfl) (by decide) (by decide) ?_
  rintro _ _ ⟨rfl, rfl⟩ -
  show Go _ _ _ _ _ [.ref 32, .int (nI 2), .ref 25] [.inr (2, [.ref 1, .ref 9, .ref 17, .int (nI 0), .ref 25, .ref 26, .ref 27]), des 1, arG, ar 10, ar 6, ar 6, ar 6, ar 6, ar 6, des 9, arG, ar 10, ar 6, ar 6, ar 6, ar 6, ar 6, des 17, arG, ar 10, ar 6, ar 6, ar 6, ar 6, ar 6, .inl (.object RX2, 8, .inr (.inr (.inr (.inr (shA 2))))), ar 4, ar 4, she 28, ar 100, she 30, ar 100, she 32, ar 100]
  refine g_astS (pc := 85) F dX4_init_85 rfl rfl (vp_in_nI (by decide) (by decide)) ?_
  refine g_iincN (pc := 86) F dX4_init_86 rfl (by decide) ?_
  refine g_goto (pc := 89) F dX4_init_89 (tgt := 67) rfl ?_
  show Go _ _ _ _ [(0, .ref 0), (1, .int (nI 3))] [] [.inr (2, [.ref 1, .ref 9, .ref 17, .int (nI 0), .ref 25, .ref 26, .ref 27]), des 1, arG, ar 10, ar 6, ar 6, ar 6, ar 6, ar 6, des 9, arG, ar 10, ar 6, ar 6, ar 6, ar 6, ar 6, des 17, arG, ar 10, ar 6, ar 6, ar 6, ar 6, ar 6, .inl (.object RX2, 8, .inr (.inr (.inr (.inr (shA 3))))), ar 4, ar 4, she 28, ar 100, she 30, ar 100, she 32, ar 100]
  refine g_iload_n (pc := 67) F dX4_init_67 rfl ?_
  refine g_bipush (pc := 68) F dX4_init_68 (v := nI 8) rfl ?_
  refine g_icN_ge (pc := 70) F dX4_init_70 (tgt := 92) rfl rfl rfl (by omega) (by omega) (fun c_70 => absurd c_70 (by omega)) (fun c_70 => ?_)
  refine g_aload_n (pc := 73) F dX4_init_73 rfl ?_
  refine g_getf (pc := 74) F fl_X4_28 dX4_init_74 rfl rfl ?_
  refine g_iload_n (pc := 77) F dX4_init_77 rfl ?_
  refine g_newO (pc := 78) F fc_X2 dX4_init_78 kcl_X4_26 kinst_X2 kini_X2 (fs := nX2) nX2_ok rfl (Nat.le_of_ble_eq_true rfl) (Nat.le_of_ble_eq_true rfl) ?_
  show Go _ _ _ _ _ [.ref 34, .int (nI 3), .ref 25] [.inr (2, [.ref 1, .ref 9, .ref 17, .int (nI 0), .ref 25, .ref 26, .ref 27]), des 1, arG, ar 10, ar 6, ar 6, ar 6, ar 6, ar 6, des 9, arG, ar 10, ar 6, ar 6, ar 6, ar 6, ar 6, des 17, arG, ar 10, ar 6, ar 6, ar 6, ar 6, ar 6, .inl (.object RX2, 8, .inr (.inr (.inr (.inr (shA 3))))), ar 4, ar 4, she 28, ar 100, she 30, ar 100, she 32, ar 100, .inr (1, nX2)]
  refine g_dup (pc := 81) F dX4_init_81 rfl ?_
  refine h_callIN (pc := 82) F (c_initS) mi_X2_init kn_X4_39 kn2_X4_39 rfl dX4_init_82 [34] rfl (by decide) (by decide) rfl rfl (Nat.le_of_ble_eq_true rfl) (by decide) (by decide) ?_
  rintro _ _ ⟨rfl, rfl⟩ -
  show Go _ _ _ _ _ [.ref 34, .int (nI 3), .ref 25] [.inr (2, [.ref 1, .ref 9, .ref 17, .int (nI 0), .ref 25, .ref 26, .ref 27]), des 1, arG, ar 10, ar 6, ar 6, ar 6, ar 6, ar 6, des 9, arG, ar 10, ar 6, ar 6, ar 6, ar 6, ar 6, des 17, arG, ar 10, ar 6, ar 6, ar 6, ar 6, ar 6, .inl (.object RX2, 8, .inr (.inr (.inr (.inr (shA 3))))), ar 4, ar 4, she 28, ar 100, she 30, ar 100, she 32, ar 100, she 34, ar 100]
  refine g_astS (pc := 85) F dX4_init_85 rfl rfl (vp_in_nI (by decide) (by decide)) ?_
  refine g_iincN (pc := 86) F dX4_init_86 rfl (by decide) ?_
  refine g_goto (pc := 89) F dX4_init_89 (tgt := 67) rfl ?_
  show Go _ _ _ _ [(0, .ref 0), (1, .int (nI 4))] [] [.inr (2, [.ref 1, .ref 9, .ref 17, .int (nI 0), .ref 25, .ref 26, .ref 27]), des 1, arG, ar 10, ar 6, ar 6, ar 6, ar 6, ar 6, des 9, arG, ar 10, ar 6, ar 6, ar 6, ar 6, ar 6, des 17, arG, ar 10, ar 6, ar 6, ar 6, ar 6, ar 6, .inl (.object RX2, 8, .inr (.inr (.inr (.inr (shA 4))))), ar 4, ar 4, she 28, ar 100, she 30, ar 100, she 32, ar 100, she 34, ar 100]
  refine g_iload_n (pc := 67) F dX4_init_67 rfl ?_
  refine g_bipush (pc := 68) F dX4_init_68 (v := nI 8) rfl ?_
  refine g_icN_ge (pc := 70) F dX4_init_70 (tgt := 92) rfl rfl rfl (by omega) (by omega) (fun c_70 => absurd c_70 (by omega)) (fun c_70 => ?_)
  refine g_aload_n (pc := 73) F dX4_init_73 rfl ?_
  refine g_getf (pc := 74) F fl_X4_28 dX4_init_74 rfl rfl ?_
  refine g_iload_n (pc := 77) F dX4_init_77 rfl ?_
  refine g_newO (pc := 78) F fc_X2 dX4_init_78 kcl_X4_26 kinst_X2 kini_X2 (fs := nX2) nX2_ok rfl (Nat.le_of_ble_eq_true rfl) (Nat.le_of_ble_eq_true rfl) ?_
  show Go _ _ _ _ _ [.ref 36, .int (nI 4), .ref 25] [.inr (2, [.ref 1, .ref 9, .ref 17, .int (nI 0), .ref 25, .ref 26, .ref 27]), des 1, arG, ar 10, ar 6, ar 6, ar 6, ar 6, ar 6, des 9, arG, ar 10, ar 6, ar 6, ar 6, ar 6, ar 6, des 17, arG, ar 10, ar 6, ar 6, ar 6, ar 6, ar 6, .inl (.object RX2, 8, .inr (.inr (.inr (.inr (shA 4))))), ar 4, ar 4, she 28, ar 100, she 30, ar 100, she 32, ar 100, she 34, ar 100, .inr (1, nX2)]
  refine g_dup (pc := 81) F dX4_init_81 rfl ?_
  refine h_callIN (pc := 82) F (c_initS) mi_X2_init kn_X4_39 kn2_X4_39 rfl dX4_init_82 [36] rfl (by decide) (by decide) rfl rfl (Nat.le_of_ble_eq_true rfl) (by decide) (by decide) ?_
  rintro _ _ ⟨rfl, rfl⟩ -
  show Go _ _ _ _ _ [.ref 36, .int (nI 4), .ref 25] [.inr (2, [.ref 1, .ref 9, .ref 17, .int (nI 0), .ref 25, .ref 26, .ref 27]), des 1, arG, ar 10, ar 6, ar 6, ar 6, ar 6, ar 6, des 9, arG, ar 10, ar 6, ar 6, ar 6, ar 6, ar 6, des 17, arG, ar 10, ar 6, ar 6, ar 6, ar 6, ar 6, .inl (.object RX2, 8, .inr (.inr (.inr (.inr (shA 4))))), ar 4, ar 4, she 28, ar 100, she 30, ar 100, she 32, ar 100, she 34, ar 100, she 36, ar 100]
  refine g_astS (pc := 85) F dX4_init_85 rfl rfl (vp_in_nI (by decide) (by decide)) ?_
  refine g_iincN (pc := 86) F dX4_init_86 rfl (by decide) ?_
  refine g_goto (pc := 89) F dX4_init_89 (tgt := 67) rfl ?_
  show Go _ _ _ _ [(0, .ref 0), (1, .int (nI 5))] [] [.inr (2, [.ref 1, .ref 9, .ref 17, .int (nI 0), .ref 25, .ref 26, .ref 27]), des 1, arG, ar 10, ar 6, ar 6, ar 6, ar 6, ar 6, des 9, arG, ar 10, ar 6, ar 6, ar 6, ar 6, ar 6, des 17, arG, ar 10, ar 6, ar 6, ar 6, ar 6, ar 6, .inl (.object RX2, 8, .inr (.inr (.inr (.inr (shA 5))))), ar 4, ar 4, she 28, ar 100, she 30, ar 100, she 32, ar 100, she 34, ar 100, she 36, ar 100]
  refine g_iload_n (pc := 67) F dX4_init_67 rfl ?_
  refine g_bipush (pc := 68) F dX4_init_68 (v := nI 8) rfl ?_
  refine g_icN_ge (pc := 70) F dX4_init_70 (tgt := 92) rfl rfl rfl (by omega) (by omega) (fun c_70 => absurd c_70 (by omega)) (fun c_70 => ?_)
  refine g_aload_n (pc := 73) F dX4_init_73 rfl ?_
  refine g_getf (pc := 74) F fl_X4_28 dX4_init_74 rfl rfl ?_
  refine g_iload_n (pc := 77) F dX4_init_77 rfl ?_
  refine g_newO (pc := 78) F fc_X2 dX4_init_78 kcl_X4_26 kinst_X2 kini_X2 (fs := nX2) nX2_ok rfl (Nat.le_of_ble_eq_true rfl) (Nat.le_of_ble_eq_true rfl) ?_
  show Go _ _ _ _ _ [.ref 38, .int (nI 5), .ref 25] [.inr (2, [.ref 1, .ref 9, .ref 17, .int (nI 0), .ref 25, .ref 26, .ref 27]), des 1, arG, ar 10, ar 6, ar 6, ar 6, ar 6, ar 6, des 9, arG, ar 10, ar 6, ar 6, ar 6, ar 6, ar 6, des 17, arG, ar 10, ar 6, ar 6, ar 6, ar 6, ar 6, .inl (.object RX2, 8, .inr (.inr (.inr (.inr (shA 5))))), ar 4, ar 4, she 28, ar 100, she 30, ar 100, she 32, ar 100, she 34, ar 100, she 36, ar 100, .inr (1, nX2)]
  refine g_dup (pc := 81) F dX4_init_81 rfl ?_
  refine h_callIN (pc := 82) F (c_initS) mi_X2_init kn_X4_39 kn2_X4_39 rfl dX4_init_82 [38] rfl (by decide) (by decide) rfl rfl (Nat.le_of_ble_eq_true rfl) (by decide) (by decide) ?_
  rintro _ _ ⟨rfl, rfl⟩ -
  show Go _ _ _ _ _ [.ref 38, .int (nI 5), .ref 25] [.inr (2, [.ref 1, .ref 9, .ref 17, .int (nI 0), .ref 25, .ref 26, .ref 27]), des 1, arG, ar 10, ar 6, ar 6, ar 6, ar 6, ar 6, des 9, arG, ar 10, ar 6, ar 6, ar 6, ar 6, ar 6, des 17, arG, ar 10, ar 6, ar 6, ar 6, ar 6, ar 6, .inl (.object RX2, 8, .inr (.inr (.inr (.inr (shA 5))))), ar 4, ar 4, she 28, ar 100, she 30, ar 100, she 32, ar 100, she 34, ar 100, she 36, ar 100, she 38, ar 100]
  refine g_astS (pc := 85) F dX4_init_85 rfl rfl (vp_in_nI (by decide) (by decide)) ?_
  refine g_iincN (pc := 86) F dX4_init_86 rfl (by decide) ?_
  refine g_goto (pc := 89) F dX4_init_89 (tgt := 67) rfl ?_
  show Go _ _ _ _ [(0, .ref 0), (1, .int (nI 6))] [] [.inr (2, [.ref 1, .ref 9, .ref 17, .int (nI 0), .ref 25, .ref 26, .ref 27]), des 1, arG, ar 10, ar 6, ar 6, ar 6, ar 6, ar 6, des 9, arG, ar 10, ar 6, ar 6, ar 6, ar 6, ar 6, des 17, arG, ar 10, ar 6, ar 6, ar 6, ar 6, ar 6, .inl (.object RX2, 8, .inr (.inr (.inr (.inr (shA 6))))), ar 4, ar 4, she 28, ar 100, she 30, ar 100, she 32, ar 100, she 34, ar 100, she 36, ar 100, she 38, ar 100]
  refine g_iload_n (pc := 67) F dX4_init_67 rfl ?_
  refine g_bipush (pc := 68) F dX4_init_68 (v := nI 8) rfl ?_
  refine g_icN_ge (pc := 70) F dX4_init_70 (tgt := 92) rfl rfl rfl (by omega) (by omega) (fun c_70 => absurd c_70 (by omega)) (fun c_70 => ?_)
  refine g_aload_n (pc := 73) F dX4_init_73 rfl ?_
  refine g_getf (pc := 74) F fl_X4_28 dX4_init_74 rfl rfl ?_
  refine g_iload_n (pc := 77) F dX4_init_77 rfl ?_
  refine g_newO (pc := 78) F fc_X2 dX4_init_78 kcl_X4_26 kinst_X2 kini_X2 (fs := nX2) nX2_ok rfl (Nat.le_of_ble_eq_true rfl) (Nat.le_of_ble_eq_true rfl) ?_
  show Go _ _ _ _ _ [.ref 40, .int (nI 6), .ref 25] [.inr (2, [.ref 1, .ref 9, .ref 17, .int (nI 0), .ref 25, .ref 26, .ref 27]), des 1, arG, ar 10, ar 6, ar 6, ar 6, ar 6, ar 6, des 9, arG, ar 10, ar 6, ar 6, ar 6, ar 6, ar 6, des 17, arG, ar 10, ar 6, ar 6, ar 6, ar 6, ar 6, .inl (.object RX2, 8, .inr (.inr (.inr (.inr (shA 6))))), ar 4, ar 4, she 28, ar 100, she 30, ar 100, she 32, ar 100, she 34, ar 100, she 36, ar 100, she 38, ar 100, .inr (1, nX2)]
  refine g_dup (pc := 81) F dX4_init_81 rfl ?_
  refine h_callIN (pc := 82) F (c_initS) mi_X2_init kn_X4_39 kn2_X4_39 rfl dX4_init_82 [40] rfl (by decide) (by decide) rfl rfl (Nat.le_of_ble_eq_true rfl) (by decide) (by decide) ?_
  rintro _ _ ⟨rfl, rfl⟩ -
  show Go _ _ _ _ _ [.ref 40, .int (nI 6), .ref 25] [.inr (2, [.ref 1, .ref 9, .ref 17, .int (nI 0), .ref 25, .ref 26, .ref 27]), des 1, arG, ar 10, ar 6, ar 6, ar 6, ar 6, ar 6, des 9, arG, ar 10, ar 6, ar 6, ar 6, ar 6, ar 6, des 17, arG, ar 10, ar 6, ar 6, ar 6, ar 6, ar 6, .inl (.object RX2, 8, .inr (.inr (.inr (.inr (shA 6))))), ar 4, ar 4, she 28, ar 100, she 30, ar 100, she 32, ar 100, she 34, ar 100, she 36, ar 100, she 38, ar 100, she 40, ar 100]
  refine g_astS (pc := 85) F dX4_init_85 rfl rfl (vp_in_nI (by decide) (by decide)) ?_
  refine g_iincN (pc := 86) F dX4_init_86 rfl (by decide) ?_
  refine g_goto (pc := 89) F dX4_init_89 (tgt := 67) rfl ?_
  show Go _ _ _ _ [(0, .ref 0), (1, .int (nI 7))] [] [.inr (2, [.ref 1, .ref 9, .ref 17, .int (nI 0), .ref 25, .ref 26, .ref 27]), des 1, arG, ar 10, ar 6, ar 6, ar 6, ar 6, ar 6, des 9, arG, ar 10, ar 6, ar 6, ar 6, ar 6, ar 6, des 17, arG, ar 10, ar 6, ar 6, ar 6, ar 6, ar 6, .inl (.object RX2, 8, .inr (.inr (.inr (.inr (shA 7))))), ar 4, ar 4, she 28, ar 100, she 30, ar 100, she 32, ar 100, she 34, ar 100, she 36, ar 100, she 38, ar 100, she 40, ar 100]
  refine g_iload_n (pc := 67) F dX4_init_67 rfl ?_
  refine g_bipush (pc := 68) F dX4_init_68 (v := nI 8) rfl ?_
  refine g_icN_ge (pc := 70) F dX4_init_70 (tgt := 92) rfl rfl rfl (by omega) (by omega) (fun c_70 => absurd c_70 (by omega)) (fun c_70 => ?_)
  refine g_aload_n (pc := 73) F dX4_init_73 rfl ?_
  refine g_getf (pc := 74) F fl_X4_28 dX4_init_74 rfl rfl ?_
  refine g_iload_n (pc := 77) F dX4_init_77 rfl ?_
  refine g_newO (pc := 78) F fc_X2 dX4_init_78 kcl_X4_26 kinst_X2 kini_X2 (fs := nX2) nX2_ok rfl (Nat.le_of_ble_eq_true rfl) (Nat.le_of_ble_eq_true rfl) ?_
  show Go _ _ _ _ _ [.ref 42, .int (nI 7), .ref 25] [.inr (2, [.ref 1, .ref 9, .ref 17, .int (nI 0), .ref 25, .ref 26, .ref 27]), des 1, arG, ar 10, ar 6, ar 6, ar 6, ar 6, ar 6, des 9, arG, ar 10, ar 6, ar 6, ar 6, ar 6, ar 6, des 17, arG, ar 10, ar 6, ar 6, ar 6, ar 6, ar 6, .inl (.object RX2, 8, .inr (.inr (.inr (.inr (shA 7))))), ar 4, ar 4, she 28, ar 100, she 30, ar 100, she 32, ar 100, she 34, ar 100, she 36, ar 100, she 38, ar 100, she 40, ar 100, .inr (1, nX2)]
  refine g_dup (pc := 81) F dX4_init_81 rfl ?_
  refine h_callIN (pc := 82) F (c_initS) mi_X2_init kn_X4_39 kn2_X4_39 rfl dX4_init_82 [42] rfl (by decide) (by decide) rfl rfl (Nat.le_of_ble_eq_true rfl) (by decide) (by decide) ?_
  rintro _ _ ⟨rfl, rfl⟩ -
  show Go _ _ _ _ _ [.ref 42, .int (nI 7), .ref 25] [.inr (2, [.ref 1, .ref 9, .ref 17, .int (nI 0), .ref 25, .ref 26, .ref 27]), des 1, arG, ar 10, ar 6, ar 6, ar 6, ar 6, ar 6, des 9, arG, ar 10, ar 6, ar 6, ar 6, ar 6, ar 6, des 17, arG, ar 10, ar 6, ar 6, ar 6, ar 6, ar 6, .inl (.object RX2, 8, .inr (.inr (.inr (.inr (shA 7))))), ar 4, ar 4, she 28, ar 100, she 30, ar 100, she 32, ar 100, she 34, ar 100, she 36, ar 100, she 38, ar 100, she 40, ar 100, she 42, ar 100]
  refine g_astS (pc := 85) F dX4_init_85 rfl rfl (vp_in_nI (by decide) (by decide)) ?_
  refine g_iincN (pc := 86) F dX4_init_86 rfl (by decide) ?_
  refine g_goto (pc := 89) F dX4_init_89 (tgt := 67) rfl ?_
  show Go _ _ _ _ [(0, .ref 0), (1, .int (nI 8))] [] [.inr (2, [.ref 1, .ref 9, .ref 17, .int (nI 0), .ref 25, .ref 26, .ref 27]), des 1, arG, ar 10, ar 6, ar 6, ar 6, ar 6, ar 6, des 9, arG, ar 10, ar 6, ar 6, ar 6, ar 6, ar 6, des 17, arG, ar 10, ar 6, ar 6, ar 6, ar 6, ar 6, .inl (.object RX2, 8, .inr (.inr (.inr (.inr (shA 8))))), ar 4, ar 4, she 28, ar 100, she 30, ar 100, she 32, ar 100, she 34, ar 100, she 36, ar 100, she 38, ar 100, she 40, ar 100, she 42, ar 100]
  refine g_iload_n (pc := 67) F dX4_init_67 rfl ?_
  refine g_bipush (pc := 68) F dX4_init_68 (v := nI 8) rfl ?_
  refine g_icN_ge (pc := 70) F dX4_init_70 (tgt := 92) rfl rfl rfl (by omega) (by omega) (fun c_70 => ?_) (fun c_70 => absurd c_70 (by decide))
  exact g_vret (pc := 92) F X0 dX4_init_92 (Nat.le_of_ble_eq_true rfl) (Nat.le_of_ble_eq_true rfl) rfl ⟨rfl, world_00⟩

