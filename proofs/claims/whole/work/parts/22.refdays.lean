set_option maxRecDepth 100000 in
set_option maxHeartbeats 4000000 in
theorem c_day (r : Nat → Int32) (w : Int32) (hI : Iv r) : Ctr yX5_day cX5_day 3 none 4 0 0 [.ref 0, .int w] (A1 r) (fun v h => v = none ∧ h = A1 (dayR r w)) := by
  have hm : many (upd r 1 (r 1 + nI 1)) = many r := many_upd (by decide)
  have hI0 : Iv (upd r 1 (r 1 + nI 1)) := Iv_free hI (Or.inl rfl)
  have hm6 := hI.1.2
  have hI1 : Iv (allWork (upd r 1 (r 1 + nI 1))) := (allWork_ok hI0 _ (Nat.le_refl _)).1
  refine Ctr.of rfl (Nat.le_of_ble_eq_true rfl) ⟨clS_of rfl, clH_of rfl⟩ (fun K F X0 => ?_)
  have E53 : ∀ (q z : Int32), ¬ w < 0 → q = z → ∀ s, s = dayR r w → Go K 0 0 53 [(0, .ref 0), (1, .int w), (2, .int z)] [] (A1 s) := fun q z hw _ s hs => by
    refine g_iconst (pc := 53) F dX5_day_53 (v := nI 1) rfl ?_
    refine g_istore_n (pc := 54) F dX5_day_54 (by decide) ?_
    refine g_iload_n (pc := 55) F dX5_day_55 rfl ?_
    refine g_bipush (pc := 56) F dX5_day_56 (v := nI 10) rfl ?_
    refine g_icN_ge (pc := 58) F dX5_day_58 (tgt := 81) rfl rfl rfl (by omega) (by omega) (fun c_58 => absurd c_58 (by omega)) (fun c_58 => ?_)
    refine g_iload_n (pc := 61) F dX5_day_61 rfl ?_
    refine g_if_ge (pc := 62) F dX5_day_62 (tgt := 81) rfl (fun c_62 => ?_) (fun c_62 => absurd (Int32.not_lt.mp hw) c_62)
    exact g_vret (pc := 81) F X0 dX5_day_81 (Nat.le_of_ble_eq_true rfl) (Nat.le_of_ble_eq_true rfl) rfl ⟨rfl, congrArg A1 hs⟩
  have L3 : w < 0 → ∀ i, i ≤ 9 → Go K 0 0 55 [(0, .ref 0), (1, .int w), (2, .int (nI (i + 1)))] [] (A1 (it (fun j r => givesR r (j + 1) j (-w)) i (allWork (upd r 1 (r 1 + nI 1))))) := fun hw => loop_up (P := fun i => Go K 0 0 55 [(0, .ref 0), (1, .int w), (2, .int (nI (i + 1)))] [] (A1 (it (fun j r => givesR r (j + 1) j (-w)) i (allWork (upd r 1 (r 1 + nI 1)))))) (fun i hi ih => by
    refine g_iload_n (pc := 55) F dX5_day_55 rfl ?_
    refine g_bipush (pc := 56) F dX5_day_56 (v := nI 10) rfl ?_
    refine g_icN_ge (pc := 58) F dX5_day_58 (tgt := 81) rfl rfl rfl (by omega) (by omega) (fun c_58 => ?_) (fun c_58 => ?_)
    · exact g_vret (pc := 81) F X0 dX5_day_81 (Nat.le_of_ble_eq_true rfl) (Nat.le_of_ble_eq_true rfl) rfl ⟨rfl, congrArg A1 (by obtain rfl : i = 9 := (by omega); unfold dayR blowR; rw [if_neg (fun h => Int32.lt_irrefl (Int32.lt_trans h hw)), if_pos hw]; rfl)⟩
    · refine g_iload_n (pc := 61) F dX5_day_61 rfl ?_
      refine g_if_ge (pc := 62) F dX5_day_62 (tgt := 81) rfl (fun c_62 => absurd hw (Int32.not_lt.mpr c_62)) (fun c_62 => ?_)
      refine g_aload_n (pc := 65) F dX5_day_65 rfl ?_
      refine g_iload_n (pc := 66) F dX5_day_66 rfl ?_
      refine g_iload_n (pc := 67) F dX5_day_67 rfl ?_
      refine g_iconst (pc := 68) F dX5_day_68 (v := nI 1) rfl ?_
      refine g_isubN (pc := 69) F dX5_day_69 (by omega) ?_
      refine g_iload_n (pc := 70) F dX5_day_70 rfl ?_
      refine g_ineg (pc := 71) F dX5_day_71 ?_
      refine h_callS (pc := 72) F (c_gives _ _ _ _ (i + 1) i rfl rfl (by omega) (by omega)) mi_X5_gives ks_X5_92 dX5_day_72 [0] rfl (by decide) (by decide) rfl rfl (Nat.le_of_ble_eq_true rfl) (by decide) (by decide) ?_
      rintro _ _ ⟨rfl, rfl⟩ -
      refine g_iincN (pc := 75) F dX5_day_75 rfl (by decide) ?_
      refine g_goto (pc := 78) F dX5_day_78 (tgt := 55) rfl ?_
      exact ih (by omega))
  have L2 : 0 < w → ∀ m, m ≤ 9 → Go K 0 0 30 [(0, .ref 0), (1, .int w), (2, .int (dnI m))] [] (A1 (it (fun j r => givesR r (8 - j) (8 - j + 1) w) (9 - m) (allWork (upd r 1 (r 1 + nI 1))))) := by
    intro hw m
    induction m with
    | zero =>
      intro _
      show Go K 0 0 30 [(0, .ref 0), (1, .int w), (2, .int (-1))] [] (A1 (it (fun j r => givesR r (8 - j) (8 - j + 1) w) 9 (allWork (upd r 1 (r 1 + nI 1)))))
      refine g_iload_n (pc := 30) F dX5_day_30 rfl ?_
      refine g_if_lt (pc := 31) F dX5_day_31 (tgt := 53) rfl (fun c_31 => ?_) (fun c_31 => absurd (by decide) c_31)
      exact E53 _ _ (fun h => Int32.lt_irrefl (Int32.lt_trans h hw)) rfl _ (by unfold dayR blowR; rw [if_pos hw]; rfl)
    | succ m ih =>
      intro hm9
      show Go K 0 0 30 [(0, .ref 0), (1, .int w), (2, .int (nI m))] [] (A1 (it (fun j r => givesR r (8 - j) (8 - j + 1) w) (9 - (m + 1)) (allWork (upd r 1 (r 1 + nI 1)))))
      refine g_iload_n (pc := 30) F dX5_day_30 rfl ?_
      refine g_if_lt (pc := 31) F dX5_day_31 (tgt := 53) rfl (fun c_31 => absurd c_31 (nI_pos (by omega))) (fun c_31 => ?_)
      refine g_iload_n (pc := 34) F dX5_day_34 rfl ?_
      refine g_if_le (pc := 35) F dX5_day_35 (tgt := 53) rfl (fun c_35 => absurd hw (Int32.not_lt.mpr c_35)) (fun c_35 => ?_)
      refine g_aload_n (pc := 38) F dX5_day_38 rfl ?_
      refine g_iload_n (pc := 39) F dX5_day_39 rfl ?_
      refine g_iload_n (pc := 40) F dX5_day_40 rfl ?_
      refine g_iconst (pc := 41) F dX5_day_41 (v := nI 1) rfl ?_
      refine g_iaddN (pc := 42) F dX5_day_42 ?_
      refine g_iload_n (pc := 43) F dX5_day_43 rfl ?_
      refine h_callS (pc := 44) F (c_gives _ _ _ _ m (m + 1) rfl rfl (by omega) (by omega)) mi_X5_gives ks_X5_92 dX5_day_44 [0] rfl (by decide) (by decide) rfl rfl (Nat.le_of_ble_eq_true rfl) (by decide) (by decide) ?_
      rintro _ _ ⟨rfl, rfl⟩ -
      refine g_iinc (pc := 47) F dX5_day_47 rfl (dnI_dec m) (by decide) ?_
      refine g_goto (pc := 50) F dX5_day_50 (tgt := 30) rfl ?_
      have e1 : 9 - m = 9 - (m + 1) + 1 := by omega
      have e2 : 8 - (9 - (m + 1)) = m := by omega
      have g := ih (by omega)
      rw [e1, it_succ, e2] at g
      exact g
  have L1 : ∀ i, i ≤ many r → Go K 0 0 9 [(0, .ref 0), (1, .int w), (2, .int (nI i))] [] (A1 (it (fun c r => worksR r c) i (upd r 1 (r 1 + nI 1)))) := loop_up (P := fun i => Go K 0 0 9 [(0, .ref 0), (1, .int w), (2, .int (nI i))] [] (A1 (it (fun c r => worksR r c) i (upd r 1 (r 1 + nI 1))))) (fun i hi ih => by
    obtain ⟨g1, g2⟩ := allWork_ok hI0 i (by rw [hm]; exact hi)
    have ei : it (fun c r => worksR r c) i (upd r 1 (r 1 + nI 1)) 0 = nI (many r) := (g2 0 (by omega)).trans ((upd_ne _ (by decide)).trans hI.1.1)
    have em : many (it (fun c r => worksR r c) i (upd r 1 (r 1 + nI 1))) = many r := (many_of (g2 0 (by omega))).trans hm
    refine g_iload_n (pc := 9) F dX5_day_9 rfl ?_
    refine g_aload_n (pc := 10) F dX5_day_10 rfl ?_
    refine g_iconst (pc := 11) F dX5_day_11 (v := nI 0) rfl ?_
    refine g_iald2 (pc := 12) F dX5_day_12 rfl rfl (by first | omega | (simp only [ix]; omega)) (by decide) ?_
    refine g_icN_ge (pc := 13) F dX5_day_13 (tgt := 27) rfl rfl ei (by omega) (by omega) (fun c_13 => ?_) (fun c_13 => ?_)
    · have hi9 : i = many r := by omega
      subst hi9
      rw [show it (fun c r => worksR r c) (many r) (upd r 1 (r 1 + nI 1)) = allWork (upd r 1 (r 1 + nI 1)) from by unfold allWork; rw [hm]]
      refine g_bipush (pc := 27) F dX5_day_27 (v := nI 8) rfl ?_
      refine g_istore_n (pc := 29) F dX5_day_29 (by decide) ?_
      by_cases hw : 0 < w
      · exact L2 hw 9 (Nat.le_refl _)
      · refine g_iload_n (pc := 30) F dX5_day_30 rfl ?_
        refine g_if_lt (pc := 31) F dX5_day_31 (tgt := 53) rfl (fun c_31 => absurd c_31 (by decide)) (fun _ => ?_)
        refine g_iload_n (pc := 34) F dX5_day_34 rfl ?_
        refine g_if_le (pc := 35) F dX5_day_35 (tgt := 53) rfl (fun _ => ?_) (fun c_35 => absurd (Int32.not_le.mp c_35) hw)
        by_cases hw2 : w < 0
        · refine g_iconst (pc := 53) F dX5_day_53 (v := nI 1) rfl ?_
          refine g_istore_n (pc := 54) F dX5_day_54 (by decide) ?_
          exact L3 hw2 0 (Nat.zero_le _)
        · exact E53 _ _ hw2 rfl _ (by unfold dayR blowR; rw [if_neg hw, if_neg hw2])
    · refine g_aload_n (pc := 16) F dX5_day_16 rfl ?_
      refine g_iload_n (pc := 17) F dX5_day_17 rfl ?_
      refine h_callS (pc := 18) F (c_worksOn _ i g1 (by omega)) mi_X5_worksOn ks_X5_89 dX5_day_18 [0] rfl (by decide) (by decide) rfl rfl (Nat.le_of_ble_eq_true rfl) (by decide) (by decide) ?_
      rintro _ _ ⟨rfl, rfl⟩ -
      refine g_iincN (pc := 21) F dX5_day_21 rfl (by decide) ?_
      refine g_goto (pc := 24) F dX5_day_24 (tgt := 9) rfl ?_
      exact ih (by omega))
  show Go K 0 0 0 [(0, .ref 0), (1, .int w)] [] (A1 r)
  refine g_aload_n (pc := 0) F dX5_day_0 rfl ?_
  refine g_iconst (pc := 1) F dX5_day_1 (v := nI 1) rfl ?_
  refine g_dup2 (pc := 2) F dX5_day_2 rfl rfl ?_
  refine g_iald2 (pc := 3) F dX5_day_3 rfl rfl (by first | omega | (simp only [ix]; omega)) (by decide) ?_
  refine g_iconst (pc := 4) F dX5_day_4 (v := nI 1) rfl ?_
  refine g_iadd (pc := 5) F dX5_day_5 ?_
  refine g_iast2 (pc := 6) F dX5_day_6 rfl rfl (by first | omega | (simp only [ix]; omega)) (by decide) ?_
  refine g_iconst (pc := 7) F dX5_day_7 (v := nI 0) rfl ?_
  refine g_istore_n (pc := 8) F dX5_day_8 (by decide) ?_
  exact L1 0 (Nat.zero_le _)

set_option maxRecDepth 100000 in
set_option maxHeartbeats 4000000 in
theorem c_daysOn (r : Nat → Int32) (x : Int32) (m : Nat) (hI : Iv r) (hx : x = nI m) (hm : m < 1000) : Ctr yX5_daysOn cX5_daysOn 3 none 5 0 0 [.ref 0, .int x] (A1 r) (fun v h => v = none ∧ h = A1 (daysR r m)) := by
  subst hx
  refine Ctr.of rfl (Nat.le_of_ble_eq_true rfl) ⟨clS_of rfl, clH_of rfl⟩ (fun K F X0 => ?_)
  have L : ∀ i, i ≤ m → Go K 0 0 2 [(0, .ref 0), (1, .int (nI m)), (2, .int (nI i))] [] (A1 (daysR r i)) := loop_up (P := fun i => Go K 0 0 2 [(0, .ref 0), (1, .int (nI m)), (2, .int (nI i))] [] (A1 (daysR r i))) (fun i hi ih => by
    refine g_iload_n (pc := 2) F dX5_daysOn_2 rfl ?_
    refine g_iload_n (pc := 3) F dX5_daysOn_3 rfl ?_
    refine g_icN_ge (pc := 4) F dX5_daysOn_4 (tgt := 20) rfl rfl rfl (by omega) (by omega) (fun c_4 => ?_) (fun c_4 => ?_)
    · have hi9 : i = m := by omega
      subst hi9
      exact g_vret (pc := 20) F X0 dX5_daysOn_20 (Nat.le_of_ble_eq_true rfl) (Nat.le_of_ble_eq_true rfl) rfl ⟨rfl, rfl⟩
    · refine g_aload_n (pc := 7) F dX5_daysOn_7 rfl ?_
      refine g_aload_n (pc := 8) F dX5_daysOn_8 rfl ?_
      refine g_iconst (pc := 9) F dX5_daysOn_9 (v := nI 2) rfl ?_
      refine g_iald2 (pc := 10) F dX5_daysOn_10 rfl rfl (by first | omega | (simp only [ix]; omega)) (by decide) ?_
      refine h_callS (pc := 11) F (c_day _ _ (daysR_ok hI i).1) mi_X5_day ks_X5_96 dX5_daysOn_11 [0] rfl (by decide) (by decide) rfl rfl (Nat.le_of_ble_eq_true rfl) (by decide) (by decide) ?_
      rintro _ _ ⟨rfl, rfl⟩ -
      refine g_iincN (pc := 14) F dX5_daysOn_14 rfl (by decide) ?_
      refine g_goto (pc := 17) F dX5_daysOn_17 (tgt := 2) rfl ?_
      exact ih c_4)
  show Go K 0 0 0 [(0, .ref 0), (1, .int (nI m))] [] (A1 r)
  refine g_iconst (pc := 0) F dX5_daysOn_0 (v := nI 0) rfl ?_
  refine g_istore_n (pc := 1) F dX5_daysOn_1 (by decide) ?_
  exact L 0 (Nat.zero_le _)

