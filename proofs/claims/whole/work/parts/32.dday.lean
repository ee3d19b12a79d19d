/-! the class's deserts: a day -/
theorem worksR_rest {r : Nat → Int32} {c : Nat} (h : r (ix c 5) = nI 1) : worksR r c = r := if_pos h
theorem worksR_write {r : Nat → Int32} {c : Nat} (h : ¬ r (ix c 5) = nI 1) (h2 : hasb (r 4) (nI c) = true) : worksR r c = wrR r c (nI 15) := (if_neg h).trans (if_pos h2)
theorem worksR_work {r : Nat → Int32} {c : Nat} (h : ¬ r (ix c 5) = nI 1) (h2 : hasb (r 4) (nI c) = false) : worksR r c = workE r c := (if_neg h).trans (if_neg (by rw [h2]; decide))
set_option maxRecDepth 100000 in
set_option maxHeartbeats 4000000 in
theorem c_give (b : Int32) (X : DX) (r : Nat → Int32) (x y w : Int32) (d to : Nat) (hR : Rel b X r) (hx : x = nI d) (hy : y = nI to) (hd : d < 10) (ht : to < 10) (hne : to ≠ d) : Ctr yX0_give cX0_give 6 none 1 0 0 [.ref 0, .int x, .int y, .int w] (dW 0 X) (fun v2 h => v2 = none ∧ ∃ X2, h = dW 0 X2 ∧ Rel b X2 (givesR r d to w)) := by
  subst hx
  subst hy
  obtain ⟨eGd, eDd⟩ := hR.2.2.1 d hd
  have eGt := (hR.2.2.1 to ht).1
  have eBl := hR.1.2.2.2.2.1
  have eD1 : dD X d = gv1 r d to w (15 + d) := eDd.trans (upd_ne _ (by omega)).symm
  have eL1 : r 3 + b + gvL r d to w = gv2 r d to w 3 + gvL r d to w + b := by
    have : gv2 r d to w 3 = r 3 := (upd_ne _ (by omega)).trans (upd_ne _ (by omega))
    rw [this, Int32.add_assoc, Int32.add_assoc, Int32.add_comm b]
  have eG1 : upd (dG X) d (r (5 + d) - gvV r d to w) to = gv3 r d to w (5 + to) := by
    rw [upd_ne _ hne, eGt]
    exact ((upd_ne _ (by omega)).trans ((upd_ne _ (by omega)).trans (upd_ne _ (by omega)))).symm
  refine Ctr.of rfl (Nat.le_of_ble_eq_true rfl) ⟨clS_of rfl, clH_of rfl⟩ (fun K F X0 => ?_)
  show Go K 0 0 0 [(0, .ref 0), (1, .int (nI d)), (2, .int (nI to)), (3, .int w)] [] (dW 0 X)
  refine g_iload_n (pc := 0) F dX0_give_0 rfl ?_
  refine g_aload_n (pc := 1) F dX0_give_1 rfl ?_
  refine g_getf (pc := 2) F fl_X0_9 dX0_give_2 rfl rfl ?_
  refine g_iload_n (pc := 5) F dX0_give_5 rfl ?_
  refine g_iald2 (pc := 6) F dX0_give_6 rfl rfl (by first | omega | (simp only [ix]; omega)) (by decide) ?_
  refine g_sipush (pc := 7) F dX0_give_7 (v := nI 999) rfl ?_
  refine g_aload_n (pc := 10) F dX0_give_10 rfl ?_
  refine g_getf (pc := 11) F fl_X0_9 dX0_give_11 rfl rfl ?_
  refine g_iload_n (pc := 14) F dX0_give_14 rfl ?_
  refine g_iald2 (pc := 15) F dX0_give_15 rfl rfl (by first | omega | (simp only [ix]; omega)) (by decide) ?_
  refine g_isub (pc := 16) F dX0_give_16 ?_
  refine g_mminM (pc := 17) F dX0_give_17 km_X0_111 (by decide) (Nat.le_of_ble_eq_true rfl) (by decide) (by decide) ?_
  refine g_mminM (pc := 20) F dX0_give_20 km_X0_111 (by decide) (Nat.le_of_ble_eq_true rfl) (by decide) (by decide) ?_
  rw [show mn w (mn (dG X d) (nI 999 - dG X to)) = gvV r d to w from by rw [eGd, eGt]; rfl]
  refine g_istore (pc := 23) F dX0_give_23 (by decide) ?_
  refine g_iconst (pc := 25) F dX0_give_25 (v := nI 0) rfl ?_
  refine g_iload (pc := 26) F dX0_give_26 rfl ?_
  refine g_aload_n (pc := 28) F dX0_give_28 rfl ?_
  refine g_iload_n (pc := 29) F dX0_give_29 rfl ?_
  refine h_readV (pc := 30) F (c_leftIn X _ d rfl hd) mi_X0_leftIn kv_X0_91 rfl rfl dX0_give_30 [0, 1, 2, 3, 4, 5, 6, 7] rfl (by decide) (by decide) rfl rfl (Nat.le_of_ble_eq_true rfl) trivial (by decide) (by decide) ?_
  refine g_isub (pc := 33) F dX0_give_33 ?_
  refine g_mmaxM (pc := 34) F dX0_give_34 km_X0_117 (by decide) (Nat.le_of_ble_eq_true rfl) (by decide) (by decide) ?_
  rw [show mx (nI 0) (gvV r d to w - (dG X d - dD X d)) = gvL r d to w from by rw [eGd, eDd]; rfl]
  refine g_istore (pc := 37) F dX0_give_37 (by decide) ?_
  refine g_aload_n (pc := 39) F dX0_give_39 rfl ?_
  refine g_getf (pc := 40) F fl_X0_9 dX0_give_40 rfl rfl ?_
  refine g_iload_n (pc := 43) F dX0_give_43 rfl ?_
  refine g_dup2 (pc := 44) F dX0_give_44 rfl rfl ?_
  refine g_iald2 (pc := 45) F dX0_give_45 rfl rfl (by first | omega | (simp only [ix]; omega)) (by decide) ?_
  rw [eGd]
  refine g_iload (pc := 46) F dX0_give_46 rfl ?_
  refine g_isub (pc := 48) F dX0_give_48 ?_
  refine g_iast2 (pc := 49) F dX0_give_49 rfl rfl (by first | omega | (simp only [ix]; omega)) (by decide) ?_
  refine g_aload_n (pc := 50) F dX0_give_50 rfl ?_
  refine g_getf (pc := 51) F fl_X0_15 dX0_give_51 rfl rfl ?_
  refine g_iload_n (pc := 54) F dX0_give_54 rfl ?_
  refine g_dup2 (pc := 55) F dX0_give_55 rfl rfl ?_
  refine g_iald2 (pc := 56) F dX0_give_56 rfl rfl (by first | omega | (simp only [ix]; omega)) (by decide) ?_
  rw [eD1]
  refine g_iload (pc := 57) F dX0_give_57 rfl ?_
  refine g_isub (pc := 59) F dX0_give_59 ?_
  refine g_iast2 (pc := 60) F dX0_give_60 rfl rfl (by first | omega | (simp only [ix]; omega)) (by decide) ?_
  refine g_aload_n (pc := 61) F dX0_give_61 rfl ?_
  refine g_getf (pc := 62) F fl_X0_9 dX0_give_62 rfl rfl ?_
  refine g_iload_n (pc := 65) F dX0_give_65 rfl ?_
  refine g_dup2 (pc := 66) F dX0_give_66 rfl rfl ?_
  refine g_iald2 (pc := 67) F dX0_give_67 rfl rfl (by first | omega | (simp only [ix]; omega)) (by decide) ?_
  rw [eG1]
  refine g_iload (pc := 68) F dX0_give_68 rfl ?_
  refine g_iadd (pc := 70) F dX0_give_70 ?_
  refine g_iast2 (pc := 71) F dX0_give_71 rfl rfl (by first | omega | (simp only [ix]; omega)) (by decide) ?_
  refine g_aload_n (pc := 72) F dX0_give_72 rfl ?_
  refine g_dup (pc := 73) F dX0_give_73 rfl ?_
  refine g_getf (pc := 74) F fl_X0_49 dX0_give_74 rfl rfl ?_
  rw [eBl]
  refine g_iload (pc := 77) F dX0_give_77 rfl ?_
  refine g_iadd (pc := 79) F dX0_give_79 ?_
  rw [eL1]
  refine g_putf (pc := 80) F fl_X0_49 dX0_give_80 rfl (Nat.le_of_ble_eq_true rfl) ?_
  exact g_vret (pc := 83) F X0 dX0_give_83 (Nat.le_of_ble_eq_true rfl) (Nat.le_of_ble_eq_true rfl) rfl ⟨rfl, sG (sBl (sD (sG X (upd (dG X) d (r (5 + d) - gvV r d to w))) (upd (dD X) d (gv1 r d to w (15 + d) - gvL r d to w))) (gv2 r d to w 3 + gvL r d to w + b)) (upd (upd (dG X) d (r (5 + d) - gvV r d to w)) to (gv3 r d to w (5 + to) + gvV r d to w)), rfl, Rel_grain (Rel_lost (Rel_done (Rel_grain hR hd) hd)) ht⟩

set_option maxRecDepth 100000 in
set_option maxHeartbeats 4000000 in
theorem c_passDay (b : Int32) (X : DX) (r : Nat → Int32) (hR : Rel b X r) (hI : Iv r) : Ctr yX0_passDay cX0_passDay 2 none 4 0 0 [.ref 0] (dW 0 X) (fun v2 h => v2 = none ∧ ∃ X2, h = dW 0 X2 ∧ Rel b X2 (dayR r (r 2))) := by
  have hm : many (upd r 1 (r 1 + nI 1)) = many r := many_upd (by decide)
  have hI0 : Iv (upd r 1 (r 1 + nI 1)) := Iv_free hI (Or.inl rfl)
  have hm6 := hI.1.2
  have hw := hI.2.2.2
  have hRz : Rel b (sDy X (r 1 + nI 1)) (upd r 1 (r 1 + nI 1)) := Rel_day hR
  have hI1 : Iv (allWork (upd r 1 (r 1 + nI 1))) := (allWork_ok hI0 _ (Nat.le_refl _)).1
  have e12 : (allWork (upd r 1 (r 1 + nI 1))) 2 = r 2 := ((allWork_ok hI0 _ (Nat.le_refl _)).2 2 (by omega)).trans (upd_ne _ (by decide))
  refine Ctr.of rfl (Nat.le_of_ble_eq_true rfl) ⟨clS_of rfl, clH_of rfl⟩ (fun K F X0 => ?_)
  have L3 : r 2 < 0 → ∀ i, i ≤ 9 → ∀ Y, Rel b Y (it (fun j q => givesR q (j + 1) j (-(r 2))) i (allWork (upd r 1 (r 1 + nI 1)))) → Go K 0 0 107 [(0, .ref 0), (1, .int (nI (i + 1)))] [] (dW 0 Y) := fun hw0 => loop_up (P := fun i => ∀ Y, Rel b Y (it (fun j q => givesR q (j + 1) j (-(r 2))) i (allWork (upd r 1 (r 1 + nI 1)))) → Go K 0 0 107 [(0, .ref 0), (1, .int (nI (i + 1)))] [] (dW 0 Y)) (fun i hi ih => by
    intro Y hY
    have ew : dWi Y = r 2 := hY.1.2.2.1.trans (((blowDn_ok hI1 (by rw [neg_ti hw.1 hw.2]; have := (ti_lt _ _).mp hw0; simp at this; omega) i hi).2 2 (by omega)).trans e12)
    refine g_iload_n (pc := 107) F dX0_passDay_107 rfl ?_
    refine g_bipush (pc := 108) F dX0_passDay_108 (v := nI 10) rfl ?_
    refine g_icN_ge (pc := 110) F dX0_passDay_110 (tgt := 132) rfl rfl rfl (by omega) (by omega) (fun c_110 => ?_) (fun c_110 => ?_)
    · obtain rfl : i = 9 := by omega
      exact g_vret (pc := 132) F X0 dX0_passDay_132 (Nat.le_of_ble_eq_true rfl) (Nat.le_of_ble_eq_true rfl) rfl ⟨rfl, Y, rfl, (by unfold dayR blowR; rw [if_neg (fun h => Int32.lt_irrefl (Int32.lt_trans h hw0)), if_pos hw0]; exact hY)⟩
    · refine g_aload_n (pc := 113) F dX0_passDay_113 rfl ?_
      refine g_iload_n (pc := 114) F dX0_passDay_114 rfl ?_
      refine g_iload_n (pc := 115) F dX0_passDay_115 rfl ?_
      refine g_iconst (pc := 116) F dX0_passDay_116 (v := nI 1) rfl ?_
      refine g_isubN (pc := 117) F dX0_passDay_117 (by omega) ?_
      refine g_aload_n (pc := 118) F dX0_passDay_118 rfl ?_
      refine g_getf (pc := 119) F fl_X0_43 dX0_passDay_119 rfl rfl ?_
      rw [ew]
      refine g_ineg (pc := 122) F dX0_passDay_122 ?_
      refine h_callV (pc := 123) F (c_give b Y _ _ _ _ (i + 1) i hY rfl rfl (by omega) (by omega) (by omega)) mi_X0_give kv_X0_87 rfl rfl dX0_passDay_123 [0, 1, 2, 3, 4, 5, 6, 7] rfl (by decide) (by decide) rfl rfl (Nat.le_of_ble_eq_true rfl) (by decide) (by decide) ?_
      rintro _ _ ⟨rfl, Y2, rfl, hY2⟩ -
      refine g_iincN (pc := 126) F dX0_passDay_126 rfl (by decide) ?_
      refine g_goto (pc := 129) F dX0_passDay_129 (tgt := 107) rfl ?_
      exact ih (by omega) Y2 hY2)
  have L2 : 0 < r 2 → ∀ m, m ≤ 9 → ∀ Y, Rel b Y (it (fun j q => givesR q (8 - j) (8 - j + 1) (r 2)) (9 - m) (allWork (upd r 1 (r 1 + nI 1)))) → Go K 0 0 73 [(0, .ref 0), (1, .int (dnI m))] [] (dW 0 Y) := by
    intro hw0 m
    have hb := fun i hi => (blowUp_ok hI1 (by have := (ti_lt _ _).mp hw0; simp at this; omega : 0 ≤ (r 2).toInt) i hi)
    induction m with
    | zero =>
      intro _ Y hY
      show Go K 0 0 73 [(0, .ref 0), (1, .int (-1))] [] (dW 0 Y)
      refine g_iload_n (pc := 73) F dX0_passDay_73 rfl ?_
      refine g_if_lt (pc := 74) F dX0_passDay_74 (tgt := 95) rfl (fun c_74 => ?_) (fun c_74 => absurd (by decide) c_74)
      refine g_goto (pc := 95) F dX0_passDay_95 (tgt := 132) rfl ?_
      exact g_vret (pc := 132) F X0 dX0_passDay_132 (Nat.le_of_ble_eq_true rfl) (Nat.le_of_ble_eq_true rfl) rfl ⟨rfl, Y, rfl, (by unfold dayR blowR; rw [if_pos hw0]; exact hY)⟩
    | succ m ih =>
      intro hm9 Y hY
      have ew : dWi Y = r 2 := hY.1.2.2.1.trans (((hb (9 - (m + 1)) (by omega)).2 2 (by omega)).trans e12)
      show Go K 0 0 73 [(0, .ref 0), (1, .int (nI m))] [] (dW 0 Y)
      refine g_iload_n (pc := 73) F dX0_passDay_73 rfl ?_
      refine g_if_lt (pc := 74) F dX0_passDay_74 (tgt := 95) rfl (fun c_74 => absurd c_74 (nI_pos (by omega))) (fun c_74 => ?_)
      refine g_aload_n (pc := 77) F dX0_passDay_77 rfl ?_
      refine g_iload_n (pc := 78) F dX0_passDay_78 rfl ?_
      refine g_iload_n (pc := 79) F dX0_passDay_79 rfl ?_
      refine g_iconst (pc := 80) F dX0_passDay_80 (v := nI 1) rfl ?_
      refine g_iaddN (pc := 81) F dX0_passDay_81 ?_
      refine g_aload_n (pc := 82) F dX0_passDay_82 rfl ?_
      refine g_getf (pc := 83) F fl_X0_43 dX0_passDay_83 rfl rfl ?_
      rw [ew]
      refine h_callV (pc := 86) F (c_give b Y _ _ _ _ m (m + 1) hY rfl rfl (by omega) (by omega) (by omega)) mi_X0_give kv_X0_87 rfl rfl dX0_passDay_86 [0, 1, 2, 3, 4, 5, 6, 7] rfl (by decide) (by decide) rfl rfl (Nat.le_of_ble_eq_true rfl) (by decide) (by decide) ?_
      rintro _ _ ⟨rfl, Y2, rfl, hY2⟩ -
      refine g_iinc (pc := 89) F dX0_passDay_89 rfl (dnI_dec m) (by decide) ?_
      refine g_goto (pc := 92) F dX0_passDay_92 (tgt := 73) rfl ?_
      have e1 : 9 - m = 9 - (m + 1) + 1 := by omega
      have e2 : 8 - (9 - (m + 1)) = m := by omega
      have g := ih (by omega) Y2
      rw [e1, it_succ, e2] at g
      exact g hY2
  have E63 : ∀ (z : Int32) Y, Rel b Y (allWork (upd r 1 (r 1 + nI 1))) → Go K 0 0 63 [(0, .ref 0), (1, .int z)] [] (dW 0 Y) := by
    intro z Y hY
    have ew : dWi Y = r 2 := hY.1.2.2.1.trans e12
    refine g_aload_n (pc := 63) F dX0_passDay_63 rfl ?_
    refine g_getf (pc := 64) F fl_X0_43 dX0_passDay_64 rfl rfl ?_
    rw [ew]
    refine g_if_le (pc := 67) F dX0_passDay_67 (tgt := 98) rfl (fun c_67 => ?_) (fun c_67 => ?_)
    · refine g_aload_n (pc := 98) F dX0_passDay_98 rfl ?_
      refine g_getf (pc := 99) F fl_X0_43 dX0_passDay_99 rfl rfl ?_
      rw [ew]
      refine g_if_ge (pc := 102) F dX0_passDay_102 (tgt := 132) rfl (fun c_102 => ?_) (fun c_102 => ?_)
      · exact g_vret (pc := 132) F X0 dX0_passDay_132 (Nat.le_of_ble_eq_true rfl) (Nat.le_of_ble_eq_true rfl) rfl ⟨rfl, Y, rfl, (by unfold dayR blowR; rw [if_neg (Int32.not_lt.mpr c_67), if_neg (Int32.not_lt.mpr c_102)]; exact hY)⟩
      · refine g_iconst (pc := 105) F dX0_passDay_105 (v := nI 1) rfl ?_
        refine g_istore_n (pc := 106) F dX0_passDay_106 (by decide) ?_
        exact L3 (Int32.not_le.mp c_102) 0 (Nat.zero_le _) Y hY
    · refine g_bipush (pc := 70) F dX0_passDay_70 (v := nI 8) rfl ?_
      refine g_istore_n (pc := 72) F dX0_passDay_72 (by decide) ?_
      exact L2 (Int32.not_le.mp c_67) 9 (Nat.le_refl _) Y hY
  have L1 : ∀ i, i ≤ many r → ∀ Y, Rel b Y (it (fun c r => worksR r c) i (upd r 1 (r 1 + nI 1))) → Go K 0 0 12 [(0, .ref 0), (1, .int (nI i))] [] (dW 0 Y) := loop_up (P := fun i => ∀ Y, Rel b Y (it (fun c r => worksR r c) i (upd r 1 (r 1 + nI 1))) → Go K 0 0 12 [(0, .ref 0), (1, .int (nI i))] [] (dW 0 Y)) (fun i hi ih => by
    intro Y hY
    obtain ⟨g1, g2⟩ := allWork_ok hI0 i (by rw [hm]; exact hi)
    have ei : dN Y = nI (many r) := hY.1.1.trans ((g2 0 (by omega)).trans ((upd_ne _ (by decide)).trans hI.1.1))
    have em : many (it (fun c r => worksR r c) i (upd r 1 (r 1 + nI 1))) = many r := (many_of (g2 0 (by omega))).trans hm
    have e4 : dWr Y = (it (fun c r => worksR r c) i (upd r 1 (r 1 + nI 1))) 4 := hY.1.2.2.2.1
    have e5 : dR Y = restR (it (fun c r => worksR r c) i (upd r 1 (r 1 + nI 1))) := hY.1.2.2.2.2.2
    refine g_iload_n (pc := 12) F dX0_passDay_12 rfl ?_
    refine g_aload_n (pc := 13) F dX0_passDay_13 rfl ?_
    refine g_getf (pc := 14) F fl_X0_33 dX0_passDay_14 rfl rfl ?_
    refine g_icN_ge (pc := 17) F dX0_passDay_17 (tgt := 63) rfl rfl ei (by omega) (by omega) (fun c_17 => ?_) (fun c_17 => ?_)
    · obtain rfl : i = many r := by omega
      exact E63 _ Y (by unfold allWork; rw [hm]; exact hY)
    · have hc : i < many (it (fun c r => worksR r c) i (upd r 1 (r 1 + nI 1))) := by omega
      refine g_aload_n (pc := 20) F dX0_passDay_20 rfl ?_
      refine g_getf (pc := 21) F fl_X0_40 dX0_passDay_21 rfl rfl ?_
      refine g_iload_n (pc := 24) F dX0_passDay_24 rfl ?_
      refine h_readSN (pc := 25) F (c_hasBit _ _) mi_X4_hasBit kn_X0_75 kn2_X0_75 dX0_passDay_25 [] rfl (by decide) (by decide) rfl rfl (Nat.le_of_ble_eq_true rfl) trivial (by decide) (by decide) ?_
      rw [e4]
      refine g_ifeq_b (pc := 28) F dX0_passDay_28 (tgt := 41) rfl (fun c_28 => ?_) (fun c_28 => ?_)
      · refine g_aload_n (pc := 41) F dX0_passDay_41 rfl ?_
        refine g_getf (pc := 42) F fl_X0_37 dX0_passDay_42 rfl rfl ?_
        refine g_iload_n (pc := 45) F dX0_passDay_45 rfl ?_
        refine h_readSN (pc := 46) F (c_hasBit _ _) mi_X4_hasBit kn_X0_75 kn2_X0_75 dX0_passDay_46 [] rfl (by decide) (by decide) rfl rfl (Nat.le_of_ble_eq_true rfl) trivial (by decide) (by decide) ?_
        rw [e5, restR_has g1 hc]
        refine g_ifne_d (pc := 49) F dX0_passDay_49 (tgt := 57) rfl (fun c_49 => ?_) (fun c_49 => ?_)
        · refine g_iincN (pc := 57) F dX0_passDay_57 rfl (by decide) ?_
          refine g_goto (pc := 60) F dX0_passDay_60 (tgt := 12) rfl ?_
          first
            | exact ih c_17 Y2 ((congrArg (Rel b Y2) (worksR_write (hY.2.1 i hc c_28) c_28)).mpr hY2)
            | exact ih c_17 Y2 ((congrArg (Rel b Y2) (worksR_work c_49 c_28)).mpr hY2)
            | exact ih c_17 Y ((congrArg (Rel b Y) (worksR_rest c_49)).mpr hY)
        · refine g_aload_n (pc := 52) F dX0_passDay_52 rfl ?_
          refine g_iload_n (pc := 53) F dX0_passDay_53 rfl ?_
          refine h_callV (pc := 54) F (c_work b Y _ i hY g1 hc) mi_X0_work kv_X0_83 rfl rfl dX0_passDay_54 [0, 1, 2, 3, 4, 5, 6, 7] rfl (by decide) (by decide) rfl rfl (Nat.le_of_ble_eq_true rfl) (by decide) (by decide) ?_
          rintro _ _ ⟨rfl, Y2, rfl, hY2⟩ -
          refine g_iincN (pc := 57) F dX0_passDay_57 rfl (by decide) ?_
          refine g_goto (pc := 60) F dX0_passDay_60 (tgt := 12) rfl ?_
          first
            | exact ih c_17 Y2 ((congrArg (Rel b Y2) (worksR_write (hY.2.1 i hc c_28) c_28)).mpr hY2)
            | exact ih c_17 Y2 ((congrArg (Rel b Y2) (worksR_work c_49 c_28)).mpr hY2)
            | exact ih c_17 Y ((congrArg (Rel b Y) (worksR_rest c_49)).mpr hY)
      · refine g_aload_n (pc := 31) F dX0_passDay_31 rfl ?_
        refine g_iload_n (pc := 32) F dX0_passDay_32 rfl ?_
        refine g_bipush (pc := 33) F dX0_passDay_33 (v := nI 15) rfl ?_
        refine h_callV (pc := 35) F (c_write b Y _ i _ hY hc (by omega)) mi_X0_write kv_X0_79 rfl rfl dX0_passDay_35 [0, 1, 2, 3, 4, 5, 6, 7] rfl (by decide) (by decide) rfl rfl (Nat.le_of_ble_eq_true rfl) (by decide) (by decide) ?_
        rintro _ _ ⟨rfl, Y2, rfl, hY2⟩ -
        refine g_goto (pc := 38) F dX0_passDay_38 (tgt := 57) rfl ?_
        refine g_iincN (pc := 57) F dX0_passDay_57 rfl (by decide) ?_
        refine g_goto (pc := 60) F dX0_passDay_60 (tgt := 12) rfl ?_
        first
          | exact ih c_17 Y2 ((congrArg (Rel b Y2) (worksR_write (hY.2.1 i hc c_28) c_28)).mpr hY2)
          | exact ih c_17 Y2 ((congrArg (Rel b Y2) (worksR_work c_49 c_28)).mpr hY2)
          | exact ih c_17 Y ((congrArg (Rel b Y) (worksR_rest c_49)).mpr hY))
  show Go K 0 0 0 [(0, .ref 0)] [] (dW 0 X)
  refine g_aload_n (pc := 0) F dX0_passDay_0 rfl ?_
  refine g_dup (pc := 1) F dX0_passDay_1 rfl ?_
  refine g_getf (pc := 2) F fl_X0_46 dX0_passDay_2 rfl rfl ?_
  rw [hR.1.2.1]
  refine g_iconst (pc := 5) F dX0_passDay_5 (v := nI 1) rfl ?_
  refine g_iadd (pc := 6) F dX0_passDay_6 ?_
  refine g_putf (pc := 7) F fl_X0_46 dX0_passDay_7 rfl (Nat.le_of_ble_eq_true rfl) ?_
  refine g_iconst (pc := 10) F dX0_passDay_10 (v := nI 0) rfl ?_
  refine g_istore_n (pc := 11) F dX0_passDay_11 (by decide) ?_
  exact L1 0 (Nat.zero_le _) _ hRz

set_option maxRecDepth 100000 in
set_option maxHeartbeats 4000000 in
theorem c_passDays (b : Int32) (X : DX) (r : Nat → Int32) (x : Int32) (m : Nat) (hR : Rel b X r) (hI : Iv r) (hx : x = nI m) (hm : m < 1000) : Ctr yX0_passDays cX0_passDays 3 none 5 0 0 [.ref 0, .int x] (dW 0 X) (fun v2 h => v2 = none ∧ ∃ X2, h = dW 0 X2 ∧ Rel b X2 (daysR r m)) := by
  subst hx
  refine Ctr.of rfl (Nat.le_of_ble_eq_true rfl) ⟨clS_of rfl, clH_of rfl⟩ (fun K F X0 => ?_)
  have L : ∀ i, i ≤ m → ∀ Y, Rel b Y (daysR r i) → Go K 0 0 2 [(0, .ref 0), (1, .int (nI m)), (2, .int (nI i))] [] (dW 0 Y) := loop_up (P := fun i => ∀ Y, Rel b Y (daysR r i) → Go K 0 0 2 [(0, .ref 0), (1, .int (nI m)), (2, .int (nI i))] [] (dW 0 Y)) (fun i hi ih => by
    intro Y hY
    refine g_iload_n (pc := 2) F dX0_passDays_2 rfl ?_
    refine g_iload_n (pc := 3) F dX0_passDays_3 rfl ?_
    refine g_icN_ge (pc := 4) F dX0_passDays_4 (tgt := 17) rfl rfl rfl (by omega) (by omega) (fun c_4 => ?_) (fun c_4 => ?_)
    · obtain rfl : i = m := by omega
      exact g_vret (pc := 17) F X0 dX0_passDays_17 (Nat.le_of_ble_eq_true rfl) (Nat.le_of_ble_eq_true rfl) rfl ⟨rfl, Y, rfl, hY⟩
    · refine g_aload_n (pc := 7) F dX0_passDays_7 rfl ?_
      refine h_callV (pc := 8) F (c_passDay b Y _ hY (daysR_ok hI i).1) mi_X0_passDay kv_X0_72 rfl rfl dX0_passDays_8 [0, 1, 2, 3, 4, 5, 6, 7] rfl (by decide) (by decide) rfl rfl (Nat.le_of_ble_eq_true rfl) (by decide) (by decide) ?_
      rintro _ _ ⟨rfl, Y2, rfl, hY2⟩ -
      refine g_iincN (pc := 11) F dX0_passDays_11 rfl (by decide) ?_
      refine g_goto (pc := 14) F dX0_passDays_14 (tgt := 2) rfl ?_
      exact ih c_4 Y2 hY2)
  show Go K 0 0 0 [(0, .ref 0), (1, .int (nI m))] [] (dW 0 X)
  refine g_iconst (pc := 0) F dX0_passDays_0 (v := nI 0) rfl ?_
  refine g_istore_n (pc := 1) F dX0_passDays_1 (by decide) ?_
  exact L 0 (Nat.zero_le _) X hR

