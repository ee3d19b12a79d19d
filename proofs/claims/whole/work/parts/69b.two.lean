/-! two: the reference -/
theorem ish1 : ∀ a, a < 6 → ∀ x, x < 2 → (nI 1 - nI x) <<< (nI a &&& 31) = nI (1 - x) <<< (nI a &&& 31) := by decide +kernel
theorem x_0 {x : Nat} (hx : x < 2) (h : nI x = 0) : x = 0 := (nI_eq (b := 0) (by omega) (by decide)).mp h
theorem x_n0 {x : Nat} (h : ¬ nI x = 0) : ¬ x = 0 := fun z => h (by rw [z]; rfl)
theorem x_1 {x : Nat} (hx : x < 2) (h : nI x = nI 1) : x = 1 := (nI_eq (by omega) (by decide)).mp h
theorem x_n1 {x : Nat} (h : ¬ nI x = nI 1) : ¬ x = 1 := fun z => h (by rw [z])
set_option maxRecDepth 100000 in
set_option maxHeartbeats 4000000 in
theorem m_hasBy (s m ig ws : Nat → Int32) (hg : Int32) (T : TX) (V : VX) (hI : Iv s) (a c q x y : Nat) (ha : a < 6) (hc : c < 6) (hq : q < 6) (hx : x < 2) (hy : y < 2) : Ctr yX5_hasBy cX5_hasBy 8 (some .int) 6 0 0 [.ref 0, .int (nI q), .int (nI a), .int (nI x), .int (nI c), .int (nI y)] (rW s m ig ws hg T V) (fun v hh => v = some (.int (hbV s a c q x y)) ∧ ∃ m2, hh = rW s m2 ig ws hg T V) := by
  refine Ctr.of rfl (Nat.le_of_ble_eq_true rfl) ⟨clS_of rfl, clH_of rfl⟩ (fun K F X0 => ?_)
  show Go K 0 0 0 [(0, .ref 0), (1, .int (nI q)), (2, .int (nI a)), (3, .int (nI x)), (4, .int (nI c)), (5, .int (nI y))] [] (rW s m ig ws hg T V)
  refine g_aload_n (pc := 0) F dX5_hasBy_0 rfl ?_
  refine g_getf (pc := 1) F fl_X5_9 dX5_hasBy_1 rfl rfl ?_
  refine g_aload_n (pc := 4) F dX5_hasBy_4 rfl ?_
  refine g_getf (pc := 5) F fl_X5_13 dX5_hasBy_5 rfl rfl ?_
  refine h_callS (pc := 8) F (c_copyAll s m) mi_X5_copies ks_X5_140 dX5_hasBy_8 [1, 2] rfl (by decide) (by decide) rfl rfl (Nat.le_of_ble_eq_true rfl) (by decide) (by decide) ?_
  rintro _ _ ⟨rfl, rfl⟩ -
  refine g_aload_n (pc := 11) F dX5_hasBy_11 rfl ?_
  refine g_getf (pc := 12) F fl_X5_13 dX5_hasBy_12 rfl rfl ?_
  refine g_iload_n (pc := 15) F dX5_hasBy_15 rfl ?_
  refine g_iconst (pc := 16) F dX5_hasBy_16 (v := nI 5) rfl ?_
  refine h_readS (pc := 17) F (c_of a 5) mi_X5_of ks_X5_47 dX5_hasBy_17 [] rfl (by decide) (by decide) rfl rfl (Nat.le_of_ble_eq_true rfl) trivial (by decide) (by decide) ?_
  refine g_iconst (pc := 20) F dX5_hasBy_20 (v := nI 0) rfl ?_
  refine g_iast2 (pc := 21) F dX5_hasBy_21 rfl rfl (by first | omega | (simp only [ix]; omega)) (by decide) ?_
  refine g_aload_n (pc := 22) F dX5_hasBy_22 rfl ?_
  refine g_getf (pc := 23) F fl_X5_13 dX5_hasBy_23 rfl rfl ?_
  refine g_iload (pc := 26) F dX5_hasBy_26 rfl ?_
  refine g_iconst (pc := 28) F dX5_hasBy_28 (v := nI 5) rfl ?_
  refine h_readS (pc := 29) F (c_of c 5) mi_X5_of ks_X5_47 dX5_hasBy_29 [] rfl (by decide) (by decide) rfl rfl (Nat.le_of_ble_eq_true rfl) trivial (by decide) (by decide) ?_
  refine g_iconst (pc := 32) F dX5_hasBy_32 (v := nI 0) rfl ?_
  refine g_iast2 (pc := 33) F dX5_hasBy_33 rfl rfl (by first | omega | (simp only [ix]; omega)) (by decide) ?_
  refine g_aload_n (pc := 34) F dX5_hasBy_34 rfl ?_
  refine g_getf (pc := 35) F fl_X5_13 dX5_hasBy_35 rfl rfl ?_
  refine g_iconst (pc := 38) F dX5_hasBy_38 (v := nI 4) rfl ?_
  refine g_iconst (pc := 39) F dX5_hasBy_39 (v := nI 1) rfl ?_
  refine g_iload_n (pc := 40) F dX5_hasBy_40 rfl ?_
  refine g_isub (pc := 41) F dX5_hasBy_41 ?_
  refine g_iload_n (pc := 42) F dX5_hasBy_42 rfl ?_
  refine g_ishl (pc := 43) F dX5_hasBy_43 ?_
  refine g_iconst (pc := 44) F dX5_hasBy_44 (v := nI 1) rfl ?_
  refine g_iload (pc := 45) F dX5_hasBy_45 rfl ?_
  refine g_isub (pc := 47) F dX5_hasBy_47 ?_
  refine g_iload (pc := 48) F dX5_hasBy_48 rfl ?_
  refine g_ishl (pc := 50) F dX5_hasBy_50 ?_
  refine g_ior (pc := 51) F dX5_hasBy_51 ?_
  rw [ish1 a ha x hx, ish1 c hc y hy]
  refine g_iast2 (pc := 52) F dX5_hasBy_52 rfl rfl (by first | omega | (simp only [ix]; omega)) (by decide) ?_
  refine g_aload_n (pc := 53) F dX5_hasBy_53 rfl ?_
  refine g_getf (pc := 54) F fl_X5_13 dX5_hasBy_54 rfl rfl ?_
  refine g_iconst (pc := 57) F dX5_hasBy_57 (v := nI 5) rfl ?_
  refine h_callS (pc := 58) F (c_daysOn (twR s a c x y) _ 5 (Iv_tw hI) rfl (by omega)) mi_X5_daysOn ks_X5_130 dX5_hasBy_58 [2] rfl (by decide) (by decide) rfl rfl (Nat.le_of_ble_eq_true rfl) (by decide) (by decide) ?_
  rintro _ _ ⟨rfl, rfl⟩ -
  generalize hD : daysR (twR s a c x y) 5 = D
  have eM : D (ix q 4) - s (ix q 4) = hbM s a c q x y := by
    rw [← hD]
    rfl
  refine g_aload_n (pc := 61) F dX5_hasBy_61 rfl ?_
  refine g_getf (pc := 62) F fl_X5_13 dX5_hasBy_62 rfl rfl ?_
  refine g_iload_n (pc := 65) F dX5_hasBy_65 rfl ?_
  refine g_iconst (pc := 66) F dX5_hasBy_66 (v := nI 4) rfl ?_
  refine h_readS (pc := 67) F (c_of q 4) mi_X5_of ks_X5_47 dX5_hasBy_67 [] rfl (by decide) (by decide) rfl rfl (Nat.le_of_ble_eq_true rfl) trivial (by decide) (by decide) ?_
  refine g_iald2 (pc := 70) F dX5_hasBy_70 rfl rfl (by first | omega | (simp only [ix]; omega)) (by decide) ?_
  refine g_aload_n (pc := 71) F dX5_hasBy_71 rfl ?_
  refine g_getf (pc := 72) F fl_X5_9 dX5_hasBy_72 rfl rfl ?_
  refine g_iload_n (pc := 75) F dX5_hasBy_75 rfl ?_
  refine g_iconst (pc := 76) F dX5_hasBy_76 (v := nI 4) rfl ?_
  refine h_readS (pc := 77) F (c_of q 4) mi_X5_of ks_X5_47 dX5_hasBy_77 [] rfl (by decide) (by decide) rfl rfl (Nat.le_of_ble_eq_true rfl) trivial (by decide) (by decide) ?_
  refine g_iald2 (pc := 80) F dX5_hasBy_80 rfl rfl (by first | omega | (simp only [ix]; omega)) (by decide) ?_
  refine g_isub (pc := 81) F dX5_hasBy_81 ?_
  rw [eM]
  refine g_istore (pc := 82) F dX5_hasBy_82 (by decide) ?_
  refine g_iload_n (pc := 84) F dX5_hasBy_84 rfl ?_
  refine g_iload_n (pc := 85) F dX5_hasBy_85 rfl ?_
  refine g_icN_ne (pc := 86) F dX5_hasBy_86 (tgt := 107) rfl rfl rfl (by omega) (by omega) (fun c_86 => ?_) (fun c_86 => ?_)
  · refine g_iload (pc := 107) F dX5_hasBy_107 rfl ?_
    refine g_if_ne (pc := 109) F dX5_hasBy_109 (tgt := 121) rfl (fun c_109 => ?_) (fun c_109 => ?_)
    · refine g_iconst (pc := 121) F dX5_hasBy_121 (v := nI 0) rfl ?_
      refine g_istore (pc := 122) F dX5_hasBy_122 (by decide) ?_
      refine g_iload (pc := 124) F dX5_hasBy_124 rfl ?_
      refine g_if_eq (pc := 126) F dX5_hasBy_126 (tgt := 137) rfl (fun c_126 => ?_) (fun c_126 => absurd (by decide) c_126)
      refine g_iload (pc := 137) F dX5_hasBy_137 rfl ?_
      exact g_iret (pc := 139) F X0 dX5_hasBy_139 (Nat.le_of_ble_eq_true rfl) (Nat.le_of_ble_eq_true rfl) rfl ⟨congrArg (fun z => some (Value.int z)) (by exact (hb_n (fun z => by first | exact z.elim (fun z => x_n0 c_90 z.2.1) (fun z => z.1 c_86) | exact z.elim (fun z => x_n1 c_96 z.2.2) (fun z => z.1 c_86) | exact z.elim (fun z => c_86 z.1) (fun z => x_n0 c_109 z.2.1) | exact z.elim (fun z => c_86 z.1) (fun z => x_n1 c_114 z.2.2) | fail)).symm), _, rfl⟩
    · refine g_iload_n (pc := 112) F dX5_hasBy_112 rfl ?_
      refine g_iconst (pc := 113) F dX5_hasBy_113 (v := nI 1) rfl ?_
      refine g_ic_ne (pc := 114) F dX5_hasBy_114 (tgt := 121) rfl (fun c_114 => ?_) (fun c_114 => ?_)
      · refine g_iconst (pc := 121) F dX5_hasBy_121 (v := nI 0) rfl ?_
        refine g_istore (pc := 122) F dX5_hasBy_122 (by decide) ?_
        refine g_iload (pc := 124) F dX5_hasBy_124 rfl ?_
        refine g_if_eq (pc := 126) F dX5_hasBy_126 (tgt := 137) rfl (fun c_126 => ?_) (fun c_126 => absurd (by decide) c_126)
        refine g_iload (pc := 137) F dX5_hasBy_137 rfl ?_
        exact g_iret (pc := 139) F X0 dX5_hasBy_139 (Nat.le_of_ble_eq_true rfl) (Nat.le_of_ble_eq_true rfl) rfl ⟨congrArg (fun z => some (Value.int z)) (by exact (hb_n (fun z => by first | exact z.elim (fun z => x_n0 c_90 z.2.1) (fun z => z.1 c_86) | exact z.elim (fun z => x_n1 c_96 z.2.2) (fun z => z.1 c_86) | exact z.elim (fun z => c_86 z.1) (fun z => x_n0 c_109 z.2.1) | exact z.elim (fun z => c_86 z.1) (fun z => x_n1 c_114 z.2.2) | fail)).symm), _, rfl⟩
      · refine g_iconst (pc := 117) F dX5_hasBy_117 (v := nI 1) rfl ?_
        refine g_goto (pc := 118) F dX5_hasBy_118 (tgt := 122) rfl ?_
        refine g_istore (pc := 122) F dX5_hasBy_122 (by decide) ?_
        refine g_iload (pc := 124) F dX5_hasBy_124 rfl ?_
        refine g_if_eq (pc := 126) F dX5_hasBy_126 (tgt := 137) rfl (fun c_126 => absurd c_126 (by decide)) (fun c_126 => ?_)
        refine g_iload (pc := 129) F dX5_hasBy_129 rfl ?_
        refine g_bipush (pc := 131) F dX5_hasBy_131 (v := nI 20) rfl ?_
        refine g_isub (pc := 133) F dX5_hasBy_133 ?_
        refine g_goto (pc := 134) F dX5_hasBy_134 (tgt := 139) rfl ?_
        exact g_iret (pc := 139) F X0 dX5_hasBy_139 (Nat.le_of_ble_eq_true rfl) (Nat.le_of_ble_eq_true rfl) rfl ⟨congrArg (fun z => some (Value.int z)) (by exact (hb_y (by first | exact Or.inl ⟨c_86, x_0 hx c_90, x_1 hy c_96⟩ | exact Or.inr ⟨c_86, x_0 hy c_109, x_1 hx c_114⟩ | fail)).symm), _, rfl⟩
  · refine g_iload_n (pc := 89) F dX5_hasBy_89 rfl ?_
    refine g_if_ne (pc := 90) F dX5_hasBy_90 (tgt := 103) rfl (fun c_90 => ?_) (fun c_90 => ?_)
    · refine g_iconst (pc := 103) F dX5_hasBy_103 (v := nI 0) rfl ?_
      refine g_goto (pc := 104) F dX5_hasBy_104 (tgt := 122) rfl ?_
      refine g_istore (pc := 122) F dX5_hasBy_122 (by decide) ?_
      refine g_iload (pc := 124) F dX5_hasBy_124 rfl ?_
      refine g_if_eq (pc := 126) F dX5_hasBy_126 (tgt := 137) rfl (fun c_126 => ?_) (fun c_126 => absurd (by decide) c_126)
      refine g_iload (pc := 137) F dX5_hasBy_137 rfl ?_
      exact g_iret (pc := 139) F X0 dX5_hasBy_139 (Nat.le_of_ble_eq_true rfl) (Nat.le_of_ble_eq_true rfl) rfl ⟨congrArg (fun z => some (Value.int z)) (by exact (hb_n (fun z => by first | exact z.elim (fun z => x_n0 c_90 z.2.1) (fun z => z.1 c_86) | exact z.elim (fun z => x_n1 c_96 z.2.2) (fun z => z.1 c_86) | exact z.elim (fun z => c_86 z.1) (fun z => x_n0 c_109 z.2.1) | exact z.elim (fun z => c_86 z.1) (fun z => x_n1 c_114 z.2.2) | fail)).symm), _, rfl⟩
    · refine g_iload (pc := 93) F dX5_hasBy_93 rfl ?_
      refine g_iconst (pc := 95) F dX5_hasBy_95 (v := nI 1) rfl ?_
      refine g_ic_ne (pc := 96) F dX5_hasBy_96 (tgt := 103) rfl (fun c_96 => ?_) (fun c_96 => ?_)
      · refine g_iconst (pc := 103) F dX5_hasBy_103 (v := nI 0) rfl ?_
        refine g_goto (pc := 104) F dX5_hasBy_104 (tgt := 122) rfl ?_
        refine g_istore (pc := 122) F dX5_hasBy_122 (by decide) ?_
        refine g_iload (pc := 124) F dX5_hasBy_124 rfl ?_
        refine g_if_eq (pc := 126) F dX5_hasBy_126 (tgt := 137) rfl (fun c_126 => ?_) (fun c_126 => absurd (by decide) c_126)
        refine g_iload (pc := 137) F dX5_hasBy_137 rfl ?_
        exact g_iret (pc := 139) F X0 dX5_hasBy_139 (Nat.le_of_ble_eq_true rfl) (Nat.le_of_ble_eq_true rfl) rfl ⟨congrArg (fun z => some (Value.int z)) (by exact (hb_n (fun z => by first | exact z.elim (fun z => x_n0 c_90 z.2.1) (fun z => z.1 c_86) | exact z.elim (fun z => x_n1 c_96 z.2.2) (fun z => z.1 c_86) | exact z.elim (fun z => c_86 z.1) (fun z => x_n0 c_109 z.2.1) | exact z.elim (fun z => c_86 z.1) (fun z => x_n1 c_114 z.2.2) | fail)).symm), _, rfl⟩
      · refine g_iconst (pc := 99) F dX5_hasBy_99 (v := nI 1) rfl ?_
        refine g_goto (pc := 100) F dX5_hasBy_100 (tgt := 122) rfl ?_
        refine g_istore (pc := 122) F dX5_hasBy_122 (by decide) ?_
        refine g_iload (pc := 124) F dX5_hasBy_124 rfl ?_
        refine g_if_eq (pc := 126) F dX5_hasBy_126 (tgt := 137) rfl (fun c_126 => absurd c_126 (by decide)) (fun c_126 => ?_)
        refine g_iload (pc := 129) F dX5_hasBy_129 rfl ?_
        refine g_bipush (pc := 131) F dX5_hasBy_131 (v := nI 20) rfl ?_
        refine g_isub (pc := 133) F dX5_hasBy_133 ?_
        refine g_goto (pc := 134) F dX5_hasBy_134 (tgt := 139) rfl ?_
        exact g_iret (pc := 139) F X0 dX5_hasBy_139 (Nat.le_of_ble_eq_true rfl) (Nat.le_of_ble_eq_true rfl) rfl ⟨congrArg (fun z => some (Value.int z)) (by exact (hb_y (by first | exact Or.inl ⟨c_86, x_0 hx c_90, x_1 hy c_96⟩ | exact Or.inr ⟨c_86, x_0 hy c_109, x_1 hx c_114⟩ | fail)).symm), _, rfl⟩

set_option maxRecDepth 100000 in
set_option maxHeartbeats 800000 in
theorem m_two (s m ig ws : Nat → Int32) (hg : Int32) (T : TX) (V : VX) (hI : Iv s) (xa xc : Int32) : Ctr yX5_two cX5_two 6 (some .int) 7 0 0 [.ref 0, .int xa, .int xc] (rW s m ig ws hg T V) (LookR (.int (S_two s xa xc)) s ig ws hg T) := by
  refine Ctr.of rfl (Nat.le_of_ble_eq_true rfl) ⟨clS_of rfl, clH_of rfl⟩ (fun K F X0 => ?_)
  show Go K 0 0 0 [(0, .ref 0), (1, .int xa), (2, .int xc)] [] (rW s m ig ws hg T V)
  refine g_aload_n (pc := 0) F dX5_two_0 rfl ?_
  refine g_iload_n (pc := 1) F dX5_two_1 rfl ?_
  refine i_readV (pc := 2) F (m_isOne s m ig ws hg T V _ hI) mi_X5_isOne kv_X5_123 rfl rfl dX5_two_2 (by decide) (by decide) rfl (Nat.le_of_ble_eq_true rfl) (by decide) (by decide) ?_
  refine g_ifeq_d (pc := 5) F dX5_two_5 (tgt := 21) rfl (fun c_5 => ?_) (fun c_5 => ?_)
  · refine g_iconst (pc := 21) F dX5_two_21 (v := (-1 : Int32)) (by decide) ?_
    exact g_iret (pc := 22) F X0 dX5_two_22 (Nat.le_of_ble_eq_true rfl) (Nat.le_of_ble_eq_true rfl) rfl (by first
      | exact ⟨congrArg (fun z => some (Value.int z)) (if_neg (fun z => c_5 z.1)).symm, m, V, rfl⟩
      | exact ⟨congrArg (fun z => some (Value.int z)) (if_neg (fun z => c_13 z.2.1)).symm, m, V, rfl⟩
      | exact ⟨congrArg (fun z => some (Value.int z)) (if_neg (fun z => z.2.2 c_18)).symm, m, V, rfl⟩
      | fail)
  · refine g_aload_n (pc := 8) F dX5_two_8 rfl ?_
    refine g_iload_n (pc := 9) F dX5_two_9 rfl ?_
    refine i_readV (pc := 10) F (m_isOne s m ig ws hg T V _ hI) mi_X5_isOne kv_X5_123 rfl rfl dX5_two_10 (by decide) (by decide) rfl (Nat.le_of_ble_eq_true rfl) (by decide) (by decide) ?_
    refine g_ifeq_d (pc := 13) F dX5_two_13 (tgt := 21) rfl (fun c_13 => ?_) (fun c_13 => ?_)
    · refine g_iconst (pc := 21) F dX5_two_21 (v := (-1 : Int32)) (by decide) ?_
      exact g_iret (pc := 22) F X0 dX5_two_22 (Nat.le_of_ble_eq_true rfl) (Nat.le_of_ble_eq_true rfl) rfl (by first
      | exact ⟨congrArg (fun z => some (Value.int z)) (if_neg (fun z => c_5 z.1)).symm, m, V, rfl⟩
      | exact ⟨congrArg (fun z => some (Value.int z)) (if_neg (fun z => c_13 z.2.1)).symm, m, V, rfl⟩
      | exact ⟨congrArg (fun z => some (Value.int z)) (if_neg (fun z => z.2.2 c_18)).symm, m, V, rfl⟩
      | fail)
    · refine g_iload_n (pc := 16) F dX5_two_16 rfl ?_
      refine g_iload_n (pc := 17) F dX5_two_17 rfl ?_
      refine g_ic_ne (pc := 18) F dX5_two_18 (tgt := 23) rfl (fun c_18 => ?_) (fun c_18 => ?_)
      · have hm6 := hI.1.2
        obtain ⟨a, ha, rfl⟩ := one_ex hI c_5
        obtain ⟨c, hc, rfl⟩ := one_ex hI c_13
        have hS2 := S_two_y (by omega) (by omega) c_5 c_13 c_18
        refine g_iconst (pc := 23) F dX5_two_23 (v := nI 0) rfl ?_
        refine g_istore_n (pc := 24) F dX5_two_24 (by decide) ?_
        have L : ∀ i, i ≤ 4 → S_two s (nI a) (nI c) = twS s a c (4 - i) i → ∀ ma, Go K 0 0 25 [(0, .ref 0), (1, .int (nI a)), (2, .int (nI c)), (3, .int (nI (i)))] [] (rW s ma ig ws hg T V) := loop_up (P := fun i => S_two s (nI a) (nI c) = twS s a c (4 - i) i → ∀ ma, Go K 0 0 25 [(0, .ref 0), (1, .int (nI a)), (2, .int (nI c)), (3, .int (nI (i)))] [] (rW s ma ig ws hg T V)) (fun i hiL ih => by
          intro he ma
          refine g_iload_n (pc := 25) F dX5_two_25 rfl ?_
          refine g_iconst (pc := 26) F dX5_two_26 (v := nI 4) rfl ?_
          refine g_icN_ge (pc := 27) F dX5_two_27 (tgt := 109) rfl rfl rfl (by omega) (by omega) (fun c_27 => ?_) (fun c_27 => ?_)
          · obtain rfl : i = 4 := by omega
            refine g_bipush (pc := 109) F dX5_two_109 (v := (-4 : Int32)) (by decide) ?_
            exact g_iret (pc := 111) F X0 dX5_two_111 (Nat.le_of_ble_eq_true rfl) (Nat.le_of_ble_eq_true rfl) rfl ⟨congrArg (fun z => some (Value.int z)) (show (-4) = S_two s (nI a) (nI c) from he.symm), _, _, rfl⟩
          · refine g_iload_n (pc := 30) F dX5_two_30 rfl ?_
            refine g_iconst (pc := 31) F dX5_two_31 (v := nI 2) rfl ?_
            refine g_idivN (pc := 32) F dX5_two_32 (by omega) (by omega) (by omega) ?_
            refine g_istore (pc := 33) F dX5_two_33 (by decide) ?_
            refine g_iload_n (pc := 35) F dX5_two_35 rfl ?_
            refine g_iconst (pc := 36) F dX5_two_36 (v := nI 2) rfl ?_
            refine g_iremN (pc := 37) F dX5_two_37 (by omega) (by omega) (by omega) ?_
            refine g_istore (pc := 38) F dX5_two_38 (by decide) ?_
            refine g_aload_n (pc := 40) F dX5_two_40 rfl ?_
            refine g_iload_n (pc := 41) F dX5_two_41 rfl ?_
            refine g_iload_n (pc := 42) F dX5_two_42 rfl ?_
            refine g_iconst (pc := 43) F dX5_two_43 (v := nI 1) rfl ?_
            refine g_iload (pc := 44) F dX5_two_44 rfl ?_
            refine g_isubN (pc := 46) F dX5_two_46 (by omega) ?_
            refine g_iload_n (pc := 47) F dX5_two_47 rfl ?_
            refine g_iload (pc := 48) F dX5_two_48 rfl ?_
            refine i_callV (pc := 50) F (m_hasBy s ma ig ws hg T V hI a c a (1 - i / 2) (i % 2) (by omega) (by omega) (by omega) (by omega) (by omega)) mi_X5_hasBy kv_X5_183 rfl rfl dX5_two_50 (by decide) (by decide) rfl (Nat.le_of_ble_eq_true rfl) (by decide) (by decide) ?_
            rintro _ _ ⟨rfl, m1, rfl⟩ -
            refine g_aload_n (pc := 53) F dX5_two_53 rfl ?_
            refine g_iload_n (pc := 54) F dX5_two_54 rfl ?_
            refine g_iload_n (pc := 55) F dX5_two_55 rfl ?_
            refine g_iload (pc := 56) F dX5_two_56 rfl ?_
            refine g_iload_n (pc := 58) F dX5_two_58 rfl ?_
            refine g_iload (pc := 59) F dX5_two_59 rfl ?_
            refine i_callV (pc := 61) F (m_hasBy s m1 ig ws hg T V hI a c a (i / 2) (i % 2) (by omega) (by omega) (by omega) (by omega) (by omega)) mi_X5_hasBy kv_X5_183 rfl rfl dX5_two_61 (by decide) (by decide) rfl (Nat.le_of_ble_eq_true rfl) (by decide) (by decide) ?_
            rintro _ _ ⟨rfl, m2, rfl⟩ -
            refine g_ic_gt (pc := 64) F dX5_two_64 (tgt := 103) rfl (fun c_64 => ?_) (fun c_64 => ?_)
            · refine g_iincN (pc := 103) F dX5_two_103 rfl (by decide) ?_
              refine g_goto (pc := 106) F dX5_two_106 (tgt := 25) rfl ?_
              refine g_less [0, 1, 2, 3] rfl ?_
              exact ih c_27 (tw_no c_27 he (by first | exact (fun z => z.1 c_64) | exact (fun z => z.2 c_91) | fail)) _
            · refine g_aload_n (pc := 67) F dX5_two_67 rfl ?_
              refine g_iload_n (pc := 68) F dX5_two_68 rfl ?_
              refine g_iload_n (pc := 69) F dX5_two_69 rfl ?_
              refine g_iload (pc := 70) F dX5_two_70 rfl ?_
              refine g_iload_n (pc := 72) F dX5_two_72 rfl ?_
              refine g_iconst (pc := 73) F dX5_two_73 (v := nI 1) rfl ?_
              refine g_iload (pc := 74) F dX5_two_74 rfl ?_
              refine g_isubN (pc := 76) F dX5_two_76 (by omega) ?_
              refine i_callV (pc := 77) F (m_hasBy s m2 ig ws hg T V hI a c c (i / 2) (1 - i % 2) (by omega) (by omega) (by omega) (by omega) (by omega)) mi_X5_hasBy kv_X5_183 rfl rfl dX5_two_77 (by decide) (by decide) rfl (Nat.le_of_ble_eq_true rfl) (by decide) (by decide) ?_
              rintro _ _ ⟨rfl, m3, rfl⟩ -
              refine g_aload_n (pc := 80) F dX5_two_80 rfl ?_
              refine g_iload_n (pc := 81) F dX5_two_81 rfl ?_
              refine g_iload_n (pc := 82) F dX5_two_82 rfl ?_
              refine g_iload (pc := 83) F dX5_two_83 rfl ?_
              refine g_iload_n (pc := 85) F dX5_two_85 rfl ?_
              refine g_iload (pc := 86) F dX5_two_86 rfl ?_
              refine i_callV (pc := 88) F (m_hasBy s m3 ig ws hg T V hI a c c (i / 2) (i % 2) (by omega) (by omega) (by omega) (by omega) (by omega)) mi_X5_hasBy kv_X5_183 rfl rfl dX5_two_88 (by decide) (by decide) rfl (Nat.le_of_ble_eq_true rfl) (by decide) (by decide) ?_
              rintro _ _ ⟨rfl, m4, rfl⟩ -
              refine g_ic_gt (pc := 91) F dX5_two_91 (tgt := 103) rfl (fun c_91 => ?_) (fun c_91 => ?_)
              · refine g_iincN (pc := 103) F dX5_two_103 rfl (by decide) ?_
                refine g_goto (pc := 106) F dX5_two_106 (tgt := 25) rfl ?_
                refine g_less [0, 1, 2, 3] rfl ?_
                exact ih c_27 (tw_no c_27 he (by first | exact (fun z => z.1 c_64) | exact (fun z => z.2 c_91) | fail)) _
              · refine g_bipush (pc := 94) F dX5_two_94 (v := nI 10) rfl ?_
                refine g_iload (pc := 96) F dX5_two_96 rfl ?_
                refine g_imulN (pc := 98) F dX5_two_98 ?_
                refine g_iload (pc := 99) F dX5_two_99 rfl ?_
                refine g_iaddN (pc := 101) F dX5_two_101 ?_
                exact g_iret (pc := 102) F X0 dX5_two_102 (Nat.le_of_ble_eq_true rfl) (Nat.le_of_ble_eq_true rfl) rfl ⟨congrArg (fun z => some (Value.int z)) (tw_yes c_27 he ⟨c_64, c_91⟩).symm, _, _, rfl⟩)
        exact L 0 (Nat.zero_le _) hS2 m
      · refine g_iconst (pc := 21) F dX5_two_21 (v := (-1 : Int32)) (by decide) ?_
        exact g_iret (pc := 22) F X0 dX5_two_22 (Nat.le_of_ble_eq_true rfl) (Nat.le_of_ble_eq_true rfl) rfl (by first
      | exact ⟨congrArg (fun z => some (Value.int z)) (if_neg (fun z => c_5 z.1)).symm, m, V, rfl⟩
      | exact ⟨congrArg (fun z => some (Value.int z)) (if_neg (fun z => c_13 z.2.1)).symm, m, V, rfl⟩
      | exact ⟨congrArg (fun z => some (Value.int z)) (if_neg (fun z => z.2.2 c_18)).symm, m, V, rfl⟩
      | fail)

