/-! desert(d) of the reference -/
theorem m1_ne {b : Nat} (h : b < 3000) : ¬ (-1000) - nI b = 0 := by
  intro z
  have h2 := (ti_eq _ _).mp z
  rw [ti_sub (by rw [ti_n _ (by omega)]; show -2147483648 ≤ (-1000 : Int) - _; omega) (by rw [ti_n _ (by omega)]; show (-1000 : Int) - _ < 2147483648; omega), ti_n _ (by omega)] at h2
  have h3 : (-1000 : Int32).toInt = -1000 := by decide
  have h4 : (0 : Int32).toInt = 0 := rfl
  omega
theorem m2_ne {b : Nat} (h : b < 3000) : ¬ (-2000) - nI b = 0 := by
  intro z
  have h2 := (ti_eq _ _).mp z
  rw [ti_sub (by rw [ti_n _ (by omega)]; show -2147483648 ≤ (-2000 : Int) - _; omega) (by rw [ti_n _ (by omega)]; show (-2000 : Int) - _ < 2147483648; omega), ti_n _ (by omega)] at h2
  have h3 : (-2000 : Int32).toInt = -2000 := by decide
  have h4 : (0 : Int32).toInt = 0 := rfl
  omega
theorem cnS_end {B : Nat → Int32} {n p : Nat} (h : ¬ p < n) : ∀ f, cnS B n f p = 0
  | 0 => rfl
  | _ + 1 => cnS_e h
theorem wrong_00 {T : TX} {d : Int32} (h : wrong T d 0 = 0) : tS T (N d) = nI 0 := by
  unfold wrong at h
  by_cases q : shP d
  · rw [if_pos q] at h
    by_cases q2 : tH T (N d) = 0
    · rw [if_pos q2] at h; exact absurd h (by decide)
    · rw [if_neg q2] at h
      by_cases q3 : tH T (N d) = nI 2 ∧ ((0 : Int32) < 0 ∨ tS T (N d) = 0)
      · exact q3.2.resolve_left (by decide)
      · rw [if_neg q3] at h; exact absurd h (by decide)
  · rw [if_neg q] at h; exact absurd h (by decide)
set_option maxRecDepth 100000 in
set_option maxHeartbeats 4000000 in
theorem m_desert (s m ig ws : Nat → Int32) (hg : Int32) (T : TX) (V : VX) (hI : Iv s) (h4 : s 4 = nI 0) (hT : IT T) (hTb : ∀ j, j < 8 → tS T j = nI 0 → byOK T j) (d : Int32) : Ctr yX5_desert cX5_desert 8 (some .int) 7 0 0 [.ref 0, .int d] (rW s m ig ws hg T V) (SttR (.int (A_desert s T d)) (R_desert s T d) ig hg T) := by
  refine Ctr.of rfl (Nat.le_of_ble_eq_true rfl) ⟨clS_of rfl, clH_of rfl⟩ (fun K F X0 => ?_)
  show Go K 0 0 0 [(0, .ref 0), (1, .int d)] [] (rW s m ig ws hg T V)
  refine g_aload_n (pc := 0) F dX5_desert_0 rfl ?_
  refine g_iload_n (pc := 1) F dX5_desert_1 rfl ?_
  refine g_iconst (pc := 2) F dX5_desert_2 (v := nI 0) rfl ?_
  refine i_readV (pc := 3) F (m_wrongRow s m ig ws hg T V _ _) mi_X5_wrongRow kv_X5_133 rfl rfl dX5_desert_3 (by decide) (by decide) rfl (Nat.le_of_ble_eq_true rfl) (by decide) (by decide) ?_
  refine g_istore_n (pc := 6) F dX5_desert_6 (by decide) ?_
  refine g_iload_n (pc := 7) F dX5_desert_7 rfl ?_
  refine g_if_eq (pc := 8) F dX5_desert_8 (tgt := 13) rfl (fun c_8 => ?_) (fun c_8 => ?_)
  · obtain ⟨hsh, hk2⟩ := wrong_0 c_8
    obtain ⟨j, hj, rfl⟩ := sh_ex hsh
    obtain ⟨n9, hn9, en1⟩ := hT j hj
    have hb : byOK T j := hTb j hj (by have z := wrong_00 c_8; rw [N_nI (by omega)] at z; exact z)
    obtain ⟨B, hB⟩ : ∃ B, B = byT T j n9 := ⟨_, rfl⟩
    have hdy := desert_y (r := s) c_8 hj hn9 en1 hB
    have hBn : ∀ i, ¬ B i = (-1) → i < n9 := fun i h => by
      rw [hB] at h
      exact Decidable.byContradiction (fun z => h (if_neg z))
    obtain ⟨hf1, hf2⟩ := frm_end B n9 (n9 + 1) 0 (by decide) hn9
    have hhc : ∀ i c, c < 128 → (byH T j n9 i = nI c ↔ B i = nI c) := fun i c hc => by rw [hB]; exact H_c hb hn9 hc
    have hlet : ∀ i, letP (B i) → byH T j n9 i = B i := fun i hl => by
      rcases hl with e | e | e | e | e | e | e <;> (rw [e]; exact (hhc i _ (by decide)).mpr e)
    refine g_aload_n (pc := 13) F dX5_desert_13 rfl ?_
    refine g_bipush (pc := 14) F dX5_desert_14 (v := nI 100) rfl ?_
    refine g_iload_n (pc := 16) F dX5_desert_16 rfl ?_
    refine g_imulN (pc := 17) F dX5_desert_17 ?_
    refine g_putf (pc := 18) F fl_X5_106 dX5_desert_18 rfl (Nat.le_of_ble_eq_true rfl) ?_
    refine g_aload_n (pc := 21) F dX5_desert_21 rfl ?_
    refine g_aload_n (pc := 22) F dX5_desert_22 rfl ?_
    refine g_getf (pc := 23) F fl_X5_37 dX5_desert_23 rfl rfl ?_
    refine g_iload_n (pc := 26) F dX5_desert_26 rfl ?_
    refine g_iald2 (pc := 27) F dX5_desert_27 rfl rfl (by first | omega | (simp only [ix]; omega)) (by decide) ?_
    rw [show T.2.2.2.2.1 j = nI n9 from en1]
    refine g_putf (pc := 28) F fl_X5_103 dX5_desert_28 rfl (Nat.le_of_ble_eq_true rfl) ?_
    refine g_aload_n (pc := 31) F dX5_desert_31 rfl ?_
    refine g_iconst (pc := 32) F dX5_desert_32 (v := nI 0) rfl ?_
    refine g_putf (pc := 33) F fl_X5_99 dX5_desert_33 rfl (Nat.le_of_ble_eq_true rfl) ?_
    show Go K 0 0 36 _ _ (rW s m ig ws hg T (V.1, nI (0), nI (100 * j), nI n9, V.2.2.2.2.1, V.2.2.2.2.2))
    refine g_iconst (pc := 36) F dX5_desert_36 (v := nI 0) rfl ?_
    refine g_istore_n (pc := 37) F dX5_desert_37 (by decide) ?_
    refine g_iconst (pc := 38) F dX5_desert_38 (v := nI 0) rfl ?_
    refine g_istore (pc := 39) F dX5_desert_39 (by decide) ?_
    obtain ⟨A1, hA1⟩ : ∃ A1, frm B n9 (n9 + 1) 0 = A1 := ⟨_, rfl⟩
    obtain ⟨C, hC0⟩ : ∃ C, cnS B n9 (n9 + 1) 0 = C := ⟨_, rfl⟩
    obtain ⟨A2, hA20⟩ : ∃ A2, rnA B n9 (n9 + 1) 0 s = A2 := ⟨_, rfl⟩
    obtain ⟨R2, hR20⟩ : ∃ R2, rnR B n9 (n9 + 1) 0 s = R2 := ⟨_, rfl⟩
    rw [hA1] at hf1 hf2
    have hdA : A_desert s T (nI j) = if A1 < 0 then (if A2 < 0 then nI C else (-2000) - A2) else (-1000) - A1 := by
      rw [hdy.1]
      unfold dsA
      rw [hA1, hA20, hC0]
    have hdR : R_desert s T (nI j) = if A1 < 0 then (if A2 < 0 then R2 else s) else s := by
      rw [hdy.2]
      unfold dsR
      rw [hA1, hA20, hR20]
    have KE : ∀ x y nq p2 q, (y = 0 → A_desert s T (nI j) = x) → (¬ y = 0 → A_desert s T (nI j) = y) → R_desert s T (nI j) = q → Go K 0 0 161 [(0, .ref 0), (1, .int (nI j)), (2, .int (wrong T (nI j) 0)), (3, .int x), (4, .int y)] [] (rW q m ig s hg T (nq, nI (p2), nI (100 * j), nI n9, V.2.2.2.2.1, V.2.2.2.2.2)) := by
      intro x y nq p2 q hx hy hq
      refine g_iload (pc := 161) F dX5_desert_161 rfl ?_
      refine g_if_ne (pc := 163) F dX5_desert_163 (tgt := 170) rfl (fun c_163 => ?_) (fun c_163 => ?_)
      · refine g_iload (pc := 170) F dX5_desert_170 rfl ?_
        exact g_iret (pc := 172) F X0 dX5_desert_172 (Nat.le_of_ble_eq_true rfl) (Nat.le_of_ble_eq_true rfl) rfl ⟨congrArg (fun z => some (Value.int z)) (by first | exact (hx c_163).symm | exact (hy c_163).symm | fail), m, s, (nq, nI (p2), nI (100 * j), nI n9, V.2.2.2.2.1, V.2.2.2.2.2), (congrArg (fun z => rW z m ig s hg T (nq, nI (p2), nI (100 * j), nI n9, V.2.2.2.2.1, V.2.2.2.2.2)) hq).symm⟩
      · refine g_iload_n (pc := 166) F dX5_desert_166 rfl ?_
        refine g_goto (pc := 167) F dX5_desert_167 (tgt := 172) rfl ?_
        exact g_iret (pc := 172) F X0 dX5_desert_172 (Nat.le_of_ble_eq_true rfl) (Nat.le_of_ble_eq_true rfl) rfl ⟨congrArg (fun z => some (Value.int z)) (by first | exact (hx c_163).symm | exact (hy c_163).symm | fail), m, s, (nq, nI (p2), nI (100 * j), nI n9, V.2.2.2.2.1, V.2.2.2.2.2), (congrArg (fun z => rW z m ig s hg T (nq, nI (p2), nI (100 * j), nI n9, V.2.2.2.2.1, V.2.2.2.2.2)) hq).symm⟩
    have K93 : ∀ x y nq p2, ¬ y = 0 → A_desert s T (nI j) = y → R_desert s T (nI j) = s → Go K 0 0 93 [(0, .ref 0), (1, .int (nI j)), (2, .int (wrong T (nI j) 0)), (3, .int x), (4, .int y)] [] (rW s m ig s hg T (nq, nI (p2), nI (100 * j), nI n9, V.2.2.2.2.1, V.2.2.2.2.2)) := by
      intro x y nq p2 hy0 hy hq
      refine g_iload (pc := 93) F dX5_desert_93 rfl ?_
      refine g_if_ne (pc := 95) F dX5_desert_95 (tgt := 161) rfl (fun c_95 => ?_) (fun c_95 => absurd c_95 hy0)
      exact KE x y nq p2 s (fun z => absurd z hy0) (fun _ => hy) hq
    have hdA1 : A1 < 0 → A2 = (-1) → A_desert s T (nI j) = nI C := fun z z2 => by rw [hdA, if_pos z, if_pos (by rw [z2]; decide)]
    have hdR1 : A1 < 0 → A2 = (-1) → R_desert s T (nI j) = R2 := fun z z2 => by rw [hdR, if_pos z, if_pos (by rw [z2]; decide)]
    have KL : A1 < 0 → ∀ nq, Go K 0 0 93 [(0, .ref 0), (1, .int (nI j)), (2, .int (wrong T (nI j) 0)), (3, .int (nI C)), (4, .int (nI 0))] [] (rW s m ig s hg T (nq, nI (0), nI (100 * j), nI n9, V.2.2.2.2.1, V.2.2.2.2.2)) := by
      intro hA0 nq0
      have hdA1 := hdA1 hA0
      have hdR1 := hdR1 hA0
      have hdA2 : ∀ v, A2 = v → ¬ v < 0 → A_desert s T (nI j) = (-2000) - v := fun v e z => by rw [hdA, if_pos hA0, e, if_neg z]
      have hdR2 : ∀ v, A2 = v → ¬ v < 0 → R_desert s T (nI j) = s := fun v e z => by rw [hdR, if_pos hA0, e, if_neg z]
      have hfo0 : FO B n9 0 := fun _ => ⟨n9 + 1, by omega, hA1.trans (hf1 hA0)⟩
      have L : ∀ f, ∀ p q nq, p ≤ n9 → n9 < p + f → FO B n9 p → Iv q → q 4 = nI 0 → rnA B n9 f p q = A2 → rnR B n9 f p q = R2 → Go K 0 0 93 [(0, .ref 0), (1, .int (nI j)), (2, .int (wrong T (nI j) 0)), (3, .int (nI C)), (4, .int (nI 0))] [] (rW q m ig s hg T (nq, nI (p), nI (100 * j), nI n9, V.2.2.2.2.1, V.2.2.2.2.2)) := by
        intro f
        induction f with
        | zero =>
          intro p q nq hp hf hfo hIq h4q hA2 hR2
          exact absurd hf (by omega)
        | succ f ih =>
          intro p q nq hp hf hfo hIq h4q hA2 hR2
          refine g_iload (pc := 93) F dX5_desert_93 rfl ?_
          refine g_if_ne (pc := 95) F dX5_desert_95 (tgt := 161) rfl (fun c_95 => absurd rfl c_95) (fun c_95 => ?_)
          refine g_aload_n (pc := 98) F dX5_desert_98 rfl ?_
          refine g_getf (pc := 99) F fl_X5_99 dX5_desert_99 rfl rfl ?_
          refine g_aload_n (pc := 102) F dX5_desert_102 rfl ?_
          refine g_getf (pc := 103) F fl_X5_103 dX5_desert_103 rfl rfl ?_
          refine g_icN_ge (pc := 106) F dX5_desert_106 (tgt := 161) rfl rfl rfl (by omega) (by omega) (fun c_106 => ?_) (fun c_106 => ?_)
          · have hpe : ¬ p < n9 := by omega
            have hA9 : A2 = (-1) := by rw [← hA2, rnA_e hpe]
            have hR9 : q = R2 := by rw [← hR2, rnR_e hpe]
            exact KE (nI C) (nI 0) nq p q (fun _ => hdA1 hA9) (fun z => absurd rfl z) ((hdR1 hA9).trans hR9.symm)
          · obtain ⟨hok, hfo2⟩ := FO_s hfo c_106 (by omega)
            have hlk := kL_le (B p)
            refine g_aload_n (pc := 109) F dX5_desert_109 rfl ?_
            refine g_getf (pc := 110) F fl_X5_99 dX5_desert_110 rfl rfl ?_
            refine g_istore (pc := 113) F dX5_desert_113 (by decide) ?_
            refine g_aload_n (pc := 115) F dX5_desert_115 rfl ?_
            refine i_readV (pc := 116) F (m_here q m ig s hg T V.2.2.2.2.1 V.2.2.2.2.2 j n9 hj hn9 nq p (by omega)) mi_X5_here kv_X5_109 rfl rfl dX5_desert_116 (by decide) (by decide) rfl (Nat.le_of_ble_eq_true rfl) (by decide) (by decide) ?_
            refine g_istore (pc := 119) F dX5_desert_119 (by decide) ?_
            refine g_aload_n (pc := 121) F dX5_desert_121 rfl ?_
            refine i_callV (pc := 122) F (m_statement q m ig s hg T V.2.2.2.2.1 V.2.2.2.2.2 j n9 hj hn9 nq p hb B hB (by omega)) mi_X5_readsStatement kv_X5_136 rfl rfl dX5_desert_122 (by decide) (by decide) rfl (Nat.le_of_ble_eq_true rfl) (by decide) (by decide) ?_
            rintro _ _ ⟨rfl, nq2, p2, rfl, hr1, hr2⟩ -
            obtain ⟨rfl, hnu⟩ := hr1 hok
            refine g_istore (pc := 125) F dX5_desert_125 (by decide) ?_
            refine g_aload_n (pc := 127) F dX5_desert_127 rfl ?_
            refine g_iload (pc := 128) F dX5_desert_128 rfl ?_
            rw [hlet p hok.1]
            refine i_callV (pc := 130) F (m_isDone q m ig s hg T (nq2, nI (p + lenS B p), nI (100 * j), nI n9, V.2.2.2.2.1, V.2.2.2.2.2) hIq B p hok.1 hnu) mi_X5_isDone kv_X5_144 rfl rfl dX5_desert_130 (by decide) (by decide) rfl (Nat.le_of_ble_eq_true rfl) (by decide) (by decide) ?_
            rintro _ _ ⟨rfl, s2, rfl, hi1, hi2⟩ -
            refine g_ifeq_d (pc := 133) F dX5_desert_133 (tgt := 139) rfl (fun c_133 => ?_) (fun c_133 => ?_)
            · obtain rfl := hi2 c_133
              refine g_sipush (pc := 139) F dX5_desert_139 (v := (-2000 : Int32)) (by decide) ?_
              refine g_iload (pc := 142) F dX5_desert_142 rfl ?_
              refine g_isub (pc := 144) F dX5_desert_144 ?_
              refine g_istore (pc := 145) F dX5_desert_145 (by decide) ?_
              refine g_aload_n (pc := 147) F dX5_desert_147 rfl ?_
              refine g_getf (pc := 148) F fl_X5_19 dX5_desert_148 rfl rfl ?_
              refine g_aload_n (pc := 151) F dX5_desert_151 rfl ?_
              refine g_getf (pc := 152) F fl_X5_9 dX5_desert_152 rfl rfl ?_
              refine h_callS (pc := 155) F (c_copyAll s _) mi_X5_copies ks_X5_140 dX5_desert_155 [4, 1] rfl (by decide) (by decide) rfl rfl (Nat.le_of_ble_eq_true rfl) (by decide) (by decide) ?_
              rintro _ _ ⟨rfl, rfl⟩ -
              refine g_goto (pc := 158) F dX5_desert_158 (tgt := 93) rfl ?_
              refine g_less [0, 1, 2, 3, 4] rfl ?_
              exact K93 _ _ _ _ (m2_ne (by omega)) (hdA2 (nI p) (by rw [← hA2, rnA_n c_106 c_133]) (nI_nneg (by omega))) (hdR2 (nI p) (by rw [← hA2, rnA_n c_106 c_133]) (nI_nneg (by omega)))
            · refine g_goto (pc := 136) F dX5_desert_136 (tgt := 93) rfl ?_
              refine g_less [0, 1, 2, 3, 4] rfl ?_
              obtain rfl := hi1 c_133
              exact ih (p + lenS B p) _ nq2 (len_in hok hBn) (by show n9 < p + (kL (B p) + 2) + f; omega) hfo2 (ef_ok hok.1 hIq h4q c_133).1 (ef_ok hok.1 hIq h4q c_133).2 (by rw [← hA2, rnA_y c_106 c_133]) (by rw [← hR2, rnR_y c_106])
      exact L (n9 + 1) 0 s nq0 (Nat.zero_le _) (by omega) hfo0 hI h4 hA20 hR20
    have K77 : ∀ x y nq p2, ((x = nI C ∧ y = nI 0 ∧ A1 < 0) ∨ (¬ y = 0 ∧ A_desert s T (nI j) = y ∧ R_desert s T (nI j) = s)) → Go K 0 0 77 [(0, .ref 0), (1, .int (nI j)), (2, .int (wrong T (nI j) 0)), (3, .int x), (4, .int y)] [] (rW s m ig ws hg T (nq, nI (p2), nI (100 * j), nI n9, V.2.2.2.2.1, V.2.2.2.2.2)) := by
      intro x y nq p2 hc
      refine g_aload_n (pc := 77) F dX5_desert_77 rfl ?_
      refine g_getf (pc := 78) F fl_X5_9 dX5_desert_78 rfl rfl ?_
      refine g_aload_n (pc := 81) F dX5_desert_81 rfl ?_
      refine g_getf (pc := 82) F fl_X5_19 dX5_desert_82 rfl rfl ?_
      refine h_callS (pc := 85) F (c_copyAll s ws) mi_X5_copies ks_X5_140 dX5_desert_85 [1, 4] rfl (by decide) (by decide) rfl rfl (Nat.le_of_ble_eq_true rfl) (by decide) (by decide) ?_
      rintro _ _ ⟨rfl, rfl⟩ -
      refine g_aload_n (pc := 88) F dX5_desert_88 rfl ?_
      refine g_iconst (pc := 89) F dX5_desert_89 (v := nI 0) rfl ?_
      refine g_putf (pc := 90) F fl_X5_99 dX5_desert_90 rfl (Nat.le_of_ble_eq_true rfl) ?_
      rcases hc with ⟨rfl, rfl, hc⟩ | ⟨h1, h2, h3⟩
      · exact KL hc nq
      · exact K93 x y nq 0 h1 h2 h3
    have L : ∀ f, ∀ p k nq, p ≤ n9 → n9 < p + f → frm B n9 f p = A1 → k + cnS B n9 f p = C → Go K 0 0 41 [(0, .ref 0), (1, .int (nI j)), (2, .int (wrong T (nI j) 0)), (3, .int (nI k)), (4, .int (nI 0))] [] (rW s m ig ws hg T (nq, nI (p), nI (100 * j), nI n9, V.2.2.2.2.1, V.2.2.2.2.2)) := by
      intro f
      induction f with
      | zero =>
        intro p k nq hp hf hfr hC
        exact absurd hf (by omega)
      | succ f ih =>
        intro p k nq hp hf hfr hC
        refine g_aload_n (pc := 41) F dX5_desert_41 rfl ?_
        refine i_callV (pc := 42) F (m_statement s m ig ws hg T V.2.2.2.2.1 V.2.2.2.2.2 j n9 hj hn9 nq p hb B hB (by omega)) mi_X5_readsStatement kv_X5_136 rfl rfl dX5_desert_42 (by decide) (by decide) rfl (Nat.le_of_ble_eq_true rfl) (by decide) (by decide) ?_
        rintro _ _ ⟨rfl, nq2, p2, rfl, hr1, hr2⟩ -
        refine g_ifne_d (pc := 45) F dX5_desert_45 (tgt := 58) rfl (fun c_45 => ?_) (fun c_45 => ?_)
        · obtain ⟨rfl, hnu⟩ := hr1 c_45
          have hlin := len_in c_45 hBn
          refine g_iincN (pc := 58) F dX5_desert_58 rfl (by decide) ?_
          refine g_iload (pc := 61) F dX5_desert_61 rfl ?_
          refine g_if_ne (pc := 63) F dX5_desert_63 (tgt := 77) rfl (fun c_63 => absurd rfl c_63) (fun c_63 => ?_)
          refine g_aload_n (pc := 66) F dX5_desert_66 rfl ?_
          refine g_getf (pc := 67) F fl_X5_99 dX5_desert_67 rfl rfl ?_
          refine g_aload_n (pc := 70) F dX5_desert_70 rfl ?_
          refine g_getf (pc := 71) F fl_X5_103 dX5_desert_71 rfl rfl ?_
          refine g_icN_lt (pc := 74) F dX5_desert_74 (tgt := 41) rfl rfl rfl (by omega) (by omega) (fun c_74 => ?_) (fun c_74 => ?_)
          · have hnx : p + lenS B p < n9 := c_74
            exact ih (p + lenS B p) (k + 1) nq2 (by omega) (by show n9 < p + (kL (B p) + 2) + f; omega) (by rw [← hfr, frm_s c_45 hnx]) (by rw [cnS_y (by have := len_in c_45 hBn; show p < n9; have : p + (kL (B p) + 2) ≤ n9 := len_in c_45 hBn; omega)] at hC; omega)
          · have hnx : ¬ p + lenS B p < n9 := by omega
            refine K77 _ _ nq2 _ (Or.inl ⟨?_, rfl, ?_⟩)
            · rw [cnS_y (by have : p + (kL (B p) + 2) ≤ n9 := len_in c_45 hBn; omega), cnS_end hnx f] at hC
              exact congrArg nI (by omega)
            · rw [← hfr, frm_e c_45 hnx]
              decide
        · obtain rfl := hr2 c_45
          refine g_sipush (pc := 48) F dX5_desert_48 (v := (-1000 : Int32)) (by decide) ?_
          refine g_aload_n (pc := 51) F dX5_desert_51 rfl ?_
          refine g_getf (pc := 52) F fl_X5_99 dX5_desert_52 rfl rfl ?_
          refine g_isub (pc := 55) F dX5_desert_55 ?_
          refine g_istore (pc := 56) F dX5_desert_56 (by decide) ?_
          refine g_iincN (pc := 58) F dX5_desert_58 rfl (by decide) ?_
          refine g_iload (pc := 61) F dX5_desert_61 rfl ?_
          refine g_if_ne (pc := 63) F dX5_desert_63 (tgt := 77) rfl (fun c_63 => ?_) (fun c_63 => absurd c_63 (m1_ne (by have := bad_le B p; omega)))
          refine K77 _ _ nq2 _ (Or.inr ⟨m1_ne (by have := bad_le B p; omega), ?_, ?_⟩)
          · have e : A1 = nI (badS B p) := by rw [← hfr, frm_b c_45]
            rw [hdA, e, if_neg (nI_nneg (by have := bad_le B p; omega))]
          · have e : A1 = nI (badS B p) := by rw [← hfr, frm_b c_45]
            rw [hdR, e, if_neg (nI_nneg (by have := bad_le B p; omega))]
    exact L (n9 + 1) 0 0 V.1 (Nat.zero_le _) (by omega) hA1 (by rw [Nat.zero_add]; exact hC0)
  · refine g_iload_n (pc := 11) F dX5_desert_11 rfl ?_
    exact g_iret (pc := 12) F X0 dX5_desert_12 (Nat.le_of_ble_eq_true rfl) (Nat.le_of_ble_eq_true rfl) rfl ⟨congrArg (fun z => some (Value.int z)) (desert_n c_8).1.symm, m, ws, V, (congrArg (fun z => rW z m ig ws hg T V) (desert_n c_8).2).symm⟩

