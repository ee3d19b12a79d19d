/-! shelves, both sides -/
abbrev tH (T : TX) : Nat → Int32 := T.1
abbrev tK (T : TX) : Nat → Int32 := T.2.1
abbrev tF (T : TX) : Nat → Int32 := T.2.2.1
abbrev tS (T : TX) : Nat → Int32 := T.2.2.2.1
abbrev tN (T : TX) : Nat → Int32 := T.2.2.2.2.1
abbrev tE (T : TX) : Nat → Int32 := T.2.2.2.2.2
abbrev shP (d : Int32) : Prop := nI 0 ≤ d ∧ d ≤ nI 7
theorem sh_ex {d : Int32} (h : shP d) : ∃ j, j < 8 ∧ d = nI j := by
  obtain ⟨j, hj, e⟩ := in_ex (by decide) h
  exact ⟨j, by omega, e⟩
theorem sh_in {j : Nat} (h : j < 8) : shP (nI j) := ⟨(nI_leI (by decide) (by omega)).mpr (Nat.zero_le _), (nI_leI (by omega) (by decide)).mpr (by omega)⟩
theorem lt_ex {n : Nat} {x : Int32} (hn : n < 2 ^ 31) (h : nI 0 ≤ x ∧ x ≤ nI n - nI 1) : ∃ q, q < n ∧ x = nI q := by
  have h1 := (ti_le _ _).mp h.1
  have h2 := (ti_le _ _).mp h.2
  rw [ti_n _ (by omega)] at h1
  rw [ti_sub (by rw [ti_n _ (by omega), ti_n _ (by omega)]; omega) (by rw [ti_n _ (by omega), ti_n _ (by omega)]; omega), ti_n _ (by omega), ti_n _ (by omega)] at h2
  exact ⟨_, by omega, nI_of_ti (by omega)⟩
/-- one shelf of the class stands to place j of the reference -/
def RS1 (U : SX) (T : TX) (j : Nat) : Prop :=
  (sH U = tH T j ∧ (tH T j = nI 0 ∨ tH T j = nI 1 ∨ tH T j = nI 2)) ∧
  (tH T j = nI 1 → (sKi U = tK T j ∧ sFi U = tF T j) ∧ (∃ k, k < 8 ∧ tK T j = nI k) ∧ (∃ f, f < 10 ∧ tF T j = nI f)) ∧
  sSo U = tS T j ∧ (∃ n, n ≤ 100 ∧ tN T j = nI n ∧ sSi U = nI n) ∧ (∀ i, i < 100 → sE U i = tE T (100 * j + i)) ∧
  (tS T j = nI 0 → ∀ i, i < 100 → -128 ≤ (tE T (100 * j + i)).toInt ∧ (tE T (100 * j + i)).toInt ≤ 127)
def RS (S : Nat → SX) (T : TX) : Prop := ∀ j, j < 8 → RS1 (S j) T j
/-- sizes of the reference's rows -/
def IT (T : TX) : Prop := ∀ j, j < 8 → ∃ n, n ≤ 100 ∧ tN T j = nI n
theorem RS_IT {S : Nat → SX} {T : TX} (h : RS S T) : IT T := fun j hj => by
  obtain ⟨n, hn, e, -⟩ := (h j hj).2.2.2.1
  exact ⟨n, hn, e⟩
theorem RS_upd {S : Nat → SX} {T T' : TX} {j : Nat} {U : SX} (h : RS S T) (h1 : RS1 U T' j) (h2 : ∀ q, q < 8 → q ≠ j → (tH T' q = tH T q ∧ tK T' q = tK T q ∧ tF T' q = tF T q ∧ tS T' q = tS T q ∧ tN T' q = tN T q) ∧ ∀ i, i < 100 → tE T' (100 * q + i) = tE T (100 * q + i)) : RS (updS S j U) T' := by
  intro q hq
  by_cases e : q = j
  · subst e
    show RS1 (if q = q then U else S q) T' q
    rw [if_pos rfl]
    exact h1
  · show RS1 (if q = j then U else S q) T' q
    rw [if_neg e]
    obtain ⟨⟨a1, a2, a3, a4, a5⟩, a6⟩ := h2 q hq e
    obtain ⟨b1, b2, b3, b4, b5, b6⟩ := h q hq
    refine ⟨?_, ?_, ?_, ?_, ?_, ?_⟩
    · rw [a1]; exact b1
    · rw [a1, a2, a3]; exact b2
    · rw [a4]; exact b3
    · rw [a5]; exact b4
    · intro i hi; rw [a6 i hi]; exact b5 i hi
    · rw [a4]; intro z i hi; rw [a6 i hi]; exact b6 z i hi
/-- the answer; shelves that now stand to T -/
def SttS (A : Value) (X Z : DX) (im : Int32) (T : TX) : Option Value → Hp → Prop := fun v hh => v = some A ∧ ∃ Y S g h, hh = mW X Y Z im S g h ∧ RS S T
/-- why no row, or 0 -/
def wrong (T : TX) (d o : Int32) : Int32 := if shP d then (if tH T (N d) = 0 then (-11) else if tH T (N d) = nI 2 ∧ (o < 0 ∨ tS T (N d) = o) then nI 0 else (-12)) else (-1)
def wrongK (T : TX) (d : Int32) : Int32 := if shP d then (if tH T (N d) = 0 then (-11) else if tH T (N d) = nI 2 then (-12) else nI 0) else (-1)
theorem wrong_no {T : TX} {d o : Int32} (h : ¬ shP d) : wrong T d o = (-1) := if_neg h
theorem wrongK_no {T : TX} {d : Int32} (h : ¬ shP d) : wrongK T d = (-1) := if_neg h
theorem wrong_in {S : Nat → SX} {T : TX} {j : Nat} (h : RS S T) (hj : j < 8) : wrong T (nI j) (-1) = refU (sH (S j)) (nI 2) := by
  unfold wrong refU
  rw [if_pos (sh_in hj), N_nI (by omega), (h j hj).1.1]
  by_cases q0 : tH T j = 0
  · rw [if_pos q0, if_pos q0]
  · rw [if_neg q0, if_neg q0]
    by_cases q : tH T j = nI 2
    · rw [if_pos ⟨q, Or.inl (by decide)⟩, if_pos q]
    · rw [if_neg (fun z => q z.1), if_neg q]
theorem wrongK_in {S : Nat → SX} {T : TX} {j : Nat} (h : RS S T) (hj : j < 8) : wrongK T (nI j) = refU (sH (S j)) (nI 1) := by
  unfold wrongK refU
  rw [if_pos (sh_in hj), N_nI (by omega), (h j hj).1.1]
  rcases (h j hj).1.2 with e | e | e <;> rw [e] <;> rfl
theorem refU_0 {x w : Int32} (h : refU x w = 0) : x = w := by
  unfold refU at h
  by_cases q : x = 0
  · rw [if_pos q] at h; exact absurd h (by decide)
  · rw [if_neg q] at h
    by_cases q2 : x = w
    · exact q2
    · rw [if_neg q2] at h; exact absurd h (by decide)
theorem wrong_0 {T : TX} {d o : Int32} (h : wrong T d o = 0) : shP d ∧ tH T (N d) = nI 2 := by
  unfold wrong at h
  by_cases q : shP d
  · rw [if_pos q] at h
    refine ⟨q, ?_⟩
    by_cases q2 : tH T (N d) = 0
    · rw [if_pos q2] at h; exact absurd h (by decide)
    · rw [if_neg q2] at h
      by_cases q3 : tH T (N d) = nI 2 ∧ (o < 0 ∨ tS T (N d) = o)
      · exact q3.1
      · rw [if_neg q3] at h; exact absurd h (by decide)
  · rw [if_neg q] at h; exact absurd h (by decide)
theorem wrongK_0 {T : TX} {d : Int32} (h : wrongK T d = 0) : shP d := by
  by_cases q : shP d
  · exact q
  · rw [wrongK_no q] at h; exact absurd h (by decide)
set_option maxRecDepth 100000 in
set_option maxHeartbeats 800000 in
theorem m_wrongRow (s m ig ws : Nat → Int32) (hg : Int32) (T : TX) (V : VX) (d o : Int32) : RCtr yX5_wrongRow cX5_wrongRow 3 (some .int) 3 [.ref 0, .int d, .int o] (rW s m ig ws hg T V) (.int (wrong T d o)) := by
  refine Ctr.of rfl (Nat.le_of_ble_eq_true rfl) ⟨clS_of rfl, clH_of rfl⟩ (fun K F X0 => ?_)
  show Go K 0 0 0 [(0, .ref 0), (1, .int d), (2, .int o)] [] (rW s m ig ws hg T V)
  refine g_iload_n (pc := 0) F dX5_wrongRow_0 rfl ?_
  refine h_readS (pc := 1) F (c_mShelf _) mi_X5_isShelf ks_X5_218 dX5_wrongRow_1 [] rfl (by decide) (by decide) rfl rfl (Nat.le_of_ble_eq_true rfl) trivial (by decide) (by decide) ?_
  refine g_ifne_d (pc := 4) F dX5_wrongRow_4 (tgt := 11) rfl (fun c_4 => ?_) (fun c_4 => ?_)
  · obtain ⟨j, hj, rfl⟩ := sh_ex c_4
    refine g_aload_n (pc := 11) F dX5_wrongRow_11 rfl ?_
    refine g_getf (pc := 12) F fl_X5_25 dX5_wrongRow_12 rfl rfl ?_
    refine g_iload_n (pc := 15) F dX5_wrongRow_15 rfl ?_
    refine g_iald2 (pc := 16) F dX5_wrongRow_16 rfl rfl (by first | omega | (simp only [ix]; omega)) (by decide) ?_
    refine g_if_ne (pc := 17) F dX5_wrongRow_17 (tgt := 25) rfl (fun c_17 => ?_) (fun c_17 => ?_)
    · refine g_aload_n (pc := 25) F dX5_wrongRow_25 rfl ?_
      refine g_getf (pc := 26) F fl_X5_25 dX5_wrongRow_26 rfl rfl ?_
      refine g_iload_n (pc := 29) F dX5_wrongRow_29 rfl ?_
      refine g_iald2 (pc := 30) F dX5_wrongRow_30 rfl rfl (by first | omega | (simp only [ix]; omega)) (by decide) ?_
      refine g_iconst (pc := 31) F dX5_wrongRow_31 (v := nI 2) rfl ?_
      refine g_ic_ne (pc := 32) F dX5_wrongRow_32 (tgt := 49) rfl (fun c_32 => ?_) (fun c_32 => ?_)
      · refine g_bipush (pc := 49) F dX5_wrongRow_49 (v := (-12 : Int32)) (by decide) ?_
        refine g_goto (pc := 51) F dX5_wrongRow_51 (tgt := 55) rfl ?_
        exact g_iret (pc := 55) F X0 dX5_wrongRow_55 (Nat.le_of_ble_eq_true rfl) (Nat.le_of_ble_eq_true rfl) rfl ⟨congrArg (fun z => some (Value.int z)) (by unfold wrong; first | exact (if_neg c_4).symm | (rw [if_pos c_4, N_nI (by omega)]; first | exact (if_pos c_17).symm | (rw [if_neg c_17]; first | (have h9 : ¬ tH T j = nI 2 := c_32; exact (if_neg (fun z => h9 z.1)).symm) | (have h9 : o < 0 := c_36; exact (if_pos ⟨c_32, Or.inl h9⟩).symm) | (have h9 : tS T j = o := c_46; exact (if_pos ⟨c_32, Or.inr h9⟩).symm) | exact (if_neg (fun z => z.2.elim c_36 c_46)).symm | fail) | fail) | fail), rfl⟩
      · refine g_iload_n (pc := 35) F dX5_wrongRow_35 rfl ?_
        refine g_if_lt (pc := 36) F dX5_wrongRow_36 (tgt := 54) rfl (fun c_36 => ?_) (fun c_36 => ?_)
        · refine g_iconst (pc := 54) F dX5_wrongRow_54 (v := nI 0) rfl ?_
          exact g_iret (pc := 55) F X0 dX5_wrongRow_55 (Nat.le_of_ble_eq_true rfl) (Nat.le_of_ble_eq_true rfl) rfl ⟨congrArg (fun z => some (Value.int z)) (by unfold wrong; first | exact (if_neg c_4).symm | (rw [if_pos c_4, N_nI (by omega)]; first | exact (if_pos c_17).symm | (rw [if_neg c_17]; first | (have h9 : ¬ tH T j = nI 2 := c_32; exact (if_neg (fun z => h9 z.1)).symm) | (have h9 : o < 0 := c_36; exact (if_pos ⟨c_32, Or.inl h9⟩).symm) | (have h9 : tS T j = o := c_46; exact (if_pos ⟨c_32, Or.inr h9⟩).symm) | exact (if_neg (fun z => z.2.elim c_36 c_46)).symm | fail) | fail) | fail), rfl⟩
        · refine g_aload_n (pc := 39) F dX5_wrongRow_39 rfl ?_
          refine g_getf (pc := 40) F fl_X5_34 dX5_wrongRow_40 rfl rfl ?_
          refine g_iload_n (pc := 43) F dX5_wrongRow_43 rfl ?_
          refine g_iald2 (pc := 44) F dX5_wrongRow_44 rfl rfl (by first | omega | (simp only [ix]; omega)) (by decide) ?_
          refine g_iload_n (pc := 45) F dX5_wrongRow_45 rfl ?_
          refine g_ic_eq (pc := 46) F dX5_wrongRow_46 (tgt := 54) rfl (fun c_46 => ?_) (fun c_46 => ?_)
          · refine g_iconst (pc := 54) F dX5_wrongRow_54 (v := nI 0) rfl ?_
            exact g_iret (pc := 55) F X0 dX5_wrongRow_55 (Nat.le_of_ble_eq_true rfl) (Nat.le_of_ble_eq_true rfl) rfl ⟨congrArg (fun z => some (Value.int z)) (by unfold wrong; first | exact (if_neg c_4).symm | (rw [if_pos c_4, N_nI (by omega)]; first | exact (if_pos c_17).symm | (rw [if_neg c_17]; first | (have h9 : ¬ tH T j = nI 2 := c_32; exact (if_neg (fun z => h9 z.1)).symm) | (have h9 : o < 0 := c_36; exact (if_pos ⟨c_32, Or.inl h9⟩).symm) | (have h9 : tS T j = o := c_46; exact (if_pos ⟨c_32, Or.inr h9⟩).symm) | exact (if_neg (fun z => z.2.elim c_36 c_46)).symm | fail) | fail) | fail), rfl⟩
          · refine g_bipush (pc := 49) F dX5_wrongRow_49 (v := (-12 : Int32)) (by decide) ?_
            refine g_goto (pc := 51) F dX5_wrongRow_51 (tgt := 55) rfl ?_
            exact g_iret (pc := 55) F X0 dX5_wrongRow_55 (Nat.le_of_ble_eq_true rfl) (Nat.le_of_ble_eq_true rfl) rfl ⟨congrArg (fun z => some (Value.int z)) (by unfold wrong; first | exact (if_neg c_4).symm | (rw [if_pos c_4, N_nI (by omega)]; first | exact (if_pos c_17).symm | (rw [if_neg c_17]; first | (have h9 : ¬ tH T j = nI 2 := c_32; exact (if_neg (fun z => h9 z.1)).symm) | (have h9 : o < 0 := c_36; exact (if_pos ⟨c_32, Or.inl h9⟩).symm) | (have h9 : tS T j = o := c_46; exact (if_pos ⟨c_32, Or.inr h9⟩).symm) | exact (if_neg (fun z => z.2.elim c_36 c_46)).symm | fail) | fail) | fail), rfl⟩
    · refine g_bipush (pc := 20) F dX5_wrongRow_20 (v := (-11 : Int32)) (by decide) ?_
      refine g_goto (pc := 22) F dX5_wrongRow_22 (tgt := 55) rfl ?_
      exact g_iret (pc := 55) F X0 dX5_wrongRow_55 (Nat.le_of_ble_eq_true rfl) (Nat.le_of_ble_eq_true rfl) rfl ⟨congrArg (fun z => some (Value.int z)) (by unfold wrong; first | exact (if_neg c_4).symm | (rw [if_pos c_4, N_nI (by omega)]; first | exact (if_pos c_17).symm | (rw [if_neg c_17]; first | (have h9 : ¬ tH T j = nI 2 := c_32; exact (if_neg (fun z => h9 z.1)).symm) | (have h9 : o < 0 := c_36; exact (if_pos ⟨c_32, Or.inl h9⟩).symm) | (have h9 : tS T j = o := c_46; exact (if_pos ⟨c_32, Or.inr h9⟩).symm) | exact (if_neg (fun z => z.2.elim c_36 c_46)).symm | fail) | fail) | fail), rfl⟩
  · refine g_iconst (pc := 7) F dX5_wrongRow_7 (v := (-1 : Int32)) (by decide) ?_
    refine g_goto (pc := 8) F dX5_wrongRow_8 (tgt := 55) rfl ?_
    exact g_iret (pc := 55) F X0 dX5_wrongRow_55 (Nat.le_of_ble_eq_true rfl) (Nat.le_of_ble_eq_true rfl) rfl ⟨congrArg (fun z => some (Value.int z)) (by unfold wrong; first | exact (if_neg c_4).symm | (rw [if_pos c_4, N_nI (by omega)]; first | exact (if_pos c_17).symm | (rw [if_neg c_17]; first | (have h9 : ¬ tH T j = nI 2 := c_32; exact (if_neg (fun z => h9 z.1)).symm) | (have h9 : o < 0 := c_36; exact (if_pos ⟨c_32, Or.inl h9⟩).symm) | (have h9 : tS T j = o := c_46; exact (if_pos ⟨c_32, Or.inr h9⟩).symm) | exact (if_neg (fun z => z.2.elim c_36 c_46)).symm | fail) | fail) | fail), rfl⟩

set_option maxRecDepth 100000 in
set_option maxHeartbeats 800000 in
theorem m_wrongKept (s m ig ws : Nat → Int32) (hg : Int32) (T : TX) (V : VX) (d : Int32) : RCtr yX5_wrongKept cX5_wrongKept 2 (some .int) 3 [.ref 0, .int d] (rW s m ig ws hg T V) (.int (wrongK T d)) := by
  refine Ctr.of rfl (Nat.le_of_ble_eq_true rfl) ⟨clS_of rfl, clH_of rfl⟩ (fun K F X0 => ?_)
  show Go K 0 0 0 [(0, .ref 0), (1, .int d)] [] (rW s m ig ws hg T V)
  refine g_iload_n (pc := 0) F dX5_wrongKept_0 rfl ?_
  refine h_readS (pc := 1) F (c_mShelf _) mi_X5_isShelf ks_X5_218 dX5_wrongKept_1 [] rfl (by decide) (by decide) rfl rfl (Nat.le_of_ble_eq_true rfl) trivial (by decide) (by decide) ?_
  refine g_ifne_d (pc := 4) F dX5_wrongKept_4 (tgt := 11) rfl (fun c_4 => ?_) (fun c_4 => ?_)
  · obtain ⟨j, hj, rfl⟩ := sh_ex c_4
    refine g_aload_n (pc := 11) F dX5_wrongKept_11 rfl ?_
    refine g_getf (pc := 12) F fl_X5_25 dX5_wrongKept_12 rfl rfl ?_
    refine g_iload_n (pc := 15) F dX5_wrongKept_15 rfl ?_
    refine g_iald2 (pc := 16) F dX5_wrongKept_16 rfl rfl (by first | omega | (simp only [ix]; omega)) (by decide) ?_
    refine g_if_ne (pc := 17) F dX5_wrongKept_17 (tgt := 25) rfl (fun c_17 => ?_) (fun c_17 => ?_)
    · refine g_aload_n (pc := 25) F dX5_wrongKept_25 rfl ?_
      refine g_getf (pc := 26) F fl_X5_25 dX5_wrongKept_26 rfl rfl ?_
      refine g_iload_n (pc := 29) F dX5_wrongKept_29 rfl ?_
      refine g_iald2 (pc := 30) F dX5_wrongKept_30 rfl rfl (by first | omega | (simp only [ix]; omega)) (by decide) ?_
      refine g_iconst (pc := 31) F dX5_wrongKept_31 (v := nI 2) rfl ?_
      refine g_ic_ne (pc := 32) F dX5_wrongKept_32 (tgt := 40) rfl (fun c_32 => ?_) (fun c_32 => ?_)
      · refine g_iconst (pc := 40) F dX5_wrongKept_40 (v := nI 0) rfl ?_
        exact g_iret (pc := 41) F X0 dX5_wrongKept_41 (Nat.le_of_ble_eq_true rfl) (Nat.le_of_ble_eq_true rfl) rfl ⟨congrArg (fun z => some (Value.int z)) (by unfold wrongK; first | exact (if_neg c_4).symm | (rw [if_pos c_4, N_nI (by omega)]; first | exact (if_pos c_17).symm | (rw [if_neg c_17]; first | exact (if_neg c_32).symm | exact (if_pos c_32).symm)) | fail), rfl⟩
      · refine g_bipush (pc := 35) F dX5_wrongKept_35 (v := (-12 : Int32)) (by decide) ?_
        refine g_goto (pc := 37) F dX5_wrongKept_37 (tgt := 41) rfl ?_
        exact g_iret (pc := 41) F X0 dX5_wrongKept_41 (Nat.le_of_ble_eq_true rfl) (Nat.le_of_ble_eq_true rfl) rfl ⟨congrArg (fun z => some (Value.int z)) (by unfold wrongK; first | exact (if_neg c_4).symm | (rw [if_pos c_4, N_nI (by omega)]; first | exact (if_pos c_17).symm | (rw [if_neg c_17]; first | exact (if_neg c_32).symm | exact (if_pos c_32).symm)) | fail), rfl⟩
    · refine g_bipush (pc := 20) F dX5_wrongKept_20 (v := (-11 : Int32)) (by decide) ?_
      refine g_goto (pc := 22) F dX5_wrongKept_22 (tgt := 41) rfl ?_
      exact g_iret (pc := 41) F X0 dX5_wrongKept_41 (Nat.le_of_ble_eq_true rfl) (Nat.le_of_ble_eq_true rfl) rfl ⟨congrArg (fun z => some (Value.int z)) (by unfold wrongK; first | exact (if_neg c_4).symm | (rw [if_pos c_4, N_nI (by omega)]; first | exact (if_pos c_17).symm | (rw [if_neg c_17]; first | exact (if_neg c_32).symm | exact (if_pos c_32).symm)) | fail), rfl⟩
  · refine g_iconst (pc := 7) F dX5_wrongKept_7 (v := (-1 : Int32)) (by decide) ?_
    refine g_goto (pc := 8) F dX5_wrongKept_8 (tgt := 41) rfl ?_
    exact g_iret (pc := 41) F X0 dX5_wrongKept_41 (Nat.le_of_ble_eq_true rfl) (Nat.le_of_ble_eq_true rfl) rfl ⟨congrArg (fun z => some (Value.int z)) (by unfold wrongK; first | exact (if_neg c_4).symm | (rw [if_pos c_4, N_nI (by omega)]; first | exact (if_pos c_17).symm | (rw [if_neg c_17]; first | exact (if_neg c_32).symm | exact (if_pos c_32).symm)) | fail), rfl⟩

abbrev keepP (d wh k f : Int32) : Prop := shP d ∧ b01 wh ∧ (wh = nI 1 → (nI 0 ≤ k ∧ k ≤ nI 7) ∧ (nI 0 ≤ f ∧ f ≤ nI 9))
def tkeep (T : TX) (j : Nat) (wh k f : Int32) : TX := (upd T.1 j wh, upd T.2.1 j k, upd T.2.2.1 j f, T.2.2.2)
def A_keep (d wh k f : Int32) : Int32 := if keepP d wh k f then nI 0 else (-1)
def T_keep (T : TX) (d wh k f : Int32) : TX := if keepP d wh k f then tkeep T (N d) wh k f else T
theorem T_keep_y {T : TX} {j : Nat} {wh k f : Int32} (hj : j < 8) (h : keepP (nI j) wh k f) : T_keep T (nI j) wh k f = tkeep T j wh k f := (if_pos h).trans (by rw [N_nI (by omega)])
theorem RS_keep {S : Nat → SX} {T : TX} {j : Nat} {wh k f : Int32} {U : SX} (h : RS S T) (hj : j < 8) (h1 : sE U = sE (S j) ∧ sSo U = sSo (S j) ∧ sSi U = sSi (S j)) (h2 : sH U = wh) (h3 : wh = nI 0 ∨ wh = nI 1 ∧ sKi U = k ∧ sFi U = f ∧ (∃ q, q < 8 ∧ k = nI q) ∧ (∃ q, q < 10 ∧ f = nI q)) : RS (updS S j U) (tkeep T j wh k f) := by
  refine RS_upd h ?_ (fun q hq hn => ⟨⟨upd_ne _ hn, upd_ne _ hn, upd_ne _ hn, rfl, rfl⟩, fun i hi => rfl⟩)
  obtain ⟨b1, b2, b3, b4, b5, b6⟩ := h j hj
  have e1 : tH (tkeep T j wh k f) j = wh := upd_at _ _ _
  have e2 : tK (tkeep T j wh k f) j = k := upd_at _ _ _
  have e3 : tF (tkeep T j wh k f) j = f := upd_at _ _ _
  refine ⟨⟨h2.trans e1.symm, ?_⟩, ?_, h1.2.1.trans b3, ?_, fun i hi => ?_, b6⟩
  · rw [e1]
    rcases h3 with q | q
    · exact Or.inl q
    · exact Or.inr (Or.inl q.1)
  · rw [e1, e2, e3]
    intro z
    rcases h3 with q | q
    · rw [q] at z; exact absurd z (by decide)
    · exact ⟨⟨q.2.1, q.2.2.1⟩, q.2.2.2⟩
  · rw [h1.2.2]; exact b4
  · rw [h1.1]; exact b5 i hi
theorem b01_1 {x : Int32} (h : b01 x) (h2 : ¬ x = 0) : x = nI 1 := (b01_ex h).resolve_left h2
theorem k8_ex {x : Int32} (h : nI 0 ≤ x ∧ x ≤ nI 7) : ∃ q, q < 8 ∧ x = nI q := sh_ex h
set_option maxRecDepth 100000 in
set_option maxHeartbeats 800000 in
theorem c_keep_no (b : Int32) (X Y Z : DX) (im : Int32) (S : Nat → SX) (g h : Nat → Int32) (r : Nat → Int32) (hR : Rel b X r) (hI : Iv r) (h4 : r 4 = nI 0) (T : TX) (hS : RS S T) (wh k f : Int32) (d : Int32) (hd : ¬ shP d) : Ctr yX4_keep cX4_keep 6 (some .int) 7 0 0 [.ref 0, .int d, .int wh, .int k, .int f] (mW X Y Z im S g h) (SttS (.int (A_keep d wh k f)) X Z im (T_keep T d wh k f)) := by
  refine Ctr.of rfl (Nat.le_of_ble_eq_true rfl) ⟨clS_of rfl, mW_cl _ _ _ _ _ _ _⟩ (fun K F X0 => ?_)
  show Go K 0 0 0 [(0, .ref 0), (1, .int d), (2, .int wh), (3, .int k), (4, .int f)] [] (mW X Y Z im S g h)
  refine g_aload_n (pc := 0) F dX4_keep_0 rfl ?_
  refine g_iload_n (pc := 1) F dX4_keep_1 rfl ?_
  refine i_readV (pc := 2) F (c_shelfNone X Y Z im S g h _ hd) mi_X4_shelfOrNull kv_X4_40 rfl rfl dX4_keep_2 (by decide) (by decide) rfl (Nat.le_of_ble_eq_true rfl) (by decide) (by decide) ?_
  refine g_astoreN (pc := 5) F dX4_keep_5 (by decide) ?_
  refine g_aloadN (pc := 7) F dX4_keep_7 rfl ?_
  refine g_ifnullN (pc := 9) F dX4_keep_9 (tgt := 21) rfl ?_
  refine g_iconst (pc := 21) F dX4_keep_21 (v := (-1 : Int32)) (by decide) ?_
  exact g_iret (pc := 22) F X0 dX4_keep_22 (Nat.le_of_ble_eq_true rfl) (Nat.le_of_ble_eq_true rfl) rfl ⟨congrArg (fun z => some (Value.int z)) (if_neg (fun z => hd z.1)).symm, Y, S, g, h, rfl, (congrArg (RS S) (if_neg (fun z => hd z.1))).mpr hS⟩

set_option maxRecDepth 100000 in
set_option maxHeartbeats 800000 in
theorem c_keep_in (b : Int32) (X Y Z : DX) (im : Int32) (S : Nat → SX) (g h : Nat → Int32) (r : Nat → Int32) (hR : Rel b X r) (hI : Iv r) (h4 : r 4 = nI 0) (T : TX) (hS : RS S T) (wh k f : Int32) (d : Int32) (j : Nat) (hd : d = nI j) (hj : j < 8) : Ctr yX4_keep cX4_keep 6 (some .int) 7 0 0 [.ref 0, .int d, .int wh, .int k, .int f] (mW X Y Z im S g h) (SttS (.int (A_keep d wh k f)) X Z im (T_keep T d wh k f)) := by
  subst hd
  refine Ctr.of rfl (Nat.le_of_ble_eq_true rfl) ⟨clS_of rfl, mW_cl _ _ _ _ _ _ _⟩ (fun K F X0 => ?_)
  show Go K 0 0 0 [(0, .ref 0), (1, .int (nI j)), (2, .int wh), (3, .int k), (4, .int f)] [] (mW X Y Z im S g h)
  refine g_aload_n (pc := 0) F dX4_keep_0 rfl ?_
  refine g_iload_n (pc := 1) F dX4_keep_1 rfl ?_
  refine i_readV (pc := 2) F (c_shelfSome X Y Z im S g h _ j rfl hj) mi_X4_shelfOrNull kv_X4_40 rfl rfl dX4_keep_2 (by decide) (by decide) rfl (Nat.le_of_ble_eq_true rfl) (by decide) (by decide) ?_
  refine g_astore (pc := 5) F dX4_keep_5 (by decide) ?_
  refine g_aload (pc := 7) F dX4_keep_7 rfl ?_
  refine g_ifnull (pc := 9) F dX4_keep_9 ?_
  refine g_iload_n (pc := 12) F dX4_keep_12 rfl ?_
  refine g_iconst (pc := 13) F dX4_keep_13 (v := nI 0) rfl ?_
  refine g_iconst (pc := 14) F dX4_keep_14 (v := nI 1) rfl ?_
  refine h_readS (pc := 15) F (c_isWithin _ _ _) mi_X4_isWithin ks_X4_129 dX4_keep_15 [] rfl (by decide) (by decide) rfl rfl (Nat.le_of_ble_eq_true rfl) trivial (by decide) (by decide) ?_
  refine g_ifne_d (pc := 18) F dX4_keep_18 (tgt := 23) rfl (fun c_18 => ?_) (fun c_18 => ?_)
  · refine g_iload_n (pc := 23) F dX4_keep_23 rfl ?_
    refine g_if_ne (pc := 24) F dX4_keep_24 (tgt := 34) rfl (fun c_24 => ?_) (fun c_24 => ?_)
    · refine g_iload_n (pc := 34) F dX4_keep_34 rfl ?_
      refine g_iconst (pc := 35) F dX4_keep_35 (v := nI 0) rfl ?_
      refine g_bipush (pc := 36) F dX4_keep_36 (v := nI 7) rfl ?_
      refine h_readS (pc := 38) F (c_isWithin _ _ _) mi_X4_isWithin ks_X4_129 dX4_keep_38 [] rfl (by decide) (by decide) rfl rfl (Nat.le_of_ble_eq_true rfl) trivial (by decide) (by decide) ?_
      refine g_ifeq_d (pc := 41) F dX4_keep_41 (tgt := 55) rfl (fun c_41 => ?_) (fun c_41 => ?_)
      · refine g_iconst (pc := 55) F dX4_keep_55 (v := (-1 : Int32)) (by decide) ?_
        exact g_iret (pc := 56) F X0 dX4_keep_56 (Nat.le_of_ble_eq_true rfl) (Nat.le_of_ble_eq_true rfl) rfl (by first | exact ⟨congrArg (fun z => some (Value.int z)) (if_neg (fun z => c_41 (z.2.2 (b01_1 c_18 c_24)).1)).symm, Y, S, g, h, rfl, (congrArg (RS S) (if_neg (fun z => c_41 (z.2.2 (b01_1 c_18 c_24)).1))).mpr hS⟩ | exact ⟨congrArg (fun z => some (Value.int z)) (if_neg (fun z => c_52 (z.2.2 (b01_1 c_18 c_24)).2)).symm, Y, S, g, h, rfl, (congrArg (RS S) (if_neg (fun z => c_52 (z.2.2 (b01_1 c_18 c_24)).2))).mpr hS⟩ | fail)
      · refine g_iload (pc := 44) F dX4_keep_44 rfl ?_
        refine g_iconst (pc := 46) F dX4_keep_46 (v := nI 0) rfl ?_
        refine g_bipush (pc := 47) F dX4_keep_47 (v := nI 9) rfl ?_
        refine h_readS (pc := 49) F (c_isWithin _ _ _) mi_X4_isWithin ks_X4_129 dX4_keep_49 [] rfl (by decide) (by decide) rfl rfl (Nat.le_of_ble_eq_true rfl) trivial (by decide) (by decide) ?_
        refine g_ifne_d (pc := 52) F dX4_keep_52 (tgt := 57) rfl (fun c_52 => ?_) (fun c_52 => ?_)
        · refine g_aload (pc := 57) F dX4_keep_57 rfl ?_
          refine g_iload_n (pc := 59) F dX4_keep_59 rfl ?_
          refine g_iload (pc := 60) F dX4_keep_60 rfl ?_
          refine h_callV (pc := 62) F (c_holdKind (S j) k f) mi_X2_holdKind kv_X4_249 rfl rfl dX4_keep_62 [28 + 2 * j, 28 + 2 * j + 1] (mW_sub hj) (by decide) (by decide) (mW_nd hj) rfl (Nat.le_of_ble_eq_true rfl) (by decide) (by decide) ?_
          rintro _ _ ⟨rfl, rfl⟩ -
          rw [mW_place hj]
          refine g_iconst (pc := 65) F dX4_keep_65 (v := nI 0) rfl ?_
          exact g_iret (pc := 66) F X0 dX4_keep_66 (Nat.le_of_ble_eq_true rfl) (Nat.le_of_ble_eq_true rfl) rfl ⟨congrArg (fun z => some (Value.int z)) (if_pos (⟨sh_in hj, c_18, fun _ => ⟨c_41, c_52⟩⟩)).symm, Y, _, g, h, rfl, (congrArg (RS _) (T_keep_y hj (⟨sh_in hj, c_18, fun _ => ⟨c_41, c_52⟩⟩))).mpr (RS_keep hS hj ⟨rfl, rfl, rfl⟩ (b01_1 c_18 c_24).symm (Or.inr ⟨b01_1 c_18 c_24, rfl, rfl, k8_ex c_41, dip_ex c_52⟩))⟩
        · refine g_iconst (pc := 55) F dX4_keep_55 (v := (-1 : Int32)) (by decide) ?_
          exact g_iret (pc := 56) F X0 dX4_keep_56 (Nat.le_of_ble_eq_true rfl) (Nat.le_of_ble_eq_true rfl) rfl (by first | exact ⟨congrArg (fun z => some (Value.int z)) (if_neg (fun z => c_41 (z.2.2 (b01_1 c_18 c_24)).1)).symm, Y, S, g, h, rfl, (congrArg (RS S) (if_neg (fun z => c_41 (z.2.2 (b01_1 c_18 c_24)).1))).mpr hS⟩ | exact ⟨congrArg (fun z => some (Value.int z)) (if_neg (fun z => c_52 (z.2.2 (b01_1 c_18 c_24)).2)).symm, Y, S, g, h, rfl, (congrArg (RS S) (if_neg (fun z => c_52 (z.2.2 (b01_1 c_18 c_24)).2))).mpr hS⟩ | fail)
    · refine g_aload (pc := 27) F dX4_keep_27 rfl ?_
      refine h_callV (pc := 29) F (c_holdNothing (S j)) mi_X2_holdNothing kv_X4_246 rfl rfl dX4_keep_29 [28 + 2 * j, 28 + 2 * j + 1] (mW_sub hj) (by decide) (by decide) (mW_nd hj) rfl (Nat.le_of_ble_eq_true rfl) (by decide) (by decide) ?_
      rintro _ _ ⟨rfl, rfl⟩ -
      rw [mW_place hj]
      refine g_iconst (pc := 32) F dX4_keep_32 (v := nI 0) rfl ?_
      exact g_iret (pc := 33) F X0 dX4_keep_33 (Nat.le_of_ble_eq_true rfl) (Nat.le_of_ble_eq_true rfl) rfl ⟨congrArg (fun z => some (Value.int z)) (if_pos (⟨sh_in hj, c_18, fun z => absurd (c_24.symm.trans z) (by decide)⟩)).symm, Y, _, g, h, rfl, (congrArg (RS _) (T_keep_y hj (⟨sh_in hj, c_18, fun z => absurd (c_24.symm.trans z) (by decide)⟩))).mpr (RS_keep hS hj ⟨rfl, rfl, rfl⟩ c_24.symm (Or.inl c_24))⟩
  · refine g_iconst (pc := 21) F dX4_keep_21 (v := (-1 : Int32)) (by decide) ?_
    exact g_iret (pc := 22) F X0 dX4_keep_22 (Nat.le_of_ble_eq_true rfl) (Nat.le_of_ble_eq_true rfl) rfl ⟨congrArg (fun z => some (Value.int z)) (if_neg (fun z => c_18 z.2.1)).symm, Y, S, g, h, rfl, (congrArg (RS S) (if_neg (fun z => c_18 z.2.1))).mpr hS⟩

theorem c_keep (b : Int32) (X Y Z : DX) (im : Int32) (S : Nat → SX) (g h : Nat → Int32) (r : Nat → Int32) (hR : Rel b X r) (hI : Iv r) (h4 : r 4 = nI 0) (T : TX) (hS : RS S T) (wh k f : Int32) (d : Int32) : Ctr yX4_keep cX4_keep 6 (some .int) 7 0 0 [.ref 0, .int d, .int wh, .int k, .int f] (mW X Y Z im S g h) (SttS (.int (A_keep d wh k f)) X Z im (T_keep T d wh k f)) := by
  by_cases hd : shP d
  · obtain ⟨j, hj, e⟩ := sh_ex hd
    exact c_keep_in b X Y Z im S g h r hR hI h4 T hS wh k f d j e hj
  · exact c_keep_no b X Y Z im S g h r hR hI h4 T hS wh k f d hd

set_option maxRecDepth 100000 in
set_option maxHeartbeats 800000 in
theorem m_keep (s m ig ws : Nat → Int32) (hg : Int32) (T : TX) (V : VX) (hI : Iv s) (d wh k f : Int32) : Ctr yX5_keep cX5_keep 5 (some .int) 7 0 0 [.ref 0, .int d, .int wh, .int k, .int f] (rW s m ig ws hg T V) (SttR (.int (A_keep d wh k f)) s ig hg (T_keep T d wh k f)) := by
  refine Ctr.of rfl (Nat.le_of_ble_eq_true rfl) ⟨clS_of rfl, clH_of rfl⟩ (fun K F X0 => ?_)
  show Go K 0 0 0 [(0, .ref 0), (1, .int d), (2, .int wh), (3, .int k), (4, .int f)] [] (rW s m ig ws hg T V)
  refine g_iload_n (pc := 0) F dX5_keep_0 rfl ?_
  refine h_readS (pc := 1) F (c_mShelf _) mi_X5_isShelf ks_X5_218 dX5_keep_1 [] rfl (by decide) (by decide) rfl rfl (Nat.le_of_ble_eq_true rfl) trivial (by decide) (by decide) ?_
  refine g_ifeq_d (pc := 4) F dX5_keep_4 (tgt := 42) rfl (fun c_4 => ?_) (fun c_4 => ?_)
  · refine g_iconst (pc := 42) F dX5_keep_42 (v := (-1 : Int32)) (by decide) ?_
    exact g_iret (pc := 43) F X0 dX5_keep_43 (Nat.le_of_ble_eq_true rfl) (Nat.le_of_ble_eq_true rfl) rfl (by first
      | exact ⟨congrArg (fun z => some (Value.int z)) (if_neg (fun z => c_4 z.1)).symm, m, ws, V, (congrArg (fun z => rW s m ig ws hg z V) (if_neg (fun z => c_4 z.1))).symm⟩
      | exact ⟨congrArg (fun z => some (Value.int z)) (if_neg (fun z => c_13 z.2.1)).symm, m, ws, V, (congrArg (fun z => rW s m ig ws hg z V) (if_neg (fun z => c_13 z.2.1))).symm⟩
      | exact ⟨congrArg (fun z => some (Value.int z)) (if_neg (fun z => c_28 (z.2.2 c_18).1)).symm, m, ws, V, (congrArg (fun z => rW s m ig ws hg z V) (if_neg (fun z => c_28 (z.2.2 c_18).1))).symm⟩
      | exact ⟨congrArg (fun z => some (Value.int z)) (if_neg (fun z => c_39 (z.2.2 c_18).2)).symm, m, ws, V, (congrArg (fun z => rW s m ig ws hg z V) (if_neg (fun z => c_39 (z.2.2 c_18).2))).symm⟩
      | fail)
  · refine g_iload_n (pc := 7) F dX5_keep_7 rfl ?_
    refine g_iconst (pc := 8) F dX5_keep_8 (v := nI 0) rfl ?_
    refine g_iconst (pc := 9) F dX5_keep_9 (v := nI 1) rfl ?_
    refine h_readS (pc := 10) F (c_isIn _ _ _) mi_X5_isIn ks_X5_43 dX5_keep_10 [] rfl (by decide) (by decide) rfl rfl (Nat.le_of_ble_eq_true rfl) trivial (by decide) (by decide) ?_
    refine g_ifeq_d (pc := 13) F dX5_keep_13 (tgt := 42) rfl (fun c_13 => ?_) (fun c_13 => ?_)
    · refine g_iconst (pc := 42) F dX5_keep_42 (v := (-1 : Int32)) (by decide) ?_
      exact g_iret (pc := 43) F X0 dX5_keep_43 (Nat.le_of_ble_eq_true rfl) (Nat.le_of_ble_eq_true rfl) rfl (by first
      | exact ⟨congrArg (fun z => some (Value.int z)) (if_neg (fun z => c_4 z.1)).symm, m, ws, V, (congrArg (fun z => rW s m ig ws hg z V) (if_neg (fun z => c_4 z.1))).symm⟩
      | exact ⟨congrArg (fun z => some (Value.int z)) (if_neg (fun z => c_13 z.2.1)).symm, m, ws, V, (congrArg (fun z => rW s m ig ws hg z V) (if_neg (fun z => c_13 z.2.1))).symm⟩
      | exact ⟨congrArg (fun z => some (Value.int z)) (if_neg (fun z => c_28 (z.2.2 c_18).1)).symm, m, ws, V, (congrArg (fun z => rW s m ig ws hg z V) (if_neg (fun z => c_28 (z.2.2 c_18).1))).symm⟩
      | exact ⟨congrArg (fun z => some (Value.int z)) (if_neg (fun z => c_39 (z.2.2 c_18).2)).symm, m, ws, V, (congrArg (fun z => rW s m ig ws hg z V) (if_neg (fun z => c_39 (z.2.2 c_18).2))).symm⟩
      | fail)
    · obtain ⟨j, hj, rfl⟩ := sh_ex c_4
      refine g_iload_n (pc := 16) F dX5_keep_16 rfl ?_
      refine g_iconst (pc := 17) F dX5_keep_17 (v := nI 1) rfl ?_
      refine g_ic_ne (pc := 18) F dX5_keep_18 (tgt := 44) rfl (fun c_18 => ?_) (fun c_18 => ?_)
      · refine g_aload_n (pc := 44) F dX5_keep_44 rfl ?_
        refine g_getf (pc := 45) F fl_X5_25 dX5_keep_45 rfl rfl ?_
        refine g_iload_n (pc := 48) F dX5_keep_48 rfl ?_
        refine g_iload_n (pc := 49) F dX5_keep_49 rfl ?_
        refine g_iast2 (pc := 50) F dX5_keep_50 rfl rfl (by first | omega | (simp only [ix]; omega)) (by decide) ?_
        refine g_aload_n (pc := 51) F dX5_keep_51 rfl ?_
        refine g_getf (pc := 52) F fl_X5_28 dX5_keep_52 rfl rfl ?_
        refine g_iload_n (pc := 55) F dX5_keep_55 rfl ?_
        refine g_iload_n (pc := 56) F dX5_keep_56 rfl ?_
        refine g_iast2 (pc := 57) F dX5_keep_57 rfl rfl (by first | omega | (simp only [ix]; omega)) (by decide) ?_
        refine g_aload_n (pc := 58) F dX5_keep_58 rfl ?_
        refine g_getf (pc := 59) F fl_X5_31 dX5_keep_59 rfl rfl ?_
        refine g_iload_n (pc := 62) F dX5_keep_62 rfl ?_
        refine g_iload (pc := 63) F dX5_keep_63 rfl ?_
        refine g_iast2 (pc := 65) F dX5_keep_65 rfl rfl (by first | omega | (simp only [ix]; omega)) (by decide) ?_
        refine g_iconst (pc := 66) F dX5_keep_66 (v := nI 0) rfl ?_
        exact g_iret (pc := 67) F X0 dX5_keep_67 (Nat.le_of_ble_eq_true rfl) (Nat.le_of_ble_eq_true rfl) rfl (by first
      | exact ⟨congrArg (fun z => some (Value.int z)) (if_pos (⟨c_4, c_13, fun z => absurd z c_18⟩)).symm, m, ws, V, (congrArg (fun z => rW s m ig ws hg z V) (T_keep_y hj ⟨c_4, c_13, fun z => absurd z c_18⟩)).symm⟩
      | exact ⟨congrArg (fun z => some (Value.int z)) (if_pos (⟨c_4, c_13, fun _ => ⟨c_28, c_39⟩⟩)).symm, m, ws, V, (congrArg (fun z => rW s m ig ws hg z V) (T_keep_y hj ⟨c_4, c_13, fun _ => ⟨c_28, c_39⟩⟩)).symm⟩
      | fail)
      · refine g_iload_n (pc := 21) F dX5_keep_21 rfl ?_
        refine g_iconst (pc := 22) F dX5_keep_22 (v := nI 0) rfl ?_
        refine g_bipush (pc := 23) F dX5_keep_23 (v := nI 7) rfl ?_
        refine h_readS (pc := 25) F (c_isIn _ _ _) mi_X5_isIn ks_X5_43 dX5_keep_25 [] rfl (by decide) (by decide) rfl rfl (Nat.le_of_ble_eq_true rfl) trivial (by decide) (by decide) ?_
        refine g_ifeq_d (pc := 28) F dX5_keep_28 (tgt := 42) rfl (fun c_28 => ?_) (fun c_28 => ?_)
        · refine g_iconst (pc := 42) F dX5_keep_42 (v := (-1 : Int32)) (by decide) ?_
          exact g_iret (pc := 43) F X0 dX5_keep_43 (Nat.le_of_ble_eq_true rfl) (Nat.le_of_ble_eq_true rfl) rfl (by first
      | exact ⟨congrArg (fun z => some (Value.int z)) (if_neg (fun z => c_4 z.1)).symm, m, ws, V, (congrArg (fun z => rW s m ig ws hg z V) (if_neg (fun z => c_4 z.1))).symm⟩
      | exact ⟨congrArg (fun z => some (Value.int z)) (if_neg (fun z => c_13 z.2.1)).symm, m, ws, V, (congrArg (fun z => rW s m ig ws hg z V) (if_neg (fun z => c_13 z.2.1))).symm⟩
      | exact ⟨congrArg (fun z => some (Value.int z)) (if_neg (fun z => c_28 (z.2.2 c_18).1)).symm, m, ws, V, (congrArg (fun z => rW s m ig ws hg z V) (if_neg (fun z => c_28 (z.2.2 c_18).1))).symm⟩
      | exact ⟨congrArg (fun z => some (Value.int z)) (if_neg (fun z => c_39 (z.2.2 c_18).2)).symm, m, ws, V, (congrArg (fun z => rW s m ig ws hg z V) (if_neg (fun z => c_39 (z.2.2 c_18).2))).symm⟩
      | fail)
        · refine g_iload (pc := 31) F dX5_keep_31 rfl ?_
          refine g_iconst (pc := 33) F dX5_keep_33 (v := nI 0) rfl ?_
          refine g_bipush (pc := 34) F dX5_keep_34 (v := nI 9) rfl ?_
          refine h_readS (pc := 36) F (c_isIn _ _ _) mi_X5_isIn ks_X5_43 dX5_keep_36 [] rfl (by decide) (by decide) rfl rfl (Nat.le_of_ble_eq_true rfl) trivial (by decide) (by decide) ?_
          refine g_ifne_d (pc := 39) F dX5_keep_39 (tgt := 44) rfl (fun c_39 => ?_) (fun c_39 => ?_)
          · refine g_aload_n (pc := 44) F dX5_keep_44 rfl ?_
            refine g_getf (pc := 45) F fl_X5_25 dX5_keep_45 rfl rfl ?_
            refine g_iload_n (pc := 48) F dX5_keep_48 rfl ?_
            refine g_iload_n (pc := 49) F dX5_keep_49 rfl ?_
            refine g_iast2 (pc := 50) F dX5_keep_50 rfl rfl (by first | omega | (simp only [ix]; omega)) (by decide) ?_
            refine g_aload_n (pc := 51) F dX5_keep_51 rfl ?_
            refine g_getf (pc := 52) F fl_X5_28 dX5_keep_52 rfl rfl ?_
            refine g_iload_n (pc := 55) F dX5_keep_55 rfl ?_
            refine g_iload_n (pc := 56) F dX5_keep_56 rfl ?_
            refine g_iast2 (pc := 57) F dX5_keep_57 rfl rfl (by first | omega | (simp only [ix]; omega)) (by decide) ?_
            refine g_aload_n (pc := 58) F dX5_keep_58 rfl ?_
            refine g_getf (pc := 59) F fl_X5_31 dX5_keep_59 rfl rfl ?_
            refine g_iload_n (pc := 62) F dX5_keep_62 rfl ?_
            refine g_iload (pc := 63) F dX5_keep_63 rfl ?_
            refine g_iast2 (pc := 65) F dX5_keep_65 rfl rfl (by first | omega | (simp only [ix]; omega)) (by decide) ?_
            refine g_iconst (pc := 66) F dX5_keep_66 (v := nI 0) rfl ?_
            exact g_iret (pc := 67) F X0 dX5_keep_67 (Nat.le_of_ble_eq_true rfl) (Nat.le_of_ble_eq_true rfl) rfl (by first
      | exact ⟨congrArg (fun z => some (Value.int z)) (if_pos (⟨c_4, c_13, fun z => absurd z c_18⟩)).symm, m, ws, V, (congrArg (fun z => rW s m ig ws hg z V) (T_keep_y hj ⟨c_4, c_13, fun z => absurd z c_18⟩)).symm⟩
      | exact ⟨congrArg (fun z => some (Value.int z)) (if_pos (⟨c_4, c_13, fun _ => ⟨c_28, c_39⟩⟩)).symm, m, ws, V, (congrArg (fun z => rW s m ig ws hg z V) (T_keep_y hj ⟨c_4, c_13, fun _ => ⟨c_28, c_39⟩⟩)).symm⟩
      | fail)
          · refine g_iconst (pc := 42) F dX5_keep_42 (v := (-1 : Int32)) (by decide) ?_
            exact g_iret (pc := 43) F X0 dX5_keep_43 (Nat.le_of_ble_eq_true rfl) (Nat.le_of_ble_eq_true rfl) rfl (by first
      | exact ⟨congrArg (fun z => some (Value.int z)) (if_neg (fun z => c_4 z.1)).symm, m, ws, V, (congrArg (fun z => rW s m ig ws hg z V) (if_neg (fun z => c_4 z.1))).symm⟩
      | exact ⟨congrArg (fun z => some (Value.int z)) (if_neg (fun z => c_13 z.2.1)).symm, m, ws, V, (congrArg (fun z => rW s m ig ws hg z V) (if_neg (fun z => c_13 z.2.1))).symm⟩
      | exact ⟨congrArg (fun z => some (Value.int z)) (if_neg (fun z => c_28 (z.2.2 c_18).1)).symm, m, ws, V, (congrArg (fun z => rW s m ig ws hg z V) (if_neg (fun z => c_28 (z.2.2 c_18).1))).symm⟩
      | exact ⟨congrArg (fun z => some (Value.int z)) (if_neg (fun z => c_39 (z.2.2 c_18).2)).symm, m, ws, V, (congrArg (fun z => rW s m ig ws hg z V) (if_neg (fun z => c_39 (z.2.2 c_18).2))).symm⟩
      | fail)

abbrev rowP (d so n : Int32) : Prop := shP d ∧ (nI 0 ≤ so ∧ so ≤ nI 2) ∧ n ≤ nI 100
def clrE (f : Nat → Int32) (j i : Nat) : Nat → Int32 := fun q => if 100 * j ≤ q ∧ q < 100 * j + i then nI 0 else f q
theorem clrE_0 (f : Nat → Int32) (j : Nat) : clrE f j 0 = f := funext fun q => if_neg (by omega)
theorem clrE_s (f : Nat → Int32) (j i : Nat) : upd (clrE f j i) (100 * j + i) (nI 0) = clrE f j (i + 1) := by
  funext q
  unfold upd clrE
  by_cases h : q = 100 * j + i
  · rw [if_pos h, if_pos (by omega)]
  · rw [if_neg h]
    by_cases h2 : 100 * j ≤ q ∧ q < 100 * j + i
    · rw [if_pos h2, if_pos (by omega)]
    · rw [if_neg h2, if_neg (by omega)]
def trow (T : TX) (j : Nat) (so n : Int32) : TX := (upd T.1 j (nI 2), T.2.1, T.2.2.1, upd T.2.2.2.1 j so, upd T.2.2.2.2.1 j n, clrE T.2.2.2.2.2 j 100)
def A_row (d so n : Int32) : Int32 := if rowP d so n then (if n < 0 then (-14) else nI 0) else (-1)
def T_row (T : TX) (d so n : Int32) : TX := if rowP d so n then (if n < 0 then T else trow T (N d) so n) else T
theorem RS_row {S : Nat → SX} {T : TX} {j : Nat} {so n : Int32} {U : SX} (h : RS S T) (hj : j < 8) (h1 : U = (fillF (sE (S j)) (nI 0) 100, nI 2, sKi (S j), sFi (S j), so, n)) (hn : ∃ q, q ≤ 100 ∧ n = nI q) : RS (updS S j U) (trow T j so n) := by
  subst h1
  refine RS_upd h ?_ (fun q hq hne => ⟨⟨upd_ne _ hne, rfl, rfl, upd_ne _ hne, upd_ne _ hne⟩, fun i hi => if_neg (by omega)⟩)
  have e1 : tH (trow T j so n) j = nI 2 := upd_at _ _ _
  have e2 : tS (trow T j so n) j = so := upd_at _ _ _
  have e3 : tN (trow T j so n) j = n := upd_at _ _ _
  have e4 : ∀ i, i < 100 → tE (trow T j so n) (100 * j + i) = nI 0 := fun i hi => if_pos (by omega)
  refine ⟨⟨e1.symm, Or.inr (Or.inr e1)⟩, ?_, e2.symm, ?_, fun i hi => ?_, fun _ i hi => ?_⟩
  · rw [e1]; intro z; exact absurd z (by decide)
  · obtain ⟨q, hq, rfl⟩ := hn
    exact ⟨q, hq, e3, rfl⟩
  · rw [e4 i hi]; exact fillF_in hi
  · rw [e4 i hi]; decide
theorem row_ex {n : Int32} (h : ¬ n < 0) (h2 : n ≤ nI 100) : ∃ q, q ≤ 100 ∧ n = nI q := in_ex (by decide) ⟨Int32.not_lt.mp h, h2⟩
theorem T_row_y {T : TX} {j : Nat} {so n : Int32} (hj : j < 8) (h : rowP (nI j) so n) (h2 : ¬ n < 0) : T_row T (nI j) so n = trow T j so n := (if_pos h).trans ((if_neg h2).trans (by rw [N_nI (by omega)]))
set_option maxRecDepth 100000 in
set_option maxHeartbeats 800000 in
theorem c_row_no (b : Int32) (X Y Z : DX) (im : Int32) (S : Nat → SX) (g h : Nat → Int32) (r : Nat → Int32) (hR : Rel b X r) (hI : Iv r) (h4 : r 4 = nI 0) (T : TX) (hS : RS S T) (so n : Int32) (d : Int32) (hd : ¬ shP d) : Ctr yX4_row cX4_row 5 (some .int) 7 0 0 [.ref 0, .int d, .int so, .int n] (mW X Y Z im S g h) (SttS (.int (A_row d so n)) X Z im (T_row T d so n)) := by
  refine Ctr.of rfl (Nat.le_of_ble_eq_true rfl) ⟨clS_of rfl, mW_cl _ _ _ _ _ _ _⟩ (fun K F X0 => ?_)
  show Go K 0 0 0 [(0, .ref 0), (1, .int d), (2, .int so), (3, .int n)] [] (mW X Y Z im S g h)
  refine g_aload_n (pc := 0) F dX4_row_0 rfl ?_
  refine g_iload_n (pc := 1) F dX4_row_1 rfl ?_
  refine i_readV (pc := 2) F (c_shelfNone X Y Z im S g h _ hd) mi_X4_shelfOrNull kv_X4_40 rfl rfl dX4_row_2 (by decide) (by decide) rfl (Nat.le_of_ble_eq_true rfl) (by decide) (by decide) ?_
  refine g_astoreN (pc := 5) F dX4_row_5 (by decide) ?_
  refine g_aloadN (pc := 7) F dX4_row_7 rfl ?_
  refine g_ifnullN (pc := 9) F dX4_row_9 (tgt := 27) rfl ?_
  refine g_iconst (pc := 27) F dX4_row_27 (v := (-1 : Int32)) (by decide) ?_
  exact g_iret (pc := 28) F X0 dX4_row_28 (Nat.le_of_ble_eq_true rfl) (Nat.le_of_ble_eq_true rfl) rfl ⟨congrArg (fun z => some (Value.int z)) (if_neg (fun z => hd z.1)).symm, Y, S, g, h, rfl, (congrArg (RS S) (if_neg (fun z => hd z.1))).mpr hS⟩

set_option maxRecDepth 100000 in
set_option maxHeartbeats 800000 in
theorem c_row_in (b : Int32) (X Y Z : DX) (im : Int32) (S : Nat → SX) (g h : Nat → Int32) (r : Nat → Int32) (hR : Rel b X r) (hI : Iv r) (h4 : r 4 = nI 0) (T : TX) (hS : RS S T) (so n : Int32) (d : Int32) (j : Nat) (hd : d = nI j) (hj : j < 8) : Ctr yX4_row cX4_row 5 (some .int) 7 0 0 [.ref 0, .int d, .int so, .int n] (mW X Y Z im S g h) (SttS (.int (A_row d so n)) X Z im (T_row T d so n)) := by
  subst hd
  refine Ctr.of rfl (Nat.le_of_ble_eq_true rfl) ⟨clS_of rfl, mW_cl _ _ _ _ _ _ _⟩ (fun K F X0 => ?_)
  show Go K 0 0 0 [(0, .ref 0), (1, .int (nI j)), (2, .int so), (3, .int n)] [] (mW X Y Z im S g h)
  refine g_aload_n (pc := 0) F dX4_row_0 rfl ?_
  refine g_iload_n (pc := 1) F dX4_row_1 rfl ?_
  refine i_readV (pc := 2) F (c_shelfSome X Y Z im S g h _ j rfl hj) mi_X4_shelfOrNull kv_X4_40 rfl rfl dX4_row_2 (by decide) (by decide) rfl (Nat.le_of_ble_eq_true rfl) (by decide) (by decide) ?_
  refine g_astore (pc := 5) F dX4_row_5 (by decide) ?_
  refine g_aload (pc := 7) F dX4_row_7 rfl ?_
  refine g_ifnull (pc := 9) F dX4_row_9 ?_
  refine g_iload_n (pc := 12) F dX4_row_12 rfl ?_
  refine g_iconst (pc := 13) F dX4_row_13 (v := nI 0) rfl ?_
  refine g_iconst (pc := 14) F dX4_row_14 (v := nI 2) rfl ?_
  refine h_readS (pc := 15) F (c_isWithin _ _ _) mi_X4_isWithin ks_X4_129 dX4_row_15 [] rfl (by decide) (by decide) rfl rfl (Nat.le_of_ble_eq_true rfl) trivial (by decide) (by decide) ?_
  refine g_ifeq_d (pc := 18) F dX4_row_18 (tgt := 27) rfl (fun c_18 => ?_) (fun c_18 => ?_)
  · refine g_iconst (pc := 27) F dX4_row_27 (v := (-1 : Int32)) (by decide) ?_
    exact g_iret (pc := 28) F X0 dX4_row_28 (Nat.le_of_ble_eq_true rfl) (Nat.le_of_ble_eq_true rfl) rfl (by first | exact ⟨congrArg (fun z => some (Value.int z)) (if_neg (fun z => c_18 z.2.1)).symm, Y, S, g, h, rfl, (congrArg (RS S) (if_neg (fun z => c_18 z.2.1))).mpr hS⟩ | exact ⟨congrArg (fun z => some (Value.int z)) (if_neg (fun z => c_24 z.2.2)).symm, Y, S, g, h, rfl, (congrArg (RS S) (if_neg (fun z => c_24 z.2.2))).mpr hS⟩ | fail)
  · refine g_iload_n (pc := 21) F dX4_row_21 rfl ?_
    refine g_bipush (pc := 22) F dX4_row_22 (v := nI 100) rfl ?_
    refine g_ic_le (pc := 24) F dX4_row_24 (tgt := 29) rfl (fun c_24 => ?_) (fun c_24 => ?_)
    · refine g_iload_n (pc := 29) F dX4_row_29 rfl ?_
      refine g_if_ge (pc := 30) F dX4_row_30 (tgt := 36) rfl (fun c_30 => ?_) (fun c_30 => ?_)
      · refine g_aload (pc := 36) F dX4_row_36 rfl ?_
        refine g_iload_n (pc := 38) F dX4_row_38 rfl ?_
        refine g_iload_n (pc := 39) F dX4_row_39 rfl ?_
        refine h_callV (pc := 40) F (c_holdRow (S j) so n) mi_X2_holdRow kv_X4_252 rfl rfl dX4_row_40 [28 + 2 * j, 28 + 2 * j + 1] (mW_sub hj) (by decide) (by decide) (mW_nd hj) rfl (Nat.le_of_ble_eq_true rfl) (by decide) (by decide) ?_
        rintro _ _ ⟨rfl, rfl⟩ -
        rw [mW_place hj]
        refine g_iconst (pc := 43) F dX4_row_43 (v := nI 0) rfl ?_
        exact g_iret (pc := 44) F X0 dX4_row_44 (Nat.le_of_ble_eq_true rfl) (Nat.le_of_ble_eq_true rfl) rfl ⟨congrArg (fun z => some (Value.int z)) ((if_pos ⟨sh_in hj, c_18, c_24⟩).trans (if_neg (Int32.not_lt.mpr c_30))).symm, Y, _, g, h, rfl, (congrArg (RS _) (T_row_y hj ⟨sh_in hj, c_18, c_24⟩ (Int32.not_lt.mpr c_30))).mpr (RS_row hS hj rfl (row_ex (Int32.not_lt.mpr c_30) c_24))⟩
      · refine g_bipush (pc := 33) F dX4_row_33 (v := (-14 : Int32)) (by decide) ?_
        exact g_iret (pc := 35) F X0 dX4_row_35 (Nat.le_of_ble_eq_true rfl) (Nat.le_of_ble_eq_true rfl) rfl ⟨congrArg (fun z => some (Value.int z)) ((if_pos ⟨sh_in hj, c_18, c_24⟩).trans (if_pos (Int32.not_le.mp c_30))).symm, Y, S, g, h, rfl, (congrArg (RS S) ((if_pos ⟨sh_in hj, c_18, c_24⟩).trans (if_pos (Int32.not_le.mp c_30)))).mpr hS⟩
    · refine g_iconst (pc := 27) F dX4_row_27 (v := (-1 : Int32)) (by decide) ?_
      exact g_iret (pc := 28) F X0 dX4_row_28 (Nat.le_of_ble_eq_true rfl) (Nat.le_of_ble_eq_true rfl) rfl (by first | exact ⟨congrArg (fun z => some (Value.int z)) (if_neg (fun z => c_18 z.2.1)).symm, Y, S, g, h, rfl, (congrArg (RS S) (if_neg (fun z => c_18 z.2.1))).mpr hS⟩ | exact ⟨congrArg (fun z => some (Value.int z)) (if_neg (fun z => c_24 z.2.2)).symm, Y, S, g, h, rfl, (congrArg (RS S) (if_neg (fun z => c_24 z.2.2))).mpr hS⟩ | fail)

theorem c_row (b : Int32) (X Y Z : DX) (im : Int32) (S : Nat → SX) (g h : Nat → Int32) (r : Nat → Int32) (hR : Rel b X r) (hI : Iv r) (h4 : r 4 = nI 0) (T : TX) (hS : RS S T) (so n : Int32) (d : Int32) : Ctr yX4_row cX4_row 5 (some .int) 7 0 0 [.ref 0, .int d, .int so, .int n] (mW X Y Z im S g h) (SttS (.int (A_row d so n)) X Z im (T_row T d so n)) := by
  by_cases hd : shP d
  · obtain ⟨j, hj, e⟩ := sh_ex hd
    exact c_row_in b X Y Z im S g h r hR hI h4 T hS so n d j e hj
  · exact c_row_no b X Y Z im S g h r hR hI h4 T hS so n d hd

set_option maxRecDepth 100000 in
set_option maxHeartbeats 800000 in
theorem m_row (s m ig ws : Nat → Int32) (hg : Int32) (T : TX) (V : VX) (hI : Iv s) (d so n : Int32) : Ctr yX5_row cX5_row 5 (some .int) 7 0 0 [.ref 0, .int d, .int so, .int n] (rW s m ig ws hg T V) (SttR (.int (A_row d so n)) s ig hg (T_row T d so n)) := by
  refine Ctr.of rfl (Nat.le_of_ble_eq_true rfl) ⟨clS_of rfl, clH_of rfl⟩ (fun K F X0 => ?_)
  show Go K 0 0 0 [(0, .ref 0), (1, .int d), (2, .int so), (3, .int n)] [] (rW s m ig ws hg T V)
  refine g_iload_n (pc := 0) F dX5_row_0 rfl ?_
  refine h_readS (pc := 1) F (c_mShelf _) mi_X5_isShelf ks_X5_218 dX5_row_1 [] rfl (by decide) (by decide) rfl rfl (Nat.le_of_ble_eq_true rfl) trivial (by decide) (by decide) ?_
  refine g_ifeq_d (pc := 4) F dX5_row_4 (tgt := 22) rfl (fun c_4 => ?_) (fun c_4 => ?_)
  · refine g_iconst (pc := 22) F dX5_row_22 (v := (-1 : Int32)) (by decide) ?_
    exact g_iret (pc := 23) F X0 dX5_row_23 (Nat.le_of_ble_eq_true rfl) (Nat.le_of_ble_eq_true rfl) rfl (by first
      | exact ⟨congrArg (fun z => some (Value.int z)) (if_neg (fun z => c_4 z.1)).symm, m, ws, V, (congrArg (fun z => rW s m ig ws hg z V) (if_neg (fun z => c_4 z.1))).symm⟩
      | exact ⟨congrArg (fun z => some (Value.int z)) (if_neg (fun z => c_13 z.2.1)).symm, m, ws, V, (congrArg (fun z => rW s m ig ws hg z V) (if_neg (fun z => c_13 z.2.1))).symm⟩
      | exact ⟨congrArg (fun z => some (Value.int z)) (if_neg (fun z => c_19 z.2.2)).symm, m, ws, V, (congrArg (fun z => rW s m ig ws hg z V) (if_neg (fun z => c_19 z.2.2))).symm⟩
      | fail)
  · refine g_iload_n (pc := 7) F dX5_row_7 rfl ?_
    refine g_iconst (pc := 8) F dX5_row_8 (v := nI 0) rfl ?_
    refine g_iconst (pc := 9) F dX5_row_9 (v := nI 2) rfl ?_
    refine h_readS (pc := 10) F (c_isIn _ _ _) mi_X5_isIn ks_X5_43 dX5_row_10 [] rfl (by decide) (by decide) rfl rfl (Nat.le_of_ble_eq_true rfl) trivial (by decide) (by decide) ?_
    refine g_ifeq_d (pc := 13) F dX5_row_13 (tgt := 22) rfl (fun c_13 => ?_) (fun c_13 => ?_)
    · refine g_iconst (pc := 22) F dX5_row_22 (v := (-1 : Int32)) (by decide) ?_
      exact g_iret (pc := 23) F X0 dX5_row_23 (Nat.le_of_ble_eq_true rfl) (Nat.le_of_ble_eq_true rfl) rfl (by first
      | exact ⟨congrArg (fun z => some (Value.int z)) (if_neg (fun z => c_4 z.1)).symm, m, ws, V, (congrArg (fun z => rW s m ig ws hg z V) (if_neg (fun z => c_4 z.1))).symm⟩
      | exact ⟨congrArg (fun z => some (Value.int z)) (if_neg (fun z => c_13 z.2.1)).symm, m, ws, V, (congrArg (fun z => rW s m ig ws hg z V) (if_neg (fun z => c_13 z.2.1))).symm⟩
      | exact ⟨congrArg (fun z => some (Value.int z)) (if_neg (fun z => c_19 z.2.2)).symm, m, ws, V, (congrArg (fun z => rW s m ig ws hg z V) (if_neg (fun z => c_19 z.2.2))).symm⟩
      | fail)
    · refine g_iload_n (pc := 16) F dX5_row_16 rfl ?_
      refine g_bipush (pc := 17) F dX5_row_17 (v := nI 100) rfl ?_
      refine g_ic_le (pc := 19) F dX5_row_19 (tgt := 24) rfl (fun c_19 => ?_) (fun c_19 => ?_)
      · refine g_iload_n (pc := 24) F dX5_row_24 rfl ?_
        refine g_if_ge (pc := 25) F dX5_row_25 (tgt := 31) rfl (fun c_25 => ?_) (fun c_25 => ?_)
        · obtain ⟨j, hj, rfl⟩ := sh_ex c_4
          refine g_aload_n (pc := 31) F dX5_row_31 rfl ?_
          refine g_getf (pc := 32) F fl_X5_25 dX5_row_32 rfl rfl ?_
          refine g_iload_n (pc := 35) F dX5_row_35 rfl ?_
          refine g_iconst (pc := 36) F dX5_row_36 (v := nI 2) rfl ?_
          refine g_iast2 (pc := 37) F dX5_row_37 rfl rfl (by first | omega | (simp only [ix]; omega)) (by decide) ?_
          refine g_aload_n (pc := 38) F dX5_row_38 rfl ?_
          refine g_getf (pc := 39) F fl_X5_34 dX5_row_39 rfl rfl ?_
          refine g_iload_n (pc := 42) F dX5_row_42 rfl ?_
          refine g_iload_n (pc := 43) F dX5_row_43 rfl ?_
          refine g_iast2 (pc := 44) F dX5_row_44 rfl rfl (by first | omega | (simp only [ix]; omega)) (by decide) ?_
          refine g_aload_n (pc := 45) F dX5_row_45 rfl ?_
          refine g_getf (pc := 46) F fl_X5_37 dX5_row_46 rfl rfl ?_
          refine g_iload_n (pc := 49) F dX5_row_49 rfl ?_
          refine g_iload_n (pc := 50) F dX5_row_50 rfl ?_
          refine g_iast2 (pc := 51) F dX5_row_51 rfl rfl (by first | omega | (simp only [ix]; omega)) (by decide) ?_
          refine g_iconst (pc := 52) F dX5_row_52 (v := nI 0) rfl ?_
          refine g_istore (pc := 53) F dX5_row_53 (by decide) ?_
          have L : ∀ i, i ≤ 100 → Go K 0 0 55 [(0, .ref 0), (1, .int (nI j)), (2, .int so), (3, .int n), (4, .int (nI (i)))] [] (rW s m ig ws hg (upd T.1 j (nI 2), T.2.1, T.2.2.1, upd T.2.2.2.1 j so, upd T.2.2.2.2.1 j n, clrE T.2.2.2.2.2 j i) V) := loop_up (P := fun i => Go K 0 0 55 [(0, .ref 0), (1, .int (nI j)), (2, .int so), (3, .int n), (4, .int (nI (i)))] [] (rW s m ig ws hg (upd T.1 j (nI 2), T.2.1, T.2.2.1, upd T.2.2.2.1 j so, upd T.2.2.2.2.1 j n, clrE T.2.2.2.2.2 j i) V)) (fun i hi ih => by
            refine g_iload (pc := 55) F dX5_row_55 rfl ?_
            refine g_bipush (pc := 57) F dX5_row_57 (v := nI 100) rfl ?_
            refine g_icN_ge (pc := 59) F dX5_row_59 (tgt := 81) rfl rfl rfl (by omega) (by omega) (fun c_59 => ?_) (fun c_59 => ?_)
            · obtain rfl : i = 100 := by omega
              refine g_iconst (pc := 81) F dX5_row_81 (v := nI 0) rfl ?_
              exact g_iret (pc := 82) F X0 dX5_row_82 (Nat.le_of_ble_eq_true rfl) (Nat.le_of_ble_eq_true rfl) rfl ⟨congrArg (fun z => some (Value.int z)) ((if_pos ⟨c_4, c_13, c_19⟩).trans (if_neg (Int32.not_lt.mpr c_25))).symm, m, ws, V, (congrArg (fun z => rW s m ig ws hg z V) (T_row_y hj ⟨c_4, c_13, c_19⟩ (Int32.not_lt.mpr c_25))).symm⟩
            · refine g_aload_n (pc := 62) F dX5_row_62 rfl ?_
              refine g_getf (pc := 63) F fl_X5_40 dX5_row_63 rfl rfl ?_
              refine g_bipush (pc := 66) F dX5_row_66 (v := nI 100) rfl ?_
              refine g_iload_n (pc := 68) F dX5_row_68 rfl ?_
              refine g_imulN (pc := 69) F dX5_row_69 ?_
              refine g_iload (pc := 70) F dX5_row_70 rfl ?_
              refine g_iaddN (pc := 72) F dX5_row_72 ?_
              refine g_iconst (pc := 73) F dX5_row_73 (v := nI 0) rfl ?_
              refine g_iast2 (pc := 74) F dX5_row_74 rfl rfl (by first | omega | (simp only [ix]; omega)) (by decide) ?_
              refine g_iincN (pc := 75) F dX5_row_75 rfl (by decide) ?_
              refine g_goto (pc := 78) F dX5_row_78 (tgt := 55) rfl ?_
              exact (congrArg (fun z => Go K 0 0 55 [(0, .ref 0), (1, .int (nI j)), (2, .int so), (3, .int n), (4, .int (nI (i + 1)))] [] (rW s m ig ws hg (upd T.1 j (nI 2), T.2.1, T.2.2.1, upd T.2.2.2.1 j so, upd T.2.2.2.2.1 j n, z) V)) ((clrE_s T.2.2.2.2.2 j i).symm)).mp (ih c_59))
          exact (congrArg (fun z => Go K 0 0 55 [(0, .ref 0), (1, .int (nI j)), (2, .int so), (3, .int n), (4, .int (nI (0)))] [] (rW s m ig ws hg (upd T.1 j (nI 2), T.2.1, T.2.2.1, upd T.2.2.2.1 j so, upd T.2.2.2.2.1 j n, z) V)) (clrE_0 T.2.2.2.2.2 j)).mp (L 0 (Nat.zero_le _))
        · refine g_bipush (pc := 28) F dX5_row_28 (v := (-14 : Int32)) (by decide) ?_
          exact g_iret (pc := 30) F X0 dX5_row_30 (Nat.le_of_ble_eq_true rfl) (Nat.le_of_ble_eq_true rfl) rfl ⟨congrArg (fun z => some (Value.int z)) ((if_pos ⟨c_4, c_13, c_19⟩).trans (if_pos (Int32.not_le.mp c_25))).symm, m, ws, V, (congrArg (fun z => rW s m ig ws hg z V) ((if_pos ⟨c_4, c_13, c_19⟩).trans (if_pos (Int32.not_le.mp c_25)))).symm⟩
      · refine g_iconst (pc := 22) F dX5_row_22 (v := (-1 : Int32)) (by decide) ?_
        exact g_iret (pc := 23) F X0 dX5_row_23 (Nat.le_of_ble_eq_true rfl) (Nat.le_of_ble_eq_true rfl) rfl (by first
      | exact ⟨congrArg (fun z => some (Value.int z)) (if_neg (fun z => c_4 z.1)).symm, m, ws, V, (congrArg (fun z => rW s m ig ws hg z V) (if_neg (fun z => c_4 z.1))).symm⟩
      | exact ⟨congrArg (fun z => some (Value.int z)) (if_neg (fun z => c_13 z.2.1)).symm, m, ws, V, (congrArg (fun z => rW s m ig ws hg z V) (if_neg (fun z => c_13 z.2.1))).symm⟩
      | exact ⟨congrArg (fun z => some (Value.int z)) (if_neg (fun z => c_19 z.2.2)).symm, m, ws, V, (congrArg (fun z => rW s m ig ws hg z V) (if_neg (fun z => c_19 z.2.2))).symm⟩
      | fail)

