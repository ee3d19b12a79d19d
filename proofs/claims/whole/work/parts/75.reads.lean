/-! the text, the reference's way -/
/-- bytes as the reference sees them -/
def byH (T : TX) (j n i : Nat) : Int32 := if i < n then tE T (100 * j + i) &&& nI 255 else (-1)
def byOK (T : TX) (j : Nat) : Prop := ∀ i, i < 100 → -128 ≤ (tE T (100 * j + i)).toInt ∧ (tE T (100 * j + i)).toInt ≤ 127
theorem HB {T : TX} {j n : Nat} (h : byOK T j) (hn : n ≤ 100) (i : Nat) : byH T j n i = byT T j n i ∨ ((byT T j n i).toInt < 0 ∧ 128 ≤ (byH T j n i).toInt) := by
  unfold byH byT
  by_cases q : i < n
  · rw [if_pos q, if_pos q]
    obtain ⟨h1, h2⟩ := h i (by omega)
    have e : (tE T (100 * j + i) &&& nI 255).toInt = (tE T (100 * j + i)).toInt % 2 ^ 8 := Jvm.Kit.i32_mask _ (nI 255) (k := 8) (by decide) (by decide)
    by_cases z : 0 ≤ (tE T (100 * j + i)).toInt
    · refine Or.inl ((ti_eq _ _).mpr ?_)
      rw [e]; omega
    · refine Or.inr ⟨by omega, ?_⟩
      rw [e]; omega
  · rw [if_neg q, if_neg q]
    exact Or.inl rfl
section Hb
variable {T : TX} {j n : Nat}
theorem H_c (h : byOK T j) (hn : n ≤ 100) {i c : Nat} (hc : c < 128) : byH T j n i = nI c ↔ byT T j n i = nI c := by
  rcases HB h hn i with e | ⟨e1, e2⟩
  · rw [e]
  · have hk := ti_n c (by omega)
    constructor
    · intro z; rw [z, hk] at e2; omega
    · intro z; rw [z, hk] at e1; omega
theorem H_d (h : byOK T j) (hn : n ≤ 100) {i : Nat} : dgP (byH T j n i) ↔ dgP (byT T j n i) := by
  rcases HB h hn i with e | ⟨e1, e2⟩
  · rw [e]
  · constructor
    · intro z
      have := (ti_le _ _).mp z.2
      rw [ti_n 57 (by decide)] at this
      omega
    · intro z
      have := (ti_le _ _).mp z.1
      rw [ti_n 48 (by decide)] at this
      omega
theorem H_e (h : byOK T j) (hn : n ≤ 100) {i : Nat} (hd : dgP (byT T j n i)) : byH T j n i = nI (dgt (byT T j n i) + 48) := by
  rcases HB h hn i with e | ⟨e1, e2⟩
  · rw [e]; exact (dgt_y hd).1
  · have := (ti_le _ _).mp hd.1
    rw [ti_n 48 (by decide)] at this
    omega
end Hb
theorem ld_y {B : Nat → Int32} {p k : Nat} (h : dgP (B p)) : ldN B p (k + 1) = ldN B (p + 1) k + 1 := if_pos h
theorem ld_n {B : Nat → Int32} {p k : Nat} (h : ¬ dgP (B p)) : ldN B p (k + 1) = 0 := if_neg h
theorem nm_s {B : Nat → Int32} {p k : Nat} : numN B p (k + 1) = 10 * numN B p k + dgt (B (p + k)) := rfl
set_option maxRecDepth 100000 in
set_option maxHeartbeats 800000 in
theorem m_here (s m ig ws : Nat → Int32) (hg : Int32) (T : TX) (sd th : Int32) (j n9 : Nat) (hj : j < 8) (hn9 : n9 ≤ 100) (nu : Nat → Int32) (p : Nat) (hp : p < 1000) : RCtr yX5_here cX5_here 1 (some .int) 0 [.ref 0] (rW s m ig ws hg T (nu, nI (p), nI (100 * j), nI n9, sd, th)) (.int (byH T j n9 p)) := by
  refine Ctr.of rfl (Nat.le_of_ble_eq_true rfl) ⟨clS_of rfl, clH_of rfl⟩ (fun K F X0 => ?_)
  show Go K 0 0 0 [(0, .ref 0)] [] (rW s m ig ws hg T (nu, nI (p), nI (100 * j), nI n9, sd, th))
  refine g_aload_n (pc := 0) F dX5_here_0 rfl ?_
  refine g_getf (pc := 1) F fl_X5_99 dX5_here_1 rfl rfl ?_
  refine g_aload_n (pc := 4) F dX5_here_4 rfl ?_
  refine g_getf (pc := 5) F fl_X5_103 dX5_here_5 rfl rfl ?_
  refine g_icN_ge (pc := 8) F dX5_here_8 (tgt := 32) rfl rfl rfl (by omega) (by omega) (fun c_8 => ?_) (fun c_8 => ?_)
  · refine g_iconst (pc := 32) F dX5_here_32 (v := (-1 : Int32)) (by decide) ?_
    exact g_iret (pc := 33) F X0 dX5_here_33 (Nat.le_of_ble_eq_true rfl) (Nat.le_of_ble_eq_true rfl) rfl ⟨congrArg (fun z => some (Value.int z)) (by first | exact (if_pos c_8).symm | exact (if_neg (Nat.not_lt.mpr c_8)).symm | fail), rfl⟩
  · refine g_aload_n (pc := 11) F dX5_here_11 rfl ?_
    refine g_getf (pc := 12) F fl_X5_40 dX5_here_12 rfl rfl ?_
    refine g_aload_n (pc := 15) F dX5_here_15 rfl ?_
    refine g_getf (pc := 16) F fl_X5_106 dX5_here_16 rfl rfl ?_
    refine g_aload_n (pc := 19) F dX5_here_19 rfl ?_
    refine g_getf (pc := 20) F fl_X5_99 dX5_here_20 rfl rfl ?_
    refine g_iaddN (pc := 23) F dX5_here_23 ?_
    refine g_iald2 (pc := 24) F dX5_here_24 rfl rfl (by omega) (by decide) ?_
    refine g_sipush (pc := 25) F dX5_here_25 (v := nI 255) rfl ?_
    refine g_iand (pc := 28) F dX5_here_28 ?_
    refine g_goto (pc := 29) F dX5_here_29 (tgt := 33) rfl ?_
    exact g_iret (pc := 33) F X0 dX5_here_33 (Nat.le_of_ble_eq_true rfl) (Nat.le_of_ble_eq_true rfl) rfl ⟨congrArg (fun z => some (Value.int z)) (by first | exact (if_pos c_8).symm | exact (if_neg (Nat.not_lt.mpr c_8)).symm | fail), rfl⟩

set_option maxRecDepth 100000 in
set_option maxHeartbeats 800000 in
theorem m_number (s m ig ws : Nat → Int32) (hg : Int32) (T : TX) (sd th : Int32) (j n9 : Nat) (hj : j < 8) (hn9 : n9 ≤ 100) (nu : Nat → Int32) (p : Nat) (hb : byOK T j) (B : Nat → Int32) (hB : B = byT T j n9) (k c : Nat) (hk : k < 4) (hc : c ≤ 4) (hp : p < 900) : Ctr yX5_readsNumber cX5_readsNumber 4 (some .boolean) 1 0 0 [.ref 0, .int (nI k), .int (nI c)] (rW s m ig ws hg T (nu, nI (p), nI (100 * j), nI n9, sd, th)) (fun v hh => v = some (.int (bI (decide (ldN B p c = c)))) ∧ ∃ nq, hh = rW s m ig ws hg T (nq, nI (p + ldN B p c), nI (100 * j), nI n9, sd, th) ∧ (ldN B p c = c → nq k = nI (numN B p c) ∧ ∀ q, q ≠ k → nq q = nu q)) := by
  have hhd : ∀ i, dgP (byH T j n9 i) ↔ dgP (B i) := fun i => by rw [hB]; exact H_d hb hn9
  have hhe : ∀ i, dgP (B i) → byH T j n9 i = nI (dgt (B i) + 48) := fun i hd => by rw [hB] at hd ⊢; exact H_e hb hn9 hd
  have hhc : ∀ i c, c < 128 → (byH T j n9 i = nI c ↔ B i = nI c) := fun i c hc => by rw [hB]; exact H_c hb hn9 hc
  refine Ctr.of rfl (Nat.le_of_ble_eq_true rfl) ⟨clS_of rfl, clH_of rfl⟩ (fun K F X0 => ?_)
  show Go K 0 0 0 [(0, .ref 0), (1, .int (nI k)), (2, .int (nI c))] [] (rW s m ig ws hg T (nu, nI (p), nI (100 * j), nI n9, sd, th))
  refine g_aload_n (pc := 0) F dX5_readsNumber_0 rfl ?_
  refine g_getf (pc := 1) F fl_X5_22 dX5_readsNumber_1 rfl rfl ?_
  refine g_iload_n (pc := 4) F dX5_readsNumber_4 rfl ?_
  refine g_iconst (pc := 5) F dX5_readsNumber_5 (v := nI 0) rfl ?_
  refine g_iast2 (pc := 6) F dX5_readsNumber_6 rfl rfl (by omega) (by decide) ?_
  refine g_iconst (pc := 7) F dX5_readsNumber_7 (v := nI 0) rfl ?_
  refine g_istore_n (pc := 8) F dX5_readsNumber_8 (by decide) ?_
  have L : ∀ i, i ≤ c → ldN B p c = i + ldN B (p + i) (c - i) → ∀ nq, nq k = nI (numN B p i) → (∀ q, q ≠ k → nq q = nu q) → Go K 0 0 9 [(0, .ref 0), (1, .int (nI k)), (2, .int (nI c)), (3, .int (nI i))] [] (rW s m ig ws hg T (nq, nI (p + i), nI (100 * j), nI n9, sd, th)) := loop_up (P := fun i => ldN B p c = i + ldN B (p + i) (c - i) → ∀ nq, nq k = nI (numN B p i) → (∀ q, q ≠ k → nq q = nu q) → Go K 0 0 9 [(0, .ref 0), (1, .int (nI k)), (2, .int (nI c)), (3, .int (nI i))] [] (rW s m ig ws hg T (nq, nI (p + i), nI (100 * j), nI n9, sd, th))) (fun i hi ih => by
    intro he nq h2 h3
    refine g_iload_n (pc := 9) F dX5_readsNumber_9 rfl ?_
    refine g_iload_n (pc := 10) F dX5_readsNumber_10 rfl ?_
    refine g_icN_ge (pc := 11) F dX5_readsNumber_11 (tgt := 69) rfl rfl rfl (by omega) (by omega) (fun c_11 => ?_) (fun c_11 => ?_)
    · have hic : i = c := by omega
      refine g_iconst (pc := 69) F dX5_readsNumber_69 (v := nI 1) rfl ?_
      exact g_zret (pc := 70) F X0 dX5_readsNumber_70 (by first | exact bI_nar _ | rfl) (Nat.le_of_ble_eq_true rfl) (Nat.le_of_ble_eq_true rfl) rfl ⟨congrArg (fun z => some (Value.int z)) (bI_y (by rw [he, hic, Nat.sub_self]; rfl)), nq, by rw [show p + ldN B p c = p + i by rw [he, hic, Nat.sub_self]; rfl], fun z => ⟨by rw [h2, hic], h3⟩⟩
    · refine g_aload_n (pc := 14) F dX5_readsNumber_14 rfl ?_
      refine i_readV (pc := 15) F (m_here s m ig ws hg T sd th j n9 hj hn9 nq (p + i) (by omega)) mi_X5_here kv_X5_109 rfl rfl dX5_readsNumber_15 (by decide) (by decide) rfl (Nat.le_of_ble_eq_true rfl) (by decide) (by decide) ?_
      refine g_bipush (pc := 18) F dX5_readsNumber_18 (v := nI 48) rfl ?_
      refine g_bipush (pc := 20) F dX5_readsNumber_20 (v := nI 57) rfl ?_
      refine h_readS (pc := 22) F (c_isIn _ _ _) mi_X5_isIn ks_X5_43 dX5_readsNumber_22 [] rfl (by decide) (by decide) rfl rfl (Nat.le_of_ble_eq_true rfl) trivial (by decide) (by decide) ?_
      refine g_ifne_d (pc := 25) F dX5_readsNumber_25 (tgt := 30) rfl (fun c_25 => ?_) (fun c_25 => ?_)
      · have hd25 := (hhd _).mp c_25
        have hq9 := hhe _ hd25
        refine g_aload_n (pc := 30) F dX5_readsNumber_30 rfl ?_
        refine g_getf (pc := 31) F fl_X5_22 dX5_readsNumber_31 rfl rfl ?_
        refine g_iload_n (pc := 34) F dX5_readsNumber_34 rfl ?_
        refine g_bipush (pc := 35) F dX5_readsNumber_35 (v := nI 10) rfl ?_
        refine g_aload_n (pc := 37) F dX5_readsNumber_37 rfl ?_
        refine g_getf (pc := 38) F fl_X5_22 dX5_readsNumber_38 rfl rfl ?_
        refine g_iload_n (pc := 41) F dX5_readsNumber_41 rfl ?_
        refine g_iald2 (pc := 42) F dX5_readsNumber_42 rfl rfl (by omega) (by decide) ?_
        rw [h2]
        refine g_imulN (pc := 43) F dX5_readsNumber_43 ?_
        refine g_aload_n (pc := 44) F dX5_readsNumber_44 rfl ?_
        refine i_readV (pc := 45) F (m_here s m ig ws hg T sd th j n9 hj hn9 nq (p + i) (by omega)) mi_X5_here kv_X5_109 rfl rfl dX5_readsNumber_45 (by decide) (by decide) rfl (Nat.le_of_ble_eq_true rfl) (by decide) (by decide) ?_
        rw [hq9]
        refine g_iaddN (pc := 48) F dX5_readsNumber_48 ?_
        refine g_bipush (pc := 49) F dX5_readsNumber_49 (v := nI 48) rfl ?_
        refine g_isubN (pc := 51) F dX5_readsNumber_51 (by omega) ?_
        refine g_iast2 (pc := 52) F dX5_readsNumber_52 rfl rfl (by omega) (by decide) ?_
        refine g_aload_n (pc := 53) F dX5_readsNumber_53 rfl ?_
        refine g_dup (pc := 54) F dX5_readsNumber_54 rfl ?_
        refine g_getf (pc := 55) F fl_X5_99 dX5_readsNumber_55 rfl rfl ?_
        refine g_iconst (pc := 58) F dX5_readsNumber_58 (v := nI 1) rfl ?_
        refine g_iaddN (pc := 59) F dX5_readsNumber_59 ?_
        refine g_putf (pc := 60) F fl_X5_99 dX5_readsNumber_60 rfl (Nat.le_of_ble_eq_true rfl) ?_
        refine g_iincN (pc := 63) F dX5_readsNumber_63 rfl (by decide) ?_
        refine g_goto (pc := 66) F dX5_readsNumber_66 (tgt := 9) rfl ?_
        refine ih c_11 ?_ _ ?_ (fun q hq => ?_)
        · rw [he, (show c - i = (c - (i + 1)) + 1 by omega), ld_y hd25]
          show i + (ldN B (p + i + 1) (c - (i + 1)) + 1) = i + 1 + ldN B (p + (i + 1)) (c - (i + 1))
          rw [show p + (i + 1) = p + i + 1 by omega]
          omega
        · rw [upd_at, nm_s]
          exact congrArg nI (by omega)
        · rw [upd_ne _ hq]
          exact h3 q hq
      · have hd25 : ¬ dgP (B (p + i)) := fun z => c_25 ((hhd _).mpr z)
        refine g_iconst (pc := 28) F dX5_readsNumber_28 (v := nI 0) rfl ?_
        exact g_zret (pc := 29) F X0 dX5_readsNumber_29 (by first | exact bI_nar _ | rfl) (Nat.le_of_ble_eq_true rfl) (Nat.le_of_ble_eq_true rfl) rfl ⟨congrArg (fun z => some (Value.int z)) (bI_n (fun z => by rw [he, (show c - i = (c - (i + 1)) + 1 by omega), ld_n hd25] at z; omega)), nq, by rw [show p + ldN B p c = p + i by rw [he, (show c - i = (c - (i + 1)) + 1 by omega), ld_n hd25]; rfl], fun z => by rw [he, (show c - i = (c - (i + 1)) + 1 by omega), ld_n hd25] at z; omega⟩)
  exact L 0 (Nat.zero_le _) (by rw [Nat.zero_add]; rfl) _ (upd_at _ _ _) (fun q hq => upd_ne _ hq)

