/-! the text, the reference's way -/
/-- bytes as the reference sees them -/
def byH (T : TX) (j n i : Nat) : Int32 := if i < n then tE T (100 * j + i) &&& nI 255 else (-1)
def byOK (T : TX) (j : Nat) : Prop := ∀ i, i < 100 → -128 ≤ (tE T (100 * j + i)).toInt ∧ (tE T (100 * j + i)).toInt ≤ 127
theorem HB {T : TX} {j n : Nat} (h : byOK T j) (hn : n ≤ 100) (i : Nat) : byH T j n i = byT T j n i ∨ ((byT T j n i).toInt < 0 ∧ 128 ≤ (byH T j n i).toInt) := by
  unfold byH byT
  by_cases q : i < n
  · rw [if_pos q, if_pos q]
    obtain ⟨h1, h2⟩ := h i (by omega)
    have e : (tE T (100 * j + i) &&& nI 255).toInt = (tE T (100 * j + i)).toInt % 2 ^ 8 := Jvm.Kit.i32_mask _ (nI 255) (k := 8) (by decide) (by decide)
    by_cases z : 0 ≤ (tE T (100 * j + i)).toInt
    · refine Or.inl ((ti_eq _ _).mpr ?_)
      rw [e]; omega
    · refine Or.inr ⟨by omega, ?_⟩
      rw [e]; omega
  · rw [if_neg q, if_neg q]
    exact Or.inl rfl
section Hb
variable {T : TX} {j n : Nat}
theorem H_c (h : byOK T j) (hn : n ≤ 100) {i c : Nat} (hc : c < 128) : byH T j n i = nI c ↔ byT T j n i = nI c := by
  rcases HB h hn i with e | ⟨e1, e2⟩
  · rw [e]
  · have hk := ti_n c (by omega)
    constructor
    · intro z; rw [z, hk] at e2; omega
    · intro z; rw [z, hk] at e1; omega
theorem H_d (h : byOK T j) (hn : n ≤ 100) {i : Nat} : dgP (byH T j n i) ↔ dgP (byT T j n i) := by
  rcases HB h hn i with e | ⟨e1, e2⟩
  · rw [e]
  · constructor
    · intro z
      have := (ti_le _ _).mp z.2
      rw [ti_n 57 (by decide)] at this
      omega
    · intro z
      have := (ti_le _ _).mp z.1
      rw [ti_n 48 (by decide)] at this
      omega
theorem H_e (h : byOK T j) (hn : n ≤ 100) {i : Nat} (hd : dgP (byT T j n i)) : byH T j n i = nI (dgt (byT T j n i) + 48) := by
  rcases HB h hn i with e | ⟨e1, e2⟩
  · rw [e]; exact (dgt_y hd).1
  · have := (ti_le _ _).mp hd.1
    rw [ti_n 48 (by decide)] at this
    omega
end Hb
theorem ld_y {B : Nat → Int32} {p k : Nat} (h : dgP (B p)) : ldN B p (k + 1) = ldN B (p + 1) k + 1 := if_pos h
theorem ld_n {B : Nat → Int32} {p k : Nat} (h : ¬ dgP (B p)) : ldN B p (k + 1) = 0 := if_neg h
theorem nm_s {B : Nat → Int32} {p k : Nat} : numN B p (k + 1) = 10 * numN B p k + dgt (B (p + k)) := rfl
set_option maxRecDepth 100000 in
set_option maxHeartbeats 800000 in
theorem m_here (s m ig ws : Nat → Int32) (hg : Int32) (T : TX) (sd th : Int32) (j n9 : Nat) (hj : j < 8) (hn9 : n9 ≤ 100) (nu : Nat → Int32) (p : Nat) (hp : p < 1000) : RCtr yX5_here cX5_here 1 (some .int) 0 [.ref 0] (rW s m ig ws hg T (nu, nI (p), nI (100 * j), nI n9, sd, th)) (.int (byH T j n9 p)) := by
  refine Ctr.of rfl (Nat.le_of_ble_eq_true rfl) ⟨clS_of rfl, clH_of rfl⟩ (fun K F X0 => ?_)
  show Go K 0 0 0 [(0, .ref 0)] [] (rW s m ig ws hg T (nu, nI (p), nI (100 * j), nI n9, sd, th))
  refine g_aload_n (pc := 0) F dX5_here_0 rfl ?_
  refine g_getf (pc := 1) F fl_X5_99 dX5_here_1 rfl rfl ?_
  refine g_aload_n (pc := 4) F dX5_here_4 rfl ?_
  refine g_getf (pc := 5) F fl_X5_103 dX5_here_5 rfl rfl ?_
  refine g_icN_ge (pc := 8) F dX5_here_8 (tgt := 32) rfl rfl rfl (by omega) (by omega) (fun c_8 => ?_) (fun c_8 => ?_)
  · refine g_iconst (pc := 32) F dX5_here_32 (v := (-1 : Int32)) (by decide) ?_
    exact g_iret (pc := 33) F X0 dX5_here_33 (Nat.le_of_ble_eq_true rfl) (Nat.le_of_ble_eq_true rfl) rfl ⟨congrArg (fun z => some (Value.int z)) (by first | exact (if_pos c_8).symm | exact (if_neg (Nat.not_lt.mpr c_8)).symm | fail), rfl⟩
  · refine g_aload_n (pc := 11) F dX5_here_11 rfl ?_
    refine g_getf (pc := 12) F fl_X5_40 dX5_here_12 rfl rfl ?_
    refine g_aload_n (pc := 15) F dX5_here_15 rfl ?_
    refine g_getf (pc := 16) F fl_X5_106 dX5_here_16 rfl rfl ?_
    refine g_aload_n (pc := 19) F dX5_here_19 rfl ?_
    refine g_getf (pc := 20) F fl_X5_99 dX5_here_20 rfl rfl ?_
    refine g_iaddN (pc := 23) F dX5_here_23 ?_
    refine g_iald2 (pc := 24) F dX5_here_24 rfl rfl (by omega) (by decide) ?_
    refine g_sipush (pc := 25) F dX5_here_25 (v := nI 255) rfl ?_
    refine g_iand (pc := 28) F dX5_here_28 ?_
    refine g_goto (pc := 29) F dX5_here_29 (tgt := 33) rfl ?_
    exact g_iret (pc := 33) F X0 dX5_here_33 (Nat.le_of_ble_eq_true rfl) (Nat.le_of_ble_eq_true rfl) rfl ⟨congrArg (fun z => some (Value.int z)) (by first | exact (if_pos c_8).symm | exact (if_neg (Nat.not_lt.mpr c_8)).symm | fail), rfl⟩

set_option maxRecDepth 100000 in
set_option maxHeartbeats 800000 in
theorem m_number (s m ig ws : Nat → Int32) (hg : Int32) (T : TX) (sd th : Int32) (j n9 : Nat) (hj : j < 8) (hn9 : n9 ≤ 100) (nu : Nat → Int32) (p : Nat) (hb : byOK T j) (B : Nat → Int32) (hB : B = byT T j n9) (k c : Nat) (hk : k < 4) (hc : c ≤ 4) (hp : p < 900) : Ctr yX5_readsNumber cX5_readsNumber 4 (some .boolean) 1 0 0 [.ref 0, .int (nI k), .int (nI c)] (rW s m ig ws hg T (nu, nI (p), nI (100 * j), nI n9, sd, th)) (fun v hh => v = some (.int (bI (decide (ldN B p c = c)))) ∧ ∃ nq, hh = rW s m ig ws hg T (nq, nI (p + ldN B p c), nI (100 * j), nI n9, sd, th) ∧ (ldN B p c = c → nq k = nI (numN B p c) ∧ ∀ q, q ≠ k → nq q = nu q)) := by
  have hhd : ∀ i, dgP (byH T j n9 i) ↔ dgP (B i) := fun i => by rw [hB]; exact H_d hb hn9
  have hhe : ∀ i, dgP (B i) → byH T j n9 i = nI (dgt (B i) + 48) := fun i hd => by rw [hB] at hd ⊢; exact H_e hb hn9 hd
  have hhc : ∀ i c, c < 128 → (byH T j n9 i = nI c ↔ B i = nI c) := fun i c hc => by rw [hB]; exact H_c hb hn9 hc
  refine Ctr.of rfl (Nat.le_of_ble_eq_true rfl) ⟨clS_of rfl, clH_of rfl⟩ (fun K F X0 => ?_)
  show Go K 0 0 0 [(0, .ref 0), (1, .int (nI k)), (2, .int (nI c))] [] (rW s m ig ws hg T (nu, nI (p), nI (100 * j), nI n9, sd, th))
  refine g_aload_n (pc := 0) F dX5_readsNumber_0 rfl ?_
  refine g_getf (pc := 1) F fl_X5_22 dX5_readsNumber_1 rfl rfl ?_
  refine g_iload_n (pc := 4) F dX5_readsNumber_4 rfl ?_
  refine g_iconst (pc := 5) F dX5_readsNumber_5 (v := nI 0) rfl ?_
  refine g_iast2 (pc := 6) F dX5_readsNumber_6 rfl rfl (by omega) (by decide) ?_
  refine g_iconst (pc := 7) F dX5_readsNumber_7 (v := nI 0) rfl ?_
  refine g_istore_n (pc := 8) F dX5_readsNumber_8 (by decide) ?_
  have L : ∀ i, i ≤ c → ldN B p c = i + ldN B (p + i) (c - i) → ∀ nq, nq k = nI (numN B p i) → (∀ q, q ≠ k → nq q = nu q) → Go K 0 0 9 [(0, .ref 0), (1, .int (nI k)), (2, .int (nI c)), (3, .int (nI i))] [] (rW s m ig ws hg T (nq, nI (p + i), nI (100 * j), nI n9, sd, th)) := loop_up (P := fun i => ldN B p c = i + ldN B (p + i) (c - i) → ∀ nq, nq k = nI (numN B p i) → (∀ q, q ≠ k → nq q = nu q) → Go K 0 0 9 [(0, .ref 0), (1, .int (nI k)), (2, .int (nI c)), (3, .int (nI i))] [] (rW s m ig ws hg T (nq, nI (p + i), nI (100 * j), nI n9, sd, th))) (fun i hi ih => by
    intro he nq h2 h3
    refine g_iload_n (pc := 9) F dX5_readsNumber_9 rfl ?_
    refine g_iload_n (pc := 10) F dX5_readsNumber_10 rfl ?_
    refine g_icN_ge (pc := 11) F dX5_readsNumber_11 (tgt := 69) rfl rfl rfl (by omega) (by omega) (fun c_11 => ?_) (fun c_11 => ?_)
    · have hic : i = c := by omega
      refine g_iconst (pc := 69) F dX5_readsNumber_69 (v := nI 1) rfl ?_
      exact g_zret (pc := 70) F X0 dX5_readsNumber_70 (by first | exact bI_nar _ | rfl) (Nat.le_of_ble_eq_true rfl) (Nat.le_of_ble_eq_true rfl) rfl ⟨congrArg (fun z => some (Value.int z)) (bI_y (by rw [he, hic, Nat.sub_self]; rfl)), nq, by rw [show p + ldN B p c = p + i by rw [he, hic, Nat.sub_self]; rfl], fun z => ⟨by rw [h2, hic], h3⟩⟩
    · refine g_aload_n (pc := 14) F dX5_readsNumber_14 rfl ?_
      refine i_readV (pc := 15) F (m_here s m ig ws hg T sd th j n9 hj hn9 nq (p + i) (by omega)) mi_X5_here kv_X5_109 rfl rfl dX5_readsNumber_15 (by decide) (by decide) rfl (Nat.le_of_ble_eq_true rfl) (by decide) (by decide) ?_
      refine g_bipush (pc := 18) F dX5_readsNumber_18 (v := nI 48) rfl ?_
      refine g_bipush (pc := 20) F dX5_readsNumber_20 (v := nI 57) rfl ?_
      refine h_readS (pc := 22) F (c_isIn _ _ _) mi_X5_isIn ks_X5_43 dX5_readsNumber_22 [] rfl (by decide) (by decide) rfl rfl (Nat.le_of_ble_eq_true rfl) trivial (by decide) (by decide) ?_
      refine g_ifne_d (pc := 25) F dX5_readsNumber_25 (tgt := 30) rfl (fun c_25 => ?_) (fun c_25 => ?_)
      · have hd25 := (hhd _).mp c_25
        have hq9 := hhe _ hd25
        refine g_aload_n (pc := 30) F dX5_readsNumber_30 rfl ?_
        refine g_getf (pc := 31) F fl_X5_22 dX5_readsNumber_31 rfl rfl ?_
        refine g_iload_n (pc := 34) F dX5_readsNumber_34 rfl ?_
        refine g_bipush (pc := 35) F dX5_readsNumber_35 (v := nI 10) rfl ?_
        refine g_aload_n (pc := 37) F dX5_readsNumber_37 rfl ?_
        refine g_getf (pc := 38) F fl_X5_22 dX5_readsNumber_38 rfl rfl ?_
        refine g_iload_n (pc := 41) F dX5_readsNumber_41 rfl ?_
        refine g_iald2 (pc := 42) F dX5_readsNumber_42 rfl rfl (by omega) (by decide) ?_
        rw [show ((nq, nI (p + i), nI (100 * j), nI n9, sd, th) : VX).1 k = nI (numN B p i) from h2]
        refine g_imulN (pc := 43) F dX5_readsNumber_43 ?_
        refine g_aload_n (pc := 44) F dX5_readsNumber_44 rfl ?_
        refine i_readV (pc := 45) F (m_here s m ig ws hg T sd th j n9 hj hn9 nq (p + i) (by omega)) mi_X5_here kv_X5_109 rfl rfl dX5_readsNumber_45 (by decide) (by decide) rfl (Nat.le_of_ble_eq_true rfl) (by decide) (by decide) ?_
        rw [hq9]
        refine g_iaddN (pc := 48) F dX5_readsNumber_48 ?_
        refine g_bipush (pc := 49) F dX5_readsNumber_49 (v := nI 48) rfl ?_
        refine g_isubN (pc := 51) F dX5_readsNumber_51 (by omega) ?_
        refine g_iast2 (pc := 52) F dX5_readsNumber_52 rfl rfl (by omega) (by decide) ?_
        refine g_aload_n (pc := 53) F dX5_readsNumber_53 rfl ?_
        refine g_dup (pc := 54) F dX5_readsNumber_54 rfl ?_
        refine g_getf (pc := 55) F fl_X5_99 dX5_readsNumber_55 rfl rfl ?_
        refine g_iconst (pc := 58) F dX5_readsNumber_58 (v := nI 1) rfl ?_
        refine g_iaddN (pc := 59) F dX5_readsNumber_59 ?_
        refine g_putf (pc := 60) F fl_X5_99 dX5_readsNumber_60 rfl (Nat.le_of_ble_eq_true rfl) ?_
        refine g_iincN (pc := 63) F dX5_readsNumber_63 rfl (by decide) ?_
        refine g_goto (pc := 66) F dX5_readsNumber_66 (tgt := 9) rfl ?_
        refine ih c_11 ?_ (upd nq k (nI (10 * numN B p i + (dgt (B (p + i)) + 48) - 48))) ?_ (fun q hq => ?_)
        · rw [he, (show c - i = (c - (i + 1)) + 1 by omega), ld_y hd25]
          show i + (ldN B (p + i + 1) (c - (i + 1)) + 1) = i + 1 + ldN B (p + (i + 1)) (c - (i + 1))
          rw [show p + (i + 1) = p + i + 1 by omega]
          omega
        · rw [upd_at, nm_s]
          exact congrArg nI (by omega)
        · rw [upd_ne _ hq]
          exact h3 q hq
      · have hd25 : ¬ dgP (B (p + i)) := fun z => c_25 ((hhd _).mpr z)
        refine g_iconst (pc := 28) F dX5_readsNumber_28 (v := nI 0) rfl ?_
        exact g_zret (pc := 29) F X0 dX5_readsNumber_29 (by first | exact bI_nar _ | rfl) (Nat.le_of_ble_eq_true rfl) (Nat.le_of_ble_eq_true rfl) rfl ⟨congrArg (fun z => some (Value.int z)) (bI_n (fun z => by rw [he, (show c - i = (c - (i + 1)) + 1 by omega), ld_n hd25] at z; omega)), nq, by rw [show p + ldN B p c = p + i by rw [he, (show c - i = (c - (i + 1)) + 1 by omega), ld_n hd25]; rfl], fun z => by rw [he, (show c - i = (c - (i + 1)) + 1 by omega), ld_n hd25] at z; omega⟩)
  exact L 0 (Nat.zero_le _) (by rw [Nat.zero_add]; rfl) _ (upd_at _ _ _) (fun q hq => upd_ne _ hq)

/-- what the numbers are behind a good statement -/
def NU (B : Nat → Int32) (p : Nat) (nq : Nat → Int32) : Prop :=
  (B p = nI 99 → nq 0 = nI (dgt (B (p + 1))) ∧ nq 1 = nI (dgt (B (p + 2))) ∧ nq 2 = nI (dgt (B (p + 3))) ∧ nq 3 = nI (dgt (B (p + 4)))) ∧
  (B p = nI 103 → nq 0 = nI (dgt (B (p + 1))) ∧ nq 1 = nI (numN B (p + 2) 3)) ∧
  ((B p = nI 101 ∨ B p = nI 114 ∨ B p = nI 119) → nq 0 = nI (dgt (B (p + 1)))) ∧
  (B p = nI 100 → nq 0 = nI (numN B (p + 1) 2))
theorem nm_1 {B : Nat → Int32} {p : Nat} : numN B p 1 = dgt (B p) := by
  show 10 * 0 + dgt (B (p + 0)) = dgt (B p)
  rw [Nat.mul_zero, Nat.zero_add, Nat.add_zero]
theorem ld_1 {B : Nat → Int32} {p : Nat} : ldN B p 1 = 1 ↔ dgP (B p) := by
  by_cases h : dgP (B p)
  · rw [ld_y h]; exact ⟨fun _ => h, fun _ => rfl⟩
  · rw [ld_n h]; exact ⟨fun z => absurd z (by decide), fun z => absurd z h⟩
/-- the place and the numbers behind reading a statement at p -/
def RP (B : Nat → Int32) (p : Nat) (Wd : (Nat → Int32) → Nat → Hp) : Option Value → Hp → Prop := fun v hh => v = some (.int (bI (decide (okS B p)))) ∧ ∃ nq p2, hh = Wd nq p2 ∧ (okS B p → p2 = p + lenS B p ∧ NU B p nq) ∧ (¬ okS B p → p2 = badS B p)
theorem rp_n {B : Nat → Int32} {p p2 : Nat} {Wd : (Nat → Int32) → Nat → Hp} {nq : Nat → Int32} (h : ¬ okS B p) (h2 : p2 = badS B p) : RP B p Wd (some (.int (nI 0))) (Wd nq p2) := ⟨congrArg (fun z => some (Value.int z)) (bI_n h), nq, p2, rfl, fun z => absurd z h, fun _ => h2⟩
theorem rp_y {B : Nat → Int32} {p p2 : Nat} {Wd : (Nat → Int32) → Nat → Hp} {nq : Nat → Int32} (h : okS B p) (h2 : p2 = p + lenS B p) (h3 : NU B p nq) : RP B p Wd (some (.int (nI 1))) (Wd nq p2) := ⟨congrArg (fun z => some (Value.int z)) (bI_y h), nq, p2, rfl, fun _ => ⟨h2, h3⟩, fun z => absurd h z⟩
theorem kL_c {x : Int32} (h : x = nI 99 ∨ x = nI 103) : kL x = 4 := if_pos h
theorem kL_d {x : Int32} (h : x = nI 100) : kL x = 2 := by rw [h]; decide
theorem kL_w {x : Int32} (h : x = nI 101 ∨ x = nI 114 ∨ x = nI 119) : kL x = 1 := by rcases h with h | h | h <;> rw [h] <;> decide
theorem kL_f {x : Int32} (h : x = nI 102) : kL x = 0 := by rw [h]; decide
theorem rd_bad {B : Nat → Int32} {p k t : Nat} (hl : letP (B p)) (hk : kL (B p) = k) (hld : ldN B (p + 1) k = t) (h : t ≠ k) : ¬ okS B p ∧ badS B p = p + 1 + t := by
  rw [← hk] at hld h
  exact ⟨fun z => h (hld.symm.trans z.2.1), bad_d hl (by rw [hld])⟩
set_option maxRecDepth 100000 in
set_option maxHeartbeats 4000000 in
theorem m_statement (s m ig ws : Nat → Int32) (hg : Int32) (T : TX) (sd th : Int32) (j n9 : Nat) (hj : j < 8) (hn9 : n9 ≤ 100) (nu : Nat → Int32) (p : Nat) (hb : byOK T j) (B : Nat → Int32) (hB : B = byT T j n9) (hp : p < 800) : Ctr yX5_readsStatement cX5_readsStatement 3 (some .boolean) 2 0 0 [.ref 0] (rW s m ig ws hg T (nu, nI (p), nI (100 * j), nI n9, sd, th)) (RP B p (fun nq p2 => rW s m ig ws hg T (nq, nI (p2), nI (100 * j), nI n9, sd, th))) := by
  have hhd : ∀ i, dgP (byH T j n9 i) ↔ dgP (B i) := fun i => by rw [hB]; exact H_d hb hn9
  have hhe : ∀ i, dgP (B i) → byH T j n9 i = nI (dgt (B i) + 48) := fun i hd => by rw [hB] at hd ⊢; exact H_e hb hn9 hd
  have hhc : ∀ i c, c < 128 → (byH T j n9 i = nI c ↔ B i = nI c) := fun i c hc => by rw [hB]; exact H_c hb hn9 hc
  refine Ctr.of rfl (Nat.le_of_ble_eq_true rfl) ⟨clS_of rfl, clH_of rfl⟩ (fun K F X0 => ?_)
  show Go K 0 0 0 [(0, .ref 0)] [] (rW s m ig ws hg T (nu, nI (p), nI (100 * j), nI n9, sd, th))
  refine g_aload_n (pc := 0) F dX5_readsStatement_0 rfl ?_
  refine i_readV (pc := 1) F (m_here s m ig ws hg T sd th j n9 hj hn9 nu p (by omega)) mi_X5_here kv_X5_109 rfl rfl dX5_readsStatement_1 (by decide) (by decide) rfl (Nat.le_of_ble_eq_true rfl) (by decide) (by decide) ?_
  refine g_istore_n (pc := 4) F dX5_readsStatement_4 (by decide) ?_
  refine g_aload_n (pc := 5) F dX5_readsStatement_5 rfl ?_
  refine g_dup (pc := 6) F dX5_readsStatement_6 rfl ?_
  refine g_getf (pc := 7) F fl_X5_99 dX5_readsStatement_7 rfl rfl ?_
  refine g_iconst (pc := 10) F dX5_readsStatement_10 (v := nI 1) rfl ?_
  refine g_iaddN (pc := 11) F dX5_readsStatement_11 ?_
  refine g_putf (pc := 12) F fl_X5_99 dX5_readsStatement_12 rfl (Nat.le_of_ble_eq_true rfl) ?_
  refine g_iload_n (pc := 15) F dX5_readsStatement_15 rfl ?_
  rcases sw_cases 99 119 (byH T j n9 p) (by decide) with ⟨j_16, j1_16, j2_16, hx_16⟩ | ho_16
  · rcases (show j_16 = 99 ∨ j_16 = 100 ∨ j_16 = 101 ∨ j_16 = 102 ∨ j_16 = 103 ∨ j_16 = 104 ∨ j_16 = 105 ∨ j_16 = 106 ∨ j_16 = 107 ∨ j_16 = 108 ∨ j_16 = 109 ∨ j_16 = 110 ∨ j_16 = 111 ∨ j_16 = 112 ∨ j_16 = 113 ∨ j_16 = 114 ∨ j_16 = 115 ∨ j_16 = 116 ∨ j_16 = 117 ∨ j_16 = 118 ∨ j_16 = 119 by omega) with rfl | rfl | rfl | rfl | rfl | rfl | rfl | rfl | rfl | rfl | rfl | rfl | rfl | rfl | rfl | rfl | rfl | rfl | rfl | rfl | rfl
    · refine g_tableIn2 (pc := 16) F dX5_readsStatement_16 hx_16 (by decide) (by decide) (tgt := 116) rfl rfl ?_
      have e := (hhc p 99 (by decide)).mp hx_16
      have hl : letP (B p) := Or.inl e
      have hk := kL_c (Or.inl e)
      refine g_aload_n (pc := 116) F dX5_readsStatement_116 rfl ?_
      refine g_iconst (pc := 117) F dX5_readsStatement_117 (v := nI 0) rfl ?_
      refine g_iconst (pc := 118) F dX5_readsStatement_118 (v := nI 1) rfl ?_
      refine i_callV (pc := 119) F (m_number s m ig ws hg T sd th j n9 hj hn9 nu (p + 1) hb B hB 0 1 (by decide) (by decide) (by omega)) mi_X5_readsNumber kv_X5_113 rfl rfl dX5_readsStatement_119 (by decide) (by decide) rfl (Nat.le_of_ble_eq_true rfl) (by decide) (by decide) ?_
      rintro _ _ ⟨rfl, nq1, rfl, hm1⟩ -
      refine g_ifeq_d (pc := 122) F dX5_readsStatement_122 (tgt := 156) rfl (fun c_122 => ?_) (fun c_122 => ?_)
      · have d1 : ¬ dgP (B (p + 1)) := fun z => c_122 (ld_1.mpr z)
        have hbad := rd_bad (t := 0) hl hk (by rw [ld_n d1]) (by decide)
        rw [show p + 1 + ldN B (p + 1) 1 = p + 1 + 0 by rw [ld_n d1]]
        refine g_iconst (pc := 156) F dX5_readsStatement_156 (v := nI 0) rfl ?_
        refine g_istore_n (pc := 157) F dX5_readsStatement_157 (by decide) ?_
        refine g_goto (pc := 158) F dX5_readsStatement_158 (tgt := 225) rfl ?_
        refine g_iload_n (pc := 225) F dX5_readsStatement_225 rfl ?_
        refine g_if_eq (pc := 226) F dX5_readsStatement_226 (tgt := 238) rfl (fun c_226 => ?_) (fun c_226 => absurd (by decide) c_226)
        refine g_iconst (pc := 238) F dX5_readsStatement_238 (v := nI 0) rfl ?_
        exact g_zret (pc := 239) F X0 dX5_readsStatement_239 (by first | exact bI_nar _ | rfl) (Nat.le_of_ble_eq_true rfl) (Nat.le_of_ble_eq_true rfl) rfl (rp_n (Wd := (fun nq p2 => rW s m ig ws hg T (nq, nI (p2), nI (100 * j), nI n9, sd, th))) hbad.1 hbad.2.symm)
      · have d1 : dgP (B (p + 1)) := ld_1.mp c_122
        rw [show p + 1 + ldN B (p + 1) 1 = p + 2 by rw [ld_1.mpr d1]]
        obtain ⟨hv1, ho1⟩ := hm1 (ld_1.mpr d1)
        rw [nm_1] at hv1
        refine g_aload_n (pc := 125) F dX5_readsStatement_125 rfl ?_
        refine g_iconst (pc := 126) F dX5_readsStatement_126 (v := nI 1) rfl ?_
        refine g_iconst (pc := 127) F dX5_readsStatement_127 (v := nI 1) rfl ?_
        refine i_callV (pc := 128) F (m_number s m ig ws hg T sd th j n9 hj hn9 nq1 (p + 2) hb B hB 1 1 (by decide) (by decide) (by omega)) mi_X5_readsNumber kv_X5_113 rfl rfl dX5_readsStatement_128 (by decide) (by decide) rfl (Nat.le_of_ble_eq_true rfl) (by decide) (by decide) ?_
        rintro _ _ ⟨rfl, nq2, rfl, hm2⟩ -
        refine g_ifeq_d (pc := 131) F dX5_readsStatement_131 (tgt := 156) rfl (fun c_131 => ?_) (fun c_131 => ?_)
        · have d2 : ¬ dgP (B (p + 2)) := fun z => c_131 (ld_1.mpr z)
          have hbad := rd_bad (t := 1) hl hk (by rw [ld_y d1, ld_n d2]) (by decide)
          rw [show p + 2 + ldN B (p + 2) 1 = p + 1 + 1 by rw [ld_n d2]]
          refine g_iconst (pc := 156) F dX5_readsStatement_156 (v := nI 0) rfl ?_
          refine g_istore_n (pc := 157) F dX5_readsStatement_157 (by decide) ?_
          refine g_goto (pc := 158) F dX5_readsStatement_158 (tgt := 225) rfl ?_
          refine g_iload_n (pc := 225) F dX5_readsStatement_225 rfl ?_
          refine g_if_eq (pc := 226) F dX5_readsStatement_226 (tgt := 238) rfl (fun c_226 => ?_) (fun c_226 => absurd (by decide) c_226)
          refine g_iconst (pc := 238) F dX5_readsStatement_238 (v := nI 0) rfl ?_
          exact g_zret (pc := 239) F X0 dX5_readsStatement_239 (by first | exact bI_nar _ | rfl) (Nat.le_of_ble_eq_true rfl) (Nat.le_of_ble_eq_true rfl) rfl (rp_n (Wd := (fun nq p2 => rW s m ig ws hg T (nq, nI (p2), nI (100 * j), nI n9, sd, th))) hbad.1 hbad.2.symm)
        · have d2 : dgP (B (p + 2)) := ld_1.mp c_131
          rw [show p + 2 + ldN B (p + 2) 1 = p + 3 by rw [ld_1.mpr d2]]
          obtain ⟨hv2, ho2⟩ := hm2 (ld_1.mpr d2)
          rw [nm_1] at hv2
          refine g_aload_n (pc := 134) F dX5_readsStatement_134 rfl ?_
          refine g_iconst (pc := 135) F dX5_readsStatement_135 (v := nI 2) rfl ?_
          refine g_iconst (pc := 136) F dX5_readsStatement_136 (v := nI 1) rfl ?_
          refine i_callV (pc := 137) F (m_number s m ig ws hg T sd th j n9 hj hn9 nq2 (p + 3) hb B hB 2 1 (by decide) (by decide) (by omega)) mi_X5_readsNumber kv_X5_113 rfl rfl dX5_readsStatement_137 (by decide) (by decide) rfl (Nat.le_of_ble_eq_true rfl) (by decide) (by decide) ?_
          rintro _ _ ⟨rfl, nq3, rfl, hm3⟩ -
          refine g_ifeq_d (pc := 140) F dX5_readsStatement_140 (tgt := 156) rfl (fun c_140 => ?_) (fun c_140 => ?_)
          · have d3 : ¬ dgP (B (p + 3)) := fun z => c_140 (ld_1.mpr z)
            have hbad := rd_bad (t := 2) hl hk (by rw [ld_y d1, ld_y d2, ld_n d3]) (by decide)
            rw [show p + 3 + ldN B (p + 3) 1 = p + 1 + 2 by rw [ld_n d3]]
            refine g_iconst (pc := 156) F dX5_readsStatement_156 (v := nI 0) rfl ?_
            refine g_istore_n (pc := 157) F dX5_readsStatement_157 (by decide) ?_
            refine g_goto (pc := 158) F dX5_readsStatement_158 (tgt := 225) rfl ?_
            refine g_iload_n (pc := 225) F dX5_readsStatement_225 rfl ?_
            refine g_if_eq (pc := 226) F dX5_readsStatement_226 (tgt := 238) rfl (fun c_226 => ?_) (fun c_226 => absurd (by decide) c_226)
            refine g_iconst (pc := 238) F dX5_readsStatement_238 (v := nI 0) rfl ?_
            exact g_zret (pc := 239) F X0 dX5_readsStatement_239 (by first | exact bI_nar _ | rfl) (Nat.le_of_ble_eq_true rfl) (Nat.le_of_ble_eq_true rfl) rfl (rp_n (Wd := (fun nq p2 => rW s m ig ws hg T (nq, nI (p2), nI (100 * j), nI n9, sd, th))) hbad.1 hbad.2.symm)
          · have d3 : dgP (B (p + 3)) := ld_1.mp c_140
            rw [show p + 3 + ldN B (p + 3) 1 = p + 4 by rw [ld_1.mpr d3]]
            obtain ⟨hv3, ho3⟩ := hm3 (ld_1.mpr d3)
            rw [nm_1] at hv3
            refine g_aload_n (pc := 143) F dX5_readsStatement_143 rfl ?_
            refine g_iconst (pc := 144) F dX5_readsStatement_144 (v := nI 3) rfl ?_
            refine g_iconst (pc := 145) F dX5_readsStatement_145 (v := nI 1) rfl ?_
            refine i_callV (pc := 146) F (m_number s m ig ws hg T sd th j n9 hj hn9 nq3 (p + 4) hb B hB 3 1 (by decide) (by decide) (by omega)) mi_X5_readsNumber kv_X5_113 rfl rfl dX5_readsStatement_146 (by decide) (by decide) rfl (Nat.le_of_ble_eq_true rfl) (by decide) (by decide) ?_
            rintro _ _ ⟨rfl, nq4, rfl, hm4⟩ -
            refine g_ifeq_d (pc := 149) F dX5_readsStatement_149 (tgt := 156) rfl (fun c_149 => ?_) (fun c_149 => ?_)
            · have d4 : ¬ dgP (B (p + 4)) := fun z => c_149 (ld_1.mpr z)
              have hbad := rd_bad (t := 3) hl hk (by rw [ld_y d1, ld_y d2, ld_y d3, ld_n d4]) (by decide)
              rw [show p + 4 + ldN B (p + 4) 1 = p + 1 + 3 by rw [ld_n d4]]
              refine g_iconst (pc := 156) F dX5_readsStatement_156 (v := nI 0) rfl ?_
              refine g_istore_n (pc := 157) F dX5_readsStatement_157 (by decide) ?_
              refine g_goto (pc := 158) F dX5_readsStatement_158 (tgt := 225) rfl ?_
              refine g_iload_n (pc := 225) F dX5_readsStatement_225 rfl ?_
              refine g_if_eq (pc := 226) F dX5_readsStatement_226 (tgt := 238) rfl (fun c_226 => ?_) (fun c_226 => absurd (by decide) c_226)
              refine g_iconst (pc := 238) F dX5_readsStatement_238 (v := nI 0) rfl ?_
              exact g_zret (pc := 239) F X0 dX5_readsStatement_239 (by first | exact bI_nar _ | rfl) (Nat.le_of_ble_eq_true rfl) (Nat.le_of_ble_eq_true rfl) rfl (rp_n (Wd := (fun nq p2 => rW s m ig ws hg T (nq, nI (p2), nI (100 * j), nI n9, sd, th))) hbad.1 hbad.2.symm)
            · have d4 : dgP (B (p + 4)) := ld_1.mp c_149
              rw [show p + 4 + ldN B (p + 4) 1 = p + 5 by rw [ld_1.mpr d4]]
              obtain ⟨hv4, ho4⟩ := hm4 (ld_1.mpr d4)
              rw [nm_1] at hv4
              have hld : ldN B (p + 1) (kL (B p)) = kL (B p) := by rw [hk, ld_y d1, ld_y d2, ld_y d3, ld_y d4]; rfl
              have hnu : NU B p nq4 := ⟨fun _ => ⟨(ho4 0 (by decide)).trans ((ho3 0 (by decide)).trans ((ho2 0 (by decide)).trans hv1)), (ho4 1 (by decide)).trans ((ho3 1 (by decide)).trans hv2), (ho4 2 (by decide)).trans hv3, hv4⟩, (fun z => absurd (e.symm.trans z) (by decide)), (fun z => by rcases z with z | z | z <;> exact absurd (e.symm.trans z) (by decide)), (fun z => absurd (e.symm.trans z) (by decide))⟩
              rw [show p + 5 = p + 1 + kL (B p) by rw [hk]]
              refine g_iconst (pc := 152) F dX5_readsStatement_152 (v := nI 1) rfl ?_
              refine g_goto (pc := 153) F dX5_readsStatement_153 (tgt := 157) rfl ?_
              refine g_istore_n (pc := 157) F dX5_readsStatement_157 (by decide) ?_
              refine g_goto (pc := 158) F dX5_readsStatement_158 (tgt := 225) rfl ?_
              refine g_iload_n (pc := 225) F dX5_readsStatement_225 rfl ?_
              refine g_if_eq (pc := 226) F dX5_readsStatement_226 (tgt := 238) rfl (fun c_226 => absurd c_226 (by decide)) (fun c_226 => ?_)
              refine g_aload_n (pc := 229) F dX5_readsStatement_229 rfl ?_
              refine i_readV (pc := 230) F (m_here s m ig ws hg T sd th j n9 hj hn9 _ (p + 1 + kL (B p)) (by have := kL_le (B p); omega)) mi_X5_here kv_X5_109 rfl rfl dX5_readsStatement_230 (by decide) (by decide) rfl (Nat.le_of_ble_eq_true rfl) (by decide) (by decide) ?_
              refine g_bipush (pc := 233) F dX5_readsStatement_233 (v := nI 59) rfl ?_
              refine g_ic_eq (pc := 235) F dX5_readsStatement_235 (tgt := 240) rfl (fun c_235 => ?_) (fun c_235 => ?_)
              · have hok : okS B p := ⟨hl, hld, (hhc _ 59 (by decide)).mp c_235⟩
                refine g_aload_n (pc := 240) F dX5_readsStatement_240 rfl ?_
                refine g_dup (pc := 241) F dX5_readsStatement_241 rfl ?_
                refine g_getf (pc := 242) F fl_X5_99 dX5_readsStatement_242 rfl rfl ?_
                refine g_iconst (pc := 245) F dX5_readsStatement_245 (v := nI 1) rfl ?_
                refine g_iaddN (pc := 246) F dX5_readsStatement_246 ?_
                refine g_putf (pc := 247) F fl_X5_99 dX5_readsStatement_247 rfl (Nat.le_of_ble_eq_true rfl) ?_
                refine g_iconst (pc := 250) F dX5_readsStatement_250 (v := nI 1) rfl ?_
                exact g_zret (pc := 251) F X0 dX5_readsStatement_251 (by first | exact bI_nar _ | rfl) (Nat.le_of_ble_eq_true rfl) (Nat.le_of_ble_eq_true rfl) rfl (rp_y (Wd := (fun nq p2 => rW s m ig ws hg T (nq, nI (p2), nI (100 * j), nI n9, sd, th))) hok (by show p + 1 + kL (B p) + 1 = p + (kL (B p) + 2); omega) hnu)
              · have hbad : ¬ okS B p ∧ badS B p = p + 1 + kL (B p) := ⟨fun z => c_235 ((hhc _ 59 (by decide)).mpr z.2.2), bad_d hl (by rw [hld])⟩
                refine g_iconst (pc := 238) F dX5_readsStatement_238 (v := nI 0) rfl ?_
                exact g_zret (pc := 239) F X0 dX5_readsStatement_239 (by first | exact bI_nar _ | rfl) (Nat.le_of_ble_eq_true rfl) (Nat.le_of_ble_eq_true rfl) rfl (rp_n (Wd := (fun nq p2 => rW s m ig ws hg T (nq, nI (p2), nI (100 * j), nI n9, sd, th))) hbad.1 hbad.2.symm)
    · refine g_tableIn2 (pc := 16) F dX5_readsStatement_16 hx_16 (by decide) (by decide) (tgt := 198) rfl rfl ?_
      have e := (hhc p 100 (by decide)).mp hx_16
      have hl : letP (B p) := Or.inr (Or.inr (Or.inl e))
      have hk := kL_d e
      refine g_aload_n (pc := 198) F dX5_readsStatement_198 rfl ?_
      refine g_iconst (pc := 199) F dX5_readsStatement_199 (v := nI 0) rfl ?_
      refine g_iconst (pc := 200) F dX5_readsStatement_200 (v := nI 2) rfl ?_
      refine i_callV (pc := 201) F (m_number s m ig ws hg T sd th j n9 hj hn9 nu (p + 1) hb B hB 0 2 (by decide) (by decide) (by omega)) mi_X5_readsNumber kv_X5_113 rfl rfl dX5_readsStatement_201 (by decide) (by decide) rfl (Nat.le_of_ble_eq_true rfl) (by decide) (by decide) ?_
      rintro _ _ ⟨rfl, nq1, rfl, hm1⟩ -
      by_cases h1 : ldN B (p + 1) 2 = 2
      · rw [show bI (decide (ldN B (p + 1) 2 = 2)) = nI 1 from (bI_y h1).symm]
        obtain ⟨hv1, ho1⟩ := hm1 h1
        have hld : ldN B (p + 1) (kL (B p)) = kL (B p) := by rw [hk]; exact h1
        have hnu : NU B p nq1 := ⟨(fun z => absurd (e.symm.trans z) (by decide)), (fun z => absurd (e.symm.trans z) (by decide)), (fun z => by rcases z with z | z | z <;> exact absurd (e.symm.trans z) (by decide)), fun _ => hv1⟩
        rw [show p + 1 + ldN B (p + 1) 2 = p + 1 + kL (B p) by rw [hk, h1]]
        refine g_istore_n (pc := 204) F dX5_readsStatement_204 (by decide) ?_
        refine g_goto (pc := 205) F dX5_readsStatement_205 (tgt := 225) rfl ?_
        refine g_iload_n (pc := 225) F dX5_readsStatement_225 rfl ?_
        refine g_if_eq (pc := 226) F dX5_readsStatement_226 (tgt := 238) rfl (fun c_226 => absurd c_226 (by decide)) (fun c_226 => ?_)
        refine g_aload_n (pc := 229) F dX5_readsStatement_229 rfl ?_
        refine i_readV (pc := 230) F (m_here s m ig ws hg T sd th j n9 hj hn9 _ (p + 1 + kL (B p)) (by have := kL_le (B p); omega)) mi_X5_here kv_X5_109 rfl rfl dX5_readsStatement_230 (by decide) (by decide) rfl (Nat.le_of_ble_eq_true rfl) (by decide) (by decide) ?_
        refine g_bipush (pc := 233) F dX5_readsStatement_233 (v := nI 59) rfl ?_
        refine g_ic_eq (pc := 235) F dX5_readsStatement_235 (tgt := 240) rfl (fun c_235 => ?_) (fun c_235 => ?_)
        · have hok : okS B p := ⟨hl, hld, (hhc _ 59 (by decide)).mp c_235⟩
          refine g_aload_n (pc := 240) F dX5_readsStatement_240 rfl ?_
          refine g_dup (pc := 241) F dX5_readsStatement_241 rfl ?_
          refine g_getf (pc := 242) F fl_X5_99 dX5_readsStatement_242 rfl rfl ?_
          refine g_iconst (pc := 245) F dX5_readsStatement_245 (v := nI 1) rfl ?_
          refine g_iaddN (pc := 246) F dX5_readsStatement_246 ?_
          refine g_putf (pc := 247) F fl_X5_99 dX5_readsStatement_247 rfl (Nat.le_of_ble_eq_true rfl) ?_
          refine g_iconst (pc := 250) F dX5_readsStatement_250 (v := nI 1) rfl ?_
          exact g_zret (pc := 251) F X0 dX5_readsStatement_251 (by first | exact bI_nar _ | rfl) (Nat.le_of_ble_eq_true rfl) (Nat.le_of_ble_eq_true rfl) rfl (rp_y (Wd := (fun nq p2 => rW s m ig ws hg T (nq, nI (p2), nI (100 * j), nI n9, sd, th))) hok (by show p + 1 + kL (B p) + 1 = p + (kL (B p) + 2); omega) hnu)
        · have hbad : ¬ okS B p ∧ badS B p = p + 1 + kL (B p) := ⟨fun z => c_235 ((hhc _ 59 (by decide)).mpr z.2.2), bad_d hl (by rw [hld])⟩
          refine g_iconst (pc := 238) F dX5_readsStatement_238 (v := nI 0) rfl ?_
          exact g_zret (pc := 239) F X0 dX5_readsStatement_239 (by first | exact bI_nar _ | rfl) (Nat.le_of_ble_eq_true rfl) (Nat.le_of_ble_eq_true rfl) rfl (rp_n (Wd := (fun nq p2 => rW s m ig ws hg T (nq, nI (p2), nI (100 * j), nI n9, sd, th))) hbad.1 hbad.2.symm)
      · rw [show bI (decide (ldN B (p + 1) 2 = 2)) = nI 0 from (bI_n h1).symm]
        have hbad := rd_bad (t := ldN B (p + 1) 2) hl hk rfl h1
        refine g_istore_n (pc := 204) F dX5_readsStatement_204 (by decide) ?_
        refine g_goto (pc := 205) F dX5_readsStatement_205 (tgt := 225) rfl ?_
        refine g_iload_n (pc := 225) F dX5_readsStatement_225 rfl ?_
        refine g_if_eq (pc := 226) F dX5_readsStatement_226 (tgt := 238) rfl (fun c_226 => ?_) (fun c_226 => absurd (by decide) c_226)
        refine g_iconst (pc := 238) F dX5_readsStatement_238 (v := nI 0) rfl ?_
        exact g_zret (pc := 239) F X0 dX5_readsStatement_239 (by first | exact bI_nar _ | rfl) (Nat.le_of_ble_eq_true rfl) (Nat.le_of_ble_eq_true rfl) rfl (rp_n (Wd := (fun nq p2 => rW s m ig ws hg T (nq, nI (p2), nI (100 * j), nI n9, sd, th))) hbad.1 hbad.2.symm)
    · refine g_tableIn2 (pc := 16) F dX5_readsStatement_16 hx_16 (by decide) (by decide) (tgt := 188) rfl rfl ?_
      have e : B p = nI 101 ∨ B p = nI 114 ∨ B p = nI 119 := by
        first
          | exact Or.inl ((hhc p 101 (by decide)).mp hx_16)
          | exact Or.inr (Or.inl ((hhc p 114 (by decide)).mp hx_16))
          | exact Or.inr (Or.inr ((hhc p 119 (by decide)).mp hx_16))
      have hl : letP (B p) := by
        rcases e with e | e | e
        · exact Or.inr (Or.inr (Or.inr (Or.inl e)))
        · exact Or.inr (Or.inr (Or.inr (Or.inr (Or.inl e))))
        · exact Or.inr (Or.inr (Or.inr (Or.inr (Or.inr (Or.inl e)))))
      have hk := kL_w e
      refine g_aload_n (pc := 188) F dX5_readsStatement_188 rfl ?_
      refine g_iconst (pc := 189) F dX5_readsStatement_189 (v := nI 0) rfl ?_
      refine g_iconst (pc := 190) F dX5_readsStatement_190 (v := nI 1) rfl ?_
      refine i_callV (pc := 191) F (m_number s m ig ws hg T sd th j n9 hj hn9 nu (p + 1) hb B hB 0 1 (by decide) (by decide) (by omega)) mi_X5_readsNumber kv_X5_113 rfl rfl dX5_readsStatement_191 (by decide) (by decide) rfl (Nat.le_of_ble_eq_true rfl) (by decide) (by decide) ?_
      rintro _ _ ⟨rfl, nq1, rfl, hm1⟩ -
      by_cases h1 : ldN B (p + 1) 1 = 1
      · rw [show bI (decide (ldN B (p + 1) 1 = 1)) = nI 1 from (bI_y h1).symm]
        obtain ⟨hv1, ho1⟩ := hm1 h1
        have hld : ldN B (p + 1) (kL (B p)) = kL (B p) := by rw [hk]; exact h1
        have hnu : NU B p nq1 := ⟨(fun z => by rcases e with e | e | e <;> exact absurd (e.symm.trans z) (by decide)), (fun z => by rcases e with e | e | e <;> exact absurd (e.symm.trans z) (by decide)), fun _ => by rw [nm_1] at hv1; exact hv1, (fun z => by rcases e with e | e | e <;> exact absurd (e.symm.trans z) (by decide))⟩
        rw [show p + 1 + ldN B (p + 1) 1 = p + 1 + kL (B p) by rw [hk, h1]]
        refine g_istore_n (pc := 194) F dX5_readsStatement_194 (by decide) ?_
        refine g_goto (pc := 195) F dX5_readsStatement_195 (tgt := 225) rfl ?_
        refine g_iload_n (pc := 225) F dX5_readsStatement_225 rfl ?_
        refine g_if_eq (pc := 226) F dX5_readsStatement_226 (tgt := 238) rfl (fun c_226 => absurd c_226 (by decide)) (fun c_226 => ?_)
        refine g_aload_n (pc := 229) F dX5_readsStatement_229 rfl ?_
        refine i_readV (pc := 230) F (m_here s m ig ws hg T sd th j n9 hj hn9 _ (p + 1 + kL (B p)) (by have := kL_le (B p); omega)) mi_X5_here kv_X5_109 rfl rfl dX5_readsStatement_230 (by decide) (by decide) rfl (Nat.le_of_ble_eq_true rfl) (by decide) (by decide) ?_
        refine g_bipush (pc := 233) F dX5_readsStatement_233 (v := nI 59) rfl ?_
        refine g_ic_eq (pc := 235) F dX5_readsStatement_235 (tgt := 240) rfl (fun c_235 => ?_) (fun c_235 => ?_)
        · have hok : okS B p := ⟨hl, hld, (hhc _ 59 (by decide)).mp c_235⟩
          refine g_aload_n (pc := 240) F dX5_readsStatement_240 rfl ?_
          refine g_dup (pc := 241) F dX5_readsStatement_241 rfl ?_
          refine g_getf (pc := 242) F fl_X5_99 dX5_readsStatement_242 rfl rfl ?_
          refine g_iconst (pc := 245) F dX5_readsStatement_245 (v := nI 1) rfl ?_
          refine g_iaddN (pc := 246) F dX5_readsStatement_246 ?_
          refine g_putf (pc := 247) F fl_X5_99 dX5_readsStatement_247 rfl (Nat.le_of_ble_eq_true rfl) ?_
          refine g_iconst (pc := 250) F dX5_readsStatement_250 (v := nI 1) rfl ?_
          exact g_zret (pc := 251) F X0 dX5_readsStatement_251 (by first | exact bI_nar _ | rfl) (Nat.le_of_ble_eq_true rfl) (Nat.le_of_ble_eq_true rfl) rfl (rp_y (Wd := (fun nq p2 => rW s m ig ws hg T (nq, nI (p2), nI (100 * j), nI n9, sd, th))) hok (by show p + 1 + kL (B p) + 1 = p + (kL (B p) + 2); omega) hnu)
        · have hbad : ¬ okS B p ∧ badS B p = p + 1 + kL (B p) := ⟨fun z => c_235 ((hhc _ 59 (by decide)).mpr z.2.2), bad_d hl (by rw [hld])⟩
          refine g_iconst (pc := 238) F dX5_readsStatement_238 (v := nI 0) rfl ?_
          exact g_zret (pc := 239) F X0 dX5_readsStatement_239 (by first | exact bI_nar _ | rfl) (Nat.le_of_ble_eq_true rfl) (Nat.le_of_ble_eq_true rfl) rfl (rp_n (Wd := (fun nq p2 => rW s m ig ws hg T (nq, nI (p2), nI (100 * j), nI n9, sd, th))) hbad.1 hbad.2.symm)
      · rw [show bI (decide (ldN B (p + 1) 1 = 1)) = nI 0 from (bI_n h1).symm]
        have hbad := rd_bad (t := ldN B (p + 1) 1) hl hk rfl h1
        refine g_istore_n (pc := 194) F dX5_readsStatement_194 (by decide) ?_
        refine g_goto (pc := 195) F dX5_readsStatement_195 (tgt := 225) rfl ?_
        refine g_iload_n (pc := 225) F dX5_readsStatement_225 rfl ?_
        refine g_if_eq (pc := 226) F dX5_readsStatement_226 (tgt := 238) rfl (fun c_226 => ?_) (fun c_226 => absurd (by decide) c_226)
        refine g_iconst (pc := 238) F dX5_readsStatement_238 (v := nI 0) rfl ?_
        exact g_zret (pc := 239) F X0 dX5_readsStatement_239 (by first | exact bI_nar _ | rfl) (Nat.le_of_ble_eq_true rfl) (Nat.le_of_ble_eq_true rfl) rfl (rp_n (Wd := (fun nq p2 => rW s m ig ws hg T (nq, nI (p2), nI (100 * j), nI n9, sd, th))) hbad.1 hbad.2.symm)
    · refine g_tableIn2 (pc := 16) F dX5_readsStatement_16 hx_16 (by decide) (by decide) (tgt := 208) rfl rfl ?_
      have e := (hhc p 102 (by decide)).mp hx_16
      have hl : letP (B p) := Or.inr (Or.inr (Or.inr (Or.inr (Or.inr (Or.inr e)))))
      have hk := kL_f e
      have hld : ldN B (p + 1) (kL (B p)) = kL (B p) := by rw [hk]; rfl
      have hnu : NU B p nu := ⟨(fun z => absurd (e.symm.trans z) (by decide)), (fun z => absurd (e.symm.trans z) (by decide)), (fun z => by rcases z with z | z | z <;> exact absurd (e.symm.trans z) (by decide)), (fun z => absurd (e.symm.trans z) (by decide))⟩
      rw [show p + 1 = p + 1 + kL (B p) by rw [hk]]
      refine g_iconst (pc := 208) F dX5_readsStatement_208 (v := nI 1) rfl ?_
      refine g_istore_n (pc := 209) F dX5_readsStatement_209 (by decide) ?_
      refine g_goto (pc := 210) F dX5_readsStatement_210 (tgt := 225) rfl ?_
      refine g_iload_n (pc := 225) F dX5_readsStatement_225 rfl ?_
      refine g_if_eq (pc := 226) F dX5_readsStatement_226 (tgt := 238) rfl (fun c_226 => absurd c_226 (by decide)) (fun c_226 => ?_)
      refine g_aload_n (pc := 229) F dX5_readsStatement_229 rfl ?_
      refine i_readV (pc := 230) F (m_here s m ig ws hg T sd th j n9 hj hn9 _ (p + 1 + kL (B p)) (by have := kL_le (B p); omega)) mi_X5_here kv_X5_109 rfl rfl dX5_readsStatement_230 (by decide) (by decide) rfl (Nat.le_of_ble_eq_true rfl) (by decide) (by decide) ?_
      refine g_bipush (pc := 233) F dX5_readsStatement_233 (v := nI 59) rfl ?_
      refine g_ic_eq (pc := 235) F dX5_readsStatement_235 (tgt := 240) rfl (fun c_235 => ?_) (fun c_235 => ?_)
      · have hok : okS B p := ⟨hl, hld, (hhc _ 59 (by decide)).mp c_235⟩
        refine g_aload_n (pc := 240) F dX5_readsStatement_240 rfl ?_
        refine g_dup (pc := 241) F dX5_readsStatement_241 rfl ?_
        refine g_getf (pc := 242) F fl_X5_99 dX5_readsStatement_242 rfl rfl ?_
        refine g_iconst (pc := 245) F dX5_readsStatement_245 (v := nI 1) rfl ?_
        refine g_iaddN (pc := 246) F dX5_readsStatement_246 ?_
        refine g_putf (pc := 247) F fl_X5_99 dX5_readsStatement_247 rfl (Nat.le_of_ble_eq_true rfl) ?_
        refine g_iconst (pc := 250) F dX5_readsStatement_250 (v := nI 1) rfl ?_
        exact g_zret (pc := 251) F X0 dX5_readsStatement_251 (by first | exact bI_nar _ | rfl) (Nat.le_of_ble_eq_true rfl) (Nat.le_of_ble_eq_true rfl) rfl (rp_y (Wd := (fun nq p2 => rW s m ig ws hg T (nq, nI (p2), nI (100 * j), nI n9, sd, th))) hok (by show p + 1 + kL (B p) + 1 = p + (kL (B p) + 2); omega) hnu)
      · have hbad : ¬ okS B p ∧ badS B p = p + 1 + kL (B p) := ⟨fun z => c_235 ((hhc _ 59 (by decide)).mpr z.2.2), bad_d hl (by rw [hld])⟩
        refine g_iconst (pc := 238) F dX5_readsStatement_238 (v := nI 0) rfl ?_
        exact g_zret (pc := 239) F X0 dX5_readsStatement_239 (by first | exact bI_nar _ | rfl) (Nat.le_of_ble_eq_true rfl) (Nat.le_of_ble_eq_true rfl) rfl (rp_n (Wd := (fun nq p2 => rW s m ig ws hg T (nq, nI (p2), nI (100 * j), nI n9, sd, th))) hbad.1 hbad.2.symm)
    · refine g_tableIn2 (pc := 16) F dX5_readsStatement_16 hx_16 (by decide) (by decide) (tgt := 161) rfl rfl ?_
      have e := (hhc p 103 (by decide)).mp hx_16
      have hl : letP (B p) := Or.inr (Or.inl e)
      have hk := kL_c (Or.inr e)
      refine g_aload_n (pc := 161) F dX5_readsStatement_161 rfl ?_
      refine g_iconst (pc := 162) F dX5_readsStatement_162 (v := nI 0) rfl ?_
      refine g_iconst (pc := 163) F dX5_readsStatement_163 (v := nI 1) rfl ?_
      refine i_callV (pc := 164) F (m_number s m ig ws hg T sd th j n9 hj hn9 nu (p + 1) hb B hB 0 1 (by decide) (by decide) (by omega)) mi_X5_readsNumber kv_X5_113 rfl rfl dX5_readsStatement_164 (by decide) (by decide) rfl (Nat.le_of_ble_eq_true rfl) (by decide) (by decide) ?_
      rintro _ _ ⟨rfl, nq1, rfl, hm1⟩ -
      refine g_ifeq_d (pc := 167) F dX5_readsStatement_167 (tgt := 183) rfl (fun c_167 => ?_) (fun c_167 => ?_)
      · have d1 : ¬ dgP (B (p + 1)) := fun z => c_167 (ld_1.mpr z)
        have hbad := rd_bad (t := 0) hl hk (by rw [ld_n d1]) (by decide)
        rw [show p + 1 + ldN B (p + 1) 1 = p + 1 + 0 by rw [ld_n d1]]
        refine g_iconst (pc := 183) F dX5_readsStatement_183 (v := nI 0) rfl ?_
        refine g_istore_n (pc := 184) F dX5_readsStatement_184 (by decide) ?_
        refine g_goto (pc := 185) F dX5_readsStatement_185 (tgt := 225) rfl ?_
        refine g_iload_n (pc := 225) F dX5_readsStatement_225 rfl ?_
        refine g_if_eq (pc := 226) F dX5_readsStatement_226 (tgt := 238) rfl (fun c_226 => ?_) (fun c_226 => absurd (by decide) c_226)
        refine g_iconst (pc := 238) F dX5_readsStatement_238 (v := nI 0) rfl ?_
        exact g_zret (pc := 239) F X0 dX5_readsStatement_239 (by first | exact bI_nar _ | rfl) (Nat.le_of_ble_eq_true rfl) (Nat.le_of_ble_eq_true rfl) rfl (rp_n (Wd := (fun nq p2 => rW s m ig ws hg T (nq, nI (p2), nI (100 * j), nI n9, sd, th))) hbad.1 hbad.2.symm)
      · have d1 : dgP (B (p + 1)) := ld_1.mp c_167
        rw [show p + 1 + ldN B (p + 1) 1 = p + 2 by rw [ld_1.mpr d1]]
        obtain ⟨hv1, ho1⟩ := hm1 (ld_1.mpr d1)
        rw [nm_1] at hv1
        refine g_aload_n (pc := 170) F dX5_readsStatement_170 rfl ?_
        refine g_iconst (pc := 171) F dX5_readsStatement_171 (v := nI 1) rfl ?_
        refine g_iconst (pc := 172) F dX5_readsStatement_172 (v := nI 3) rfl ?_
        refine i_callV (pc := 173) F (m_number s m ig ws hg T sd th j n9 hj hn9 nq1 (p + 2) hb B hB 1 3 (by decide) (by decide) (by omega)) mi_X5_readsNumber kv_X5_113 rfl rfl dX5_readsStatement_173 (by decide) (by decide) rfl (Nat.le_of_ble_eq_true rfl) (by decide) (by decide) ?_
        rintro _ _ ⟨rfl, nq2, rfl, hm2⟩ -
        refine g_ifeq_d (pc := 176) F dX5_readsStatement_176 (tgt := 183) rfl (fun c_176 => ?_) (fun c_176 => ?_)
        · have hbad := rd_bad (t := ldN B (p + 2) 3 + 1) hl hk (by rw [ld_y d1]) (by omega)
          rw [show p + 2 + ldN B (p + 2) 3 = p + 1 + (ldN B (p + 2) 3 + 1) by omega]
          refine g_iconst (pc := 183) F dX5_readsStatement_183 (v := nI 0) rfl ?_
          refine g_istore_n (pc := 184) F dX5_readsStatement_184 (by decide) ?_
          refine g_goto (pc := 185) F dX5_readsStatement_185 (tgt := 225) rfl ?_
          refine g_iload_n (pc := 225) F dX5_readsStatement_225 rfl ?_
          refine g_if_eq (pc := 226) F dX5_readsStatement_226 (tgt := 238) rfl (fun c_226 => ?_) (fun c_226 => absurd (by decide) c_226)
          refine g_iconst (pc := 238) F dX5_readsStatement_238 (v := nI 0) rfl ?_
          exact g_zret (pc := 239) F X0 dX5_readsStatement_239 (by first | exact bI_nar _ | rfl) (Nat.le_of_ble_eq_true rfl) (Nat.le_of_ble_eq_true rfl) rfl (rp_n (Wd := (fun nq p2 => rW s m ig ws hg T (nq, nI (p2), nI (100 * j), nI n9, sd, th))) hbad.1 hbad.2.symm)
        · obtain ⟨hv2, ho2⟩ := hm2 c_176
          have hld : ldN B (p + 1) (kL (B p)) = kL (B p) := by
            have c2 : ldN B (p + 1 + 1) 3 = 3 := c_176
            rw [hk, ld_y d1, c2]
          have hnu : NU B p nq2 := ⟨(fun z => absurd (e.symm.trans z) (by decide)), fun _ => ⟨(ho2 0 (by decide)).trans hv1, hv2⟩, (fun z => by rcases z with z | z | z <;> exact absurd (e.symm.trans z) (by decide)), (fun z => absurd (e.symm.trans z) (by decide))⟩
          rw [show p + 2 + ldN B (p + 2) 3 = p + 1 + kL (B p) by omega]
          refine g_iconst (pc := 179) F dX5_readsStatement_179 (v := nI 1) rfl ?_
          refine g_goto (pc := 180) F dX5_readsStatement_180 (tgt := 184) rfl ?_
          refine g_istore_n (pc := 184) F dX5_readsStatement_184 (by decide) ?_
          refine g_goto (pc := 185) F dX5_readsStatement_185 (tgt := 225) rfl ?_
          refine g_iload_n (pc := 225) F dX5_readsStatement_225 rfl ?_
          refine g_if_eq (pc := 226) F dX5_readsStatement_226 (tgt := 238) rfl (fun c_226 => absurd c_226 (by decide)) (fun c_226 => ?_)
          refine g_aload_n (pc := 229) F dX5_readsStatement_229 rfl ?_
          refine i_readV (pc := 230) F (m_here s m ig ws hg T sd th j n9 hj hn9 _ (p + 1 + kL (B p)) (by have := kL_le (B p); omega)) mi_X5_here kv_X5_109 rfl rfl dX5_readsStatement_230 (by decide) (by decide) rfl (Nat.le_of_ble_eq_true rfl) (by decide) (by decide) ?_
          refine g_bipush (pc := 233) F dX5_readsStatement_233 (v := nI 59) rfl ?_
          refine g_ic_eq (pc := 235) F dX5_readsStatement_235 (tgt := 240) rfl (fun c_235 => ?_) (fun c_235 => ?_)
          · have hok : okS B p := ⟨hl, hld, (hhc _ 59 (by decide)).mp c_235⟩
            refine g_aload_n (pc := 240) F dX5_readsStatement_240 rfl ?_
            refine g_dup (pc := 241) F dX5_readsStatement_241 rfl ?_
            refine g_getf (pc := 242) F fl_X5_99 dX5_readsStatement_242 rfl rfl ?_
            refine g_iconst (pc := 245) F dX5_readsStatement_245 (v := nI 1) rfl ?_
            refine g_iaddN (pc := 246) F dX5_readsStatement_246 ?_
            refine g_putf (pc := 247) F fl_X5_99 dX5_readsStatement_247 rfl (Nat.le_of_ble_eq_true rfl) ?_
            refine g_iconst (pc := 250) F dX5_readsStatement_250 (v := nI 1) rfl ?_
            exact g_zret (pc := 251) F X0 dX5_readsStatement_251 (by first | exact bI_nar _ | rfl) (Nat.le_of_ble_eq_true rfl) (Nat.le_of_ble_eq_true rfl) rfl (rp_y (Wd := (fun nq p2 => rW s m ig ws hg T (nq, nI (p2), nI (100 * j), nI n9, sd, th))) hok (by show p + 1 + kL (B p) + 1 = p + (kL (B p) + 2); omega) hnu)
          · have hbad : ¬ okS B p ∧ badS B p = p + 1 + kL (B p) := ⟨fun z => c_235 ((hhc _ 59 (by decide)).mpr z.2.2), bad_d hl (by rw [hld])⟩
            refine g_iconst (pc := 238) F dX5_readsStatement_238 (v := nI 0) rfl ?_
            exact g_zret (pc := 239) F X0 dX5_readsStatement_239 (by first | exact bI_nar _ | rfl) (Nat.le_of_ble_eq_true rfl) (Nat.le_of_ble_eq_true rfl) rfl (rp_n (Wd := (fun nq p2 => rW s m ig ws hg T (nq, nI (p2), nI (100 * j), nI n9, sd, th))) hbad.1 hbad.2.symm)
    · refine g_tableIn2 (pc := 16) F dX5_readsStatement_16 hx_16 (by decide) (by decide) (tgt := 213) rfl rfl ?_
      have hnl : ¬ letP (B p) := by
        first
          | exact (fun z => by have e9 := (hhc p _ (by decide)).mp hx_16; rcases z with z | z | z | z | z | z | z <;> exact absurd (e9.symm.trans z) (by decide))
          | exact (fun z => by rcases z with z | z | z | z | z | z | z <;> (have e9 := (hhc p _ (by decide)).mpr z; rw [e9] at ho_16; exact absurd ho_16 (by decide)))
          | fail
      refine g_aload_n (pc := 213) F dX5_readsStatement_213 rfl ?_
      refine g_dup (pc := 214) F dX5_readsStatement_214 rfl ?_
      refine g_getf (pc := 215) F fl_X5_99 dX5_readsStatement_215 rfl rfl ?_
      refine g_iconst (pc := 218) F dX5_readsStatement_218 (v := nI 1) rfl ?_
      refine g_isubN (pc := 219) F dX5_readsStatement_219 (by omega) ?_
      refine g_putf (pc := 220) F fl_X5_99 dX5_readsStatement_220 rfl (Nat.le_of_ble_eq_true rfl) ?_
      refine g_iconst (pc := 223) F dX5_readsStatement_223 (v := nI 0) rfl ?_
      exact g_zret (pc := 224) F X0 dX5_readsStatement_224 (by first | exact bI_nar _ | rfl) (Nat.le_of_ble_eq_true rfl) (Nat.le_of_ble_eq_true rfl) rfl (rp_n (Wd := (fun nq p2 => rW s m ig ws hg T (nq, nI (p2), nI (100 * j), nI n9, sd, th))) (nq := nu) (p2 := p + 1 - 1) (fun z => hnl z.1) (by rw [bad_l hnl]; omega))
    · refine g_tableIn2 (pc := 16) F dX5_readsStatement_16 hx_16 (by decide) (by decide) (tgt := 213) rfl rfl ?_
      have hnl : ¬ letP (B p) := by
        first
          | exact (fun z => by have e9 := (hhc p _ (by decide)).mp hx_16; rcases z with z | z | z | z | z | z | z <;> exact absurd (e9.symm.trans z) (by decide))
          | exact (fun z => by rcases z with z | z | z | z | z | z | z <;> (have e9 := (hhc p _ (by decide)).mpr z; rw [e9] at ho_16; exact absurd ho_16 (by decide)))
          | fail
      refine g_aload_n (pc := 213) F dX5_readsStatement_213 rfl ?_
      refine g_dup (pc := 214) F dX5_readsStatement_214 rfl ?_
      refine g_getf (pc := 215) F fl_X5_99 dX5_readsStatement_215 rfl rfl ?_
      refine g_iconst (pc := 218) F dX5_readsStatement_218 (v := nI 1) rfl ?_
      refine g_isubN (pc := 219) F dX5_readsStatement_219 (by omega) ?_
      refine g_putf (pc := 220) F fl_X5_99 dX5_readsStatement_220 rfl (Nat.le_of_ble_eq_true rfl) ?_
      refine g_iconst (pc := 223) F dX5_readsStatement_223 (v := nI 0) rfl ?_
      exact g_zret (pc := 224) F X0 dX5_readsStatement_224 (by first | exact bI_nar _ | rfl) (Nat.le_of_ble_eq_true rfl) (Nat.le_of_ble_eq_true rfl) rfl (rp_n (Wd := (fun nq p2 => rW s m ig ws hg T (nq, nI (p2), nI (100 * j), nI n9, sd, th))) (nq := nu) (p2 := p + 1 - 1) (fun z => hnl z.1) (by rw [bad_l hnl]; omega))
    · refine g_tableIn2 (pc := 16) F dX5_readsStatement_16 hx_16 (by decide) (by decide) (tgt := 213) rfl rfl ?_
      have hnl : ¬ letP (B p) := by
        first
          | exact (fun z => by have e9 := (hhc p _ (by decide)).mp hx_16; rcases z with z | z | z | z | z | z | z <;> exact absurd (e9.symm.trans z) (by decide))
          | exact (fun z => by rcases z with z | z | z | z | z | z | z <;> (have e9 := (hhc p _ (by decide)).mpr z; rw [e9] at ho_16; exact absurd ho_16 (by decide)))
          | fail
      refine g_aload_n (pc := 213) F dX5_readsStatement_213 rfl ?_
      refine g_dup (pc := 214) F dX5_readsStatement_214 rfl ?_
      refine g_getf (pc := 215) F fl_X5_99 dX5_readsStatement_215 rfl rfl ?_
      refine g_iconst (pc := 218) F dX5_readsStatement_218 (v := nI 1) rfl ?_
      refine g_isubN (pc := 219) F dX5_readsStatement_219 (by omega) ?_
      refine g_putf (pc := 220) F fl_X5_99 dX5_readsStatement_220 rfl (Nat.le_of_ble_eq_true rfl) ?_
      refine g_iconst (pc := 223) F dX5_readsStatement_223 (v := nI 0) rfl ?_
      exact g_zret (pc := 224) F X0 dX5_readsStatement_224 (by first | exact bI_nar _ | rfl) (Nat.le_of_ble_eq_true rfl) (Nat.le_of_ble_eq_true rfl) rfl (rp_n (Wd := (fun nq p2 => rW s m ig ws hg T (nq, nI (p2), nI (100 * j), nI n9, sd, th))) (nq := nu) (p2 := p + 1 - 1) (fun z => hnl z.1) (by rw [bad_l hnl]; omega))
    · refine g_tableIn2 (pc := 16) F dX5_readsStatement_16 hx_16 (by decide) (by decide) (tgt := 213) rfl rfl ?_
      have hnl : ¬ letP (B p) := by
        first
          | exact (fun z => by have e9 := (hhc p _ (by decide)).mp hx_16; rcases z with z | z | z | z | z | z | z <;> exact absurd (e9.symm.trans z) (by decide))
          | exact (fun z => by rcases z with z | z | z | z | z | z | z <;> (have e9 := (hhc p _ (by decide)).mpr z; rw [e9] at ho_16; exact absurd ho_16 (by decide)))
          | fail
      refine g_aload_n (pc := 213) F dX5_readsStatement_213 rfl ?_
      refine g_dup (pc := 214) F dX5_readsStatement_214 rfl ?_
      refine g_getf (pc := 215) F fl_X5_99 dX5_readsStatement_215 rfl rfl ?_
      refine g_iconst (pc := 218) F dX5_readsStatement_218 (v := nI 1) rfl ?_
      refine g_isubN (pc := 219) F dX5_readsStatement_219 (by omega) ?_
      refine g_putf (pc := 220) F fl_X5_99 dX5_readsStatement_220 rfl (Nat.le_of_ble_eq_true rfl) ?_
      refine g_iconst (pc := 223) F dX5_readsStatement_223 (v := nI 0) rfl ?_
      exact g_zret (pc := 224) F X0 dX5_readsStatement_224 (by first | exact bI_nar _ | rfl) (Nat.le_of_ble_eq_true rfl) (Nat.le_of_ble_eq_true rfl) rfl (rp_n (Wd := (fun nq p2 => rW s m ig ws hg T (nq, nI (p2), nI (100 * j), nI n9, sd, th))) (nq := nu) (p2 := p + 1 - 1) (fun z => hnl z.1) (by rw [bad_l hnl]; omega))
    · refine g_tableIn2 (pc := 16) F dX5_readsStatement_16 hx_16 (by decide) (by decide) (tgt := 213) rfl rfl ?_
      have hnl : ¬ letP (B p) := by
        first
          | exact (fun z => by have e9 := (hhc p _ (by decide)).mp hx_16; rcases z with z | z | z | z | z | z | z <;> exact absurd (e9.symm.trans z) (by decide))
          | exact (fun z => by rcases z with z | z | z | z | z | z | z <;> (have e9 := (hhc p _ (by decide)).mpr z; rw [e9] at ho_16; exact absurd ho_16 (by decide)))
          | fail
      refine g_aload_n (pc := 213) F dX5_readsStatement_213 rfl ?_
      refine g_dup (pc := 214) F dX5_readsStatement_214 rfl ?_
      refine g_getf (pc := 215) F fl_X5_99 dX5_readsStatement_215 rfl rfl ?_
      refine g_iconst (pc := 218) F dX5_readsStatement_218 (v := nI 1) rfl ?_
      refine g_isubN (pc := 219) F dX5_readsStatement_219 (by omega) ?_
      refine g_putf (pc := 220) F fl_X5_99 dX5_readsStatement_220 rfl (Nat.le_of_ble_eq_true rfl) ?_
      refine g_iconst (pc := 223) F dX5_readsStatement_223 (v := nI 0) rfl ?_
      exact g_zret (pc := 224) F X0 dX5_readsStatement_224 (by first | exact bI_nar _ | rfl) (Nat.le_of_ble_eq_true rfl) (Nat.le_of_ble_eq_true rfl) rfl (rp_n (Wd := (fun nq p2 => rW s m ig ws hg T (nq, nI (p2), nI (100 * j), nI n9, sd, th))) (nq := nu) (p2 := p + 1 - 1) (fun z => hnl z.1) (by rw [bad_l hnl]; omega))
    · refine g_tableIn2 (pc := 16) F dX5_readsStatement_16 hx_16 (by decide) (by decide) (tgt := 213) rfl rfl ?_
      have hnl : ¬ letP (B p) := by
        first
          | exact (fun z => by have e9 := (hhc p _ (by decide)).mp hx_16; rcases z with z | z | z | z | z | z | z <;> exact absurd (e9.symm.trans z) (by decide))
          | exact (fun z => by rcases z with z | z | z | z | z | z | z <;> (have e9 := (hhc p _ (by decide)).mpr z; rw [e9] at ho_16; exact absurd ho_16 (by decide)))
          | fail
      refine g_aload_n (pc := 213) F dX5_readsStatement_213 rfl ?_
      refine g_dup (pc := 214) F dX5_readsStatement_214 rfl ?_
      refine g_getf (pc := 215) F fl_X5_99 dX5_readsStatement_215 rfl rfl ?_
      refine g_iconst (pc := 218) F dX5_readsStatement_218 (v := nI 1) rfl ?_
      refine g_isubN (pc := 219) F dX5_readsStatement_219 (by omega) ?_
      refine g_putf (pc := 220) F fl_X5_99 dX5_readsStatement_220 rfl (Nat.le_of_ble_eq_true rfl) ?_
      refine g_iconst (pc := 223) F dX5_readsStatement_223 (v := nI 0) rfl ?_
      exact g_zret (pc := 224) F X0 dX5_readsStatement_224 (by first | exact bI_nar _ | rfl) (Nat.le_of_ble_eq_true rfl) (Nat.le_of_ble_eq_true rfl) rfl (rp_n (Wd := (fun nq p2 => rW s m ig ws hg T (nq, nI (p2), nI (100 * j), nI n9, sd, th))) (nq := nu) (p2 := p + 1 - 1) (fun z => hnl z.1) (by rw [bad_l hnl]; omega))
    · refine g_tableIn2 (pc := 16) F dX5_readsStatement_16 hx_16 (by decide) (by decide) (tgt := 213) rfl rfl ?_
      have hnl : ¬ letP (B p) := by
        first
          | exact (fun z => by have e9 := (hhc p _ (by decide)).mp hx_16; rcases z with z | z | z | z | z | z | z <;> exact absurd (e9.symm.trans z) (by decide))
          | exact (fun z => by rcases z with z | z | z | z | z | z | z <;> (have e9 := (hhc p _ (by decide)).mpr z; rw [e9] at ho_16; exact absurd ho_16 (by decide)))
          | fail
      refine g_aload_n (pc := 213) F dX5_readsStatement_213 rfl ?_
      refine g_dup (pc := 214) F dX5_readsStatement_214 rfl ?_
      refine g_getf (pc := 215) F fl_X5_99 dX5_readsStatement_215 rfl rfl ?_
      refine g_iconst (pc := 218) F dX5_readsStatement_218 (v := nI 1) rfl ?_
      refine g_isubN (pc := 219) F dX5_readsStatement_219 (by omega) ?_
      refine g_putf (pc := 220) F fl_X5_99 dX5_readsStatement_220 rfl (Nat.le_of_ble_eq_true rfl) ?_
      refine g_iconst (pc := 223) F dX5_readsStatement_223 (v := nI 0) rfl ?_
      exact g_zret (pc := 224) F X0 dX5_readsStatement_224 (by first | exact bI_nar _ | rfl) (Nat.le_of_ble_eq_true rfl) (Nat.le_of_ble_eq_true rfl) rfl (rp_n (Wd := (fun nq p2 => rW s m ig ws hg T (nq, nI (p2), nI (100 * j), nI n9, sd, th))) (nq := nu) (p2 := p + 1 - 1) (fun z => hnl z.1) (by rw [bad_l hnl]; omega))
    · refine g_tableIn2 (pc := 16) F dX5_readsStatement_16 hx_16 (by decide) (by decide) (tgt := 213) rfl rfl ?_
      have hnl : ¬ letP (B p) := by
        first
          | exact (fun z => by have e9 := (hhc p _ (by decide)).mp hx_16; rcases z with z | z | z | z | z | z | z <;> exact absurd (e9.symm.trans z) (by decide))
          | exact (fun z => by rcases z with z | z | z | z | z | z | z <;> (have e9 := (hhc p _ (by decide)).mpr z; rw [e9] at ho_16; exact absurd ho_16 (by decide)))
          | fail
      refine g_aload_n (pc := 213) F dX5_readsStatement_213 rfl ?_
      refine g_dup (pc := 214) F dX5_readsStatement_214 rfl ?_
      refine g_getf (pc := 215) F fl_X5_99 dX5_readsStatement_215 rfl rfl ?_
      refine g_iconst (pc := 218) F dX5_readsStatement_218 (v := nI 1) rfl ?_
      refine g_isubN (pc := 219) F dX5_readsStatement_219 (by omega) ?_
      refine g_putf (pc := 220) F fl_X5_99 dX5_readsStatement_220 rfl (Nat.le_of_ble_eq_true rfl) ?_
      refine g_iconst (pc := 223) F dX5_readsStatement_223 (v := nI 0) rfl ?_
      exact g_zret (pc := 224) F X0 dX5_readsStatement_224 (by first | exact bI_nar _ | rfl) (Nat.le_of_ble_eq_true rfl) (Nat.le_of_ble_eq_true rfl) rfl (rp_n (Wd := (fun nq p2 => rW s m ig ws hg T (nq, nI (p2), nI (100 * j), nI n9, sd, th))) (nq := nu) (p2 := p + 1 - 1) (fun z => hnl z.1) (by rw [bad_l hnl]; omega))
    · refine g_tableIn2 (pc := 16) F dX5_readsStatement_16 hx_16 (by decide) (by decide) (tgt := 213) rfl rfl ?_
      have hnl : ¬ letP (B p) := by
        first
          | exact (fun z => by have e9 := (hhc p _ (by decide)).mp hx_16; rcases z with z | z | z | z | z | z | z <;> exact absurd (e9.symm.trans z) (by decide))
          | exact (fun z => by rcases z with z | z | z | z | z | z | z <;> (have e9 := (hhc p _ (by decide)).mpr z; rw [e9] at ho_16; exact absurd ho_16 (by decide)))
          | fail
      refine g_aload_n (pc := 213) F dX5_readsStatement_213 rfl ?_
      refine g_dup (pc := 214) F dX5_readsStatement_214 rfl ?_
      refine g_getf (pc := 215) F fl_X5_99 dX5_readsStatement_215 rfl rfl ?_
      refine g_iconst (pc := 218) F dX5_readsStatement_218 (v := nI 1) rfl ?_
      refine g_isubN (pc := 219) F dX5_readsStatement_219 (by omega) ?_
      refine g_putf (pc := 220) F fl_X5_99 dX5_readsStatement_220 rfl (Nat.le_of_ble_eq_true rfl) ?_
      refine g_iconst (pc := 223) F dX5_readsStatement_223 (v := nI 0) rfl ?_
      exact g_zret (pc := 224) F X0 dX5_readsStatement_224 (by first | exact bI_nar _ | rfl) (Nat.le_of_ble_eq_true rfl) (Nat.le_of_ble_eq_true rfl) rfl (rp_n (Wd := (fun nq p2 => rW s m ig ws hg T (nq, nI (p2), nI (100 * j), nI n9, sd, th))) (nq := nu) (p2 := p + 1 - 1) (fun z => hnl z.1) (by rw [bad_l hnl]; omega))
    · refine g_tableIn2 (pc := 16) F dX5_readsStatement_16 hx_16 (by decide) (by decide) (tgt := 213) rfl rfl ?_
      have hnl : ¬ letP (B p) := by
        first
          | exact (fun z => by have e9 := (hhc p _ (by decide)).mp hx_16; rcases z with z | z | z | z | z | z | z <;> exact absurd (e9.symm.trans z) (by decide))
          | exact (fun z => by rcases z with z | z | z | z | z | z | z <;> (have e9 := (hhc p _ (by decide)).mpr z; rw [e9] at ho_16; exact absurd ho_16 (by decide)))
          | fail
      refine g_aload_n (pc := 213) F dX5_readsStatement_213 rfl ?_
      refine g_dup (pc := 214) F dX5_readsStatement_214 rfl ?_
      refine g_getf (pc := 215) F fl_X5_99 dX5_readsStatement_215 rfl rfl ?_
      refine g_iconst (pc := 218) F dX5_readsStatement_218 (v := nI 1) rfl ?_
      refine g_isubN (pc := 219) F dX5_readsStatement_219 (by omega) ?_
      refine g_putf (pc := 220) F fl_X5_99 dX5_readsStatement_220 rfl (Nat.le_of_ble_eq_true rfl) ?_
      refine g_iconst (pc := 223) F dX5_readsStatement_223 (v := nI 0) rfl ?_
      exact g_zret (pc := 224) F X0 dX5_readsStatement_224 (by first | exact bI_nar _ | rfl) (Nat.le_of_ble_eq_true rfl) (Nat.le_of_ble_eq_true rfl) rfl (rp_n (Wd := (fun nq p2 => rW s m ig ws hg T (nq, nI (p2), nI (100 * j), nI n9, sd, th))) (nq := nu) (p2 := p + 1 - 1) (fun z => hnl z.1) (by rw [bad_l hnl]; omega))
    · refine g_tableIn2 (pc := 16) F dX5_readsStatement_16 hx_16 (by decide) (by decide) (tgt := 188) rfl rfl ?_
      have e : B p = nI 101 ∨ B p = nI 114 ∨ B p = nI 119 := by
        first
          | exact Or.inl ((hhc p 101 (by decide)).mp hx_16)
          | exact Or.inr (Or.inl ((hhc p 114 (by decide)).mp hx_16))
          | exact Or.inr (Or.inr ((hhc p 119 (by decide)).mp hx_16))
      have hl : letP (B p) := by
        rcases e with e | e | e
        · exact Or.inr (Or.inr (Or.inr (Or.inl e)))
        · exact Or.inr (Or.inr (Or.inr (Or.inr (Or.inl e))))
        · exact Or.inr (Or.inr (Or.inr (Or.inr (Or.inr (Or.inl e)))))
      have hk := kL_w e
      refine g_aload_n (pc := 188) F dX5_readsStatement_188 rfl ?_
      refine g_iconst (pc := 189) F dX5_readsStatement_189 (v := nI 0) rfl ?_
      refine g_iconst (pc := 190) F dX5_readsStatement_190 (v := nI 1) rfl ?_
      refine i_callV (pc := 191) F (m_number s m ig ws hg T sd th j n9 hj hn9 nu (p + 1) hb B hB 0 1 (by decide) (by decide) (by omega)) mi_X5_readsNumber kv_X5_113 rfl rfl dX5_readsStatement_191 (by decide) (by decide) rfl (Nat.le_of_ble_eq_true rfl) (by decide) (by decide) ?_
      rintro _ _ ⟨rfl, nq1, rfl, hm1⟩ -
      by_cases h1 : ldN B (p + 1) 1 = 1
      · rw [show bI (decide (ldN B (p + 1) 1 = 1)) = nI 1 from (bI_y h1).symm]
        obtain ⟨hv1, ho1⟩ := hm1 h1
        have hld : ldN B (p + 1) (kL (B p)) = kL (B p) := by rw [hk]; exact h1
        have hnu : NU B p nq1 := ⟨(fun z => by rcases e with e | e | e <;> exact absurd (e.symm.trans z) (by decide)), (fun z => by rcases e with e | e | e <;> exact absurd (e.symm.trans z) (by decide)), fun _ => by rw [nm_1] at hv1; exact hv1, (fun z => by rcases e with e | e | e <;> exact absurd (e.symm.trans z) (by decide))⟩
        rw [show p + 1 + ldN B (p + 1) 1 = p + 1 + kL (B p) by rw [hk, h1]]
        refine g_istore_n (pc := 194) F dX5_readsStatement_194 (by decide) ?_
        refine g_goto (pc := 195) F dX5_readsStatement_195 (tgt := 225) rfl ?_
        refine g_iload_n (pc := 225) F dX5_readsStatement_225 rfl ?_
        refine g_if_eq (pc := 226) F dX5_readsStatement_226 (tgt := 238) rfl (fun c_226 => absurd c_226 (by decide)) (fun c_226 => ?_)
        refine g_aload_n (pc := 229) F dX5_readsStatement_229 rfl ?_
        refine i_readV (pc := 230) F (m_here s m ig ws hg T sd th j n9 hj hn9 _ (p + 1 + kL (B p)) (by have := kL_le (B p); omega)) mi_X5_here kv_X5_109 rfl rfl dX5_readsStatement_230 (by decide) (by decide) rfl (Nat.le_of_ble_eq_true rfl) (by decide) (by decide) ?_
        refine g_bipush (pc := 233) F dX5_readsStatement_233 (v := nI 59) rfl ?_
        refine g_ic_eq (pc := 235) F dX5_readsStatement_235 (tgt := 240) rfl (fun c_235 => ?_) (fun c_235 => ?_)
        · have hok : okS B p := ⟨hl, hld, (hhc _ 59 (by decide)).mp c_235⟩
          refine g_aload_n (pc := 240) F dX5_readsStatement_240 rfl ?_
          refine g_dup (pc := 241) F dX5_readsStatement_241 rfl ?_
          refine g_getf (pc := 242) F fl_X5_99 dX5_readsStatement_242 rfl rfl ?_
          refine g_iconst (pc := 245) F dX5_readsStatement_245 (v := nI 1) rfl ?_
          refine g_iaddN (pc := 246) F dX5_readsStatement_246 ?_
          refine g_putf (pc := 247) F fl_X5_99 dX5_readsStatement_247 rfl (Nat.le_of_ble_eq_true rfl) ?_
          refine g_iconst (pc := 250) F dX5_readsStatement_250 (v := nI 1) rfl ?_
          exact g_zret (pc := 251) F X0 dX5_readsStatement_251 (by first | exact bI_nar _ | rfl) (Nat.le_of_ble_eq_true rfl) (Nat.le_of_ble_eq_true rfl) rfl (rp_y (Wd := (fun nq p2 => rW s m ig ws hg T (nq, nI (p2), nI (100 * j), nI n9, sd, th))) hok (by show p + 1 + kL (B p) + 1 = p + (kL (B p) + 2); omega) hnu)
        · have hbad : ¬ okS B p ∧ badS B p = p + 1 + kL (B p) := ⟨fun z => c_235 ((hhc _ 59 (by decide)).mpr z.2.2), bad_d hl (by rw [hld])⟩
          refine g_iconst (pc := 238) F dX5_readsStatement_238 (v := nI 0) rfl ?_
          exact g_zret (pc := 239) F X0 dX5_readsStatement_239 (by first | exact bI_nar _ | rfl) (Nat.le_of_ble_eq_true rfl) (Nat.le_of_ble_eq_true rfl) rfl (rp_n (Wd := (fun nq p2 => rW s m ig ws hg T (nq, nI (p2), nI (100 * j), nI n9, sd, th))) hbad.1 hbad.2.symm)
      · rw [show bI (decide (ldN B (p + 1) 1 = 1)) = nI 0 from (bI_n h1).symm]
        have hbad := rd_bad (t := ldN B (p + 1) 1) hl hk rfl h1
        refine g_istore_n (pc := 194) F dX5_readsStatement_194 (by decide) ?_
        refine g_goto (pc := 195) F dX5_readsStatement_195 (tgt := 225) rfl ?_
        refine g_iload_n (pc := 225) F dX5_readsStatement_225 rfl ?_
        refine g_if_eq (pc := 226) F dX5_readsStatement_226 (tgt := 238) rfl (fun c_226 => ?_) (fun c_226 => absurd (by decide) c_226)
        refine g_iconst (pc := 238) F dX5_readsStatement_238 (v := nI 0) rfl ?_
        exact g_zret (pc := 239) F X0 dX5_readsStatement_239 (by first | exact bI_nar _ | rfl) (Nat.le_of_ble_eq_true rfl) (Nat.le_of_ble_eq_true rfl) rfl (rp_n (Wd := (fun nq p2 => rW s m ig ws hg T (nq, nI (p2), nI (100 * j), nI n9, sd, th))) hbad.1 hbad.2.symm)
    · refine g_tableIn2 (pc := 16) F dX5_readsStatement_16 hx_16 (by decide) (by decide) (tgt := 213) rfl rfl ?_
      have hnl : ¬ letP (B p) := by
        first
          | exact (fun z => by have e9 := (hhc p _ (by decide)).mp hx_16; rcases z with z | z | z | z | z | z | z <;> exact absurd (e9.symm.trans z) (by decide))
          | exact (fun z => by rcases z with z | z | z | z | z | z | z <;> (have e9 := (hhc p _ (by decide)).mpr z; rw [e9] at ho_16; exact absurd ho_16 (by decide)))
          | fail
      refine g_aload_n (pc := 213) F dX5_readsStatement_213 rfl ?_
      refine g_dup (pc := 214) F dX5_readsStatement_214 rfl ?_
      refine g_getf (pc := 215) F fl_X5_99 dX5_readsStatement_215 rfl rfl ?_
      refine g_iconst (pc := 218) F dX5_readsStatement_218 (v := nI 1) rfl ?_
      refine g_isubN (pc := 219) F dX5_readsStatement_219 (by omega) ?_
      refine g_putf (pc := 220) F fl_X5_99 dX5_readsStatement_220 rfl (Nat.le_of_ble_eq_true rfl) ?_
      refine g_iconst (pc := 223) F dX5_readsStatement_223 (v := nI 0) rfl ?_
      exact g_zret (pc := 224) F X0 dX5_readsStatement_224 (by first | exact bI_nar _ | rfl) (Nat.le_of_ble_eq_true rfl) (Nat.le_of_ble_eq_true rfl) rfl (rp_n (Wd := (fun nq p2 => rW s m ig ws hg T (nq, nI (p2), nI (100 * j), nI n9, sd, th))) (nq := nu) (p2 := p + 1 - 1) (fun z => hnl z.1) (by rw [bad_l hnl]; omega))
    · refine g_tableIn2 (pc := 16) F dX5_readsStatement_16 hx_16 (by decide) (by decide) (tgt := 213) rfl rfl ?_
      have hnl : ¬ letP (B p) := by
        first
          | exact (fun z => by have e9 := (hhc p _ (by decide)).mp hx_16; rcases z with z | z | z | z | z | z | z <;> exact absurd (e9.symm.trans z) (by decide))
          | exact (fun z => by rcases z with z | z | z | z | z | z | z <;> (have e9 := (hhc p _ (by decide)).mpr z; rw [e9] at ho_16; exact absurd ho_16 (by decide)))
          | fail
      refine g_aload_n (pc := 213) F dX5_readsStatement_213 rfl ?_
      refine g_dup (pc := 214) F dX5_readsStatement_214 rfl ?_
      refine g_getf (pc := 215) F fl_X5_99 dX5_readsStatement_215 rfl rfl ?_
      refine g_iconst (pc := 218) F dX5_readsStatement_218 (v := nI 1) rfl ?_
      refine g_isubN (pc := 219) F dX5_readsStatement_219 (by omega) ?_
      refine g_putf (pc := 220) F fl_X5_99 dX5_readsStatement_220 rfl (Nat.le_of_ble_eq_true rfl) ?_
      refine g_iconst (pc := 223) F dX5_readsStatement_223 (v := nI 0) rfl ?_
      exact g_zret (pc := 224) F X0 dX5_readsStatement_224 (by first | exact bI_nar _ | rfl) (Nat.le_of_ble_eq_true rfl) (Nat.le_of_ble_eq_true rfl) rfl (rp_n (Wd := (fun nq p2 => rW s m ig ws hg T (nq, nI (p2), nI (100 * j), nI n9, sd, th))) (nq := nu) (p2 := p + 1 - 1) (fun z => hnl z.1) (by rw [bad_l hnl]; omega))
    · refine g_tableIn2 (pc := 16) F dX5_readsStatement_16 hx_16 (by decide) (by decide) (tgt := 213) rfl rfl ?_
      have hnl : ¬ letP (B p) := by
        first
          | exact (fun z => by have e9 := (hhc p _ (by decide)).mp hx_16; rcases z with z | z | z | z | z | z | z <;> exact absurd (e9.symm.trans z) (by decide))
          | exact (fun z => by rcases z with z | z | z | z | z | z | z <;> (have e9 := (hhc p _ (by decide)).mpr z; rw [e9] at ho_16; exact absurd ho_16 (by decide)))
          | fail
      refine g_aload_n (pc := 213) F dX5_readsStatement_213 rfl ?_
      refine g_dup (pc := 214) F dX5_readsStatement_214 rfl ?_
      refine g_getf (pc := 215) F fl_X5_99 dX5_readsStatement_215 rfl rfl ?_
      refine g_iconst (pc := 218) F dX5_readsStatement_218 (v := nI 1) rfl ?_
      refine g_isubN (pc := 219) F dX5_readsStatement_219 (by omega) ?_
      refine g_putf (pc := 220) F fl_X5_99 dX5_readsStatement_220 rfl (Nat.le_of_ble_eq_true rfl) ?_
      refine g_iconst (pc := 223) F dX5_readsStatement_223 (v := nI 0) rfl ?_
      exact g_zret (pc := 224) F X0 dX5_readsStatement_224 (by first | exact bI_nar _ | rfl) (Nat.le_of_ble_eq_true rfl) (Nat.le_of_ble_eq_true rfl) rfl (rp_n (Wd := (fun nq p2 => rW s m ig ws hg T (nq, nI (p2), nI (100 * j), nI n9, sd, th))) (nq := nu) (p2 := p + 1 - 1) (fun z => hnl z.1) (by rw [bad_l hnl]; omega))
    · refine g_tableIn2 (pc := 16) F dX5_readsStatement_16 hx_16 (by decide) (by decide) (tgt := 213) rfl rfl ?_
      have hnl : ¬ letP (B p) := by
        first
          | exact (fun z => by have e9 := (hhc p _ (by decide)).mp hx_16; rcases z with z | z | z | z | z | z | z <;> exact absurd (e9.symm.trans z) (by decide))
          | exact (fun z => by rcases z with z | z | z | z | z | z | z <;> (have e9 := (hhc p _ (by decide)).mpr z; rw [e9] at ho_16; exact absurd ho_16 (by decide)))
          | fail
      refine g_aload_n (pc := 213) F dX5_readsStatement_213 rfl ?_
      refine g_dup (pc := 214) F dX5_readsStatement_214 rfl ?_
      refine g_getf (pc := 215) F fl_X5_99 dX5_readsStatement_215 rfl rfl ?_
      refine g_iconst (pc := 218) F dX5_readsStatement_218 (v := nI 1) rfl ?_
      refine g_isubN (pc := 219) F dX5_readsStatement_219 (by omega) ?_
      refine g_putf (pc := 220) F fl_X5_99 dX5_readsStatement_220 rfl (Nat.le_of_ble_eq_true rfl) ?_
      refine g_iconst (pc := 223) F dX5_readsStatement_223 (v := nI 0) rfl ?_
      exact g_zret (pc := 224) F X0 dX5_readsStatement_224 (by first | exact bI_nar _ | rfl) (Nat.le_of_ble_eq_true rfl) (Nat.le_of_ble_eq_true rfl) rfl (rp_n (Wd := (fun nq p2 => rW s m ig ws hg T (nq, nI (p2), nI (100 * j), nI n9, sd, th))) (nq := nu) (p2 := p + 1 - 1) (fun z => hnl z.1) (by rw [bad_l hnl]; omega))
    · refine g_tableIn2 (pc := 16) F dX5_readsStatement_16 hx_16 (by decide) (by decide) (tgt := 188) rfl rfl ?_
      have e : B p = nI 101 ∨ B p = nI 114 ∨ B p = nI 119 := by
        first
          | exact Or.inl ((hhc p 101 (by decide)).mp hx_16)
          | exact Or.inr (Or.inl ((hhc p 114 (by decide)).mp hx_16))
          | exact Or.inr (Or.inr ((hhc p 119 (by decide)).mp hx_16))
      have hl : letP (B p) := by
        rcases e with e | e | e
        · exact Or.inr (Or.inr (Or.inr (Or.inl e)))
        · exact Or.inr (Or.inr (Or.inr (Or.inr (Or.inl e))))
        · exact Or.inr (Or.inr (Or.inr (Or.inr (Or.inr (Or.inl e)))))
      have hk := kL_w e
      refine g_aload_n (pc := 188) F dX5_readsStatement_188 rfl ?_
      refine g_iconst (pc := 189) F dX5_readsStatement_189 (v := nI 0) rfl ?_
      refine g_iconst (pc := 190) F dX5_readsStatement_190 (v := nI 1) rfl ?_
      refine i_callV (pc := 191) F (m_number s m ig ws hg T sd th j n9 hj hn9 nu (p + 1) hb B hB 0 1 (by decide) (by decide) (by omega)) mi_X5_readsNumber kv_X5_113 rfl rfl dX5_readsStatement_191 (by decide) (by decide) rfl (Nat.le_of_ble_eq_true rfl) (by decide) (by decide) ?_
      rintro _ _ ⟨rfl, nq1, rfl, hm1⟩ -
      by_cases h1 : ldN B (p + 1) 1 = 1
      · rw [show bI (decide (ldN B (p + 1) 1 = 1)) = nI 1 from (bI_y h1).symm]
        obtain ⟨hv1, ho1⟩ := hm1 h1
        have hld : ldN B (p + 1) (kL (B p)) = kL (B p) := by rw [hk]; exact h1
        have hnu : NU B p nq1 := ⟨(fun z => by rcases e with e | e | e <;> exact absurd (e.symm.trans z) (by decide)), (fun z => by rcases e with e | e | e <;> exact absurd (e.symm.trans z) (by decide)), fun _ => by rw [nm_1] at hv1; exact hv1, (fun z => by rcases e with e | e | e <;> exact absurd (e.symm.trans z) (by decide))⟩
        rw [show p + 1 + ldN B (p + 1) 1 = p + 1 + kL (B p) by rw [hk, h1]]
        refine g_istore_n (pc := 194) F dX5_readsStatement_194 (by decide) ?_
        refine g_goto (pc := 195) F dX5_readsStatement_195 (tgt := 225) rfl ?_
        refine g_iload_n (pc := 225) F dX5_readsStatement_225 rfl ?_
        refine g_if_eq (pc := 226) F dX5_readsStatement_226 (tgt := 238) rfl (fun c_226 => absurd c_226 (by decide)) (fun c_226 => ?_)
        refine g_aload_n (pc := 229) F dX5_readsStatement_229 rfl ?_
        refine i_readV (pc := 230) F (m_here s m ig ws hg T sd th j n9 hj hn9 _ (p + 1 + kL (B p)) (by have := kL_le (B p); omega)) mi_X5_here kv_X5_109 rfl rfl dX5_readsStatement_230 (by decide) (by decide) rfl (Nat.le_of_ble_eq_true rfl) (by decide) (by decide) ?_
        refine g_bipush (pc := 233) F dX5_readsStatement_233 (v := nI 59) rfl ?_
        refine g_ic_eq (pc := 235) F dX5_readsStatement_235 (tgt := 240) rfl (fun c_235 => ?_) (fun c_235 => ?_)
        · have hok : okS B p := ⟨hl, hld, (hhc _ 59 (by decide)).mp c_235⟩
          refine g_aload_n (pc := 240) F dX5_readsStatement_240 rfl ?_
          refine g_dup (pc := 241) F dX5_readsStatement_241 rfl ?_
          refine g_getf (pc := 242) F fl_X5_99 dX5_readsStatement_242 rfl rfl ?_
          refine g_iconst (pc := 245) F dX5_readsStatement_245 (v := nI 1) rfl ?_
          refine g_iaddN (pc := 246) F dX5_readsStatement_246 ?_
          refine g_putf (pc := 247) F fl_X5_99 dX5_readsStatement_247 rfl (Nat.le_of_ble_eq_true rfl) ?_
          refine g_iconst (pc := 250) F dX5_readsStatement_250 (v := nI 1) rfl ?_
          exact g_zret (pc := 251) F X0 dX5_readsStatement_251 (by first | exact bI_nar _ | rfl) (Nat.le_of_ble_eq_true rfl) (Nat.le_of_ble_eq_true rfl) rfl (rp_y (Wd := (fun nq p2 => rW s m ig ws hg T (nq, nI (p2), nI (100 * j), nI n9, sd, th))) hok (by show p + 1 + kL (B p) + 1 = p + (kL (B p) + 2); omega) hnu)
        · have hbad : ¬ okS B p ∧ badS B p = p + 1 + kL (B p) := ⟨fun z => c_235 ((hhc _ 59 (by decide)).mpr z.2.2), bad_d hl (by rw [hld])⟩
          refine g_iconst (pc := 238) F dX5_readsStatement_238 (v := nI 0) rfl ?_
          exact g_zret (pc := 239) F X0 dX5_readsStatement_239 (by first | exact bI_nar _ | rfl) (Nat.le_of_ble_eq_true rfl) (Nat.le_of_ble_eq_true rfl) rfl (rp_n (Wd := (fun nq p2 => rW s m ig ws hg T (nq, nI (p2), nI (100 * j), nI n9, sd, th))) hbad.1 hbad.2.symm)
      · rw [show bI (decide (ldN B (p + 1) 1 = 1)) = nI 0 from (bI_n h1).symm]
        have hbad := rd_bad (t := ldN B (p + 1) 1) hl hk rfl h1
        refine g_istore_n (pc := 194) F dX5_readsStatement_194 (by decide) ?_
        refine g_goto (pc := 195) F dX5_readsStatement_195 (tgt := 225) rfl ?_
        refine g_iload_n (pc := 225) F dX5_readsStatement_225 rfl ?_
        refine g_if_eq (pc := 226) F dX5_readsStatement_226 (tgt := 238) rfl (fun c_226 => ?_) (fun c_226 => absurd (by decide) c_226)
        refine g_iconst (pc := 238) F dX5_readsStatement_238 (v := nI 0) rfl ?_
        exact g_zret (pc := 239) F X0 dX5_readsStatement_239 (by first | exact bI_nar _ | rfl) (Nat.le_of_ble_eq_true rfl) (Nat.le_of_ble_eq_true rfl) rfl (rp_n (Wd := (fun nq p2 => rW s m ig ws hg T (nq, nI (p2), nI (100 * j), nI n9, sd, th))) hbad.1 hbad.2.symm)
  · refine g_tableOut (pc := 16) F dX5_readsStatement_16 ho_16 (tgt := 213) rfl ?_
    have hnl : ¬ letP (B p) := by
      first
        | exact (fun z => by have e9 := (hhc p _ (by decide)).mp hx_16; rcases z with z | z | z | z | z | z | z <;> exact absurd (e9.symm.trans z) (by decide))
        | exact (fun z => by rcases z with z | z | z | z | z | z | z <;> (have e9 := (hhc p _ (by decide)).mpr z; rw [e9] at ho_16; exact absurd ho_16 (by decide)))
        | fail
    refine g_aload_n (pc := 213) F dX5_readsStatement_213 rfl ?_
    refine g_dup (pc := 214) F dX5_readsStatement_214 rfl ?_
    refine g_getf (pc := 215) F fl_X5_99 dX5_readsStatement_215 rfl rfl ?_
    refine g_iconst (pc := 218) F dX5_readsStatement_218 (v := nI 1) rfl ?_
    refine g_isubN (pc := 219) F dX5_readsStatement_219 (by omega) ?_
    refine g_putf (pc := 220) F fl_X5_99 dX5_readsStatement_220 rfl (Nat.le_of_ble_eq_true rfl) ?_
    refine g_iconst (pc := 223) F dX5_readsStatement_223 (v := nI 0) rfl ?_
    exact g_zret (pc := 224) F X0 dX5_readsStatement_224 (by first | exact bI_nar _ | rfl) (Nat.le_of_ble_eq_true rfl) (Nat.le_of_ble_eq_true rfl) rfl (rp_n (Wd := (fun nq p2 => rW s m ig ws hg T (nq, nI (p2), nI (100 * j), nI n9, sd, th))) (nq := nu) (p2 := p + 1 - 1) (fun z => hnl z.1) (by rw [bad_l hnl]; omega))

