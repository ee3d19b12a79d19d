/-! storm -/
section U2
variable {r : Nat → Int32} {x : Int32}
theorem u2_ne {j : Nat} (h : j ≠ 2) : upd r 2 x j = r j := upd_ne _ h
theorem u2_upd {j : Nat} {v : Int32} (h : j ≠ 2) : upd (upd r 2 x) j v = upd (upd r j v) 2 x := by
  funext i
  by_cases q : i = j
  · rw [q, upd_at, upd_ne _ h, upd_at]
  · rw [upd_ne _ q]
    by_cases q2 : i = 2
    · rw [q2, upd_at, upd_at]
    · rw [upd_ne _ q2, upd_ne _ q2, upd_ne _ q]
theorem u2_u2 {y : Int32} : upd (upd r 2 x) 2 y = upd r 2 y := by
  funext i
  by_cases q : i = 2
  · rw [q, upd_at, upd_at]
  · rw [upd_ne _ q, upd_ne _ q, upd_ne _ q]
theorem u2_same : upd r 2 (r 2) = r := by
  funext i
  by_cases q : i = 2
  · rw [q, upd_at]
  · rw [upd_ne _ q]
theorem u2_ix {c k : Nat} : upd r 2 x (ix c k) = r (ix c k) := u2_ne (by simp only [ix]; omega)
theorem u2_many : many (upd r 2 x) = many r := many_upd (by omega)
theorem u2_atN {c : Nat} : atN (upd r 2 x) c = atN r c := by unfold atN; rw [u2_ix]
theorem u2_lf {d : Nat} : lf (upd r 2 x) d = lf r d := by unfold lf; rw [u2_ne (by omega), u2_ne (by omega)]
theorem u2_cnt {c : Nat} {on : Int32} : cntR (upd r 2 x) c on = cntR r c on := by unfold cntR; rw [u2_ix, u2_ix, u2_atN, u2_lf]
theorem u2_wr {c : Nat} {v : Int32} : wrR (upd r 2 x) c v = upd (wrR r c v) 2 x := by unfold wrR; rw [u2_ix, u2_upd (by simp only [ix]; omega)]
theorem u2_stood {d way : Int32} : stoodR (upd r 2 x) d way = stoodR r d way := by
  unfold stoodR
  rw [u2_many]
  exact anyN_cong (fun i _ => by rw [u2_ix, u2_ix])
theorem u2_to {c : Nat} : toR (upd r 2 x) c = toR r c := by unfold toR; rw [u2_ix, u2_ix]
theorem u2_goes {c : Nat} : goesR (upd r 2 x) c = upd (goesR r c) 2 x := by
  unfold goesR
  rw [u2_to, u2_ix, u2_stood]
  by_cases q : (nI 0 ≤ toR r c ∧ toR r c ≤ nI 9) ∧ stoodR r (toR r c) (nI 1 - r (ix c 3)) = false
  · rw [if_pos q, if_pos q, u2_upd (by simp only [ix]; omega)]
  · rw [if_neg q, if_neg q]
theorem u2_workB {c d : Nat} {v : Int32} : workB (upd r 2 x) c d v = upd (workB r c d v) 2 x := by
  unfold workB
  rw [u2_ne (by omega), u2_upd (by omega), u2_ix, u2_ix, u2_wr]
theorem u2_works {c : Nat} : worksR (upd r 2 x) c = upd (worksR r c) 2 x := by
  unfold worksR
  rw [u2_ix, u2_ne (j := 4) (by omega), u2_wr, u2_atN, u2_ne (j := 1) (by omega), u2_cnt, u2_workB, u2_lf, u2_goes]
  by_cases q : r (ix c 5) = nI 1
  · rw [if_pos q, if_pos q]
  · rw [if_neg q, if_neg q]
    by_cases q2 : hasb (r 4) (nI c) = true
    · rw [if_pos q2, if_pos q2]
    · rw [if_neg q2, if_neg q2]
      by_cases q3 : lf (workB r c (atN r c) (cntR r c (r 1))) (atN r c) = 0
      · rw [if_pos q3, if_pos q3]
      · rw [if_neg q3, if_neg q3]
theorem u2_gives {d to : Nat} {w : Int32} : givesR (upd r 2 x) d to w = upd (givesR r d to w) 2 x := by
  have eV : gvV (upd r 2 x) d to w = gvV r d to w := by unfold gvV; rw [u2_ne (by omega), u2_ne (by omega)]
  have eL : gvL (upd r 2 x) d to w = gvL r d to w := by unfold gvL; rw [eV, u2_lf]
  have e1 : gv1 (upd r 2 x) d to w = upd (gv1 r d to w) 2 x := by unfold gv1; rw [eV, u2_ne (by omega), u2_upd (by omega)]
  have e2 : gv2 (upd r 2 x) d to w = upd (gv2 r d to w) 2 x := by unfold gv2; rw [e1, eL, u2_ne (by omega), u2_upd (by omega)]
  have e3 : gv3 (upd r 2 x) d to w = upd (gv3 r d to w) 2 x := by unfold gv3; rw [e2, eL, u2_ne (by omega), u2_upd (by omega)]
  unfold givesR
  rw [e3, eV, u2_ne (by omega), u2_upd (by omega)]
end U2
theorem u2_it {F : Nat → (Nat → Int32) → (Nat → Int32)} {x : Int32} (h : ∀ i q, F i (upd q 2 x) = upd (F i q) 2 x) (r : Nat → Int32) : ∀ n, it F n (upd r 2 x) = upd (it F n r) 2 x
  | 0 => rfl
  | n + 1 => by rw [it_succ, it_succ, u2_it h r n, h]
theorem u2_day {r : Nat → Int32} {x w : Int32} : dayR (upd r 2 x) w = upd (dayR r w) 2 x := by
  have e1 : allWork (upd (upd r 2 x) 1 (upd r 2 x 1 + nI 1)) = upd (allWork (upd r 1 (r 1 + nI 1))) 2 x := by
    rw [u2_ne (by omega), u2_upd (by omega)]
    unfold allWork
    rw [u2_many]
    exact u2_it (fun i q => u2_works) _ _
  unfold dayR
  rw [e1]
  unfold blowR
  by_cases q : 0 < w
  · rw [if_pos q, if_pos q]
    exact u2_it (fun i q => u2_gives) _ _
  · rw [if_neg q, if_neg q]
    by_cases q2 : w < 0
    · rw [if_pos q2, if_pos q2]
      exact u2_it (fun i q => u2_gives) _ _
    · rw [if_neg q2, if_neg q2]
/-- the wind of day k of the set, the row behind k days, how much the set weighs, what is done -/
def stW (st k : Nat) (q : Nat → Int32) : Int32 := if hasb (nI st) (nI k) = true then nI 9 else q 2
def stR (r : Nat → Int32) (st k : Nat) : Nat → Int32 := it (fun k q => dayR q (stW st k q)) k r
def wtN (t st k : Nat) : Nat := it (fun k z => z * (if hasb (nI st) (nI k) = true then 1 else t - 1)) k 1
def abN (r : Nat → Int32) (dd n t i : Nat) : Nat := it (fun st z => z + (if lf (stR r st n) dd = 0 then wtN t st n else 0)) i 0
theorem stW_y {st k : Nat} {q : Nat → Int32} (h : hasb (nI st) (nI k) = true) : stW st k q = nI 9 := if_pos h
theorem stW_n {st k : Nat} {q : Nat → Int32} (h : hasb (nI st) (nI k) = false) : stW st k q = q 2 := if_neg (by rw [h]; decide)
theorem wt_y {t st k : Nat} (h : hasb (nI st) (nI k) = true) : wtN t st (k + 1) = wtN t st k * 1 := congrArg (fun z => wtN t st k * z) (if_pos h)
theorem wt_n {t st k : Nat} (h : hasb (nI st) (nI k) = false) : wtN t st (k + 1) = wtN t st k * (t - 1) := congrArg (fun z => wtN t st k * z) (if_neg (by rw [h]; decide))
theorem ab_y {r : Nat → Int32} {dd n t i : Nat} (h : lf (stR r i n) dd = 0) : abN r dd n t (i + 1) = abN r dd n t i + wtN t i n := congrArg (fun z => abN r dd n t i + z) (if_pos h)
theorem ab_n {r : Nat → Int32} {dd n t i : Nat} (h : ¬ lf (stR r i n) dd = 0) : abN r dd n t (i + 1) = abN r dd n t i + 0 := congrArg (fun z => abN r dd n t i + z) (if_neg h)
theorem stR_s {r : Nat → Int32} {st k : Nat} : stR r st (k + 1) = dayR (stR r st k) (stW st k (stR r st k)) := rfl
theorem stR_ok {r : Nat → Int32} {st : Nat} (hI : Iv r) : ∀ k, Iv (stR r st k) ∧ stR r st k 2 = r 2
  | 0 => ⟨hI, rfl⟩
  | k + 1 => by
    obtain ⟨h1, h2⟩ := stR_ok (st := st) hI k
    have hb : -9 ≤ (stW st k (stR r st k)).toInt ∧ (stW st k (stR r st k)).toInt ≤ 9 := by
      unfold stW
      split
      · decide
      · exact h1.2.2.2
    obtain ⟨g1, g2, g3, g4, g5⟩ := dayR_ok h1 hb.1 hb.2
    exact ⟨g1, g4.trans h2⟩
theorem st_step {b w : Int32} {Y : DX} {r : Nat → Int32} {st k : Nat} (hw : stW st k (stR r st k) = w) (h : Rel b Y (dayR (upd (stR r st k) 2 w) (upd (stR r st k) 2 w 2))) : Rel b Y (upd (stR r st (k + 1)) 2 w) := by
  rw [stR_s, hw]
  rw [upd_at, u2_day] at h
  exact h
theorem wt_bd {t st : Nat} (ht : t ≤ 20) : ∀ k, wtN t st k ≤ 19 ^ k
  | 0 => Nat.le_refl 1
  | k + 1 => by
    have h := wt_bd (st := st) ht k
    have e : wtN t st (k + 1) = wtN t st k * (if hasb (nI st) (nI k) = true then 1 else t - 1) := rfl
    rw [e]
    exact Nat.mul_le_mul h (by split <;> omega)
theorem ab_bd {r : Nat → Int32} {dd n t : Nat} (ht : t ≤ 20) (hn : n ≤ 7) : ∀ i, abN r dd n t i ≤ i * 19 ^ 7
  | 0 => Nat.zero_le _
  | i + 1 => by
    have h := ab_bd (r := r) (dd := dd) ht hn i
    have h1 := wt_bd (st := i) ht n
    have h2 : 19 ^ n ≤ 19 ^ 7 := Nat.pow_le_pow_right (by decide) hn
    have e : abN r dd n t (i + 1) = abN r dd n t i + (if lf (stR r i n) dd = 0 then wtN t i n else 0) := rfl
    rw [e, Nat.succ_mul]
    refine Nat.add_le_add h ?_
    split
    · exact Nat.le_trans h1 h2
    · exact Nat.zero_le _
theorem ab_40 {r : Nat → Int32} {dd n t : Nat} (ht : t ≤ 20) (hn : n ≤ 7) : abN r dd n t (2 ^ n) < 2 ^ 40 := by
  have h1 : 2 ^ n ≤ 2 ^ 7 := Nat.pow_le_pow_right (by decide) hn
  exact Nat.lt_of_le_of_lt (Nat.le_trans (ab_bd ht hn _) (Nat.mul_le_mul_right _ h1)) (by decide)
theorem pw_bd {t n : Nat} (ht : t ≤ 20) (ht2 : 2 ≤ t) (hn : n ≤ 7) : 0 < t ^ n ∧ t ^ n < 2 ^ 40 := by
  have h1 : t ^ n ≤ 20 ^ n := Nat.pow_le_pow_left ht n
  have h2 : (20 : Nat) ^ n ≤ 20 ^ 7 := Nat.pow_le_pow_right (by decide) hn
  have h3 : (20 : Nat) ^ 7 = 1280000000 := by decide
  exact ⟨Nat.pow_pos (by omega), by omega⟩
theorem shl_E : ∀ n, n < 8 → nI 1 <<< (nI n &&& 31) = nI (2 ^ n) := by decide
theorem E_le : ∀ n, n < 8 → 2 ^ n ≤ 128 := by decide
theorem t_ex {t : Int32} (h : nI 2 ≤ t ∧ t ≤ nI 20) : ∃ q, 2 ≤ q ∧ q ≤ 20 ∧ t = nI q := by
  obtain ⟨q, hq, rfl⟩ := in_ex (by decide) (⟨Int32.le_trans (by decide) h.1, h.2⟩ : nI 0 ≤ t ∧ t ≤ nI 20)
  have := (nI_leI (by decide) (by omega)).mp h.1
  exact ⟨q, this, hq, rfl⟩
abbrev stP (dd n t p : Int32) : Prop := dipP dd ∧ (nI 0 ≤ n ∧ n ≤ nI 7) ∧ (nI 2 ≤ t ∧ t ≤ nI 20) ∧ b01 p
def S_storm (r : Nat → Int32) (dd n t p : Int32) : Int64 := if stP dd n t p then partV (abN r (N dd) (N n) (N t) (2 ^ N n)) (N t ^ N n) p else 1000000001
theorem S_storm_y {r : Nat → Int32} {e n t : Nat} {p : Int32} (h : stP (nI e) (nI n) (nI t) p) (he : e < 10) (hn : n ≤ 7) (ht : t ≤ 20) : S_storm r (nI e) (nI n) (nI t) p = partV (abN r e n t (2 ^ n)) (t ^ n) p := by
  refine (if_pos h).trans ?_
  rw [N_nI (by omega), N_nI (by omega), N_nI (by omega)]
set_option maxRecDepth 100000 in
set_option maxHeartbeats 800000 in
theorem c_storm (b : Int32) (X Y Z : DX) (im : Int32) (S : Nat → SX) (g h : Nat → Int32) (r : Nat → Int32) (hR : Rel b X r) (hI : Iv r) (h4 : r 4 = nI 0) (dd n0 t0 p : Int32) : Ctr yX4_storm cX4_storm 12 (some .long) 7 0 0 [.ref 0, .int dd, .int n0, .int t0, .int p] (mW X Y Z im S g h) (Look (.long (S_storm r dd n0 t0 p)) X Z im S) := by
  refine Ctr.of rfl (Nat.le_of_ble_eq_true rfl) ⟨clS_of rfl, mW_cl _ _ _ _ _ _ _⟩ (fun K F X0 => ?_)
  show Go K 0 0 0 [(0, .ref 0), (1, .int dd), (2, .int n0), (3, .int t0), (4, .int p)] [] (mW X Y Z im S g h)
  refine g_iload_n (pc := 0) F dX4_storm_0 rfl ?_
  refine h_readS (pc := 1) F (c_isDip _) mi_X4_isDip ks_X4_117 dX4_storm_1 [] rfl (by decide) (by decide) rfl rfl (Nat.le_of_ble_eq_true rfl) trivial (by decide) (by decide) ?_
  refine g_ifeq_d (pc := 4) F dX4_storm_4 (tgt := 37) rfl (fun c_4 => ?_) (fun c_4 => ?_)
  · refine g_ldc2 (pc := 37) F dX4_storm_37 kl_X4_220 ?_
    exact g_lret (pc := 40) F X0 dX4_storm_40 (Nat.le_of_ble_eq_true rfl) (Nat.le_of_ble_eq_true rfl) rfl ⟨congrArg (fun z => some (Value.long z)) (by first | exact (if_neg (fun z => c_4 z.1)).symm | exact (if_neg (fun z => c_14 z.2.1)).symm | exact (if_neg (fun z => c_24 z.2.2.1)).symm | exact (if_neg (fun z => c_34 z.2.2.2)).symm | fail), Y, g, h, rfl⟩
  · refine g_iload_n (pc := 7) F dX4_storm_7 rfl ?_
    refine g_iconst (pc := 8) F dX4_storm_8 (v := nI 0) rfl ?_
    refine g_bipush (pc := 9) F dX4_storm_9 (v := nI 7) rfl ?_
    refine h_readS (pc := 11) F (c_isWithin _ _ _) mi_X4_isWithin ks_X4_129 dX4_storm_11 [] rfl (by decide) (by decide) rfl rfl (Nat.le_of_ble_eq_true rfl) trivial (by decide) (by decide) ?_
    refine g_ifeq_d (pc := 14) F dX4_storm_14 (tgt := 37) rfl (fun c_14 => ?_) (fun c_14 => ?_)
    · refine g_ldc2 (pc := 37) F dX4_storm_37 kl_X4_220 ?_
      exact g_lret (pc := 40) F X0 dX4_storm_40 (Nat.le_of_ble_eq_true rfl) (Nat.le_of_ble_eq_true rfl) rfl ⟨congrArg (fun z => some (Value.long z)) (by first | exact (if_neg (fun z => c_4 z.1)).symm | exact (if_neg (fun z => c_14 z.2.1)).symm | exact (if_neg (fun z => c_24 z.2.2.1)).symm | exact (if_neg (fun z => c_34 z.2.2.2)).symm | fail), Y, g, h, rfl⟩
    · refine g_iload_n (pc := 17) F dX4_storm_17 rfl ?_
      refine g_iconst (pc := 18) F dX4_storm_18 (v := nI 2) rfl ?_
      refine g_bipush (pc := 19) F dX4_storm_19 (v := nI 20) rfl ?_
      refine h_readS (pc := 21) F (c_isWithin _ _ _) mi_X4_isWithin ks_X4_129 dX4_storm_21 [] rfl (by decide) (by decide) rfl rfl (Nat.le_of_ble_eq_true rfl) trivial (by decide) (by decide) ?_
      refine g_ifeq_d (pc := 24) F dX4_storm_24 (tgt := 37) rfl (fun c_24 => ?_) (fun c_24 => ?_)
      · refine g_ldc2 (pc := 37) F dX4_storm_37 kl_X4_220 ?_
        exact g_lret (pc := 40) F X0 dX4_storm_40 (Nat.le_of_ble_eq_true rfl) (Nat.le_of_ble_eq_true rfl) rfl ⟨congrArg (fun z => some (Value.long z)) (by first | exact (if_neg (fun z => c_4 z.1)).symm | exact (if_neg (fun z => c_14 z.2.1)).symm | exact (if_neg (fun z => c_24 z.2.2.1)).symm | exact (if_neg (fun z => c_34 z.2.2.2)).symm | fail), Y, g, h, rfl⟩
      · refine g_iload (pc := 27) F dX4_storm_27 rfl ?_
        refine g_iconst (pc := 29) F dX4_storm_29 (v := nI 0) rfl ?_
        refine g_iconst (pc := 30) F dX4_storm_30 (v := nI 1) rfl ?_
        refine h_readS (pc := 31) F (c_isWithin _ _ _) mi_X4_isWithin ks_X4_129 dX4_storm_31 [] rfl (by decide) (by decide) rfl rfl (Nat.le_of_ble_eq_true rfl) trivial (by decide) (by decide) ?_
        refine g_ifne_d (pc := 34) F dX4_storm_34 (tgt := 41) rfl (fun c_34 => ?_) (fun c_34 => ?_)
        · obtain ⟨e, he, rfl⟩ := dip_ex c_4
          obtain ⟨n, hn, rfl⟩ := in_ex (by decide) c_14
          obtain ⟨t, ht2, ht, rfl⟩ := t_ex c_24
          have hE := shl_E n (by omega)
          have hE2 := E_le n (by omega)
          obtain ⟨E, hE9⟩ : ∃ E, 2 ^ n = E := ⟨_, rfl⟩
          rw [hE9] at hE hE2
          refine g_lconst (pc := 41) F dX4_storm_41 (v := lN 0) rfl ?_
          refine g_lstore (pc := 42) F dX4_storm_42 (by decide) ?_
          refine g_iconst (pc := 44) F dX4_storm_44 (v := nI 0) rfl ?_
          refine g_istore (pc := 45) F dX4_storm_45 (by decide) ?_
          have L : ∀ st, st ≤ E → ∀ Ya, Go K 0 0 47 [(0, .ref 0), (1, .int (nI e)), (2, .int (nI n)), (3, .int (nI t)), (4, .int p), (5, .long (lN (abN r e n t st))), (7, .int (nI (st)))] [] (mW X Ya Z im S g h) := loop_up (P := fun st => ∀ Ya, Go K 0 0 47 [(0, .ref 0), (1, .int (nI e)), (2, .int (nI n)), (3, .int (nI t)), (4, .int p), (5, .long (lN (abN r e n t st))), (7, .int (nI (st)))] [] (mW X Ya Z im S g h)) (fun st hiL ih => by
            intro Ya
            refine g_iload (pc := 47) F dX4_storm_47 rfl ?_
            refine g_iconst (pc := 49) F dX4_storm_49 (v := nI 1) rfl ?_
            refine g_iload_n (pc := 50) F dX4_storm_50 rfl ?_
            refine g_ishl (pc := 51) F dX4_storm_51 ?_
            rw [hE]
            refine g_icN_ge (pc := 52) F dX4_storm_52 (tgt := 166) rfl rfl rfl (by omega) (by omega) (fun c_52 => ?_) (fun c_52 => ?_)
            · obtain rfl : st = E := by omega
              rw [← hE9]
              refine g_lconst (pc := 166) F dX4_storm_166 (v := lN 1) rfl ?_
              refine g_lstore (pc := 167) F dX4_storm_167 (by decide) ?_
              refine g_iconst (pc := 169) F dX4_storm_169 (v := nI 0) rfl ?_
              refine g_istore (pc := 170) F dX4_storm_170 (by decide) ?_
              have hp := pw_bd (n := n) ht ht2 hn
              have ha := ab_40 (r := r) (dd := e) ht hn
              have L3 : ∀ i, i ≤ n → Go K 0 0 172 [(0, .ref 0), (1, .int (nI e)), (2, .int (nI n)), (3, .int (nI t)), (4, .int p), (5, .long (lN (abN r e n t (2 ^ n)))), (7, .long (lN (t ^ (i)))), (9, .int (nI (i)))] [] (mW X Ya Z im S g h) := loop_up (P := fun i => Go K 0 0 172 [(0, .ref 0), (1, .int (nI e)), (2, .int (nI n)), (3, .int (nI t)), (4, .int p), (5, .long (lN (abN r e n t (2 ^ n)))), (7, .long (lN (t ^ (i)))), (9, .int (nI (i)))] [] (mW X Ya Z im S g h)) (fun i hiL3 ih3 => by
                skip
                refine g_iload (pc := 172) F dX4_storm_172 rfl ?_
                refine g_iload_n (pc := 174) F dX4_storm_174 rfl ?_
                refine g_icN_ge (pc := 175) F dX4_storm_175 (tgt := 191) rfl rfl rfl (by omega) (by omega) (fun c_175 => ?_) (fun c_175 => ?_)
                · obtain rfl : i = n := by omega
                  refine g_lload (pc := 191) F dX4_storm_191 rfl ?_
                  refine g_lload (pc := 193) F dX4_storm_193 rfl ?_
                  refine g_iload (pc := 195) F dX4_storm_195 rfl ?_
                  refine h_readS (pc := 197) F (c_parts (abN r e i t (2 ^ i)) (t ^ i) p (by omega) hp.1 hp.2) mi_X4_partInLeastTerms ks_X4_225 dX4_storm_197 [] rfl (by decide) (by decide) rfl rfl (Nat.le_of_ble_eq_true rfl) trivial (by decide) (by decide) ?_
                  exact g_lret (pc := 200) F X0 dX4_storm_200 (Nat.le_of_ble_eq_true rfl) (Nat.le_of_ble_eq_true rfl) rfl ⟨congrArg (fun z => some (Value.long z)) (S_storm_y ⟨c_4, c_14, c_24, c_34⟩ he hn ht).symm, Ya, g, h, rfl⟩
                · refine g_lload (pc := 178) F dX4_storm_178 rfl ?_
                  refine g_iload_n (pc := 180) F dX4_storm_180 rfl ?_
                  refine g_i2l (pc := 181) F dX4_storm_181 ?_
                  rw [i2l_nI (by omega)]
                  refine g_lmul (pc := 182) F dX4_storm_182 ?_
                  rw [lN_mul]
                  refine g_lstore (pc := 183) F dX4_storm_183 (by decide) ?_
                  refine g_iincN (pc := 185) F dX4_storm_185 rfl (by decide) ?_
                  refine g_goto (pc := 188) F dX4_storm_188 (tgt := 172) rfl ?_
                  exact ih3 c_175)
              exact L3 0 (Nat.zero_le _)
            · refine g_aload_n (pc := 55) F dX4_storm_55 rfl ?_
              refine g_getf (pc := 56) F fl_X4_16 dX4_storm_56 rfl rfl ?_
              refine g_aload_n (pc := 59) F dX4_storm_59 rfl ?_
              refine g_getf (pc := 60) F fl_X4_12 dX4_storm_60 rfl rfl ?_
              refine h_callV (pc := 63) F (c_becomes b Ya X r hR hI h4) mi_X0_becomes kv_X4_57 rfl rfl dX4_storm_63 [9, 10, 11, 12, 13, 14, 15, 16, 1, 2, 3, 4, 5, 6, 7, 8] sub_mn (by decide) (by decide) rfl rfl (Nat.le_of_ble_eq_true rfl) (by decide) (by decide) ?_
              rintro _ _ ⟨rfl, Y2, rfl, hY2⟩ -
              rw [place_mn]
              refine g_lconst (pc := 66) F dX4_storm_66 (v := lN 1) rfl ?_
              refine g_lstore (pc := 67) F dX4_storm_67 (by decide) ?_
              refine g_iconst (pc := 69) F dX4_storm_69 (v := nI 0) rfl ?_
              refine g_istore (pc := 70) F dX4_storm_70 (by decide) ?_
              have L2 : ∀ k, k ≤ n → ∀ Ya xx, Rel (nI 0 - r 3) Ya (upd (stR r st k) 2 xx) → Go K 0 0 72 [(0, .ref 0), (1, .int (nI e)), (2, .int (nI n)), (3, .int (nI t)), (4, .int p), (5, .long (lN (abN r e n t st))), (7, .int (nI (st))), (8, .long (lN (wtN t st k))), (10, .int (nI (k)))] [] (mW X Ya Z im S g h) := loop_up (P := fun k => ∀ Ya xx, Rel (nI 0 - r 3) Ya (upd (stR r st k) 2 xx) → Go K 0 0 72 [(0, .ref 0), (1, .int (nI e)), (2, .int (nI n)), (3, .int (nI t)), (4, .int p), (5, .long (lN (abN r e n t st))), (7, .int (nI (st))), (8, .long (lN (wtN t st k))), (10, .int (nI (k)))] [] (mW X Ya Z im S g h)) (fun k hiL2 ih2 => by
                intro Ya xx hYa
                refine g_iload (pc := 72) F dX4_storm_72 rfl ?_
                refine g_iload_n (pc := 74) F dX4_storm_74 rfl ?_
                refine g_icN_ge (pc := 75) F dX4_storm_75 (tgt := 142) rfl rfl rfl (by omega) (by omega) (fun c_75 => ?_) (fun c_75 => ?_)
                · obtain rfl : n = k := by omega
                  have e0 : lf (stR r st n) e = 0 ↔ dD Ya e = dG Ya e := by
                    have a1 := (hYa.2.2.1 e he).1
                    have a2 := (hYa.2.2.1 e he).2
                    rw [u2_ne (by omega)] at a1 a2
                    rw [a1, a2]
                    exact sub_0.symm
                  refine g_aload_n (pc := 142) F dX4_storm_142 rfl ?_
                  refine g_getf (pc := 143) F fl_X4_16 dX4_storm_143 rfl rfl ?_
                  refine g_iload_n (pc := 146) F dX4_storm_146 rfl ?_
                  refine h_readV (pc := 147) F (c_isDone Ya _ e rfl he) mi_X0_isDone kv_X4_222 rfl rfl dX4_storm_147 [9, 10, 11, 12, 13, 14, 15, 16] sub_mind (by decide) (by decide) rfl rfl (Nat.le_of_ble_eq_true rfl) trivial (by decide) (by decide) ?_
                  refine g_ifeq_d (pc := 150) F dX4_storm_150 (tgt := 160) rfl (fun c_150 => ?_) (fun c_150 => ?_)
                  · refine g_iincN (pc := 160) F dX4_storm_160 rfl (by decide) ?_
                    refine g_goto (pc := 163) F dX4_storm_163 (tgt := 47) rfl ?_
                    refine g_less [0, 1, 2, 3, 4, 5, 6] rfl ?_
                    first
                      | exact (congrArg (fun z => Go K 0 0 47 [(0, .ref 0), (1, .int (nI e)), (2, .int (nI n)), (3, .int (nI t)), (4, .int p), (5, .long (lN (z))), (7, .int (nI (st + 1)))] [] (mW X Ya Z im S g h)) (ab_y (e0.mpr c_150))).mp (ih c_52 Ya)
                      | exact (congrArg (fun z => Go K 0 0 47 [(0, .ref 0), (1, .int (nI e)), (2, .int (nI n)), (3, .int (nI t)), (4, .int p), (5, .long (lN (z))), (7, .int (nI (st + 1)))] [] (mW X Ya Z im S g h)) (ab_n (fun z => c_150 (e0.mp z)))).mp (ih c_52 Ya)
                      | fail
                  · refine g_lload (pc := 153) F dX4_storm_153 rfl ?_
                    refine g_lload (pc := 155) F dX4_storm_155 rfl ?_
                    refine g_ladd (pc := 157) F dX4_storm_157 ?_
                    rw [lN_add]
                    refine g_lstore (pc := 158) F dX4_storm_158 (by decide) ?_
                    refine g_iincN (pc := 160) F dX4_storm_160 rfl (by decide) ?_
                    refine g_goto (pc := 163) F dX4_storm_163 (tgt := 47) rfl ?_
                    refine g_less [0, 1, 2, 3, 4, 5, 6] rfl ?_
                    first
                      | exact (congrArg (fun z => Go K 0 0 47 [(0, .ref 0), (1, .int (nI e)), (2, .int (nI n)), (3, .int (nI t)), (4, .int p), (5, .long (lN (z))), (7, .int (nI (st + 1)))] [] (mW X Ya Z im S g h)) (ab_y (e0.mpr c_150))).mp (ih c_52 Ya)
                      | exact (congrArg (fun z => Go K 0 0 47 [(0, .ref 0), (1, .int (nI e)), (2, .int (nI n)), (3, .int (nI t)), (4, .int p), (5, .long (lN (z))), (7, .int (nI (st + 1)))] [] (mW X Ya Z im S g h)) (ab_n (fun z => c_150 (e0.mp z)))).mp (ih c_52 Ya)
                      | fail
                · refine g_iload (pc := 78) F dX4_storm_78 rfl ?_
                  refine g_iload (pc := 80) F dX4_storm_80 rfl ?_
                  refine h_readS (pc := 82) F (c_hasBit _ _) mi_X4_hasBit ks_X4_100 dX4_storm_82 [] rfl (by decide) (by decide) rfl rfl (Nat.le_of_ble_eq_true rfl) trivial (by decide) (by decide) ?_
                  refine g_istore (pc := 85) F dX4_storm_85 (by decide) ?_
                  refine g_aload_n (pc := 87) F dX4_storm_87 rfl ?_
                  refine g_getf (pc := 88) F fl_X4_16 dX4_storm_88 rfl rfl ?_
                  refine g_iload (pc := 91) F dX4_storm_91 rfl ?_
                  refine g_ifeq_b (pc := 93) F dX4_storm_93 (tgt := 101) rfl (fun c_93 => ?_) (fun c_93 => ?_)
                  · refine g_aload_n (pc := 101) F dX4_storm_101 rfl ?_
                    refine g_getf (pc := 102) F fl_X4_12 dX4_storm_102 rfl rfl ?_
                    refine g_getf (pc := 105) F fl_X4_156 dX4_storm_105 rfl rfl ?_
                    refine g_putf (pc := 108) F fl_X4_156 dX4_storm_108 rfl (Nat.le_of_ble_eq_true rfl) ?_
                    show Go K 0 0 111 _ _ (mW X (sWi Ya (dWi X)) Z im S g h)
                    have hw : stW st k (stR r st k) = dWi X := (stW_n c_93).trans ((stR_ok hI k).2.trans hR.1.2.2.1.symm)
                    have hwb : -9 ≤ (dWi X).toInt ∧ (dWi X).toInt ≤ 9 := by rw [hR.1.2.2.1]; exact hI.2.2.2
                    have hY3 : Rel (nI 0 - r 3) (sWi Ya (dWi X)) (upd (stR r st k) 2 (dWi X)) := by
                      have z := Rel_wind (v := dWi X) hYa
                      rw [u2_u2] at z
                      exact z
                    have hI3 : Iv (upd (stR r st k) 2 (dWi X)) := Iv_wind (stR_ok hI k).1 hwb.1 hwb.2
                    refine g_lload (pc := 111) F dX4_storm_111 rfl ?_
                    refine g_iload (pc := 113) F dX4_storm_113 rfl ?_
                    refine g_ifeq_b (pc := 115) F dX4_storm_115 (tgt := 122) rfl (fun c_115 => ?_) (fun c_115 => ?_)
                    · refine g_iload_n (pc := 122) F dX4_storm_122 rfl ?_
                      refine g_iconst (pc := 123) F dX4_storm_123 (v := nI 1) rfl ?_
                      refine g_isubN (pc := 124) F dX4_storm_124 (by omega) ?_
                      refine g_i2l (pc := 125) F dX4_storm_125 ?_
                      rw [i2l_nI (by omega)]
                      refine g_lmul (pc := 126) F dX4_storm_126 ?_
                      rw [lN_mul]
                      refine g_lstore (pc := 127) F dX4_storm_127 (by decide) ?_
                      refine g_aload_n (pc := 129) F dX4_storm_129 rfl ?_
                      refine g_getf (pc := 130) F fl_X4_16 dX4_storm_130 rfl rfl ?_
                      refine h_callV (pc := 133) F (c_passDay _ _ _ hY3 hI3) mi_X0_passDay kv_X4_182 rfl rfl dX4_storm_133 [9, 10, 11, 12, 13, 14, 15, 16] sub_mind (by decide) (by decide) rfl rfl (Nat.le_of_ble_eq_true rfl) (by decide) (by decide) ?_
                      rintro _ _ ⟨rfl, Y4, rfl, hY4⟩ -
                      rw [place_mind]
                      refine g_iincN (pc := 136) F dX4_storm_136 rfl (by decide) ?_
                      refine g_goto (pc := 139) F dX4_storm_139 (tgt := 72) rfl ?_
                      refine g_less [0, 1, 2, 3, 4, 5, 6, 7, 8] rfl ?_
                      first
                        | exact (congrArg (fun z => Go K 0 0 72 [(0, .ref 0), (1, .int (nI e)), (2, .int (nI n)), (3, .int (nI t)), (4, .int p), (5, .long (lN (abN r e n t st))), (7, .int (nI (st))), (8, .long (lN (z))), (10, .int (nI (k + 1)))] [] (mW X Y4 Z im S g h)) (wt_y c_115)).mp (ih2 c_75 Y4 _ (st_step hw hY4))
                        | exact (congrArg (fun z => Go K 0 0 72 [(0, .ref 0), (1, .int (nI e)), (2, .int (nI n)), (3, .int (nI t)), (4, .int p), (5, .long (lN (abN r e n t st))), (7, .int (nI (st))), (8, .long (lN (z))), (10, .int (nI (k + 1)))] [] (mW X Y4 Z im S g h)) (wt_n c_115)).mp (ih2 c_75 Y4 _ (st_step hw hY4))
                        | exact absurd (c_93.symm.trans c_115) (by decide)
                        | fail
                    · refine g_lconst (pc := 118) F dX4_storm_118 (v := lN 1) rfl ?_
                      refine g_goto (pc := 119) F dX4_storm_119 (tgt := 126) rfl ?_
                      refine g_lmul (pc := 126) F dX4_storm_126 ?_
                      rw [lN_mul]
                      refine g_lstore (pc := 127) F dX4_storm_127 (by decide) ?_
                      refine g_aload_n (pc := 129) F dX4_storm_129 rfl ?_
                      refine g_getf (pc := 130) F fl_X4_16 dX4_storm_130 rfl rfl ?_
                      refine h_callV (pc := 133) F (c_passDay _ _ _ hY3 hI3) mi_X0_passDay kv_X4_182 rfl rfl dX4_storm_133 [9, 10, 11, 12, 13, 14, 15, 16] sub_mind (by decide) (by decide) rfl rfl (Nat.le_of_ble_eq_true rfl) (by decide) (by decide) ?_
                      rintro _ _ ⟨rfl, Y4, rfl, hY4⟩ -
                      rw [place_mind]
                      refine g_iincN (pc := 136) F dX4_storm_136 rfl (by decide) ?_
                      refine g_goto (pc := 139) F dX4_storm_139 (tgt := 72) rfl ?_
                      refine g_less [0, 1, 2, 3, 4, 5, 6, 7, 8] rfl ?_
                      first
                        | exact (congrArg (fun z => Go K 0 0 72 [(0, .ref 0), (1, .int (nI e)), (2, .int (nI n)), (3, .int (nI t)), (4, .int p), (5, .long (lN (abN r e n t st))), (7, .int (nI (st))), (8, .long (lN (z))), (10, .int (nI (k + 1)))] [] (mW X Y4 Z im S g h)) (wt_y c_115)).mp (ih2 c_75 Y4 _ (st_step hw hY4))
                        | exact (congrArg (fun z => Go K 0 0 72 [(0, .ref 0), (1, .int (nI e)), (2, .int (nI n)), (3, .int (nI t)), (4, .int p), (5, .long (lN (abN r e n t st))), (7, .int (nI (st))), (8, .long (lN (z))), (10, .int (nI (k + 1)))] [] (mW X Y4 Z im S g h)) (wt_n c_115)).mp (ih2 c_75 Y4 _ (st_step hw hY4))
                        | exact absurd (c_93.symm.trans c_115) (by decide)
                        | fail
                  · refine g_bipush (pc := 96) F dX4_storm_96 (v := nI 9) rfl ?_
                    refine g_goto (pc := 98) F dX4_storm_98 (tgt := 108) rfl ?_
                    refine g_putf (pc := 108) F fl_X4_156 dX4_storm_108 rfl (Nat.le_of_ble_eq_true rfl) ?_
                    show Go K 0 0 111 _ _ (mW X (sWi Ya (nI 9)) Z im S g h)
                    have hw : stW st k (stR r st k) = nI 9 := stW_y c_93
                    have hwb : -9 ≤ (nI 9).toInt ∧ (nI 9).toInt ≤ 9 := by decide
                    have hY3 : Rel (nI 0 - r 3) (sWi Ya (nI 9)) (upd (stR r st k) 2 (nI 9)) := by
                      have z := Rel_wind (v := nI 9) hYa
                      rw [u2_u2] at z
                      exact z
                    have hI3 : Iv (upd (stR r st k) 2 (nI 9)) := Iv_wind (stR_ok hI k).1 hwb.1 hwb.2
                    refine g_lload (pc := 111) F dX4_storm_111 rfl ?_
                    refine g_iload (pc := 113) F dX4_storm_113 rfl ?_
                    refine g_ifeq_b (pc := 115) F dX4_storm_115 (tgt := 122) rfl (fun c_115 => ?_) (fun c_115 => ?_)
                    · refine g_iload_n (pc := 122) F dX4_storm_122 rfl ?_
                      refine g_iconst (pc := 123) F dX4_storm_123 (v := nI 1) rfl ?_
                      refine g_isubN (pc := 124) F dX4_storm_124 (by omega) ?_
                      refine g_i2l (pc := 125) F dX4_storm_125 ?_
                      rw [i2l_nI (by omega)]
                      refine g_lmul (pc := 126) F dX4_storm_126 ?_
                      rw [lN_mul]
                      refine g_lstore (pc := 127) F dX4_storm_127 (by decide) ?_
                      refine g_aload_n (pc := 129) F dX4_storm_129 rfl ?_
                      refine g_getf (pc := 130) F fl_X4_16 dX4_storm_130 rfl rfl ?_
                      refine h_callV (pc := 133) F (c_passDay _ _ _ hY3 hI3) mi_X0_passDay kv_X4_182 rfl rfl dX4_storm_133 [9, 10, 11, 12, 13, 14, 15, 16] sub_mind (by decide) (by decide) rfl rfl (Nat.le_of_ble_eq_true rfl) (by decide) (by decide) ?_
                      rintro _ _ ⟨rfl, Y4, rfl, hY4⟩ -
                      rw [place_mind]
                      refine g_iincN (pc := 136) F dX4_storm_136 rfl (by decide) ?_
                      refine g_goto (pc := 139) F dX4_storm_139 (tgt := 72) rfl ?_
                      refine g_less [0, 1, 2, 3, 4, 5, 6, 7, 8] rfl ?_
                      first
                        | exact (congrArg (fun z => Go K 0 0 72 [(0, .ref 0), (1, .int (nI e)), (2, .int (nI n)), (3, .int (nI t)), (4, .int p), (5, .long (lN (abN r e n t st))), (7, .int (nI (st))), (8, .long (lN (z))), (10, .int (nI (k + 1)))] [] (mW X Y4 Z im S g h)) (wt_y c_115)).mp (ih2 c_75 Y4 _ (st_step hw hY4))
                        | exact (congrArg (fun z => Go K 0 0 72 [(0, .ref 0), (1, .int (nI e)), (2, .int (nI n)), (3, .int (nI t)), (4, .int p), (5, .long (lN (abN r e n t st))), (7, .int (nI (st))), (8, .long (lN (z))), (10, .int (nI (k + 1)))] [] (mW X Y4 Z im S g h)) (wt_n c_115)).mp (ih2 c_75 Y4 _ (st_step hw hY4))
                        | exact absurd (c_93.symm.trans c_115) (by decide)
                        | fail
                    · refine g_lconst (pc := 118) F dX4_storm_118 (v := lN 1) rfl ?_
                      refine g_goto (pc := 119) F dX4_storm_119 (tgt := 126) rfl ?_
                      refine g_lmul (pc := 126) F dX4_storm_126 ?_
                      rw [lN_mul]
                      refine g_lstore (pc := 127) F dX4_storm_127 (by decide) ?_
                      refine g_aload_n (pc := 129) F dX4_storm_129 rfl ?_
                      refine g_getf (pc := 130) F fl_X4_16 dX4_storm_130 rfl rfl ?_
                      refine h_callV (pc := 133) F (c_passDay _ _ _ hY3 hI3) mi_X0_passDay kv_X4_182 rfl rfl dX4_storm_133 [9, 10, 11, 12, 13, 14, 15, 16] sub_mind (by decide) (by decide) rfl rfl (Nat.le_of_ble_eq_true rfl) (by decide) (by decide) ?_
                      rintro _ _ ⟨rfl, Y4, rfl, hY4⟩ -
                      rw [place_mind]
                      refine g_iincN (pc := 136) F dX4_storm_136 rfl (by decide) ?_
                      refine g_goto (pc := 139) F dX4_storm_139 (tgt := 72) rfl ?_
                      refine g_less [0, 1, 2, 3, 4, 5, 6, 7, 8] rfl ?_
                      first
                        | exact (congrArg (fun z => Go K 0 0 72 [(0, .ref 0), (1, .int (nI e)), (2, .int (nI n)), (3, .int (nI t)), (4, .int p), (5, .long (lN (abN r e n t st))), (7, .int (nI (st))), (8, .long (lN (z))), (10, .int (nI (k + 1)))] [] (mW X Y4 Z im S g h)) (wt_y c_115)).mp (ih2 c_75 Y4 _ (st_step hw hY4))
                        | exact (congrArg (fun z => Go K 0 0 72 [(0, .ref 0), (1, .int (nI e)), (2, .int (nI n)), (3, .int (nI t)), (4, .int p), (5, .long (lN (abN r e n t st))), (7, .int (nI (st))), (8, .long (lN (z))), (10, .int (nI (k + 1)))] [] (mW X Y4 Z im S g h)) (wt_n c_115)).mp (ih2 c_75 Y4 _ (st_step hw hY4))
                        | exact absurd (c_93.symm.trans c_115) (by decide)
                        | fail)
              exact L2 0 (Nat.zero_le _) Y2 _ (by rw [show upd (stR r st 0) 2 (r 2) = r from u2_same]; exact hY2))
          exact L 0 (Nat.zero_le _) Y
        · refine g_ldc2 (pc := 37) F dX4_storm_37 kl_X4_220 ?_
          exact g_lret (pc := 40) F X0 dX4_storm_40 (Nat.le_of_ble_eq_true rfl) (Nat.le_of_ble_eq_true rfl) rfl ⟨congrArg (fun z => some (Value.long z)) (by first | exact (if_neg (fun z => c_4 z.1)).symm | exact (if_neg (fun z => c_14 z.2.1)).symm | exact (if_neg (fun z => c_24 z.2.2.1)).symm | exact (if_neg (fun z => c_34 z.2.2.2)).symm | fail), Y, g, h, rfl⟩

set_option maxRecDepth 100000 in
set_option maxHeartbeats 800000 in
theorem m_storm (s m ig ws : Nat → Int32) (hg : Int32) (T : TX) (V : VX) (hI : Iv s) (dd n0 t0 p : Int32) : Ctr yX5_storm cX5_storm 13 (some .long) 7 0 0 [.ref 0, .int dd, .int n0, .int t0, .int p] (rW s m ig ws hg T V) (LookR (.long (S_storm s dd n0 t0 p)) s ig ws hg T) := by
  refine Ctr.of rfl (Nat.le_of_ble_eq_true rfl) ⟨clS_of rfl, clH_of rfl⟩ (fun K F X0 => ?_)
  show Go K 0 0 0 [(0, .ref 0), (1, .int dd), (2, .int n0), (3, .int t0), (4, .int p)] [] (rW s m ig ws hg T V)
  refine g_iload_n (pc := 0) F dX5_storm_0 rfl ?_
  refine h_readS (pc := 1) F (c_mDip _) mi_X5_isDip ks_X5_61 dX5_storm_1 [] rfl (by decide) (by decide) rfl rfl (Nat.le_of_ble_eq_true rfl) trivial (by decide) (by decide) ?_
  refine g_ifeq_d (pc := 4) F dX5_storm_4 (tgt := 37) rfl (fun c_4 => ?_) (fun c_4 => ?_)
  · refine g_ldc2 (pc := 37) F dX5_storm_37 kl_X5_191 ?_
    exact g_lret (pc := 40) F X0 dX5_storm_40 (Nat.le_of_ble_eq_true rfl) (Nat.le_of_ble_eq_true rfl) rfl ⟨congrArg (fun z => some (Value.long z)) (by first | exact (if_neg (fun z => c_4 z.1)).symm | exact (if_neg (fun z => c_14 z.2.1)).symm | exact (if_neg (fun z => c_24 z.2.2.1)).symm | exact (if_neg (fun z => c_34 z.2.2.2)).symm | fail), m, V, rfl⟩
  · refine g_iload_n (pc := 7) F dX5_storm_7 rfl ?_
    refine g_iconst (pc := 8) F dX5_storm_8 (v := nI 0) rfl ?_
    refine g_bipush (pc := 9) F dX5_storm_9 (v := nI 7) rfl ?_
    refine h_readS (pc := 11) F (c_isIn _ _ _) mi_X5_isIn ks_X5_43 dX5_storm_11 [] rfl (by decide) (by decide) rfl rfl (Nat.le_of_ble_eq_true rfl) trivial (by decide) (by decide) ?_
    refine g_ifeq_d (pc := 14) F dX5_storm_14 (tgt := 37) rfl (fun c_14 => ?_) (fun c_14 => ?_)
    · refine g_ldc2 (pc := 37) F dX5_storm_37 kl_X5_191 ?_
      exact g_lret (pc := 40) F X0 dX5_storm_40 (Nat.le_of_ble_eq_true rfl) (Nat.le_of_ble_eq_true rfl) rfl ⟨congrArg (fun z => some (Value.long z)) (by first | exact (if_neg (fun z => c_4 z.1)).symm | exact (if_neg (fun z => c_14 z.2.1)).symm | exact (if_neg (fun z => c_24 z.2.2.1)).symm | exact (if_neg (fun z => c_34 z.2.2.2)).symm | fail), m, V, rfl⟩
    · refine g_iload_n (pc := 17) F dX5_storm_17 rfl ?_
      refine g_iconst (pc := 18) F dX5_storm_18 (v := nI 2) rfl ?_
      refine g_bipush (pc := 19) F dX5_storm_19 (v := nI 20) rfl ?_
      refine h_readS (pc := 21) F (c_isIn _ _ _) mi_X5_isIn ks_X5_43 dX5_storm_21 [] rfl (by decide) (by decide) rfl rfl (Nat.le_of_ble_eq_true rfl) trivial (by decide) (by decide) ?_
      refine g_ifeq_d (pc := 24) F dX5_storm_24 (tgt := 37) rfl (fun c_24 => ?_) (fun c_24 => ?_)
      · refine g_ldc2 (pc := 37) F dX5_storm_37 kl_X5_191 ?_
        exact g_lret (pc := 40) F X0 dX5_storm_40 (Nat.le_of_ble_eq_true rfl) (Nat.le_of_ble_eq_true rfl) rfl ⟨congrArg (fun z => some (Value.long z)) (by first | exact (if_neg (fun z => c_4 z.1)).symm | exact (if_neg (fun z => c_14 z.2.1)).symm | exact (if_neg (fun z => c_24 z.2.2.1)).symm | exact (if_neg (fun z => c_34 z.2.2.2)).symm | fail), m, V, rfl⟩
      · refine g_iload (pc := 27) F dX5_storm_27 rfl ?_
        refine g_iconst (pc := 29) F dX5_storm_29 (v := nI 0) rfl ?_
        refine g_iconst (pc := 30) F dX5_storm_30 (v := nI 1) rfl ?_
        refine h_readS (pc := 31) F (c_isIn _ _ _) mi_X5_isIn ks_X5_43 dX5_storm_31 [] rfl (by decide) (by decide) rfl rfl (Nat.le_of_ble_eq_true rfl) trivial (by decide) (by decide) ?_
        refine g_ifne_d (pc := 34) F dX5_storm_34 (tgt := 41) rfl (fun c_34 => ?_) (fun c_34 => ?_)
        · obtain ⟨e, he, rfl⟩ := dip_ex c_4
          obtain ⟨n, hn, rfl⟩ := in_ex (by decide) c_14
          obtain ⟨t, ht2, ht, rfl⟩ := t_ex c_24
          have hE := shl_E n (by omega)
          have hE2 := E_le n (by omega)
          obtain ⟨E, hE9⟩ : ∃ E, 2 ^ n = E := ⟨_, rfl⟩
          rw [hE9] at hE hE2
          have hp := pw_bd (n := n) ht ht2 hn
          have ha := ab_40 (r := s) (dd := e) ht hn
          refine g_lconst (pc := 41) F dX5_storm_41 (v := lN 0) rfl ?_
          refine g_lstore (pc := 42) F dX5_storm_42 (by decide) ?_
          refine g_lconst (pc := 44) F dX5_storm_44 (v := lN 1) rfl ?_
          refine g_lstore (pc := 45) F dX5_storm_45 (by decide) ?_
          refine g_iconst (pc := 47) F dX5_storm_47 (v := nI 0) rfl ?_
          refine g_istore (pc := 48) F dX5_storm_48 (by decide) ?_
          have L1 : ∀ i, i ≤ n → Go K 0 0 50 [(0, .ref 0), (1, .int (nI e)), (2, .int (nI n)), (3, .int (nI t)), (4, .int p), (5, .long (lN (0))), (7, .long (lN (t ^ i))), (9, .int (nI i))] [] (rW s m ig ws hg T V) := loop_up (P := fun i => Go K 0 0 50 [(0, .ref 0), (1, .int (nI e)), (2, .int (nI n)), (3, .int (nI t)), (4, .int p), (5, .long (lN (0))), (7, .long (lN (t ^ i))), (9, .int (nI i))] [] (rW s m ig ws hg T V)) (fun i hiL1 ih1 => by
            skip
            refine g_iload (pc := 50) F dX5_storm_50 rfl ?_
            refine g_iload_n (pc := 52) F dX5_storm_52 rfl ?_
            refine g_icN_ge (pc := 53) F dX5_storm_53 (tgt := 69) rfl rfl rfl (by omega) (by omega) (fun c_53 => ?_) (fun c_53 => ?_)
            · have hin : i = n := by omega
              rw [hin]
              refine g_iconst (pc := 69) F dX5_storm_69 (v := nI 0) rfl ?_
              refine g_istore (pc := 70) F dX5_storm_70 (by decide) ?_
              have L : ∀ st, st ≤ E → ∀ ma, Go K 0 0 72 [(0, .ref 0), (1, .int (nI e)), (2, .int (nI n)), (3, .int (nI t)), (4, .int p), (5, .long (lN (abN s e n t st))), (7, .long (lN (t ^ n))), (9, .int (nI (st)))] [] (rW s (ma) ig ws hg T V) := loop_up (P := fun st => ∀ ma, Go K 0 0 72 [(0, .ref 0), (1, .int (nI e)), (2, .int (nI n)), (3, .int (nI t)), (4, .int p), (5, .long (lN (abN s e n t st))), (7, .long (lN (t ^ n))), (9, .int (nI (st)))] [] (rW s (ma) ig ws hg T V)) (fun st hiL ih => by
                intro ma
                refine g_iload (pc := 72) F dX5_storm_72 rfl ?_
                refine g_iconst (pc := 74) F dX5_storm_74 (v := nI 1) rfl ?_
                refine g_iload_n (pc := 75) F dX5_storm_75 rfl ?_
                refine g_ishl (pc := 76) F dX5_storm_76 ?_
                rw [hE]
                refine g_icN_ge (pc := 77) F dX5_storm_77 (tgt := 188) rfl rfl rfl (by omega) (by omega) (fun c_77 => ?_) (fun c_77 => ?_)
                · obtain rfl : st = E := by omega
                  rw [← hE9]
                  refine g_lload (pc := 188) F dX5_storm_188 rfl ?_
                  refine g_lload (pc := 190) F dX5_storm_190 rfl ?_
                  refine g_iload (pc := 192) F dX5_storm_192 rfl ?_
                  refine h_readS (pc := 194) F (m_partOf (abN s e n t (2 ^ n)) (t ^ n) p (by omega) hp.1 hp.2 c_34) mi_X5_partOf ks_X5_193 dX5_storm_194 [] rfl (by decide) (by decide) rfl rfl (Nat.le_of_ble_eq_true rfl) trivial (by decide) (by decide) ?_
                  exact g_lret (pc := 197) F X0 dX5_storm_197 (Nat.le_of_ble_eq_true rfl) (Nat.le_of_ble_eq_true rfl) rfl ⟨congrArg (fun z => some (Value.long z)) (S_storm_y ⟨c_4, c_14, c_24, c_34⟩ he hn ht).symm, ma, V, rfl⟩
                · refine g_lconst (pc := 80) F dX5_storm_80 (v := lN 1) rfl ?_
                  refine g_lstore (pc := 81) F dX5_storm_81 (by decide) ?_
                  refine g_aload_n (pc := 83) F dX5_storm_83 rfl ?_
                  refine g_getf (pc := 84) F fl_X5_9 dX5_storm_84 rfl rfl ?_
                  refine g_aload_n (pc := 87) F dX5_storm_87 rfl ?_
                  refine g_getf (pc := 88) F fl_X5_13 dX5_storm_88 rfl rfl ?_
                  refine h_callS (pc := 91) F (c_copyAll s ma) mi_X5_copies ks_X5_140 dX5_storm_91 [1, 2] rfl (by decide) (by decide) rfl rfl (Nat.le_of_ble_eq_true rfl) (by decide) (by decide) ?_
                  rintro _ _ ⟨rfl, rfl⟩ -
                  refine g_iconst (pc := 94) F dX5_storm_94 (v := nI 0) rfl ?_
                  refine g_istore (pc := 95) F dX5_storm_95 (by decide) ?_
                  have L2 : ∀ k, k ≤ n → Go K 0 0 97 [(0, .ref 0), (1, .int (nI e)), (2, .int (nI n)), (3, .int (nI t)), (4, .int p), (5, .long (lN (abN s e n t st))), (7, .long (lN (t ^ n))), (9, .int (nI (st))), (10, .long (lN (wtN t st k))), (12, .int (nI (k)))] [] (rW s (stR s st k) ig ws hg T V) := loop_up (P := fun k => Go K 0 0 97 [(0, .ref 0), (1, .int (nI e)), (2, .int (nI n)), (3, .int (nI t)), (4, .int p), (5, .long (lN (abN s e n t st))), (7, .long (lN (t ^ n))), (9, .int (nI (st))), (10, .long (lN (wtN t st k))), (12, .int (nI (k)))] [] (rW s (stR s st k) ig ws hg T V)) (fun k hiL2 ih2 => by
                    skip
                    refine g_iload (pc := 97) F dX5_storm_97 rfl ?_
                    refine g_iload_n (pc := 99) F dX5_storm_99 rfl ?_
                    refine g_icN_ge (pc := 100) F dX5_storm_100 (tgt := 160) rfl rfl rfl (by omega) (by omega) (fun c_100 => ?_) (fun c_100 => ?_)
                    · have hkn : k = n := by omega
                      rw [hkn]
                      refine g_lload (pc := 160) F dX5_storm_160 rfl ?_
                      refine g_aload_n (pc := 162) F dX5_storm_162 rfl ?_
                      refine g_getf (pc := 163) F fl_X5_13 dX5_storm_163 rfl rfl ?_
                      refine g_iload_n (pc := 166) F dX5_storm_166 rfl ?_
                      refine h_readS (pc := 167) F (c_left (stR s st n) _ e rfl he) mi_X5_left ks_X5_51 dX5_storm_167 [2] rfl (by decide) (by decide) rfl rfl (Nat.le_of_ble_eq_true rfl) trivial (by decide) (by decide) ?_
                      refine g_if_ne (pc := 170) F dX5_storm_170 (tgt := 178) rfl (fun c_170 => ?_) (fun c_170 => ?_)
                      · refine g_lconst (pc := 178) F dX5_storm_178 (v := lN 0) rfl ?_
                        refine g_ladd (pc := 179) F dX5_storm_179 ?_
                        rw [lN_add]
                        refine g_lstore (pc := 180) F dX5_storm_180 (by decide) ?_
                        refine g_iincN (pc := 182) F dX5_storm_182 rfl (by decide) ?_
                        refine g_goto (pc := 185) F dX5_storm_185 (tgt := 72) rfl ?_
                        refine g_less [0, 1, 2, 3, 4, 5, 6, 7] rfl ?_
                        first
                          | exact (congrArg (fun z => Go K 0 0 72 [(0, .ref 0), (1, .int (nI e)), (2, .int (nI n)), (3, .int (nI t)), (4, .int p), (5, .long (lN (z))), (7, .long (lN (t ^ n))), (9, .int (nI (st + 1)))] [] (rW s (stR s st n) ig ws hg T V)) (ab_y c_170)).mp (ih c_77 (stR s st n))
                          | exact (congrArg (fun z => Go K 0 0 72 [(0, .ref 0), (1, .int (nI e)), (2, .int (nI n)), (3, .int (nI t)), (4, .int p), (5, .long (lN (z))), (7, .long (lN (t ^ n))), (9, .int (nI (st + 1)))] [] (rW s (stR s st n) ig ws hg T V)) (ab_n c_170)).mp (ih c_77 (stR s st n))
                          | fail
                      · refine g_lload (pc := 173) F dX5_storm_173 rfl ?_
                        refine g_goto (pc := 175) F dX5_storm_175 (tgt := 179) rfl ?_
                        refine g_ladd (pc := 179) F dX5_storm_179 ?_
                        rw [lN_add]
                        refine g_lstore (pc := 180) F dX5_storm_180 (by decide) ?_
                        refine g_iincN (pc := 182) F dX5_storm_182 rfl (by decide) ?_
                        refine g_goto (pc := 185) F dX5_storm_185 (tgt := 72) rfl ?_
                        refine g_less [0, 1, 2, 3, 4, 5, 6, 7] rfl ?_
                        first
                          | exact (congrArg (fun z => Go K 0 0 72 [(0, .ref 0), (1, .int (nI e)), (2, .int (nI n)), (3, .int (nI t)), (4, .int p), (5, .long (lN (z))), (7, .long (lN (t ^ n))), (9, .int (nI (st + 1)))] [] (rW s (stR s st n) ig ws hg T V)) (ab_y c_170)).mp (ih c_77 (stR s st n))
                          | exact (congrArg (fun z => Go K 0 0 72 [(0, .ref 0), (1, .int (nI e)), (2, .int (nI n)), (3, .int (nI t)), (4, .int p), (5, .long (lN (z))), (7, .long (lN (t ^ n))), (9, .int (nI (st + 1)))] [] (rW s (stR s st n) ig ws hg T V)) (ab_n c_170)).mp (ih c_77 (stR s st n))
                          | fail
                    · refine g_lload (pc := 103) F dX5_storm_103 rfl ?_
                      refine g_iload (pc := 105) F dX5_storm_105 rfl ?_
                      refine g_iload (pc := 107) F dX5_storm_107 rfl ?_
                      refine h_readS (pc := 109) F (c_has _ _) mi_X5_has ks_X5_69 dX5_storm_109 [] rfl (by decide) (by decide) rfl rfl (Nat.le_of_ble_eq_true rfl) trivial (by decide) (by decide) ?_
                      refine g_ifeq_b (pc := 112) F dX5_storm_112 (tgt := 119) rfl (fun c_112 => ?_) (fun c_112 => ?_)
                      · refine g_iload_n (pc := 119) F dX5_storm_119 rfl ?_
                        refine g_iconst (pc := 120) F dX5_storm_120 (v := nI 1) rfl ?_
                        refine g_isubN (pc := 121) F dX5_storm_121 (by omega) ?_
                        refine g_i2l (pc := 122) F dX5_storm_122 ?_
                        rw [i2l_nI (by omega)]
                        refine g_lmul (pc := 123) F dX5_storm_123 ?_
                        rw [lN_mul]
                        refine g_lstore (pc := 124) F dX5_storm_124 (by decide) ?_
                        refine g_aload_n (pc := 126) F dX5_storm_126 rfl ?_
                        refine g_getf (pc := 127) F fl_X5_13 dX5_storm_127 rfl rfl ?_
                        refine g_iload (pc := 130) F dX5_storm_130 rfl ?_
                        refine g_iload (pc := 132) F dX5_storm_132 rfl ?_
                        refine h_readS (pc := 134) F (c_has _ _) mi_X5_has ks_X5_69 dX5_storm_134 [] rfl (by decide) (by decide) rfl rfl (Nat.le_of_ble_eq_true rfl) trivial (by decide) (by decide) ?_
                        refine g_ifeq_b (pc := 137) F dX5_storm_137 (tgt := 145) rfl (fun c_137 => ?_) (fun c_137 => ?_)
                        · refine g_aload_n (pc := 145) F dX5_storm_145 rfl ?_
                          refine g_getf (pc := 146) F fl_X5_13 dX5_storm_146 rfl rfl ?_
                          refine g_iconst (pc := 149) F dX5_storm_149 (v := nI 2) rfl ?_
                          refine g_iald2 (pc := 150) F dX5_storm_150 rfl rfl (by first | omega | (simp only [ix]; omega)) (by decide) ?_
                          refine h_callS (pc := 151) F (c_day (stR s st k) _ (stR_ok hI k).1) mi_X5_day ks_X5_96 dX5_storm_151 [2] rfl (by decide) (by decide) rfl rfl (Nat.le_of_ble_eq_true rfl) (by decide) (by decide) ?_
                          rintro _ _ ⟨rfl, rfl⟩ -
                          refine g_iincN (pc := 154) F dX5_storm_154 rfl (by decide) ?_
                          refine g_goto (pc := 157) F dX5_storm_157 (tgt := 97) rfl ?_
                          first
                            | exact (congrArg (fun z : Nat × (Nat → Int32) => Go K 0 0 97 [(0, .ref 0), (1, .int (nI e)), (2, .int (nI n)), (3, .int (nI t)), (4, .int p), (5, .long (lN (abN s e n t st))), (7, .long (lN (t ^ n))), (9, .int (nI (st))), (10, .long (lN (z.1))), (12, .int (nI (k + 1)))] [] (rW s (z.2) ig ws hg T V)) (show (wtN t st (k + 1), stR s st (k + 1)) = (wtN t st k * 1, dayR (stR s st k) (nI 9)) from Prod.ext (wt_y c_112) (congrArg (dayR (stR s st k)) (stW_y c_112)))).mp (ih2 c_100)
                            | exact (congrArg (fun z : Nat × (Nat → Int32) => Go K 0 0 97 [(0, .ref 0), (1, .int (nI e)), (2, .int (nI n)), (3, .int (nI t)), (4, .int p), (5, .long (lN (abN s e n t st))), (7, .long (lN (t ^ n))), (9, .int (nI (st))), (10, .long (lN (z.1))), (12, .int (nI (k + 1)))] [] (rW s (z.2) ig ws hg T V)) (show (wtN t st (k + 1), stR s st (k + 1)) = (wtN t st k * (t - 1), dayR (stR s st k) (stR s st k 2)) from Prod.ext (wt_n c_112) (congrArg (dayR (stR s st k)) (stW_n c_112)))).mp (ih2 c_100)
                            | exact absurd (c_112.symm.trans c_137) (by decide)
                            | fail
                        · refine g_bipush (pc := 140) F dX5_storm_140 (v := nI 9) rfl ?_
                          refine g_goto (pc := 142) F dX5_storm_142 (tgt := 151) rfl ?_
                          refine h_callS (pc := 151) F (c_day (stR s st k) _ (stR_ok hI k).1) mi_X5_day ks_X5_96 dX5_storm_151 [2] rfl (by decide) (by decide) rfl rfl (Nat.le_of_ble_eq_true rfl) (by decide) (by decide) ?_
                          rintro _ _ ⟨rfl, rfl⟩ -
                          refine g_iincN (pc := 154) F dX5_storm_154 rfl (by decide) ?_
                          refine g_goto (pc := 157) F dX5_storm_157 (tgt := 97) rfl ?_
                          first
                            | exact (congrArg (fun z : Nat × (Nat → Int32) => Go K 0 0 97 [(0, .ref 0), (1, .int (nI e)), (2, .int (nI n)), (3, .int (nI t)), (4, .int p), (5, .long (lN (abN s e n t st))), (7, .long (lN (t ^ n))), (9, .int (nI (st))), (10, .long (lN (z.1))), (12, .int (nI (k + 1)))] [] (rW s (z.2) ig ws hg T V)) (show (wtN t st (k + 1), stR s st (k + 1)) = (wtN t st k * 1, dayR (stR s st k) (nI 9)) from Prod.ext (wt_y c_112) (congrArg (dayR (stR s st k)) (stW_y c_112)))).mp (ih2 c_100)
                            | exact (congrArg (fun z : Nat × (Nat → Int32) => Go K 0 0 97 [(0, .ref 0), (1, .int (nI e)), (2, .int (nI n)), (3, .int (nI t)), (4, .int p), (5, .long (lN (abN s e n t st))), (7, .long (lN (t ^ n))), (9, .int (nI (st))), (10, .long (lN (z.1))), (12, .int (nI (k + 1)))] [] (rW s (z.2) ig ws hg T V)) (show (wtN t st (k + 1), stR s st (k + 1)) = (wtN t st k * (t - 1), dayR (stR s st k) (stR s st k 2)) from Prod.ext (wt_n c_112) (congrArg (dayR (stR s st k)) (stW_n c_112)))).mp (ih2 c_100)
                            | exact absurd (c_112.symm.trans c_137) (by decide)
                            | fail
                      · refine g_lconst (pc := 115) F dX5_storm_115 (v := lN 1) rfl ?_
                        refine g_goto (pc := 116) F dX5_storm_116 (tgt := 123) rfl ?_
                        refine g_lmul (pc := 123) F dX5_storm_123 ?_
                        rw [lN_mul]
                        refine g_lstore (pc := 124) F dX5_storm_124 (by decide) ?_
                        refine g_aload_n (pc := 126) F dX5_storm_126 rfl ?_
                        refine g_getf (pc := 127) F fl_X5_13 dX5_storm_127 rfl rfl ?_
                        refine g_iload (pc := 130) F dX5_storm_130 rfl ?_
                        refine g_iload (pc := 132) F dX5_storm_132 rfl ?_
                        refine h_readS (pc := 134) F (c_has _ _) mi_X5_has ks_X5_69 dX5_storm_134 [] rfl (by decide) (by decide) rfl rfl (Nat.le_of_ble_eq_true rfl) trivial (by decide) (by decide) ?_
                        refine g_ifeq_b (pc := 137) F dX5_storm_137 (tgt := 145) rfl (fun c_137 => ?_) (fun c_137 => ?_)
                        · refine g_aload_n (pc := 145) F dX5_storm_145 rfl ?_
                          refine g_getf (pc := 146) F fl_X5_13 dX5_storm_146 rfl rfl ?_
                          refine g_iconst (pc := 149) F dX5_storm_149 (v := nI 2) rfl ?_
                          refine g_iald2 (pc := 150) F dX5_storm_150 rfl rfl (by first | omega | (simp only [ix]; omega)) (by decide) ?_
                          refine h_callS (pc := 151) F (c_day (stR s st k) _ (stR_ok hI k).1) mi_X5_day ks_X5_96 dX5_storm_151 [2] rfl (by decide) (by decide) rfl rfl (Nat.le_of_ble_eq_true rfl) (by decide) (by decide) ?_
                          rintro _ _ ⟨rfl, rfl⟩ -
                          refine g_iincN (pc := 154) F dX5_storm_154 rfl (by decide) ?_
                          refine g_goto (pc := 157) F dX5_storm_157 (tgt := 97) rfl ?_
                          first
                            | exact (congrArg (fun z : Nat × (Nat → Int32) => Go K 0 0 97 [(0, .ref 0), (1, .int (nI e)), (2, .int (nI n)), (3, .int (nI t)), (4, .int p), (5, .long (lN (abN s e n t st))), (7, .long (lN (t ^ n))), (9, .int (nI (st))), (10, .long (lN (z.1))), (12, .int (nI (k + 1)))] [] (rW s (z.2) ig ws hg T V)) (show (wtN t st (k + 1), stR s st (k + 1)) = (wtN t st k * 1, dayR (stR s st k) (nI 9)) from Prod.ext (wt_y c_112) (congrArg (dayR (stR s st k)) (stW_y c_112)))).mp (ih2 c_100)
                            | exact (congrArg (fun z : Nat × (Nat → Int32) => Go K 0 0 97 [(0, .ref 0), (1, .int (nI e)), (2, .int (nI n)), (3, .int (nI t)), (4, .int p), (5, .long (lN (abN s e n t st))), (7, .long (lN (t ^ n))), (9, .int (nI (st))), (10, .long (lN (z.1))), (12, .int (nI (k + 1)))] [] (rW s (z.2) ig ws hg T V)) (show (wtN t st (k + 1), stR s st (k + 1)) = (wtN t st k * (t - 1), dayR (stR s st k) (stR s st k 2)) from Prod.ext (wt_n c_112) (congrArg (dayR (stR s st k)) (stW_n c_112)))).mp (ih2 c_100)
                            | exact absurd (c_112.symm.trans c_137) (by decide)
                            | fail
                        · refine g_bipush (pc := 140) F dX5_storm_140 (v := nI 9) rfl ?_
                          refine g_goto (pc := 142) F dX5_storm_142 (tgt := 151) rfl ?_
                          refine h_callS (pc := 151) F (c_day (stR s st k) _ (stR_ok hI k).1) mi_X5_day ks_X5_96 dX5_storm_151 [2] rfl (by decide) (by decide) rfl rfl (Nat.le_of_ble_eq_true rfl) (by decide) (by decide) ?_
                          rintro _ _ ⟨rfl, rfl⟩ -
                          refine g_iincN (pc := 154) F dX5_storm_154 rfl (by decide) ?_
                          refine g_goto (pc := 157) F dX5_storm_157 (tgt := 97) rfl ?_
                          first
                            | exact (congrArg (fun z : Nat × (Nat → Int32) => Go K 0 0 97 [(0, .ref 0), (1, .int (nI e)), (2, .int (nI n)), (3, .int (nI t)), (4, .int p), (5, .long (lN (abN s e n t st))), (7, .long (lN (t ^ n))), (9, .int (nI (st))), (10, .long (lN (z.1))), (12, .int (nI (k + 1)))] [] (rW s (z.2) ig ws hg T V)) (show (wtN t st (k + 1), stR s st (k + 1)) = (wtN t st k * 1, dayR (stR s st k) (nI 9)) from Prod.ext (wt_y c_112) (congrArg (dayR (stR s st k)) (stW_y c_112)))).mp (ih2 c_100)
                            | exact (congrArg (fun z : Nat × (Nat → Int32) => Go K 0 0 97 [(0, .ref 0), (1, .int (nI e)), (2, .int (nI n)), (3, .int (nI t)), (4, .int p), (5, .long (lN (abN s e n t st))), (7, .long (lN (t ^ n))), (9, .int (nI (st))), (10, .long (lN (z.1))), (12, .int (nI (k + 1)))] [] (rW s (z.2) ig ws hg T V)) (show (wtN t st (k + 1), stR s st (k + 1)) = (wtN t st k * (t - 1), dayR (stR s st k) (stR s st k 2)) from Prod.ext (wt_n c_112) (congrArg (dayR (stR s st k)) (stW_n c_112)))).mp (ih2 c_100)
                            | exact absurd (c_112.symm.trans c_137) (by decide)
                            | fail)
                  exact L2 0 (Nat.zero_le _))
              exact L 0 (Nat.zero_le _) m
            · refine g_lload (pc := 56) F dX5_storm_56 rfl ?_
              refine g_iload_n (pc := 58) F dX5_storm_58 rfl ?_
              refine g_i2l (pc := 59) F dX5_storm_59 ?_
              rw [i2l_nI (by omega)]
              refine g_lmul (pc := 60) F dX5_storm_60 ?_
              rw [lN_mul]
              refine g_lstore (pc := 61) F dX5_storm_61 (by decide) ?_
              refine g_iincN (pc := 63) F dX5_storm_63 rfl (by decide) ?_
              refine g_goto (pc := 66) F dX5_storm_66 (tgt := 50) rfl ?_
              exact ih1 c_53)
          exact L1 0 (Nat.zero_le _)
        · refine g_ldc2 (pc := 37) F dX5_storm_37 kl_X5_191 ?_
          exact g_lret (pc := 40) F X0 dX5_storm_40 (Nat.le_of_ble_eq_true rfl) (Nat.le_of_ble_eq_true rfl) rfl ⟨congrArg (fun z => some (Value.long z)) (by first | exact (if_neg (fun z => c_4 z.1)).symm | exact (if_neg (fun z => c_14 z.2.1)).symm | exact (if_neg (fun z => c_24 z.2.2.1)).symm | exact (if_neg (fun z => c_34 z.2.2.2)).symm | fail), m, V, rfl⟩

