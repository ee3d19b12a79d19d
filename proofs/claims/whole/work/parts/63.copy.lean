/-! copy -/
abbrev cpP (T : TX) (a c : Nat) (i j n : Int32) : Prop := 0 ≤ n.toInt ∧ 0 ≤ i.toInt ∧ 0 ≤ j.toInt ∧ i.toInt + n.toInt ≤ (tN T a).toInt ∧ j.toInt + n.toInt ≤ (tN T c).toInt
def tcopy (T : TX) (a c : Nat) (i j n : Nat) : TX := (T.1, T.2.1, T.2.2.1, T.2.2.2.1, T.2.2.2.2.1, va_cpy T.2.2.2.2.2 T.2.2.2.2.2 (100 * a + i) (100 * c + j) n)
abbrev cp0 (T : TX) (a c : Nat) : Prop := tH T a = 0 ∨ tH T c = 0
abbrev cp2 (T : TX) (a c : Nat) : Prop := tH T a = nI 2 ∧ tH T c = nI 2 ∧ tS T a = tS T c
def A_copy (T : TX) (d i e j n : Int32) : Int32 := if shP d ∧ shP e then (if cp0 T (N d) (N e) then (-11) else if cp2 T (N d) (N e) then (if cpP T (N d) (N e) i j n then n else (-13)) else (-12)) else (-1)
def T_copy (T : TX) (d i e j n : Int32) : TX := if shP d ∧ shP e then (if cp0 T (N d) (N e) then T else if cp2 T (N d) (N e) then (if cpP T (N d) (N e) i j n then tcopy T (N d) (N e) (N i) (N j) (N n) else T) else T) else T
theorem copy_1 {T : TX} {d i e j n : Int32} (h : ¬ (shP d ∧ shP e)) : A_copy T d i e j n = (-1) ∧ T_copy T d i e j n = T := ⟨if_neg h, if_neg h⟩
theorem copy_2 {T : TX} {a c : Nat} {i j n : Int32} (ha : a < 8) (hc : c < 8) (h : cp0 T a c) : A_copy T (nI a) i (nI c) j n = (-11) ∧ T_copy T (nI a) i (nI c) j n = T := by
  have e1 : shP (nI a) ∧ shP (nI c) := ⟨sh_in ha, sh_in hc⟩
  unfold A_copy T_copy
  rw [if_pos e1, if_pos e1, N_nI (by omega), N_nI (by omega), if_pos h, if_pos h]
  exact ⟨rfl, rfl⟩
theorem copy_3 {T : TX} {a c : Nat} {i j n : Int32} (ha : a < 8) (hc : c < 8) (h : ¬ cp0 T a c) (h2 : ¬ cp2 T a c) : A_copy T (nI a) i (nI c) j n = (-12) ∧ T_copy T (nI a) i (nI c) j n = T := by
  have e1 : shP (nI a) ∧ shP (nI c) := ⟨sh_in ha, sh_in hc⟩
  unfold A_copy T_copy
  rw [if_pos e1, if_pos e1, N_nI (by omega), N_nI (by omega), if_neg h, if_neg h, if_neg h2, if_neg h2]
  exact ⟨rfl, rfl⟩
theorem copy_4 {T : TX} {a c : Nat} {i j n : Int32} (ha : a < 8) (hc : c < 8) (h : ¬ cp0 T a c) (h2 : cp2 T a c) (h3 : ¬ cpP T a c i j n) : A_copy T (nI a) i (nI c) j n = (-13) ∧ T_copy T (nI a) i (nI c) j n = T := by
  have e1 : shP (nI a) ∧ shP (nI c) := ⟨sh_in ha, sh_in hc⟩
  unfold A_copy T_copy
  rw [if_pos e1, if_pos e1, N_nI (by omega), N_nI (by omega), if_neg h, if_neg h, if_pos h2, if_pos h2, if_neg h3, if_neg h3]
  exact ⟨rfl, rfl⟩
theorem copy_5 {T : TX} {a c i j n : Nat} (ha : a < 8) (hc : c < 8) (h : ¬ cp0 T a c) (h2 : cp2 T a c) (h3 : cpP T a c (nI i) (nI j) (nI n)) (hi : i < 2 ^ 31) (hj : j < 2 ^ 31) (hn : n < 2 ^ 31) : A_copy T (nI a) (nI i) (nI c) (nI j) (nI n) = nI n ∧ T_copy T (nI a) (nI i) (nI c) (nI j) (nI n) = tcopy T a c i j n := by
  have e1 : shP (nI a) ∧ shP (nI c) := ⟨sh_in ha, sh_in hc⟩
  unfold A_copy T_copy
  rw [if_pos e1, if_pos e1, N_nI (by omega), N_nI (by omega), if_neg h, if_neg h, if_pos h2, if_pos h2, if_pos h3, if_pos h3, N_nI hi, N_nI hj, N_nI hn]
  exact ⟨rfl, rfl⟩
theorem ti_0 : (0 : Int32).toInt = 0 := rfl
theorem cp_ge {x : Int32} (h : ¬ x < 0) : 0 ≤ x.toInt := by
  have := (ti_le _ _).mp (Int32.not_lt.mp h)
  rw [ti_0] at this
  exact this
theorem cp_lt {x : Int32} (h : x < 0) : x.toInt < 0 := (ti_lt _ _).mp h
theorem sub_ti {s : Nat} {x : Int32} (hs : s ≤ 100) (h : 0 ≤ x.toInt) : (nI s - x).toInt = (s : Int) - x.toInt := by
  have := ti_hi x
  rw [ti_sub (by rw [ti_n _ (by omega)]; omega) (by rw [ti_n _ (by omega)]; omega), ti_n _ (by omega)]
/-- the class's test of a stretch -/
theorem str_iff {s : Nat} {i n : Int32} (hs : s ≤ 100) (hn : 0 ≤ n.toInt) : (¬ i < 0 ∧ n ≤ nI s ∧ i ≤ nI s - n) ↔ (0 ≤ i.toInt ∧ i.toInt + n.toInt ≤ (s : Int)) := by
  have e1 := ti_n s (by omega)
  rw [ti_lt, ti_le, ti_le, sub_ti hs hn, e1, ti_0]
  omega
theorem RS_copy {S : Nat → SX} {T : TX} {a c i j n : Nat} {U : SX} (h : RS S T) (ha : a < 8) (hc : c < 8) (hi : i + n ≤ 100) (hj : j + n ≤ 100) (hs : tS T a = tS T c) (h1 : U = (va_cpy (sE (S a)) (sE (S c)) i j n, (S c).2)) : RS (updS S c U) (tcopy T a c i j n) := by
  subst h1
  obtain ⟨b1, b2, b3, b4, b5, b6⟩ := h c hc
  obtain ⟨d1, d2, d3, d4, d5, d6⟩ := h a ha
  have out : ∀ q, (q < 100 * c + j ∨ 100 * c + j + n ≤ q) → tE (tcopy T a c i j n) q = tE T q := fun q hq => pk_cpy_out hq
  have inn : ∀ k, j ≤ k → k < j + n → tE (tcopy T a c i j n) (100 * c + k) = tE T (100 * a + (i + (k - j))) := fun k h1 h2 => (pk_cpy_in (by omega) (by omega)).trans (congrArg (tE T) (by omega))
  refine RS_upd h ⟨b1, b2, b3, b4, fun k hk => ?_, fun z k hk => ?_⟩ (fun q hq hne => ⟨⟨rfl, rfl, rfl, rfl, rfl⟩, fun k hk => out _ (by omega)⟩)
  · show va_cpy (sE (S a)) (sE (S c)) i j n k = _
    by_cases q : j ≤ k ∧ k < j + n
    · rw [inn k q.1 q.2, pk_cpy_in q.1 q.2]; exact d5 _ (by omega)
    · rw [out _ (by omega), pk_cpy_out (by omega)]; exact b5 k hk
  · by_cases q : j ≤ k ∧ k < j + n
    · rw [inn k q.1 q.2]; exact d6 (hs.trans z) _ (by omega)
    · rw [out _ (by omega)]; exact b6 z k hk
theorem cpy_00 (f : Nat → Int32) (a b : Nat) : va_cpy f f a b 0 = f := funext fun q => pk_cpy_out (by omega)
theorem cpy_up {f : Nat → Int32} {a b k : Nat} (h : a + k < b ∨ b + k ≤ a + k) : upd (va_cpy f f a b k) (b + k) (va_cpy f f a b k (a + k)) = va_cpy f f a b (k + 1) := by
  funext q
  by_cases e : q = b + k
  · rw [e, upd_at, pk_cpy_out h, pk_cpy_in (by omega) (by omega)]
    exact congrArg f (by omega)
  · rw [upd_ne _ e]
    by_cases e2 : b ≤ q ∧ q < b + k
    · rw [pk_cpy_in e2.1 e2.2, pk_cpy_in e2.1 (by omega)]
    · rw [pk_cpy_out (by omega), pk_cpy_out (by omega)]
theorem cpy_dn {f : Nat → Int32} {a b k t : Nat} (h : a + k < b + (k + 1) ∨ b + (k + 1) + t ≤ a + k) : upd (va_cpy f f (a + (k + 1)) (b + (k + 1)) t) (b + k) (va_cpy f f (a + (k + 1)) (b + (k + 1)) t (a + k)) = va_cpy f f (a + k) (b + k) (t + 1) := by
  funext q
  by_cases e : q = b + k
  · rw [e, upd_at, pk_cpy_out h, pk_cpy_in (by omega) (by omega)]
    exact congrArg f (by omega)
  · rw [upd_ne _ e]
    by_cases e2 : b + (k + 1) ≤ q ∧ q < b + (k + 1) + t
    · rw [pk_cpy_in e2.1 e2.2, pk_cpy_in (by omega) (by omega)]
      exact congrArg f (by omega)
    · rw [pk_cpy_out (by omega), pk_cpy_out (by omega)]
set_option maxRecDepth 100000 in
set_option maxHeartbeats 800000 in
theorem c_copy_nn (b : Int32) (X Y Z : DX) (im : Int32) (S : Nat → SX) (g h : Nat → Int32) (r : Nat → Int32) (hR : Rel b X r) (hI : Iv r) (h4 : r 4 = nI 0) (T : TX) (hS : RS S T) (i jj n : Int32) (d e : Int32) (hd : ¬ shP d) (he : ¬ shP e) : Ctr yX4_copy cX4_copy 8 (some .int) 7 0 0 [.ref 0, .int d, .int i, .int e, .int jj, .int n] (mW X Y Z im S g h) (SttS (.int (A_copy T d i e jj n)) X Z im (T_copy T d i e jj n)) := by
  refine Ctr.of rfl (Nat.le_of_ble_eq_true rfl) ⟨clS_of rfl, mW_cl _ _ _ _ _ _ _⟩ (fun K F X0 => ?_)
  show Go K 0 0 0 [(0, .ref 0), (1, .int d), (2, .int i), (3, .int e), (4, .int jj), (5, .int n)] [] (mW X Y Z im S g h)
  refine g_aload_n (pc := 0) F dX4_copy_0 rfl ?_
  refine g_iload_n (pc := 1) F dX4_copy_1 rfl ?_
  refine i_readV (pc := 2) F (c_shelfNone X Y Z im S g h _ hd) mi_X4_shelfOrNull kv_X4_40 rfl rfl dX4_copy_2 (by decide) (by decide) rfl (Nat.le_of_ble_eq_true rfl) (by decide) (by decide) ?_
  refine g_astoreN (pc := 5) F dX4_copy_5 (by decide) ?_
  refine g_aload_n (pc := 7) F dX4_copy_7 rfl ?_
  refine g_iload_n (pc := 8) F dX4_copy_8 rfl ?_
  refine i_readV (pc := 9) F (c_shelfNone X Y Z im S g h _ he) mi_X4_shelfOrNull kv_X4_40 rfl rfl dX4_copy_9 (by decide) (by decide) rfl (Nat.le_of_ble_eq_true rfl) (by decide) (by decide) ?_
  refine g_astoreN (pc := 12) F dX4_copy_12 (by decide) ?_
  refine g_aloadN (pc := 14) F dX4_copy_14 rfl ?_
  refine g_ifnullN (pc := 16) F dX4_copy_16 (tgt := 24) rfl ?_
  refine g_iconst (pc := 24) F dX4_copy_24 (v := (-1 : Int32)) (by decide) ?_
  exact g_iret (pc := 25) F X0 dX4_copy_25 (Nat.le_of_ble_eq_true rfl) (Nat.le_of_ble_eq_true rfl) rfl ⟨congrArg (fun z => some (Value.int z)) (copy_1 (fun z => hd z.1)).1.symm, Y, S, g, h, rfl, (congrArg (RS S) (copy_1 (fun z => hd z.1)).2).mpr hS⟩

set_option maxRecDepth 100000 in
set_option maxHeartbeats 800000 in
theorem c_copy_ny (b : Int32) (X Y Z : DX) (im : Int32) (S : Nat → SX) (g h : Nat → Int32) (r : Nat → Int32) (hR : Rel b X r) (hI : Iv r) (h4 : r 4 = nI 0) (T : TX) (hS : RS S T) (i jj n : Int32) (d e : Int32) (hd : ¬ shP d) (q : Nat) (he : e = nI q) (hq : q < 8) : Ctr yX4_copy cX4_copy 8 (some .int) 7 0 0 [.ref 0, .int d, .int i, .int e, .int jj, .int n] (mW X Y Z im S g h) (SttS (.int (A_copy T d i e jj n)) X Z im (T_copy T d i e jj n)) := by
  subst he
  refine Ctr.of rfl (Nat.le_of_ble_eq_true rfl) ⟨clS_of rfl, mW_cl _ _ _ _ _ _ _⟩ (fun K F X0 => ?_)
  show Go K 0 0 0 [(0, .ref 0), (1, .int d), (2, .int i), (3, .int (nI q)), (4, .int jj), (5, .int n)] [] (mW X Y Z im S g h)
  refine g_aload_n (pc := 0) F dX4_copy_0 rfl ?_
  refine g_iload_n (pc := 1) F dX4_copy_1 rfl ?_
  refine i_readV (pc := 2) F (c_shelfNone X Y Z im S g h _ hd) mi_X4_shelfOrNull kv_X4_40 rfl rfl dX4_copy_2 (by decide) (by decide) rfl (Nat.le_of_ble_eq_true rfl) (by decide) (by decide) ?_
  refine g_astoreN (pc := 5) F dX4_copy_5 (by decide) ?_
  refine g_aload_n (pc := 7) F dX4_copy_7 rfl ?_
  refine g_iload_n (pc := 8) F dX4_copy_8 rfl ?_
  refine i_readV (pc := 9) F (c_shelfSome X Y Z im S g h _ q rfl hq) mi_X4_shelfOrNull kv_X4_40 rfl rfl dX4_copy_9 (by decide) (by decide) rfl (Nat.le_of_ble_eq_true rfl) (by decide) (by decide) ?_
  refine g_astore (pc := 12) F dX4_copy_12 (by decide) ?_
  refine g_aloadN (pc := 14) F dX4_copy_14 rfl ?_
  refine g_ifnullN (pc := 16) F dX4_copy_16 (tgt := 24) rfl ?_
  refine g_iconst (pc := 24) F dX4_copy_24 (v := (-1 : Int32)) (by decide) ?_
  exact g_iret (pc := 25) F X0 dX4_copy_25 (Nat.le_of_ble_eq_true rfl) (Nat.le_of_ble_eq_true rfl) rfl ⟨congrArg (fun z => some (Value.int z)) (copy_1 (fun z => hd z.1)).1.symm, Y, S, g, h, rfl, (congrArg (RS S) (copy_1 (fun z => hd z.1)).2).mpr hS⟩

set_option maxRecDepth 100000 in
set_option maxHeartbeats 800000 in
theorem c_copy_yn (b : Int32) (X Y Z : DX) (im : Int32) (S : Nat → SX) (g h : Nat → Int32) (r : Nat → Int32) (hR : Rel b X r) (hI : Iv r) (h4 : r 4 = nI 0) (T : TX) (hS : RS S T) (i jj n : Int32) (d e : Int32) (j : Nat) (hd : d = nI j) (hj : j < 8) (he : ¬ shP e) : Ctr yX4_copy cX4_copy 8 (some .int) 7 0 0 [.ref 0, .int d, .int i, .int e, .int jj, .int n] (mW X Y Z im S g h) (SttS (.int (A_copy T d i e jj n)) X Z im (T_copy T d i e jj n)) := by
  subst hd
  refine Ctr.of rfl (Nat.le_of_ble_eq_true rfl) ⟨clS_of rfl, mW_cl _ _ _ _ _ _ _⟩ (fun K F X0 => ?_)
  show Go K 0 0 0 [(0, .ref 0), (1, .int (nI j)), (2, .int i), (3, .int e), (4, .int jj), (5, .int n)] [] (mW X Y Z im S g h)
  refine g_aload_n (pc := 0) F dX4_copy_0 rfl ?_
  refine g_iload_n (pc := 1) F dX4_copy_1 rfl ?_
  refine i_readV (pc := 2) F (c_shelfSome X Y Z im S g h _ j rfl hj) mi_X4_shelfOrNull kv_X4_40 rfl rfl dX4_copy_2 (by decide) (by decide) rfl (Nat.le_of_ble_eq_true rfl) (by decide) (by decide) ?_
  refine g_astore (pc := 5) F dX4_copy_5 (by decide) ?_
  refine g_aload_n (pc := 7) F dX4_copy_7 rfl ?_
  refine g_iload_n (pc := 8) F dX4_copy_8 rfl ?_
  refine i_readV (pc := 9) F (c_shelfNone X Y Z im S g h _ he) mi_X4_shelfOrNull kv_X4_40 rfl rfl dX4_copy_9 (by decide) (by decide) rfl (Nat.le_of_ble_eq_true rfl) (by decide) (by decide) ?_
  refine g_astoreN (pc := 12) F dX4_copy_12 (by decide) ?_
  refine g_aload (pc := 14) F dX4_copy_14 rfl ?_
  refine g_ifnull (pc := 16) F dX4_copy_16 ?_
  refine g_aloadN (pc := 19) F dX4_copy_19 rfl ?_
  refine g_ifnonnullN (pc := 21) F dX4_copy_21 ?_
  refine g_iconst (pc := 24) F dX4_copy_24 (v := (-1 : Int32)) (by decide) ?_
  exact g_iret (pc := 25) F X0 dX4_copy_25 (Nat.le_of_ble_eq_true rfl) (Nat.le_of_ble_eq_true rfl) rfl ⟨congrArg (fun z => some (Value.int z)) (copy_1 (fun z => he z.2)).1.symm, Y, S, g, h, rfl, (congrArg (RS S) (copy_1 (fun z => he z.2)).2).mpr hS⟩

set_option maxRecDepth 100000 in
set_option maxHeartbeats 800000 in
theorem c_copy_yy (b : Int32) (X Y Z : DX) (im : Int32) (S : Nat → SX) (g h : Nat → Int32) (r : Nat → Int32) (hR : Rel b X r) (hI : Iv r) (h4 : r 4 = nI 0) (T : TX) (hS : RS S T) (i jj n : Int32) (d e : Int32) (j : Nat) (hd : d = nI j) (hj : j < 8) (q : Nat) (he : e = nI q) (hq : q < 8) : Ctr yX4_copy cX4_copy 8 (some .int) 7 0 0 [.ref 0, .int d, .int i, .int e, .int jj, .int n] (mW X Y Z im S g h) (SttS (.int (A_copy T d i e jj n)) X Z im (T_copy T d i e jj n)) := by
  subst hd
  subst he
  obtain ⟨⟨eh1, -⟩, -, es1, ⟨n1, hn1, en1, em1⟩, -⟩ := hS j hj
  obtain ⟨⟨eh2, -⟩, -, es2, ⟨n2, hn2, en2, em2⟩, -⟩ := hS q hq
  have t1 := ti_n n1 (by omega)
  have t2 := ti_n n2 (by omega)
  refine Ctr.of rfl (Nat.le_of_ble_eq_true rfl) ⟨clS_of rfl, mW_cl _ _ _ _ _ _ _⟩ (fun K F X0 => ?_)
  show Go K 0 0 0 [(0, .ref 0), (1, .int (nI j)), (2, .int i), (3, .int (nI q)), (4, .int jj), (5, .int n)] [] (mW X Y Z im S g h)
  refine g_aload_n (pc := 0) F dX4_copy_0 rfl ?_
  refine g_iload_n (pc := 1) F dX4_copy_1 rfl ?_
  refine i_readV (pc := 2) F (c_shelfSome X Y Z im S g h _ j rfl hj) mi_X4_shelfOrNull kv_X4_40 rfl rfl dX4_copy_2 (by decide) (by decide) rfl (Nat.le_of_ble_eq_true rfl) (by decide) (by decide) ?_
  refine g_astore (pc := 5) F dX4_copy_5 (by decide) ?_
  refine g_aload_n (pc := 7) F dX4_copy_7 rfl ?_
  refine g_iload_n (pc := 8) F dX4_copy_8 rfl ?_
  refine i_readV (pc := 9) F (c_shelfSome X Y Z im S g h _ q rfl hq) mi_X4_shelfOrNull kv_X4_40 rfl rfl dX4_copy_9 (by decide) (by decide) rfl (Nat.le_of_ble_eq_true rfl) (by decide) (by decide) ?_
  refine g_astore (pc := 12) F dX4_copy_12 (by decide) ?_
  refine g_aload (pc := 14) F dX4_copy_14 rfl ?_
  refine g_ifnull (pc := 16) F dX4_copy_16 ?_
  refine g_aload (pc := 19) F dX4_copy_19 rfl ?_
  refine g_ifnonnull (pc := 21) F dX4_copy_21 (tgt := 26) rfl ?_
  refine g_aload (pc := 26) F dX4_copy_26 rfl ?_
  refine g_getf (pc := 28) F fl_X4_44 dX4_copy_28 (mW_sh hj) rfl ?_
  refine g_if_eq (pc := 31) F dX4_copy_31 (tgt := 42) rfl (fun c_31 => ?_) (fun c_31 => ?_)
  · refine g_bipush (pc := 42) F dX4_copy_42 (v := (-11 : Int32)) (by decide) ?_
    exact g_iret (pc := 44) F X0 dX4_copy_44 (Nat.le_of_ble_eq_true rfl) (Nat.le_of_ble_eq_true rfl) rfl ⟨congrArg (fun z => some (Value.int z)) (copy_2 hj hq (by first | exact Or.inl (eh1.symm.trans c_31) | exact Or.inr (eh2.symm.trans c_39) | fail)).1.symm, Y, S, g, h, rfl, (congrArg (RS S) (copy_2 hj hq (by first | exact Or.inl (eh1.symm.trans c_31) | exact Or.inr (eh2.symm.trans c_39) | fail)).2).mpr hS⟩
  · refine g_aload (pc := 34) F dX4_copy_34 rfl ?_
    refine g_getf (pc := 36) F fl_X4_44 dX4_copy_36 (mW_sh hq) rfl ?_
    refine g_if_ne (pc := 39) F dX4_copy_39 (tgt := 45) rfl (fun c_39 => ?_) (fun c_39 => ?_)
    · refine g_aload (pc := 45) F dX4_copy_45 rfl ?_
      refine g_getf (pc := 47) F fl_X4_44 dX4_copy_47 (mW_sh hj) rfl ?_
      refine g_iconst (pc := 50) F dX4_copy_50 (v := nI 2) rfl ?_
      refine g_ic_ne (pc := 51) F dX4_copy_51 (tgt := 76) rfl (fun c_51 => ?_) (fun c_51 => ?_)
      · refine g_bipush (pc := 76) F dX4_copy_76 (v := (-12 : Int32)) (by decide) ?_
        exact g_iret (pc := 78) F X0 dX4_copy_78 (Nat.le_of_ble_eq_true rfl) (Nat.le_of_ble_eq_true rfl) rfl ⟨congrArg (fun z => some (Value.int z)) (copy_3 hj hq (fun z => z.elim (fun z => c_31 (eh1.trans z)) (fun z => c_39 (eh2.trans z))) (by first | exact (fun z => c_51 (eh1.trans z.1)) | exact (fun z => c_60 (eh2.trans z.2.1)) | exact (fun z => c_73 (es1.trans (z.2.2.trans es2.symm))) | fail)).1.symm, Y, S, g, h, rfl, (congrArg (RS S) (copy_3 hj hq (fun z => z.elim (fun z => c_31 (eh1.trans z)) (fun z => c_39 (eh2.trans z))) (by first | exact (fun z => c_51 (eh1.trans z.1)) | exact (fun z => c_60 (eh2.trans z.2.1)) | exact (fun z => c_73 (es1.trans (z.2.2.trans es2.symm))) | fail)).2).mpr hS⟩
      · refine g_aload (pc := 54) F dX4_copy_54 rfl ?_
        refine g_getf (pc := 56) F fl_X4_44 dX4_copy_56 (mW_sh hq) rfl ?_
        refine g_iconst (pc := 59) F dX4_copy_59 (v := nI 2) rfl ?_
        refine g_ic_ne (pc := 60) F dX4_copy_60 (tgt := 76) rfl (fun c_60 => ?_) (fun c_60 => ?_)
        · refine g_bipush (pc := 76) F dX4_copy_76 (v := (-12 : Int32)) (by decide) ?_
          exact g_iret (pc := 78) F X0 dX4_copy_78 (Nat.le_of_ble_eq_true rfl) (Nat.le_of_ble_eq_true rfl) rfl ⟨congrArg (fun z => some (Value.int z)) (copy_3 hj hq (fun z => z.elim (fun z => c_31 (eh1.trans z)) (fun z => c_39 (eh2.trans z))) (by first | exact (fun z => c_51 (eh1.trans z.1)) | exact (fun z => c_60 (eh2.trans z.2.1)) | exact (fun z => c_73 (es1.trans (z.2.2.trans es2.symm))) | fail)).1.symm, Y, S, g, h, rfl, (congrArg (RS S) (copy_3 hj hq (fun z => z.elim (fun z => c_31 (eh1.trans z)) (fun z => c_39 (eh2.trans z))) (by first | exact (fun z => c_51 (eh1.trans z.1)) | exact (fun z => c_60 (eh2.trans z.2.1)) | exact (fun z => c_73 (es1.trans (z.2.2.trans es2.symm))) | fail)).2).mpr hS⟩
        · refine g_aload (pc := 63) F dX4_copy_63 rfl ?_
          refine g_getf (pc := 65) F fl_X4_48 dX4_copy_65 (mW_sh hj) rfl ?_
          refine g_aload (pc := 68) F dX4_copy_68 rfl ?_
          refine g_getf (pc := 70) F fl_X4_48 dX4_copy_70 (mW_sh hq) rfl ?_
          refine g_ic_eq (pc := 73) F dX4_copy_73 (tgt := 79) rfl (fun c_73 => ?_) (fun c_73 => ?_)
          · refine g_iload (pc := 79) F dX4_copy_79 rfl ?_
            refine g_if_lt (pc := 81) F dX4_copy_81 (tgt := 107) rfl (fun c_81 => ?_) (fun c_81 => ?_)
            · refine g_bipush (pc := 107) F dX4_copy_107 (v := (-13 : Int32)) (by decide) ?_
              exact g_iret (pc := 109) F X0 dX4_copy_109 (Nat.le_of_ble_eq_true rfl) (Nat.le_of_ble_eq_true rfl) rfl ⟨congrArg (fun z => some (Value.int z)) (copy_4 hj hq (fun z => z.elim (fun z => c_31 (eh1.trans z)) (fun z => c_39 (eh2.trans z))) ⟨eh1.symm.trans c_51, eh2.symm.trans c_60, es1.symm.trans (c_73.trans es2)⟩ (by first | exact (fun z => by have := cp_lt c_81; omega) | exact (fun z => c_92 (by rw [em1]; exact (str_iff hn1 z.1).mpr ⟨z.2.1, by have z2 : i.toInt + n.toInt ≤ (tN T j).toInt := z.2.2.2.1; rw [en1, t1] at z2; exact z2⟩)) | exact (fun z => c_104 (by rw [em2]; exact (str_iff hn2 z.1).mpr ⟨z.2.2.1, by have z2 : jj.toInt + n.toInt ≤ (tN T q).toInt := z.2.2.2.2; rw [en2, t2] at z2; exact z2⟩)) | fail)).1.symm, Y, S, g, h, rfl, (congrArg (RS S) (copy_4 hj hq (fun z => z.elim (fun z => c_31 (eh1.trans z)) (fun z => c_39 (eh2.trans z))) ⟨eh1.symm.trans c_51, eh2.symm.trans c_60, es1.symm.trans (c_73.trans es2)⟩ (by first | exact (fun z => by have := cp_lt c_81; omega) | exact (fun z => c_92 (by rw [em1]; exact (str_iff hn1 z.1).mpr ⟨z.2.1, by have z2 : i.toInt + n.toInt ≤ (tN T j).toInt := z.2.2.2.1; rw [en1, t1] at z2; exact z2⟩)) | exact (fun z => c_104 (by rw [em2]; exact (str_iff hn2 z.1).mpr ⟨z.2.2.1, by have z2 : jj.toInt + n.toInt ≤ (tN T q).toInt := z.2.2.2.2; rw [en2, t2] at z2; exact z2⟩)) | fail)).2).mpr hS⟩
            · refine g_aload (pc := 84) F dX4_copy_84 rfl ?_
              refine g_iload_n (pc := 86) F dX4_copy_86 rfl ?_
              refine g_iload (pc := 87) F dX4_copy_87 rfl ?_
              refine h_readV (pc := 89) F (c_hasStretch (S j) _ _) mi_X2_hasStretch kv_X4_273 rfl rfl dX4_copy_89 [28 + 2 * j, 28 + 2 * j + 1] (mW_sub hj) (by decide) (by decide) (mW_nd hj) rfl (Nat.le_of_ble_eq_true rfl) trivial (by decide) (by decide) ?_
              refine g_ifeq_d (pc := 92) F dX4_copy_92 (tgt := 107) rfl (fun c_92 => ?_) (fun c_92 => ?_)
              · refine g_bipush (pc := 107) F dX4_copy_107 (v := (-13 : Int32)) (by decide) ?_
                exact g_iret (pc := 109) F X0 dX4_copy_109 (Nat.le_of_ble_eq_true rfl) (Nat.le_of_ble_eq_true rfl) rfl ⟨congrArg (fun z => some (Value.int z)) (copy_4 hj hq (fun z => z.elim (fun z => c_31 (eh1.trans z)) (fun z => c_39 (eh2.trans z))) ⟨eh1.symm.trans c_51, eh2.symm.trans c_60, es1.symm.trans (c_73.trans es2)⟩ (by first | exact (fun z => by have := cp_lt c_81; omega) | exact (fun z => c_92 (by rw [em1]; exact (str_iff hn1 z.1).mpr ⟨z.2.1, by have z2 : i.toInt + n.toInt ≤ (tN T j).toInt := z.2.2.2.1; rw [en1, t1] at z2; exact z2⟩)) | exact (fun z => c_104 (by rw [em2]; exact (str_iff hn2 z.1).mpr ⟨z.2.2.1, by have z2 : jj.toInt + n.toInt ≤ (tN T q).toInt := z.2.2.2.2; rw [en2, t2] at z2; exact z2⟩)) | fail)).1.symm, Y, S, g, h, rfl, (congrArg (RS S) (copy_4 hj hq (fun z => z.elim (fun z => c_31 (eh1.trans z)) (fun z => c_39 (eh2.trans z))) ⟨eh1.symm.trans c_51, eh2.symm.trans c_60, es1.symm.trans (c_73.trans es2)⟩ (by first | exact (fun z => by have := cp_lt c_81; omega) | exact (fun z => c_92 (by rw [em1]; exact (str_iff hn1 z.1).mpr ⟨z.2.1, by have z2 : i.toInt + n.toInt ≤ (tN T j).toInt := z.2.2.2.1; rw [en1, t1] at z2; exact z2⟩)) | exact (fun z => c_104 (by rw [em2]; exact (str_iff hn2 z.1).mpr ⟨z.2.2.1, by have z2 : jj.toInt + n.toInt ≤ (tN T q).toInt := z.2.2.2.2; rw [en2, t2] at z2; exact z2⟩)) | fail)).2).mpr hS⟩
              · refine g_aload (pc := 95) F dX4_copy_95 rfl ?_
                refine g_iload (pc := 97) F dX4_copy_97 rfl ?_
                refine g_iload (pc := 99) F dX4_copy_99 rfl ?_
                refine h_readV (pc := 101) F (c_hasStretch (S q) _ _) mi_X2_hasStretch kv_X4_273 rfl rfl dX4_copy_101 [28 + 2 * q, 28 + 2 * q + 1] (mW_sub hq) (by decide) (by decide) (mW_nd hq) rfl (Nat.le_of_ble_eq_true rfl) trivial (by decide) (by decide) ?_
                refine g_ifne_d (pc := 104) F dX4_copy_104 (tgt := 110) rfl (fun c_104 => ?_) (fun c_104 => ?_)
                · have c0 := cp_ge c_81
                  rw [em1] at c_92
                  rw [em2] at c_104
                  obtain ⟨p1, p2⟩ := (str_iff hn1 c0).mp c_92
                  obtain ⟨p3, p4⟩ := (str_iff hn2 c0).mp c_104
                  have hi2 := ti_hi i
                  have hj2 := ti_hi jj
                  have hn2' := ti_hi n
                  obtain ⟨i9, hi9, hib, rfl⟩ : ∃ k : Nat, (k : Int) = i.toInt ∧ k < 2 ^ 31 ∧ i = nI k := ⟨_, Int.toNat_of_nonneg p1, by omega, nI_of_ti p1⟩
                  obtain ⟨j9, hj9, hjb, rfl⟩ : ∃ k : Nat, (k : Int) = jj.toInt ∧ k < 2 ^ 31 ∧ jj = nI k := ⟨_, Int.toNat_of_nonneg p3, by omega, nI_of_ti p3⟩
                  obtain ⟨n9, hn9, hnb, rfl⟩ : ∃ k : Nat, (k : Int) = n.toInt ∧ k < 2 ^ 31 ∧ n = nI k := ⟨_, Int.toNat_of_nonneg c0, by omega, nI_of_ti c0⟩
                  refine g_aload (pc := 110) F dX4_copy_110 rfl ?_
                  refine g_getf (pc := 112) F fl_X4_231 dX4_copy_112 (mW_sh hj) rfl ?_
                  refine g_iload_n (pc := 115) F dX4_copy_115 rfl ?_
                  refine g_aload (pc := 116) F dX4_copy_116 rfl ?_
                  refine g_getf (pc := 118) F fl_X4_231 dX4_copy_118 (mW_sh hq) rfl ?_
                  refine g_iload (pc := 121) F dX4_copy_121 rfl ?_
                  refine g_iload (pc := 123) F dX4_copy_123 rfl ?_
                  refine g_acopy (pc := 125) F dX4_copy_125 kcopy_X4_276 (by decide) (Nat.le_of_ble_eq_true rfl) (mW_el hj) (mW_el hq) (fun z => by have := cp_lt z; omega) (fun z => by have := cp_lt z; omega) (fun z => by have := cp_lt z; omega) (by rw [nI_clamp hib, nI_clamp hnb]; omega) (by rw [nI_clamp hjb, nI_clamp hnb]; omega) ?_
                  rw [mW_setel hq, nI_clamp hib, nI_clamp hjb, nI_clamp hnb]
                  refine g_iload (pc := 128) F dX4_copy_128 rfl ?_
                  exact g_iret (pc := 130) F X0 dX4_copy_130 (Nat.le_of_ble_eq_true rfl) (Nat.le_of_ble_eq_true rfl) rfl ⟨congrArg (fun z => some (Value.int z)) (copy_5 hj hq (fun z => z.elim (fun z => c_31 (eh1.trans z)) (fun z => c_39 (eh2.trans z))) ⟨eh1.symm.trans c_51, eh2.symm.trans c_60, es1.symm.trans (c_73.trans es2)⟩ ⟨c0, p1, p3, by rw [en1, t1]; exact p2, by rw [en2, t2]; exact p4⟩ hib hjb hnb).1.symm, Y, _, g, h, rfl, (congrArg (RS _) (copy_5 hj hq (fun z => z.elim (fun z => c_31 (eh1.trans z)) (fun z => c_39 (eh2.trans z))) ⟨eh1.symm.trans c_51, eh2.symm.trans c_60, es1.symm.trans (c_73.trans es2)⟩ ⟨c0, p1, p3, by rw [en1, t1]; exact p2, by rw [en2, t2]; exact p4⟩ hib hjb hnb).2).mpr (RS_copy hS hj hq (by omega) (by omega) (show cp2 T j q from ⟨eh1.symm.trans c_51, eh2.symm.trans c_60, es1.symm.trans (c_73.trans es2)⟩).2.2 rfl)⟩
                · refine g_bipush (pc := 107) F dX4_copy_107 (v := (-13 : Int32)) (by decide) ?_
                  exact g_iret (pc := 109) F X0 dX4_copy_109 (Nat.le_of_ble_eq_true rfl) (Nat.le_of_ble_eq_true rfl) rfl ⟨congrArg (fun z => some (Value.int z)) (copy_4 hj hq (fun z => z.elim (fun z => c_31 (eh1.trans z)) (fun z => c_39 (eh2.trans z))) ⟨eh1.symm.trans c_51, eh2.symm.trans c_60, es1.symm.trans (c_73.trans es2)⟩ (by first | exact (fun z => by have := cp_lt c_81; omega) | exact (fun z => c_92 (by rw [em1]; exact (str_iff hn1 z.1).mpr ⟨z.2.1, by have z2 : i.toInt + n.toInt ≤ (tN T j).toInt := z.2.2.2.1; rw [en1, t1] at z2; exact z2⟩)) | exact (fun z => c_104 (by rw [em2]; exact (str_iff hn2 z.1).mpr ⟨z.2.2.1, by have z2 : jj.toInt + n.toInt ≤ (tN T q).toInt := z.2.2.2.2; rw [en2, t2] at z2; exact z2⟩)) | fail)).1.symm, Y, S, g, h, rfl, (congrArg (RS S) (copy_4 hj hq (fun z => z.elim (fun z => c_31 (eh1.trans z)) (fun z => c_39 (eh2.trans z))) ⟨eh1.symm.trans c_51, eh2.symm.trans c_60, es1.symm.trans (c_73.trans es2)⟩ (by first | exact (fun z => by have := cp_lt c_81; omega) | exact (fun z => c_92 (by rw [em1]; exact (str_iff hn1 z.1).mpr ⟨z.2.1, by have z2 : i.toInt + n.toInt ≤ (tN T j).toInt := z.2.2.2.1; rw [en1, t1] at z2; exact z2⟩)) | exact (fun z => c_104 (by rw [em2]; exact (str_iff hn2 z.1).mpr ⟨z.2.2.1, by have z2 : jj.toInt + n.toInt ≤ (tN T q).toInt := z.2.2.2.2; rw [en2, t2] at z2; exact z2⟩)) | fail)).2).mpr hS⟩
          · refine g_bipush (pc := 76) F dX4_copy_76 (v := (-12 : Int32)) (by decide) ?_
            exact g_iret (pc := 78) F X0 dX4_copy_78 (Nat.le_of_ble_eq_true rfl) (Nat.le_of_ble_eq_true rfl) rfl ⟨congrArg (fun z => some (Value.int z)) (copy_3 hj hq (fun z => z.elim (fun z => c_31 (eh1.trans z)) (fun z => c_39 (eh2.trans z))) (by first | exact (fun z => c_51 (eh1.trans z.1)) | exact (fun z => c_60 (eh2.trans z.2.1)) | exact (fun z => c_73 (es1.trans (z.2.2.trans es2.symm))) | fail)).1.symm, Y, S, g, h, rfl, (congrArg (RS S) (copy_3 hj hq (fun z => z.elim (fun z => c_31 (eh1.trans z)) (fun z => c_39 (eh2.trans z))) (by first | exact (fun z => c_51 (eh1.trans z.1)) | exact (fun z => c_60 (eh2.trans z.2.1)) | exact (fun z => c_73 (es1.trans (z.2.2.trans es2.symm))) | fail)).2).mpr hS⟩
    · refine g_bipush (pc := 42) F dX4_copy_42 (v := (-11 : Int32)) (by decide) ?_
      exact g_iret (pc := 44) F X0 dX4_copy_44 (Nat.le_of_ble_eq_true rfl) (Nat.le_of_ble_eq_true rfl) rfl ⟨congrArg (fun z => some (Value.int z)) (copy_2 hj hq (by first | exact Or.inl (eh1.symm.trans c_31) | exact Or.inr (eh2.symm.trans c_39) | fail)).1.symm, Y, S, g, h, rfl, (congrArg (RS S) (copy_2 hj hq (by first | exact Or.inl (eh1.symm.trans c_31) | exact Or.inr (eh2.symm.trans c_39) | fail)).2).mpr hS⟩

theorem c_copy (b : Int32) (X Y Z : DX) (im : Int32) (S : Nat → SX) (g h : Nat → Int32) (r : Nat → Int32) (hR : Rel b X r) (hI : Iv r) (h4 : r 4 = nI 0) (T : TX) (hS : RS S T) (i jj n : Int32) (d e : Int32) : Ctr yX4_copy cX4_copy 8 (some .int) 7 0 0 [.ref 0, .int d, .int i, .int e, .int jj, .int n] (mW X Y Z im S g h) (SttS (.int (A_copy T d i e jj n)) X Z im (T_copy T d i e jj n)) := by
  by_cases hd : shP d
  · obtain ⟨j, hj, e1⟩ := sh_ex hd
    by_cases he : shP e
    · obtain ⟨q, hq, e2⟩ := sh_ex he
      exact c_copy_yy b X Y Z im S g h r hR hI h4 T hS i jj n d e j e1 hj q e2 hq
    · exact c_copy_yn b X Y Z im S g h r hR hI h4 T hS i jj n d e j e1 hj he
  · by_cases he : shP e
    · obtain ⟨q, hq, e2⟩ := sh_ex he
      exact c_copy_ny b X Y Z im S g h r hR hI h4 T hS i jj n d e hd q e2 hq
    · exact c_copy_nn b X Y Z im S g h r hR hI h4 T hS i jj n d e hd he

theorem dn_eq (f : Nat → Int32) (a b : Nat) {n k : Nat} (hk : k < n) (h : a ≤ b ∨ b + n ≤ a) : upd (va_cpy f f (a + (n - k)) (b + (n - k)) k) (b + (n - 1 - k)) (va_cpy f f (a + (n - k)) (b + (n - k)) k (a + (n - 1 - k))) = va_cpy f f (a + (n - (k + 1))) (b + (n - (k + 1))) (k + 1) := by
  have e1 : n - k = (n - (k + 1)) + 1 := by omega
  have e2 : n - 1 - k = n - (k + 1) := by omega
  rw [e1, e2]
  exact cpy_dn (by omega)
theorem cp_end (T : TX) (a c i j n : Nat) : tcopy T a c i j n = (T.1, T.2.1, T.2.2.1, T.2.2.2.1, T.2.2.2.2.1, va_cpy T.2.2.2.2.2 T.2.2.2.2.2 (100 * a + i + (n - n)) (100 * c + j + (n - n)) n) := by
  rw [Nat.sub_self]
  rfl
set_option maxRecDepth 100000 in
set_option maxHeartbeats 800000 in
theorem m_copy (s m ig ws : Nat → Int32) (hg : Int32) (T : TX) (V : VX) (hI : Iv s) (hT : IT T) (d i e jj n : Int32) : Ctr yX5_copy cX5_copy 8 (some .int) 7 0 0 [.ref 0, .int d, .int i, .int e, .int jj, .int n] (rW s m ig ws hg T V) (SttR (.int (A_copy T d i e jj n)) s ig hg (T_copy T d i e jj n)) := by
  refine Ctr.of rfl (Nat.le_of_ble_eq_true rfl) ⟨clS_of rfl, clH_of rfl⟩ (fun K F X0 => ?_)
  show Go K 0 0 0 [(0, .ref 0), (1, .int d), (2, .int i), (3, .int e), (4, .int jj), (5, .int n)] [] (rW s m ig ws hg T V)
  refine g_iload_n (pc := 0) F dX5_copy_0 rfl ?_
  refine h_readS (pc := 1) F (c_mShelf _) mi_X5_isShelf ks_X5_218 dX5_copy_1 [] rfl (by decide) (by decide) rfl rfl (Nat.le_of_ble_eq_true rfl) trivial (by decide) (by decide) ?_
  refine g_ifeq_d (pc := 4) F dX5_copy_4 (tgt := 14) rfl (fun c_4 => ?_) (fun c_4 => ?_)
  · refine g_iconst (pc := 14) F dX5_copy_14 (v := (-1 : Int32)) (by decide) ?_
    exact g_iret (pc := 15) F X0 dX5_copy_15 (Nat.le_of_ble_eq_true rfl) (Nat.le_of_ble_eq_true rfl) rfl ⟨congrArg (fun z => some (Value.int z)) (copy_1 (by first | exact (fun z => c_4 z.1) | exact (fun z => c_11 z.2) | fail)).1.symm, m, ws, V, (congrArg (fun z => rW s m ig ws hg z V) (copy_1 (by first | exact (fun z => c_4 z.1) | exact (fun z => c_11 z.2) | fail)).2).symm⟩
  · refine g_iload_n (pc := 7) F dX5_copy_7 rfl ?_
    refine h_readS (pc := 8) F (c_mShelf _) mi_X5_isShelf ks_X5_218 dX5_copy_8 [] rfl (by decide) (by decide) rfl rfl (Nat.le_of_ble_eq_true rfl) trivial (by decide) (by decide) ?_
    refine g_ifne_d (pc := 11) F dX5_copy_11 (tgt := 16) rfl (fun c_11 => ?_) (fun c_11 => ?_)
    · obtain ⟨j, hj, rfl⟩ := sh_ex c_4
      obtain ⟨q, hq, rfl⟩ := sh_ex c_11
      obtain ⟨n1, hn1, en1⟩ := hT j hj
      obtain ⟨n2, hn2, en2⟩ := hT q hq
      have en1q : T.2.2.2.2.1 j = nI n1 := en1
      have en2q : T.2.2.2.2.1 q = nI n2 := en2
      have t1 := ti_n n1 (by omega)
      have t2 := ti_n n2 (by omega)
      refine g_aload_n (pc := 16) F dX5_copy_16 rfl ?_
      refine g_getf (pc := 17) F fl_X5_25 dX5_copy_17 rfl rfl ?_
      refine g_iload_n (pc := 20) F dX5_copy_20 rfl ?_
      refine g_iald2 (pc := 21) F dX5_copy_21 rfl rfl (by first | omega | (simp only [ix]; omega)) (by decide) ?_
      refine g_if_eq (pc := 22) F dX5_copy_22 (tgt := 34) rfl (fun c_22 => ?_) (fun c_22 => ?_)
      · refine g_bipush (pc := 34) F dX5_copy_34 (v := (-11 : Int32)) (by decide) ?_
        exact g_iret (pc := 36) F X0 dX5_copy_36 (Nat.le_of_ble_eq_true rfl) (Nat.le_of_ble_eq_true rfl) rfl ⟨congrArg (fun z => some (Value.int z)) (copy_2 hj hq (by first | exact Or.inl c_22 | exact Or.inr c_31 | fail)).1.symm, m, ws, V, (congrArg (fun z => rW s m ig ws hg z V) (copy_2 hj hq (by first | exact Or.inl c_22 | exact Or.inr c_31 | fail)).2).symm⟩
      · refine g_aload_n (pc := 25) F dX5_copy_25 rfl ?_
        refine g_getf (pc := 26) F fl_X5_25 dX5_copy_26 rfl rfl ?_
        refine g_iload_n (pc := 29) F dX5_copy_29 rfl ?_
        refine g_iald2 (pc := 30) F dX5_copy_30 rfl rfl (by first | omega | (simp only [ix]; omega)) (by decide) ?_
        refine g_if_ne (pc := 31) F dX5_copy_31 (tgt := 37) rfl (fun c_31 => ?_) (fun c_31 => ?_)
        · refine g_aload_n (pc := 37) F dX5_copy_37 rfl ?_
          refine g_getf (pc := 38) F fl_X5_25 dX5_copy_38 rfl rfl ?_
          refine g_iload_n (pc := 41) F dX5_copy_41 rfl ?_
          refine g_iald2 (pc := 42) F dX5_copy_42 rfl rfl (by first | omega | (simp only [ix]; omega)) (by decide) ?_
          refine g_iconst (pc := 43) F dX5_copy_43 (v := nI 2) rfl ?_
          refine g_ic_ne (pc := 44) F dX5_copy_44 (tgt := 72) rfl (fun c_44 => ?_) (fun c_44 => ?_)
          · refine g_bipush (pc := 72) F dX5_copy_72 (v := (-12 : Int32)) (by decide) ?_
            exact g_iret (pc := 74) F X0 dX5_copy_74 (Nat.le_of_ble_eq_true rfl) (Nat.le_of_ble_eq_true rfl) rfl ⟨congrArg (fun z => some (Value.int z)) (copy_3 hj hq (fun z => z.elim c_22 c_31) (by first | exact (fun z => c_44 z.1) | exact (fun z => c_54 z.2.1) | exact (fun z => c_69 z.2.2) | fail)).1.symm, m, ws, V, (congrArg (fun z => rW s m ig ws hg z V) (copy_3 hj hq (fun z => z.elim c_22 c_31) (by first | exact (fun z => c_44 z.1) | exact (fun z => c_54 z.2.1) | exact (fun z => c_69 z.2.2) | fail)).2).symm⟩
          · refine g_aload_n (pc := 47) F dX5_copy_47 rfl ?_
            refine g_getf (pc := 48) F fl_X5_25 dX5_copy_48 rfl rfl ?_
            refine g_iload_n (pc := 51) F dX5_copy_51 rfl ?_
            refine g_iald2 (pc := 52) F dX5_copy_52 rfl rfl (by first | omega | (simp only [ix]; omega)) (by decide) ?_
            refine g_iconst (pc := 53) F dX5_copy_53 (v := nI 2) rfl ?_
            refine g_ic_ne (pc := 54) F dX5_copy_54 (tgt := 72) rfl (fun c_54 => ?_) (fun c_54 => ?_)
            · refine g_bipush (pc := 72) F dX5_copy_72 (v := (-12 : Int32)) (by decide) ?_
              exact g_iret (pc := 74) F X0 dX5_copy_74 (Nat.le_of_ble_eq_true rfl) (Nat.le_of_ble_eq_true rfl) rfl ⟨congrArg (fun z => some (Value.int z)) (copy_3 hj hq (fun z => z.elim c_22 c_31) (by first | exact (fun z => c_44 z.1) | exact (fun z => c_54 z.2.1) | exact (fun z => c_69 z.2.2) | fail)).1.symm, m, ws, V, (congrArg (fun z => rW s m ig ws hg z V) (copy_3 hj hq (fun z => z.elim c_22 c_31) (by first | exact (fun z => c_44 z.1) | exact (fun z => c_54 z.2.1) | exact (fun z => c_69 z.2.2) | fail)).2).symm⟩
            · refine g_aload_n (pc := 57) F dX5_copy_57 rfl ?_
              refine g_getf (pc := 58) F fl_X5_34 dX5_copy_58 rfl rfl ?_
              refine g_iload_n (pc := 61) F dX5_copy_61 rfl ?_
              refine g_iald2 (pc := 62) F dX5_copy_62 rfl rfl (by first | omega | (simp only [ix]; omega)) (by decide) ?_
              refine g_aload_n (pc := 63) F dX5_copy_63 rfl ?_
              refine g_getf (pc := 64) F fl_X5_34 dX5_copy_64 rfl rfl ?_
              refine g_iload_n (pc := 67) F dX5_copy_67 rfl ?_
              refine g_iald2 (pc := 68) F dX5_copy_68 rfl rfl (by first | omega | (simp only [ix]; omega)) (by decide) ?_
              refine g_ic_eq (pc := 69) F dX5_copy_69 (tgt := 75) rfl (fun c_69 => ?_) (fun c_69 => ?_)
              · refine g_iload (pc := 75) F dX5_copy_75 rfl ?_
                refine g_if_lt (pc := 77) F dX5_copy_77 (tgt := 116) rfl (fun c_77 => ?_) (fun c_77 => ?_)
                · refine g_bipush (pc := 116) F dX5_copy_116 (v := (-13 : Int32)) (by decide) ?_
                  exact g_iret (pc := 118) F X0 dX5_copy_118 (Nat.le_of_ble_eq_true rfl) (Nat.le_of_ble_eq_true rfl) rfl ⟨congrArg (fun z => some (Value.int z)) (copy_4 hj hq (fun z => z.elim c_22 c_31) ⟨c_44, c_54, c_69⟩ (by first | exact (fun z => by have := cp_lt c_77; omega) | exact (fun z => by have := cp_lt c_81; omega) | exact (fun z => by have := cp_lt c_86; omega) | exact (fun z => by have z2 : i.toInt + n.toInt ≤ (tN T j).toInt := z.2.2.2.1; rw [en1, t1] at z2; rw [en1q] at c_99; have h2 := (ti_lt _ _).mp c_99; rw [sub_ti hn1 z.2.1] at h2; omega) | exact (fun z => by have z2 : jj.toInt + n.toInt ≤ (tN T q).toInt := z.2.2.2.2; rw [en2, t2] at z2; rw [en2q] at c_113; have h2 := (ti_lt _ _).mp (Int32.not_le.mp c_113); rw [sub_ti hn2 z.2.2.1] at h2; omega) | fail)).1.symm, m, ws, V, (congrArg (fun z => rW s m ig ws hg z V) (copy_4 hj hq (fun z => z.elim c_22 c_31) ⟨c_44, c_54, c_69⟩ (by first | exact (fun z => by have := cp_lt c_77; omega) | exact (fun z => by have := cp_lt c_81; omega) | exact (fun z => by have := cp_lt c_86; omega) | exact (fun z => by have z2 : i.toInt + n.toInt ≤ (tN T j).toInt := z.2.2.2.1; rw [en1, t1] at z2; rw [en1q] at c_99; have h2 := (ti_lt _ _).mp c_99; rw [sub_ti hn1 z.2.1] at h2; omega) | exact (fun z => by have z2 : jj.toInt + n.toInt ≤ (tN T q).toInt := z.2.2.2.2; rw [en2, t2] at z2; rw [en2q] at c_113; have h2 := (ti_lt _ _).mp (Int32.not_le.mp c_113); rw [sub_ti hn2 z.2.2.1] at h2; omega) | fail)).2).symm⟩
                · refine g_iload_n (pc := 80) F dX5_copy_80 rfl ?_
                  refine g_if_lt (pc := 81) F dX5_copy_81 (tgt := 116) rfl (fun c_81 => ?_) (fun c_81 => ?_)
                  · refine g_bipush (pc := 116) F dX5_copy_116 (v := (-13 : Int32)) (by decide) ?_
                    exact g_iret (pc := 118) F X0 dX5_copy_118 (Nat.le_of_ble_eq_true rfl) (Nat.le_of_ble_eq_true rfl) rfl ⟨congrArg (fun z => some (Value.int z)) (copy_4 hj hq (fun z => z.elim c_22 c_31) ⟨c_44, c_54, c_69⟩ (by first | exact (fun z => by have := cp_lt c_77; omega) | exact (fun z => by have := cp_lt c_81; omega) | exact (fun z => by have := cp_lt c_86; omega) | exact (fun z => by have z2 : i.toInt + n.toInt ≤ (tN T j).toInt := z.2.2.2.1; rw [en1, t1] at z2; rw [en1q] at c_99; have h2 := (ti_lt _ _).mp c_99; rw [sub_ti hn1 z.2.1] at h2; omega) | exact (fun z => by have z2 : jj.toInt + n.toInt ≤ (tN T q).toInt := z.2.2.2.2; rw [en2, t2] at z2; rw [en2q] at c_113; have h2 := (ti_lt _ _).mp (Int32.not_le.mp c_113); rw [sub_ti hn2 z.2.2.1] at h2; omega) | fail)).1.symm, m, ws, V, (congrArg (fun z => rW s m ig ws hg z V) (copy_4 hj hq (fun z => z.elim c_22 c_31) ⟨c_44, c_54, c_69⟩ (by first | exact (fun z => by have := cp_lt c_77; omega) | exact (fun z => by have := cp_lt c_81; omega) | exact (fun z => by have := cp_lt c_86; omega) | exact (fun z => by have z2 : i.toInt + n.toInt ≤ (tN T j).toInt := z.2.2.2.1; rw [en1, t1] at z2; rw [en1q] at c_99; have h2 := (ti_lt _ _).mp c_99; rw [sub_ti hn1 z.2.1] at h2; omega) | exact (fun z => by have z2 : jj.toInt + n.toInt ≤ (tN T q).toInt := z.2.2.2.2; rw [en2, t2] at z2; rw [en2q] at c_113; have h2 := (ti_lt _ _).mp (Int32.not_le.mp c_113); rw [sub_ti hn2 z.2.2.1] at h2; omega) | fail)).2).symm⟩
                  · refine g_iload (pc := 84) F dX5_copy_84 rfl ?_
                    refine g_if_lt (pc := 86) F dX5_copy_86 (tgt := 116) rfl (fun c_86 => ?_) (fun c_86 => ?_)
                    · refine g_bipush (pc := 116) F dX5_copy_116 (v := (-13 : Int32)) (by decide) ?_
                      exact g_iret (pc := 118) F X0 dX5_copy_118 (Nat.le_of_ble_eq_true rfl) (Nat.le_of_ble_eq_true rfl) rfl ⟨congrArg (fun z => some (Value.int z)) (copy_4 hj hq (fun z => z.elim c_22 c_31) ⟨c_44, c_54, c_69⟩ (by first | exact (fun z => by have := cp_lt c_77; omega) | exact (fun z => by have := cp_lt c_81; omega) | exact (fun z => by have := cp_lt c_86; omega) | exact (fun z => by have z2 : i.toInt + n.toInt ≤ (tN T j).toInt := z.2.2.2.1; rw [en1, t1] at z2; rw [en1q] at c_99; have h2 := (ti_lt _ _).mp c_99; rw [sub_ti hn1 z.2.1] at h2; omega) | exact (fun z => by have z2 : jj.toInt + n.toInt ≤ (tN T q).toInt := z.2.2.2.2; rw [en2, t2] at z2; rw [en2q] at c_113; have h2 := (ti_lt _ _).mp (Int32.not_le.mp c_113); rw [sub_ti hn2 z.2.2.1] at h2; omega) | fail)).1.symm, m, ws, V, (congrArg (fun z => rW s m ig ws hg z V) (copy_4 hj hq (fun z => z.elim c_22 c_31) ⟨c_44, c_54, c_69⟩ (by first | exact (fun z => by have := cp_lt c_77; omega) | exact (fun z => by have := cp_lt c_81; omega) | exact (fun z => by have := cp_lt c_86; omega) | exact (fun z => by have z2 : i.toInt + n.toInt ≤ (tN T j).toInt := z.2.2.2.1; rw [en1, t1] at z2; rw [en1q] at c_99; have h2 := (ti_lt _ _).mp c_99; rw [sub_ti hn1 z.2.1] at h2; omega) | exact (fun z => by have z2 : jj.toInt + n.toInt ≤ (tN T q).toInt := z.2.2.2.2; rw [en2, t2] at z2; rw [en2q] at c_113; have h2 := (ti_lt _ _).mp (Int32.not_le.mp c_113); rw [sub_ti hn2 z.2.2.1] at h2; omega) | fail)).2).symm⟩
                    · refine g_iload (pc := 89) F dX5_copy_89 rfl ?_
                      refine g_aload_n (pc := 91) F dX5_copy_91 rfl ?_
                      refine g_getf (pc := 92) F fl_X5_37 dX5_copy_92 rfl rfl ?_
                      refine g_iload_n (pc := 95) F dX5_copy_95 rfl ?_
                      refine g_iald2 (pc := 96) F dX5_copy_96 rfl rfl (by first | omega | (simp only [ix]; omega)) (by decide) ?_
                      refine g_iload_n (pc := 97) F dX5_copy_97 rfl ?_
                      refine g_isub (pc := 98) F dX5_copy_98 ?_
                      refine g_ic_gt (pc := 99) F dX5_copy_99 (tgt := 116) rfl (fun c_99 => ?_) (fun c_99 => ?_)
                      · refine g_bipush (pc := 116) F dX5_copy_116 (v := (-13 : Int32)) (by decide) ?_
                        exact g_iret (pc := 118) F X0 dX5_copy_118 (Nat.le_of_ble_eq_true rfl) (Nat.le_of_ble_eq_true rfl) rfl ⟨congrArg (fun z => some (Value.int z)) (copy_4 hj hq (fun z => z.elim c_22 c_31) ⟨c_44, c_54, c_69⟩ (by first | exact (fun z => by have := cp_lt c_77; omega) | exact (fun z => by have := cp_lt c_81; omega) | exact (fun z => by have := cp_lt c_86; omega) | exact (fun z => by have z2 : i.toInt + n.toInt ≤ (tN T j).toInt := z.2.2.2.1; rw [en1, t1] at z2; rw [en1q] at c_99; have h2 := (ti_lt _ _).mp c_99; rw [sub_ti hn1 z.2.1] at h2; omega) | exact (fun z => by have z2 : jj.toInt + n.toInt ≤ (tN T q).toInt := z.2.2.2.2; rw [en2, t2] at z2; rw [en2q] at c_113; have h2 := (ti_lt _ _).mp (Int32.not_le.mp c_113); rw [sub_ti hn2 z.2.2.1] at h2; omega) | fail)).1.symm, m, ws, V, (congrArg (fun z => rW s m ig ws hg z V) (copy_4 hj hq (fun z => z.elim c_22 c_31) ⟨c_44, c_54, c_69⟩ (by first | exact (fun z => by have := cp_lt c_77; omega) | exact (fun z => by have := cp_lt c_81; omega) | exact (fun z => by have := cp_lt c_86; omega) | exact (fun z => by have z2 : i.toInt + n.toInt ≤ (tN T j).toInt := z.2.2.2.1; rw [en1, t1] at z2; rw [en1q] at c_99; have h2 := (ti_lt _ _).mp c_99; rw [sub_ti hn1 z.2.1] at h2; omega) | exact (fun z => by have z2 : jj.toInt + n.toInt ≤ (tN T q).toInt := z.2.2.2.2; rw [en2, t2] at z2; rw [en2q] at c_113; have h2 := (ti_lt _ _).mp (Int32.not_le.mp c_113); rw [sub_ti hn2 z.2.2.1] at h2; omega) | fail)).2).symm⟩
                      · refine g_iload (pc := 102) F dX5_copy_102 rfl ?_
                        refine g_aload_n (pc := 104) F dX5_copy_104 rfl ?_
                        refine g_getf (pc := 105) F fl_X5_37 dX5_copy_105 rfl rfl ?_
                        refine g_iload_n (pc := 108) F dX5_copy_108 rfl ?_
                        refine g_iald2 (pc := 109) F dX5_copy_109 rfl rfl (by first | omega | (simp only [ix]; omega)) (by decide) ?_
                        refine g_iload (pc := 110) F dX5_copy_110 rfl ?_
                        refine g_isub (pc := 112) F dX5_copy_112 ?_
                        refine g_ic_le (pc := 113) F dX5_copy_113 (tgt := 119) rfl (fun c_113 => ?_) (fun c_113 => ?_)
                        · have c0 := cp_ge c_77
                          have p1 := cp_ge c_81
                          have p3 := cp_ge c_86
                          rw [en1q] at c_99
                          rw [en2q] at c_113
                          have p2 := (ti_le _ _).mp (Int32.not_lt.mp c_99)
                          rw [sub_ti hn1 p1] at p2
                          have p4 := (ti_le _ _).mp c_113
                          rw [sub_ti hn2 p3] at p4
                          have hi2 := ti_hi i
                          have hj2 := ti_hi jj
                          have hn2' := ti_hi n
                          obtain ⟨i9, hi9, hib, rfl⟩ : ∃ k : Nat, (k : Int) = i.toInt ∧ k < 2 ^ 31 ∧ i = nI k := ⟨_, Int.toNat_of_nonneg p1, by omega, nI_of_ti p1⟩
                          obtain ⟨j9, hj9, hjb, rfl⟩ : ∃ k : Nat, (k : Int) = jj.toInt ∧ k < 2 ^ 31 ∧ jj = nI k := ⟨_, Int.toNat_of_nonneg p3, by omega, nI_of_ti p3⟩
                          obtain ⟨n9, hn9, hnb, rfl⟩ : ∃ k : Nat, (k : Int) = n.toInt ∧ k < 2 ^ 31 ∧ n = nI k := ⟨_, Int.toNat_of_nonneg c0, by omega, nI_of_ti c0⟩
                          have L5 := copy_5 hj hq (fun z => z.elim c_22 c_31) ⟨c_44, c_54, c_69⟩ ⟨c0, p1, p3, by rw [en1, t1]; omega, by rw [en2, t2]; omega⟩ hib hjb hnb
                          refine g_iconst (pc := 119) F dX5_copy_119 (v := nI 0) rfl ?_
                          refine g_istore (pc := 120) F dX5_copy_120 (by decide) ?_
                          by_cases hcase : j9 < i9
                          · have L : ∀ k, k ≤ n9 → Go K 0 0 122 [(0, .ref 0), (1, .int (nI j)), (2, .int (nI i9)), (3, .int (nI q)), (4, .int (nI j9)), (5, .int (nI n9)), (6, .int (nI (k)))] [] (rW s m ig ws hg (T.1, T.2.1, T.2.2.1, T.2.2.2.1, T.2.2.2.2.1, va_cpy T.2.2.2.2.2 T.2.2.2.2.2 (100 * j + i9) (100 * q + j9) k) V) := loop_up (P := fun k => Go K 0 0 122 [(0, .ref 0), (1, .int (nI j)), (2, .int (nI i9)), (3, .int (nI q)), (4, .int (nI j9)), (5, .int (nI n9)), (6, .int (nI (k)))] [] (rW s m ig ws hg (T.1, T.2.1, T.2.2.1, T.2.2.2.1, T.2.2.2.2.1, va_cpy T.2.2.2.2.2 T.2.2.2.2.2 (100 * j + i9) (100 * q + j9) k) V)) (fun k hk ih => by
                              refine g_iload (pc := 122) F dX5_copy_122 rfl ?_
                              refine g_iload (pc := 124) F dX5_copy_124 rfl ?_
                              refine g_icN_ge (pc := 126) F dX5_copy_126 (tgt := 184) rfl rfl rfl (by omega) (by omega) (fun c_126 => ?_) (fun c_126 => ?_)
                              · obtain rfl : k = n9 := by omega
                                refine g_iload (pc := 184) F dX5_copy_184 rfl ?_
                                exact g_iret (pc := 186) F X0 dX5_copy_186 (Nat.le_of_ble_eq_true rfl) (Nat.le_of_ble_eq_true rfl) rfl ⟨congrArg (fun z => some (Value.int z)) L5.1.symm, m, ws, V, (congrArg (fun z => rW s m ig ws hg z V) L5.2).symm⟩
                              · refine g_iload_n (pc := 129) F dX5_copy_129 rfl ?_
                                refine g_iload (pc := 130) F dX5_copy_130 rfl ?_
                                refine g_icN_le (pc := 132) F dX5_copy_132 (tgt := 140) rfl rfl rfl (by omega) (by omega) (fun c_132 => absurd hcase (by omega)) (fun c_132 => ?_)
                                refine g_iload (pc := 135) F dX5_copy_135 rfl ?_
                                refine g_goto (pc := 137) F dX5_copy_137 (tgt := 147) rfl ?_
                                refine g_istore (pc := 147) F dX5_copy_147 (by decide) ?_
                                refine g_aload_n (pc := 149) F dX5_copy_149 rfl ?_
                                refine g_getf (pc := 150) F fl_X5_40 dX5_copy_150 rfl rfl ?_
                                refine g_bipush (pc := 153) F dX5_copy_153 (v := nI 100) rfl ?_
                                refine g_iload_n (pc := 155) F dX5_copy_155 rfl ?_
                                refine g_imulN (pc := 156) F dX5_copy_156 ?_
                                refine g_iload (pc := 157) F dX5_copy_157 rfl ?_
                                refine g_iaddN (pc := 159) F dX5_copy_159 ?_
                                refine g_iload (pc := 160) F dX5_copy_160 rfl ?_
                                refine g_iaddN (pc := 162) F dX5_copy_162 ?_
                                refine g_aload_n (pc := 163) F dX5_copy_163 rfl ?_
                                refine g_getf (pc := 164) F fl_X5_40 dX5_copy_164 rfl rfl ?_
                                refine g_bipush (pc := 167) F dX5_copy_167 (v := nI 100) rfl ?_
                                refine g_iload_n (pc := 169) F dX5_copy_169 rfl ?_
                                refine g_imulN (pc := 170) F dX5_copy_170 ?_
                                refine g_iload_n (pc := 171) F dX5_copy_171 rfl ?_
                                refine g_iaddN (pc := 172) F dX5_copy_172 ?_
                                refine g_iload (pc := 173) F dX5_copy_173 rfl ?_
                                refine g_iaddN (pc := 175) F dX5_copy_175 ?_
                                refine g_iald2 (pc := 176) F dX5_copy_176 rfl rfl (by first | omega | (simp only [ix]; omega)) (by decide) ?_
                                refine g_iast2 (pc := 177) F dX5_copy_177 rfl rfl (by first | omega | (simp only [ix]; omega)) (by decide) ?_
                                refine g_iincN (pc := 178) F dX5_copy_178 rfl (by decide) ?_
                                refine g_goto (pc := 181) F dX5_copy_181 (tgt := 122) rfl ?_
                                refine g_less [0, 1, 2, 3, 4, 5, 6] rfl ?_
                                exact (congrArg (fun z => Go K 0 0 122 [(0, .ref 0), (1, .int (nI j)), (2, .int (nI i9)), (3, .int (nI q)), (4, .int (nI j9)), (5, .int (nI n9)), (6, .int (nI (k + 1)))] [] (rW s m ig ws hg (T.1, T.2.1, T.2.2.1, T.2.2.2.1, T.2.2.2.2.1, z) V)) ((cpy_up (f := T.2.2.2.2.2) (a := 100 * j + i9) (b := 100 * q + j9) (k := k) (by omega)).symm)).mp (ih c_126))
                            exact (congrArg (fun z => Go K 0 0 122 [(0, .ref 0), (1, .int (nI j)), (2, .int (nI i9)), (3, .int (nI q)), (4, .int (nI j9)), (5, .int (nI n9)), (6, .int (nI (0)))] [] (rW s m ig ws hg (T.1, T.2.1, T.2.2.1, T.2.2.2.1, T.2.2.2.2.1, z) V)) (cpy_00 T.2.2.2.2.2 (100 * j + i9) (100 * q + j9))).mp (L 0 (Nat.zero_le _))
                          have L : ∀ k, k ≤ n9 → Go K 0 0 122 [(0, .ref 0), (1, .int (nI j)), (2, .int (nI i9)), (3, .int (nI q)), (4, .int (nI j9)), (5, .int (nI n9)), (6, .int (nI (k)))] [] (rW s m ig ws hg (T.1, T.2.1, T.2.2.1, T.2.2.2.1, T.2.2.2.2.1, va_cpy T.2.2.2.2.2 T.2.2.2.2.2 (100 * j + i9 + (n9 - k)) (100 * q + j9 + (n9 - k)) k) V) := loop_up (P := fun k => Go K 0 0 122 [(0, .ref 0), (1, .int (nI j)), (2, .int (nI i9)), (3, .int (nI q)), (4, .int (nI j9)), (5, .int (nI n9)), (6, .int (nI (k)))] [] (rW s m ig ws hg (T.1, T.2.1, T.2.2.1, T.2.2.2.1, T.2.2.2.2.1, va_cpy T.2.2.2.2.2 T.2.2.2.2.2 (100 * j + i9 + (n9 - k)) (100 * q + j9 + (n9 - k)) k) V)) (fun k hk ih => by
                            refine g_iload (pc := 122) F dX5_copy_122 rfl ?_
                            refine g_iload (pc := 124) F dX5_copy_124 rfl ?_
                            refine g_icN_ge (pc := 126) F dX5_copy_126 (tgt := 184) rfl rfl rfl (by omega) (by omega) (fun c_126 => ?_) (fun c_126 => ?_)
                            · obtain rfl : k = n9 := by omega
                              refine g_iload (pc := 184) F dX5_copy_184 rfl ?_
                              exact g_iret (pc := 186) F X0 dX5_copy_186 (Nat.le_of_ble_eq_true rfl) (Nat.le_of_ble_eq_true rfl) rfl ⟨congrArg (fun z => some (Value.int z)) L5.1.symm, m, ws, V, (congrArg (fun z => rW s m ig ws hg z V) (L5.2.trans (cp_end T j q i9 j9 k))).symm⟩
                            · refine g_iload_n (pc := 129) F dX5_copy_129 rfl ?_
                              refine g_iload (pc := 130) F dX5_copy_130 rfl ?_
                              refine g_icN_le (pc := 132) F dX5_copy_132 (tgt := 140) rfl rfl rfl (by omega) (by omega) (fun c_132 => ?_) (fun c_132 => absurd hcase (by omega))
                              refine g_iload (pc := 140) F dX5_copy_140 rfl ?_
                              refine g_iconst (pc := 142) F dX5_copy_142 (v := nI 1) rfl ?_
                              refine g_isubN (pc := 143) F dX5_copy_143 (by omega) ?_
                              refine g_iload (pc := 144) F dX5_copy_144 rfl ?_
                              refine g_isubN (pc := 146) F dX5_copy_146 (by omega) ?_
                              refine g_istore (pc := 147) F dX5_copy_147 (by decide) ?_
                              refine g_aload_n (pc := 149) F dX5_copy_149 rfl ?_
                              refine g_getf (pc := 150) F fl_X5_40 dX5_copy_150 rfl rfl ?_
                              refine g_bipush (pc := 153) F dX5_copy_153 (v := nI 100) rfl ?_
                              refine g_iload_n (pc := 155) F dX5_copy_155 rfl ?_
                              refine g_imulN (pc := 156) F dX5_copy_156 ?_
                              refine g_iload (pc := 157) F dX5_copy_157 rfl ?_
                              refine g_iaddN (pc := 159) F dX5_copy_159 ?_
                              refine g_iload (pc := 160) F dX5_copy_160 rfl ?_
                              refine g_iaddN (pc := 162) F dX5_copy_162 ?_
                              refine g_aload_n (pc := 163) F dX5_copy_163 rfl ?_
                              refine g_getf (pc := 164) F fl_X5_40 dX5_copy_164 rfl rfl ?_
                              refine g_bipush (pc := 167) F dX5_copy_167 (v := nI 100) rfl ?_
                              refine g_iload_n (pc := 169) F dX5_copy_169 rfl ?_
                              refine g_imulN (pc := 170) F dX5_copy_170 ?_
                              refine g_iload_n (pc := 171) F dX5_copy_171 rfl ?_
                              refine g_iaddN (pc := 172) F dX5_copy_172 ?_
                              refine g_iload (pc := 173) F dX5_copy_173 rfl ?_
                              refine g_iaddN (pc := 175) F dX5_copy_175 ?_
                              refine g_iald2 (pc := 176) F dX5_copy_176 rfl rfl (by first | omega | (simp only [ix]; omega)) (by decide) ?_
                              refine g_iast2 (pc := 177) F dX5_copy_177 rfl rfl (by first | omega | (simp only [ix]; omega)) (by decide) ?_
                              refine g_iincN (pc := 178) F dX5_copy_178 rfl (by decide) ?_
                              refine g_goto (pc := 181) F dX5_copy_181 (tgt := 122) rfl ?_
                              refine g_less [0, 1, 2, 3, 4, 5, 6] rfl ?_
                              exact (congrArg (fun z => Go K 0 0 122 [(0, .ref 0), (1, .int (nI j)), (2, .int (nI i9)), (3, .int (nI q)), (4, .int (nI j9)), (5, .int (nI n9)), (6, .int (nI (k + 1)))] [] (rW s m ig ws hg (T.1, T.2.1, T.2.2.1, T.2.2.2.1, T.2.2.2.2.1, z) V)) ((dn_eq T.2.2.2.2.2 (100 * j + i9) (100 * q + j9) c_126 (by omega)).symm)).mp (ih c_126))
                          exact (congrArg (fun z => Go K 0 0 122 [(0, .ref 0), (1, .int (nI j)), (2, .int (nI i9)), (3, .int (nI q)), (4, .int (nI j9)), (5, .int (nI n9)), (6, .int (nI (0)))] [] (rW s m ig ws hg (T.1, T.2.1, T.2.2.1, T.2.2.2.1, T.2.2.2.2.1, z) V)) (cpy_00 T.2.2.2.2.2 (100 * j + i9 + (n9 - 0)) (100 * q + j9 + (n9 - 0)))).mp (L 0 (Nat.zero_le _))
                        · refine g_bipush (pc := 116) F dX5_copy_116 (v := (-13 : Int32)) (by decide) ?_
                          exact g_iret (pc := 118) F X0 dX5_copy_118 (Nat.le_of_ble_eq_true rfl) (Nat.le_of_ble_eq_true rfl) rfl ⟨congrArg (fun z => some (Value.int z)) (copy_4 hj hq (fun z => z.elim c_22 c_31) ⟨c_44, c_54, c_69⟩ (by first | exact (fun z => by have := cp_lt c_77; omega) | exact (fun z => by have := cp_lt c_81; omega) | exact (fun z => by have := cp_lt c_86; omega) | exact (fun z => by have z2 : i.toInt + n.toInt ≤ (tN T j).toInt := z.2.2.2.1; rw [en1, t1] at z2; rw [en1q] at c_99; have h2 := (ti_lt _ _).mp c_99; rw [sub_ti hn1 z.2.1] at h2; omega) | exact (fun z => by have z2 : jj.toInt + n.toInt ≤ (tN T q).toInt := z.2.2.2.2; rw [en2, t2] at z2; rw [en2q] at c_113; have h2 := (ti_lt _ _).mp (Int32.not_le.mp c_113); rw [sub_ti hn2 z.2.2.1] at h2; omega) | fail)).1.symm, m, ws, V, (congrArg (fun z => rW s m ig ws hg z V) (copy_4 hj hq (fun z => z.elim c_22 c_31) ⟨c_44, c_54, c_69⟩ (by first | exact (fun z => by have := cp_lt c_77; omega) | exact (fun z => by have := cp_lt c_81; omega) | exact (fun z => by have := cp_lt c_86; omega) | exact (fun z => by have z2 : i.toInt + n.toInt ≤ (tN T j).toInt := z.2.2.2.1; rw [en1, t1] at z2; rw [en1q] at c_99; have h2 := (ti_lt _ _).mp c_99; rw [sub_ti hn1 z.2.1] at h2; omega) | exact (fun z => by have z2 : jj.toInt + n.toInt ≤ (tN T q).toInt := z.2.2.2.2; rw [en2, t2] at z2; rw [en2q] at c_113; have h2 := (ti_lt _ _).mp (Int32.not_le.mp c_113); rw [sub_ti hn2 z.2.2.1] at h2; omega) | fail)).2).symm⟩
              · refine g_bipush (pc := 72) F dX5_copy_72 (v := (-12 : Int32)) (by decide) ?_
                exact g_iret (pc := 74) F X0 dX5_copy_74 (Nat.le_of_ble_eq_true rfl) (Nat.le_of_ble_eq_true rfl) rfl ⟨congrArg (fun z => some (Value.int z)) (copy_3 hj hq (fun z => z.elim c_22 c_31) (by first | exact (fun z => c_44 z.1) | exact (fun z => c_54 z.2.1) | exact (fun z => c_69 z.2.2) | fail)).1.symm, m, ws, V, (congrArg (fun z => rW s m ig ws hg z V) (copy_3 hj hq (fun z => z.elim c_22 c_31) (by first | exact (fun z => c_44 z.1) | exact (fun z => c_54 z.2.1) | exact (fun z => c_69 z.2.2) | fail)).2).symm⟩
        · refine g_bipush (pc := 34) F dX5_copy_34 (v := (-11 : Int32)) (by decide) ?_
          exact g_iret (pc := 36) F X0 dX5_copy_36 (Nat.le_of_ble_eq_true rfl) (Nat.le_of_ble_eq_true rfl) rfl ⟨congrArg (fun z => some (Value.int z)) (copy_2 hj hq (by first | exact Or.inl c_22 | exact Or.inr c_31 | fail)).1.symm, m, ws, V, (congrArg (fun z => rW s m ig ws hg z V) (copy_2 hj hq (by first | exact Or.inl c_22 | exact Or.inr c_31 | fail)).2).symm⟩
    · refine g_iconst (pc := 14) F dX5_copy_14 (v := (-1 : Int32)) (by decide) ?_
      exact g_iret (pc := 15) F X0 dX5_copy_15 (Nat.le_of_ble_eq_true rfl) (Nat.le_of_ble_eq_true rfl) rfl ⟨congrArg (fun z => some (Value.int z)) (copy_1 (by first | exact (fun z => c_4 z.1) | exact (fun z => c_11 z.2) | fail)).1.symm, m, ws, V, (congrArg (fun z => rW s m ig ws hg z V) (copy_1 (by first | exact (fun z => c_4 z.1) | exact (fun z => c_11 z.2) | fail)).2).symm⟩

