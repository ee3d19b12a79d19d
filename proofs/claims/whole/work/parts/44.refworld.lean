/-! contents of a row count only within it; the reference's world -/
theorem arrV_ext {cA : ClassId} {n : Nat} {f g : Nat → Int32} (h : ∀ j, j < n → f j = g j) : vp_cell cA (n, .inl f) = vp_cell cA (n, .inl g) := by
  show ({ cls := cA, slots := Array.ofFn (n := n) fun j => Value.int (f j.val), vm := .none } : Cell) = { cls := cA, slots := Array.ofFn (n := n) fun j => Value.int (g j.val), vm := .none }
  have e : (fun j : Fin n => Value.int (f j.val)) = fun j : Fin n => Value.int (g j.val) := funext fun j => by rw [h j.val j.isLt]
  rw [e]
theorem g_ext {K : Cx} {k n pc : Nat} {ls : List (Nat × Value)} {st : List Value} {hp : Hp} (q : Nat) {a : Nat} {f : Nat → Int32} (f' : Nat → Int32) (he : hp[q]? = some (.inl (.int, a, .inl f))) (hf : ∀ j, j < a → f j = f' j) (kk : Go K k n pc ls st (hp.set q (.inl (.int, a, .inl f')))) : Go K k n pc ls st hp := by
  obtain ⟨p, l, e, R, s, m, args, below, meth, c, D, cA, A, Q, nL', n0, ad0⟩ := K
  intro hcl h0 ad H locs LS h1 h2 h3 h4 h5
  have hw := wM_get (ad := ad) (cA := cA) he
  have e9 := wM_set (ad := ad) (cA := cA) (hp := hp) q (.inl (.int, a, .inl f'))
  have hcell := h2 q _ hw
  have hcell2 : va_at D vwCl (ad q, eM ad cA (.inl (.int, a, .inl f'))) H := by
    show H[ad q]? = some (vp_cell (cA .int) (a, .inl f'))
    rw [← arrV_ext hf]
    exact hcell
  refine kk ?_ (by rw [List.length_set]; exact h0) ad H locs LS h1 ?_ ?_ h4 h5
  · unfold clAll
    rw [List.length_set]
    exact ⟨hcl.1, hcl.2.1, clH_set trivial hcl.2.2⟩
  · rw [← e9]
    exact va_P.set h2 h3 hw hcell2 (fun _ _ => rfl)
  · rw [← e9]
    exact h3.set hw
set_option maxRecDepth 100000 in
set_option maxHeartbeats 4000000 in
theorem c_copyAll (r s : Nat → Int32) : Ctr yX5_copies cX5_copies 3 none 0 0 0 [.ref 0, .ref 1] (A2 r s) (fun v h => v = none ∧ h = A2 r r) := by
  refine Ctr.of rfl (Nat.le_of_ble_eq_true rfl) ⟨clS_of rfl, clH_of rfl⟩ (fun K F X0 => ?_)
  have L : ∀ i, i ≤ 61 → Go K 0 0 2 [(0, .ref 0), (1, .ref 1), (2, .int (nI i))] [] (A2 r (cpy r s i)) := loop_up (P := fun i => Go K 0 0 2 [(0, .ref 0), (1, .ref 1), (2, .int (nI i))] [] (A2 r (cpy r s i))) (fun i hi ih => by
    refine g_iload_n (pc := 2) F dX5_copies_2 rfl ?_
    refine g_bipush (pc := 3) F dX5_copies_3 (v := nI 61) rfl ?_
    refine g_icN_ge (pc := 5) F dX5_copies_5 (tgt := 20) rfl rfl rfl (by omega) (by omega) (fun c_5 => ?_) (fun c_5 => ?_)
    · obtain rfl : i = 61 := by omega
      refine g_ext 1 r rfl (fun j hj => if_pos hj) ?_
      exact g_vret (pc := 20) F X0 dX5_copies_20 (Nat.le_of_ble_eq_true rfl) (Nat.le_of_ble_eq_true rfl) rfl ⟨rfl, rfl⟩
    · refine g_aload_n (pc := 8) F dX5_copies_8 rfl ?_
      refine g_iload_n (pc := 9) F dX5_copies_9 rfl ?_
      refine g_aload_n (pc := 10) F dX5_copies_10 rfl ?_
      refine g_iload_n (pc := 11) F dX5_copies_11 rfl ?_
      refine g_iald2 (pc := 12) F dX5_copies_12 rfl rfl (by first | omega | (simp only [ix]; omega)) (by decide) ?_
      refine g_iast2 (pc := 13) F dX5_copies_13 rfl rfl (by first | omega | (simp only [ix]; omega)) (by decide) ?_
      refine g_iincN (pc := 14) F dX5_copies_14 rfl (by decide) ?_
      refine g_goto (pc := 17) F dX5_copies_17 (tgt := 2) rfl ?_
      exact (congrArg (fun z => Go K 0 0 2 [(0, .ref 0), (1, .ref 1), (2, .int (nI (i + 1)))] [] (A2 r z)) (cpy_s r s i).symm).mp (ih c_5))
  show Go K 0 0 0 [(0, .ref 0), (1, .ref 1)] [] (A2 r s)
  refine g_iconst (pc := 0) F dX5_copies_0 (v := nI 0) rfl ?_
  refine g_istore_n (pc := 1) F dX5_copies_1 (by decide) ?_
  exact (congrArg (fun z => Go K 0 0 2 [(0, .ref 0), (1, .ref 1), (2, .int (nI 0))] [] (A2 r z)) (cpy_0 r s)).mp (L 0 (Nat.zero_le _))

/-- the reference's shelves: held, kind, figure, sort, size, elements -/
abbrev TX : Type := (Nat → Int32) × (Nat → Int32) × (Nat → Int32) × (Nat → Int32) × (Nat → Int32) × (Nat → Int32)
/-- what the reference notes for itself: numbers, place, rowAt, rowEnd, seed, thrown -/
abbrev VX : Type := (Nat → Int32) × Int32 × Int32 × Int32 × Int32 × Int32
def rW (s m i w : Nat → Int32) (hi : Int32) (T : TX) (V : VX) : Hp :=
  [.inr (3, [.ref 1, .ref 2, .ref 3, .ref 4, .int hi, .int V.2.1, .int V.2.2.1, .int V.2.2.2.1, .ref 5, .int V.2.2.2.2.1, .ref 6, .ref 7, .ref 8, .ref 9, .ref 10, .ref 11, .int V.2.2.2.2.2]),
   .inl (.int, 61, .inl s), .inl (.int, 61, .inl m), .inl (.int, 61, .inl i), .inl (.int, 61, .inl w), .inl (.int, 4, .inl V.1),
   .inl (.int, 8, .inl T.1), .inl (.int, 8, .inl T.2.1), .inl (.int, 8, .inl T.2.2.1), .inl (.int, 8, .inl T.2.2.2.1), .inl (.int, 8, .inl T.2.2.2.2.1), .inl (.int, 800, .inl T.2.2.2.2.2)]
/-- what a look ahead leaves in the reference -/
def LookR (v : Value) (s i w : Nat → Int32) (hi : Int32) (T : TX) : Option Value → Hp → Prop := fun v2 hh => v2 = some v ∧ ∃ m V, hh = rW s m i w hi T V
set_option maxRecDepth 100000 in
set_option maxHeartbeats 4000000 in
theorem m_isOne (s m i w : Nat → Int32) (hi : Int32) (T : TX) (V : VX) (c : Int32) (hI : Iv s) : RCtr yX5_isOne cX5_isOne 2 (some .boolean) 1 [.ref 0, .int c] (rW s m i w hi T V) (.int (bI (decide (nI 0 ≤ c ∧ c ≤ nI (many s) - nI 1)))) := by
  refine Ctr.of rfl (Nat.le_of_ble_eq_true rfl) ⟨clS_of rfl, clH_of rfl⟩ (fun K F X0 => ?_)
  show Go K 0 0 0 [(0, .ref 0), (1, .int c)] [] (rW s m i w hi T V)
  refine g_iload_n (pc := 0) F dX5_isOne_0 rfl ?_
  refine g_iconst (pc := 1) F dX5_isOne_1 (v := nI 0) rfl ?_
  refine g_aload_n (pc := 2) F dX5_isOne_2 rfl ?_
  refine g_getf (pc := 3) F fl_X5_9 dX5_isOne_3 rfl rfl ?_
  refine g_iconst (pc := 6) F dX5_isOne_6 (v := nI 0) rfl ?_
  refine g_iald2 (pc := 7) F dX5_isOne_7 rfl rfl (by first | omega | (simp only [ix]; omega)) (by decide) ?_
  rw [hI.1.1]
  refine g_iconst (pc := 8) F dX5_isOne_8 (v := nI 1) rfl ?_
  refine g_isub (pc := 9) F dX5_isOne_9 ?_
  refine h_readS (pc := 10) F (c_isIn _ _ _) mi_X5_isIn ks_X5_43 dX5_isOne_10 [] rfl (by decide) (by decide) rfl rfl (Nat.le_of_ble_eq_true rfl) trivial (by decide) (by decide) ?_
  exact g_zret (pc := 13) F X0 dX5_isOne_13 (by first | exact bI_nar _ | rfl) (Nat.le_of_ble_eq_true rfl) (Nat.le_of_ble_eq_true rfl) rfl ⟨rfl, rfl⟩

set_option maxRecDepth 100000 in
set_option maxHeartbeats 4000000 in
theorem m_takes (s m i w : Nat → Int32) (hi : Int32) (T : TX) (V : VX) (x : Int32) (n : Nat) (hI : Iv s) (hx : x = nI n) (hn : n < 1000) : Ctr yX5_takes cX5_takes 2 none 6 0 0 [.ref 0, .int x] (rW s m i w hi T V) (fun v h => v = none ∧ h = rW s (tkR s n) i w hi T V) := by
  subst hx
  refine Ctr.of rfl (Nat.le_of_ble_eq_true rfl) ⟨clS_of rfl, clH_of rfl⟩ (fun K F X0 => ?_)
  show Go K 0 0 0 [(0, .ref 0), (1, .int (nI n))] [] (rW s m i w hi T V)
  refine g_aload_n (pc := 0) F dX5_takes_0 rfl ?_
  refine g_getf (pc := 1) F fl_X5_9 dX5_takes_1 rfl rfl ?_
  refine g_aload_n (pc := 4) F dX5_takes_4 rfl ?_
  refine g_getf (pc := 5) F fl_X5_13 dX5_takes_5 rfl rfl ?_
  refine h_callS (pc := 8) F (c_copyAll s m) mi_X5_copies ks_X5_140 dX5_takes_8 [1, 2] rfl (by decide) (by decide) rfl rfl (Nat.le_of_ble_eq_true rfl) (by decide) (by decide) ?_
  rintro _ _ ⟨rfl, rfl⟩ -
  refine g_aload_n (pc := 11) F dX5_takes_11 rfl ?_
  refine g_getf (pc := 12) F fl_X5_13 dX5_takes_12 rfl rfl ?_
  refine g_iconst (pc := 15) F dX5_takes_15 (v := nI 3) rfl ?_
  refine g_iconst (pc := 16) F dX5_takes_16 (v := nI 0) rfl ?_
  refine g_iast2 (pc := 17) F dX5_takes_17 rfl rfl (by first | omega | (simp only [ix]; omega)) (by decide) ?_
  refine g_aload_n (pc := 18) F dX5_takes_18 rfl ?_
  refine g_getf (pc := 19) F fl_X5_13 dX5_takes_19 rfl rfl ?_
  refine g_iload_n (pc := 22) F dX5_takes_22 rfl ?_
  refine h_callS (pc := 23) F (c_daysOn (upd s 3 (nI 0)) _ n (Iv_free hI (Or.inr (Or.inl rfl))) rfl hn) mi_X5_daysOn ks_X5_130 dX5_takes_23 [2] rfl (by decide) (by decide) rfl rfl (Nat.le_of_ble_eq_true rfl) (by decide) (by decide) ?_
  rintro _ _ ⟨rfl, rfl⟩ -
  exact g_vret (pc := 26) F X0 dX5_takes_26 (Nat.le_of_ble_eq_true rfl) (Nat.le_of_ble_eq_true rfl) rfl ⟨rfl, rfl⟩

