/-! the row's functions keep what is always so -/
theorem nI_of_ti {x : Int32} (h : 0 ≤ x.toInt) : x = nI x.toInt.toNat := by
  have e : ((x.toInt.toNat : Nat) : Int) = x.toInt := Int.toNat_of_nonneg h
  have := ti_hi x
  rw [ti_eq, nI_toInt (by omega), e]
theorem mn_nI {a b : Nat} (ha : a < 2 ^ 31) (hb : b < 2 ^ 31) : mn (nI a) (nI b) = nI (min a b) := by
  unfold mn
  by_cases h : a < b
  · rw [if_pos ((nI_ltI ha hb).mpr h), Nat.min_eq_left (Nat.le_of_lt h)]
  · rw [if_neg (fun q => h ((nI_ltI ha hb).mp q)), Nat.min_eq_right (Nat.not_lt.mp h)]
theorem mx_nI {a b : Nat} (ha : a < 2 ^ 31) (hb : b < 2 ^ 31) : mx (nI a) (nI b) = nI (max a b) := by
  unfold mx
  by_cases h : b < a
  · rw [if_pos ((nI_ltI hb ha).mpr h), Nat.max_eq_left (Nat.le_of_lt h)]
  · rw [if_neg (fun q => h ((nI_ltI hb ha).mp q)), Nat.max_eq_right (Nat.not_lt.mp h)]
theorem min_ex {a b : Nat} : ∃ v, v ≤ a ∧ min a b = v := ⟨_, Nat.min_le_left _ _, rfl⟩
/-- how many a corporal counts, as a natural number -/
def cntN (k f u on : Nat) : Nat :=
  if k = 1 then min u (9 + f) else if k = 2 then (u + 1) / 2 else if k = 3 then min u ((10 + f) / 2) else if k = 4 then min u ((9 + f) / 2 + 1)
  else if k = 5 then min u (max 20 ((u + 1) / 2)) else if k = 6 then (if on = 0 then min u ((10 + f) / 2) else 0) else if k = 7 then min u (f + 1) else min u (10 + f)
theorem cntN_le {k f u on : Nat} : cntN k f u on ≤ u := by
  unfold cntN
  repeat' split
  all_goals omega
theorem cnt_nI {k f u : Nat} (on : Int32) (hk : k < 8) (hf : f < 10) (hu : u ≤ 999) : cnt (nI k) (nI f) (nI u) on = nI (cntN k f u (if on - on / nI 2 * nI 2 = 0 then 0 else 1)) := by
  have d2 : ∀ x, x < 2 ^ 31 → nI x / nI 2 = nI (x / 2) := fun x hx => pk_div hx (by decide) (by decide)
  have e1 := nI_eq (a := k) (b := 1) (by omega) (by decide)
  have e2 := nI_eq (a := k) (b := 2) (by omega) (by decide)
  have e3 := nI_eq (a := k) (b := 3) (by omega) (by decide)
  have e4 := nI_eq (a := k) (b := 4) (by omega) (by decide)
  have e5 := nI_eq (a := k) (b := 5) (by omega) (by decide)
  have e6 := nI_eq (a := k) (b := 6) (by omega) (by decide)
  have e7 := nI_eq (a := k) (b := 7) (by omega) (by decide)
  unfold cnt cntN
  simp only [e1, e2, e3, e4, e5, e6, e7, nI_add]
  rw [d2 _ (by omega), d2 _ (by omega), d2 _ (by omega)]
  simp only [nI_add]
  rw [mn_nI (by omega) (by omega), mn_nI (by omega) (by omega), mn_nI (by omega) (by omega), mx_nI (by omega) (by omega), mn_nI (by omega) (by omega), mn_nI (by omega) (by omega), mn_nI (by omega) (by omega)]
  by_cases h : on - on / nI 2 * nI 2 = 0
  · rw [if_pos h, if_pos h]
    repeat' split
    all_goals first | rfl | omega
  · rw [if_neg h, if_neg h]
    repeat' split
    all_goals first | rfl | omega
def bksN (k f c : Nat) : Nat := if k = 2 then (if 0 < c then c + f else 0) else if k = 5 then 2 * c else if k = 6 then (if 0 < c then c - 1 else 0) else c
theorem bksN_le {k f c : Nat} (hf : f < 10) (hc : c ≤ 999) : bksN k f c ≤ 1998 := by
  unfold bksN
  repeat' split
  all_goals omega
theorem nI_gt0 {c : Nat} (hc : c < 2 ^ 31) : (0 : Int32) < nI c ↔ 0 < c := nI_ltI (a := 0) (by decide) hc
theorem bks_nI {k f c : Nat} (hk : k < 8) (hf : f < 10) (hc : c ≤ 999) : bks (nI k) (nI f) (nI c) = nI (bksN k f c) := by
  have h9 := nI_gt0 (c := c) (by omega)
  have e2 := nI_eq (a := k) (b := 2) (by omega) (by decide)
  have e5 := nI_eq (a := k) (b := 5) (by omega) (by decide)
  have e6 := nI_eq (a := k) (b := 6) (by omega) (by decide)
  unfold bks bksN
  simp only [e2, e5, e6, h9, nI_add, pk_mul]
  by_cases h : 0 < c
  · rw [if_pos h, if_pos h, if_pos h, if_pos h, pk_sub h]
    repeat' split
    all_goals rfl
  · rw [if_neg h, if_neg h, if_neg h, if_neg h]
    repeat' split
    all_goals rfl
theorem Iv_wr {r : Nat → Int32} {c : Nat} {v : Int32} (h : Iv r) (hc : c < many r) (h1 : 0 ≤ v.toInt) (h2 : v.toInt ≤ 100000) : Iv (wrR r c v) := by
  obtain ⟨-, -, -, -, ⟨b1, b2⟩, -⟩ := h.2.2.1 c hc
  have e : (r (ix c 4) + v).toInt = (r (ix c 4)).toInt + v.toInt := ti_add (by omega) (by omega)
  have e9 : (nI 9999).toInt = 9999 := ti_n 9999 (by decide)
  refine Iv_book h ?_ ?_
  · rw [ti_mn, e, e9]; split <;> omega
  · rw [ti_mn, e, e9]; split <;> omega
theorem wrR_ne {r : Nat → Int32} {c j : Nat} (v : Int32) (h : j ≠ 25 + 6 * c + 4) : wrR r c v j = r j := upd_ne _ h
theorem many_upd {r : Nat → Int32} {j : Nat} {v : Int32} (h : j ≠ 0) : many (upd r j v) = many r := by
  unfold many
  rw [upd_ne v (fun q => h q.symm)]
theorem workB_ne {r : Nat → Int32} {c d j : Nat} (v : Int32) (h : j ≠ 25 + 6 * c + 4) (h2 : j ≠ 15 + d) : workB r c d v j = r j := by
  unfold workB
  rw [wrR_ne _ h, upd_ne _ h2]
theorem Iv_lf {r : Nat → Int32} {d : Nat} (h : Iv r) (hd : d < 10) : lf r d = nI ((r (5 + d)).toInt - (r (15 + d)).toInt).toNat ∧ ((r (5 + d)).toInt - (r (15 + d)).toInt).toNat ≤ 999 ∧ (lf r d).toInt = (r (5 + d)).toInt - (r (15 + d)).toInt := by
  obtain ⟨a1, a2, a3⟩ := h.2.1 d hd
  have e : (lf r d).toInt = (r (5 + d)).toInt - (r (15 + d)).toInt := by unfold lf; rw [ti_sub (by omega) (by omega)]
  refine ⟨?_, by omega, e⟩
  rw [← e]
  exact nI_of_ti (by omega)
/-- what a corporal counts now: 0 .. what is left -/
theorem cntR_ok {r : Nat → Int32} {c : Nat} (on : Int32) (h : Iv r) (hc : c < many r) : ∃ v, v ≤ 999 ∧ cntR r c on = nI v ∧ (v : Int) ≤ (r (5 + atN r c)).toInt - (r (15 + atN r c)).toInt := by
  obtain ⟨⟨k, hk, ek⟩, ⟨f, hf, ef⟩, ⟨ea, ha⟩, -⟩ := h.2.2.1 c hc
  obtain ⟨e1, e2, e3⟩ := Iv_lf h ha
  obtain ⟨a1, a2, a3⟩ := h.2.1 _ ha
  unfold cntR
  rw [ek, ef, e1, cnt_nI on hk hf e2]
  refine ⟨_, ?_, rfl, ?_⟩
  · exact Nat.le_trans cntN_le e2
  · have := cntN_le (k := k) (f := f) (u := ((r (5 + atN r c)).toInt - (r (15 + atN r c)).toInt).toNat) (on := if on - on / nI 2 * nI 2 = 0 then 0 else 1)
    omega
theorem Iv_workB {r : Nat → Int32} {c : Nat} (on : Int32) (h : Iv r) (hc : c < many r) : Iv (workB r c (atN r c) (cntR r c on)) := by
  obtain ⟨v, h1, h2, h3⟩ := cntR_ok on h hc
  obtain ⟨⟨k, hk, ek⟩, ⟨f, hf, ef⟩, ⟨ea, ha⟩, -⟩ := h.2.2.1 c hc
  obtain ⟨a1, a2, a3⟩ := h.2.1 _ ha
  rw [h2]
  unfold workB
  rw [upd_ne _ (by simp only [ix]; omega : ix c 0 ≠ 15 + atN r c), upd_ne _ (by simp only [ix]; omega : ix c 1 ≠ 15 + atN r c), ek, ef, bks_nI hk hf h1]
  have hb := bksN_le (k := k) hf h1
  have tv : (nI v).toInt = v := ti_n v (by omega)
  have ts : (r (15 + atN r c) + nI v).toInt = (r (15 + atN r c)).toInt + v := by rw [ti_add (by omega) (by omega), tv]
  refine Iv_wr (Iv_done h ha (by omega) (by omega)) (by rw [many_upd (by omega)]; exact hc) ?_ ?_
  · rw [ti_n _ (by omega)]; omega
  · rw [ti_n _ (by omega)]; omega
theorem toR_ok {r : Nat → Int32} {c : Nat} (h : nI 0 ≤ toR r c ∧ toR r c ≤ nI 9) : ∃ a, a < 10 ∧ toR r c = nI a := by
  have h1 := (ti_le _ _).mp h.1
  have h2 := (ti_le _ _).mp h.2
  rw [ti_n _ (by decide)] at h1 h2
  exact ⟨_, by omega, nI_of_ti (by omega)⟩
theorem Iv_goes {r : Nat → Int32} {c : Nat} (h : Iv r) : Iv (goesR r c) := by
  unfold goesR
  split
  · rename_i q
    obtain ⟨a, ha, e⟩ := toR_ok q.1
    rw [e]
    exact Iv_at h ha
  · exact h
theorem Iv_works {r : Nat → Int32} {c : Nat} (h : Iv r) (hc : c < many r) : Iv (worksR r c) := by
  unfold worksR
  split
  · exact h
  · split
    · exact Iv_wr h hc (by decide) (by decide)
    · split
      · exact Iv_goes (Iv_workB _ h hc)
      · exact Iv_workB _ h hc
theorem goesR_ne {r : Nat → Int32} {c j : Nat} (h : j ≠ 25 + 6 * c + 2) : goesR r c j = r j := by
  unfold goesR
  split
  · exact upd_ne _ h
  · rfl
theorem worksR_ne {r : Nat → Int32} {c j : Nat} (hc : c < many r) (hr : Iv r) (h : j < 15 ∨ (25 ≤ j ∧ j ≠ 25 + 6 * c + 2 ∧ j ≠ 25 + 6 * c + 4)) : worksR r c j = r j := by
  have ha := (hr.2.2.1 c hc).2.2.1.2
  unfold worksR
  split
  · rfl
  · split
    · exact wrR_ne _ (by omega)
    · split
      · rw [goesR_ne (by omega), workB_ne _ (by omega) (by omega)]
      · rw [workB_ne _ (by omega) (by omega)]
theorem many_of {r s : Nat → Int32} (h : s 0 = r 0) : many s = many r := by unfold many; rw [h]
theorem allWork_ok {r : Nat → Int32} (h : Iv r) : ∀ i, i ≤ many r → Iv (it (fun c r => worksR r c) i r) ∧ ∀ j, j < 15 → it (fun c r => worksR r c) i r j = r j := by
  intro i
  induction i with
  | zero => exact fun _ => ⟨h, fun _ _ => rfl⟩
  | succ i ih =>
    intro hi
    obtain ⟨g1, g2⟩ := ih (by omega)
    have hm : i < many (it (fun c r => worksR r c) i r) := by rw [many_of (g2 0 (by omega))]; omega
    exact ⟨Iv_works g1 hm, fun j hj => by rw [it_succ, worksR_ne hm g1 (Or.inl hj)]; exact g2 j hj⟩
theorem givesR_ne {r : Nat → Int32} {d to j : Nat} {w : Int32} (hd : d < 10) (ht : to < 10) (h : j < 3 ∨ j = 4 ∨ 25 ≤ j) : givesR r d to w j = r j := by
  unfold givesR gv3 gv2 gv1
  rw [upd_ne _ (by omega), upd_ne _ (by omega), upd_ne _ (by omega), upd_ne _ (by omega)]
theorem blowUp_ok {r : Nat → Int32} {w : Int32} (h : Iv r) (hw : 0 ≤ w.toInt) : ∀ i, i ≤ 9 → Iv (it (fun j r => givesR r (8 - j) (8 - j + 1) w) i r) ∧ ∀ j, (j < 3 ∨ j = 4 ∨ 25 ≤ j) → it (fun j r => givesR r (8 - j) (8 - j + 1) w) i r j = r j := by
  intro i
  induction i with
  | zero => exact fun _ => ⟨h, fun _ _ => rfl⟩
  | succ i ih =>
    intro hi
    obtain ⟨g1, g2⟩ := ih (by omega)
    exact ⟨Iv_gives g1 (by omega) (by omega) (by omega) hw, fun j hj => by rw [it_succ, givesR_ne (by omega) (by omega) hj]; exact g2 j hj⟩
theorem blowDn_ok {r : Nat → Int32} {w : Int32} (h : Iv r) (hw : 0 ≤ (-w).toInt) : ∀ i, i ≤ 9 → Iv (it (fun j r => givesR r (j + 1) j (-w)) i r) ∧ ∀ j, (j < 3 ∨ j = 4 ∨ 25 ≤ j) → it (fun j r => givesR r (j + 1) j (-w)) i r j = r j := by
  intro i
  induction i with
  | zero => exact fun _ => ⟨h, fun _ _ => rfl⟩
  | succ i ih =>
    intro hi
    obtain ⟨g1, g2⟩ := ih (by omega)
    exact ⟨Iv_gives g1 (by omega) (by omega) (by omega) hw, fun j hj => by rw [it_succ, givesR_ne (by omega) (by omega) hj]; exact g2 j hj⟩
theorem neg_ti {w : Int32} (h : -9 ≤ w.toInt) (h2 : w.toInt ≤ 9) : (-w).toInt = -w.toInt := by
  rw [Int32.toInt_neg]
  exact Int.bmod_eq_of_le (by omega) (by omega)
theorem blowR_ok {r : Nat → Int32} {w : Int32} (h : Iv r) (h1 : -9 ≤ w.toInt) (h2 : w.toInt ≤ 9) : Iv (blowR r w) ∧ ∀ j, (j < 3 ∨ j = 4 ∨ 25 ≤ j) → blowR r w j = r j := by
  unfold blowR
  split
  · rename_i q
    have q := (ti_lt _ _).mp q
    exact blowUp_ok h (by simp at q; omega) 9 (by omega)
  · split
    · rename_i q
      have q := (ti_lt _ _).mp q
      exact blowDn_ok h (by rw [neg_ti h1 h2]; simp at q; omega) 9 (by omega)
    · exact ⟨h, fun _ _ => rfl⟩
theorem dayR_ok {r : Nat → Int32} {w : Int32} (h : Iv r) (h1 : -9 ≤ w.toInt) (h2 : w.toInt ≤ 9) : Iv (dayR r w) ∧ dayR r w 0 = r 0 ∧ dayR r w 1 = r 1 + nI 1 ∧ dayR r w 2 = r 2 ∧ dayR r w 4 = r 4 := by
  have hm : many (upd r 1 (r 1 + nI 1)) = many r := many_upd (by decide)
  obtain ⟨g1, g2⟩ := allWork_ok (Iv_free (j := 1) (v := r 1 + nI 1) h (Or.inl rfl)) _ (Nat.le_refl _)
  obtain ⟨k1, k2⟩ := blowR_ok (w := w) g1 h1 h2
  refine ⟨k1, ?_, ?_, ?_, ?_⟩
  · exact (k2 0 (by omega)).trans ((g2 0 (by omega)).trans (upd_ne _ (by decide)))
  · exact (k2 1 (by omega)).trans ((g2 1 (by omega)).trans (upd_at _ _ _))
  · exact (k2 2 (by omega)).trans ((g2 2 (by omega)).trans (upd_ne _ (by decide)))
  · exact (k2 4 (by omega)).trans ((g2 4 (by omega)).trans (upd_ne _ (by decide)))
theorem daysR_ok {r : Nat → Int32} (h : Iv r) : ∀ n, Iv (daysR r n) ∧ daysR r n 0 = r 0 ∧ daysR r n 2 = r 2 ∧ daysR r n 4 = r 4 := by
  intro n
  induction n with
  | zero => exact ⟨h, rfl, rfl, rfl⟩
  | succ n ih =>
    obtain ⟨g1, g2, g3, g4⟩ := ih
    have hw := g1.2.2.2
    obtain ⟨k1, k2, k3, k4, k5⟩ := dayR_ok g1 hw.1 hw.2
    exact ⟨k1, k2.trans g2, k4.trans g3, k5.trans g4⟩
theorem Iv_fill {r : Nat → Int32} {d v : Nat} (h : Iv r) (hd : d < 10) (hv : v ≤ 999) : Iv (fillR r d (nI v)) := by
  have hb := ti_n v (by omega)
  have e0 : (nI 0).toInt = 0 := ti_n 0 (by decide)
  have e : fillR r d (nI v) = upd (upd r (15 + d) (nI 0)) (5 + d) (nI v) := by
    funext i
    unfold fillR
    by_cases q : i = 15 + d
    · rw [q, upd_at, upd_ne _ (by omega), upd_at]
    · rw [upd_ne _ q]
      by_cases q2 : i = 5 + d
      · rw [q2, upd_at, upd_at]
      · rw [upd_ne _ q2, upd_ne _ q2, upd_ne _ q]
  obtain ⟨a1, a2, a3⟩ := h.2.1 d hd
  rw [e]
  refine Iv_grain (Iv_done h hd (by omega) (by omega)) hd ?_ (by omega)
  rw [upd_at]
  omega
theorem flood1_ok {r : Nat → Int32} (h : Iv r) : ∀ i, i ≤ 10 → Iv (it (fun d r => upd r (15 + d) (nI 0)) i r) ∧ ∀ j, (j < 15 ∨ 25 ≤ j) → it (fun d r => upd r (15 + d) (nI 0)) i r j = r j := by
  have e0 : (nI 0).toInt = 0 := ti_n 0 (by decide)
  intro i
  induction i with
  | zero => exact fun _ => ⟨h, fun _ _ => rfl⟩
  | succ i ih =>
    intro hi
    obtain ⟨g1, g2⟩ := ih (by omega)
    obtain ⟨a1, a2, a3⟩ := g1.2.1 i (by omega)
    exact ⟨Iv_done g1 (by omega) (by omega) (by omega), fun j hj => by rw [it_succ, upd_ne _ (by omega)]; exact g2 j hj⟩
theorem flood2_ok {r : Nat → Int32} (h : Iv r) : ∀ i, Iv (it (fun c r => upd r (ix c 4) (nI 0)) i r) ∧ ∀ j, j < 25 → it (fun c r => upd r (ix c 4) (nI 0)) i r j = r j := by
  intro i
  induction i with
  | zero => exact ⟨h, fun _ _ => rfl⟩
  | succ i ih =>
    exact ⟨Iv_book ih.1 (by decide) (by decide), fun j hj => by rw [it_succ, upd_ne _ (by simp only [ix]; omega)]; exact ih.2 j hj⟩
theorem Iv_flood {r : Nat → Int32} (h : Iv r) : Iv (floodR r) := (flood2_ok (flood1_ok h 10 (by omega)).1 _).1
