/-! pairs: taking the least dip that is in reach, from the least dip on, makes the most twos -/
def tB (w o : Nat) : Bool := hasb (nI w) (nI o)
def stB (w o : Nat) : Nat := w ||| 2 ^ o
theorem sb1 : ∀ w, w < 64 → ∀ o, o < 6 → nI w ||| (nI 1 <<< (nI o &&& 31)) = nI (stB w o) ∧ stB w o < 64 := by decide +kernel
theorem sb2 : ∀ w, w < 64 → ∀ o, o < 6 → ∀ q, q < 6 → tB (stB w o) q = (tB w q || decide (q = o)) := by decide +kernel
theorem sb3 (w o q : Nat) : stB (stB w o) q = stB (stB w q) o := by
  unfold stB
  rw [Nat.or_assoc, Nat.or_comm (2 ^ o), ← Nat.or_assoc]
theorem sb4 {w o q : Nat} (hw : w < 64) (ho : o < 6) (hq : q < 6) (h : tB (stB w o) q = false) : tB w q = false ∧ q ≠ o := by
  rw [sb2 w hw o ho q hq] at h
  by_cases e : q = o
  · rw [decide_eq_true e, Bool.or_true] at h
    exact Bool.noConfusion h
  · rw [decide_eq_false e, Bool.or_false] at h
    exact ⟨h, e⟩
theorem sb5 {w o q : Nat} (hw : w < 64) (ho : o < 6) (hq : q < 6) (h : tB w q = false) (h2 : q ≠ o) : tB (stB w o) q = false := by
  rw [sb2 w hw o ho q hq, h, decide_eq_false h2]
  rfl
abbrev dif (a b : Nat) : Prop := a ≤ b + 3 ∧ b ≤ a + 3
/-- o is one of the other way, not taken, in reach of dip d -/
def rc (r : Nat → Int32) (w d o : Nat) : Prop := (o < many r ∧ r (ix o 3) = nI 1) ∧ tB w o = false ∧ dif d (atN r o)
/-- k twos can be made of those in the list, w being taken -/
def Mt (r : Nat → Int32) : List Nat → Nat → Nat → Prop
  | [], _, k => k = 0
  | c :: cs, w, k => Mt r cs w k ∨ ∃ o, (r (ix c 3) = nI 0 ∧ rc r w (atN r c) o) ∧ ∃ j, k = j + 1 ∧ Mt r cs (stB w o) j
def IsMx (r : Nat → Int32) (cs : List Nat) (w v : Nat) : Prop := Mt r cs w v ∧ ∀ k, Mt r cs w k → k ≤ v
theorem IsMx_one {r : Nat → Int32} {cs : List Nat} {w a b : Nat} (h1 : IsMx r cs w a) (h2 : IsMx r cs w b) : a = b := Nat.le_antisymm (h2.2 _ h1.1) (h1.2 _ h2.1)
theorem Mt_0 {r : Nat → Int32} : ∀ (cs : List Nat) (w : Nat), Mt r cs w 0
  | [], _ => rfl
  | _ :: cs, w => Or.inl (Mt_0 cs w)
theorem Mt_len {r : Nat → Int32} : ∀ (cs : List Nat) (w k : Nat), Mt r cs w k → k ≤ cs.length
  | [], _, k, h => Nat.le_of_eq h
  | c :: cs, w, k, h => by
    rw [List.length_cons]
    rcases h with h | ⟨o, -, j, rfl, h⟩
    · have := Mt_len cs w k h
      omega
    · have := Mt_len cs _ j h
      omega
/-- with one more taken it is one less at most -/
theorem Mt_less {r : Nat → Int32} {o : Nat} (h6 : many r ≤ 6) (ho : o < 6) : ∀ (cs : List Nat) (w k : Nat), w < 64 → Mt r cs w (k + 1) → Mt r cs (stB w o) k
  | [], _, _, _, h => absurd h (Nat.succ_ne_zero _)
  | c :: cs, w, k, hw, h => by
    rcases h with h | ⟨q, ⟨hc, ⟨hq1, hq2⟩, hq3, hq4⟩, j, e, h⟩
    · exact Or.inl (Mt_less h6 ho cs w k hw h)
    · obtain rfl : k = j := by omega
      by_cases z : q = o
      · subst z
        exact Or.inl h
      · cases k with
        | zero => exact Mt_0 _ _
        | succ k =>
          refine Or.inr ⟨q, ⟨hc, ⟨hq1, hq2⟩, sb5 hw ho (by omega) hq3 z, hq4⟩, k, rfl, ?_⟩
          rw [sb3]
          exact Mt_less h6 ho cs _ k (sb1 w hw q (by omega)).2 h
/-- whom a serves b serves too: rather take a -/
theorem Mt_dom {r : Nat → Int32} {a b : Nat} (h6 : many r ≤ 6) (ha : a < 6) (hb : b < many r ∧ r (ix b 3) = nI 1) : ∀ (cs : List Nat) (w k : Nat), w < 64 → tB w b = false → a ≠ b → (∀ c, c ∈ cs → dif (atN r c) (atN r a) → dif (atN r c) (atN r b)) → Mt r cs (stB w b) k → Mt r cs (stB w a) k
  | [], _, _, _, _, _, _, h => h
  | c :: cs, w, k, hw, h0, hne, hd, h => by
    have hd2 : ∀ c, c ∈ cs → dif (atN r c) (atN r a) → dif (atN r c) (atN r b) := fun q hq => hd q (List.mem_cons_of_mem _ hq)
    rcases h with h | ⟨q, ⟨hc, ⟨hq1, hq2⟩, hq3, hq4⟩, j, e, h⟩
    · exact Or.inl (Mt_dom h6 ha hb cs w k hw h0 hne hd2 h)
    · obtain ⟨t1, t2⟩ := sb4 hw (by omega) (by omega) hq3
      by_cases z : q = a
      · subst z
        refine Or.inr ⟨b, ⟨hc, hb, sb5 hw (by omega) (by omega) h0 (fun z => hne z.symm), hd c List.mem_cons_self hq4⟩, j, e, ?_⟩
        rw [sb3]
        exact h
      · refine Or.inr ⟨q, ⟨hc, ⟨hq1, hq2⟩, sb5 hw ha (by omega) t1 z, hq4⟩, j, e, ?_⟩
        rw [sb3] at h
        rw [sb3]
        exact Mt_dom h6 ha hb cs _ j (sb1 w hw q (by omega)).2 (sb5 hw (by omega) (by omega) h0 (fun z => t2 z.symm)) hne hd2 h
theorem Mx_none {r : Nat → Int32} {c w v : Nat} {cs : List Nat} (h : IsMx r cs w v) (hn : ¬ r (ix c 3) = nI 0 ∨ ∀ o, ¬ rc r w (atN r c) o) : IsMx r (c :: cs) w v := by
  refine ⟨Or.inl h.1, fun k hk => ?_⟩
  rcases hk with hk | ⟨o, ⟨h1, h2⟩, -⟩
  · exact h.2 k hk
  · exact absurd h2 (hn.elim (fun z => absurd h1 z) (fun z => z o))
theorem Mx_step {r : Nat → Int32} {c w v o : Nat} {cs : List Nat} (h6 : many r ≤ 6) (hw : w < 64) (hc : r (ix c 3) = nI 0) (ho : rc r w (atN r c) o) (hmin : ∀ q, rc r w (atN r c) q → atN r o ≤ atN r q) (hs : ∀ q, q ∈ cs → atN r c ≤ atN r q) (h : IsMx r cs (stB w o) v) : IsMx r (c :: cs) w (v + 1) := by
  have ho6 : o < 6 := by have := ho.1.1; omega
  refine ⟨Or.inr ⟨o, ⟨hc, ho⟩, v, rfl, h.1⟩, fun k hk => ?_⟩
  rcases hk with hk | ⟨q, ⟨-, hq⟩, j, rfl, hk⟩
  · cases k with
    | zero => exact Nat.zero_le _
    | succ k => exact Nat.succ_le_succ (h.2 k (Mt_less h6 ho6 cs w k hw hk))
  · refine Nat.succ_le_succ (h.2 j ?_)
    by_cases z : o = q
    · rw [z]; exact hk
    · refine Mt_dom h6 ho6 hq.1 cs w j hw hq.2.1 z (fun x hx hd => ?_) hk
      have h1 := hs x hx
      have h2 := hmin q hq
      have h3 := ho.2.2
      have h4 := hq.2.2
      exact ⟨by omega, by omega⟩
theorem Mt_perm {r : Nat → Int32} (h6 : many r ≤ 6) {xs ys : List Nat} (hp : List.Perm xs ys) : ∀ w k, w < 64 → Mt r xs w k → Mt r ys w k := by
  induction hp with
  | nil => exact fun _ _ _ h => h
  | cons x _ ih =>
    intro w k hw h
    rcases h with h | ⟨o, ho, j, e, h⟩
    · exact Or.inl (ih w k hw h)
    · exact Or.inr ⟨o, ho, j, e, ih _ j (sb1 w hw o (by have := ho.2.1.1; omega)).2 h⟩
  | swap x y l =>
    intro w k hw h
    rcases h with h | ⟨o, ho, j, e, h⟩
    · rcases h with h | ⟨o, ho, j, e, h⟩
      · exact Or.inl (Or.inl h)
      · exact Or.inr ⟨o, ho, j, e, Or.inl h⟩
    · rcases h with h | ⟨q, ⟨hq, hq1, hq2, hq3⟩, i, e2, h⟩
      · exact Or.inl (Or.inr ⟨o, ho, j, e, h⟩)
      · obtain ⟨hy, ho1, ho2, ho3⟩ := ho
        have o6 : o < 6 := by omega
        have q6 : q < 6 := by omega
        obtain ⟨t1, t2⟩ := sb4 hw o6 q6 hq2
        refine Or.inr ⟨q, ⟨hq, hq1, t1, hq3⟩, j, e, Or.inr ⟨o, ⟨hy, ho1, sb5 hw q6 o6 ho2 (fun z => t2 z.symm), ho3⟩, i, e2, ?_⟩⟩
        rw [sb3]
        exact h
  | trans _ _ ih1 ih2 => exact fun w k hw h => ih2 w k hw (ih1 w k hw h)
theorem Mx_perm {r : Nat → Int32} (h6 : many r ≤ 6) {xs ys : List Nat} (hp : List.Perm xs ys) {w v : Nat} (hw : w < 64) (h : IsMx r xs w v) : IsMx r ys w v := ⟨Mt_perm h6 hp w v hw h.1, fun k hk => h.2 k (Mt_perm h6 hp.symm w k hw hk)⟩
/-- those of the list in dips d .. d + j - 1, dip by dip -/
def dp (r : Nat → Int32) (d : Nat) (xs : List Nat) : List Nat := xs.filter (fun x => decide (atN r x = d))
def bkL (r : Nat → Int32) (xs : List Nat) : Nat → Nat → List Nat
  | 0, _ => []
  | j + 1, d => dp r d xs ++ bkL r xs j (d + 1)
theorem dp_y {r : Nat → Int32} {d x : Nat} {xs : List Nat} (h : atN r x = d) : dp r d (x :: xs) = x :: dp r d xs := List.filter_cons_of_pos (decide_eq_true h)
theorem dp_n {r : Nat → Int32} {d x : Nat} {xs : List Nat} (h : ¬ atN r x = d) : dp r d (x :: xs) = dp r d xs := List.filter_cons_of_neg (by rw [decide_eq_false h]; exact (fun z => Bool.noConfusion z))
theorem bk_cons {r : Nat → Int32} {x : Nat} {xs : List Nat} : ∀ j d, List.Perm (bkL r (x :: xs) j d) (if d ≤ atN r x ∧ atN r x < d + j then x :: bkL r xs j d else bkL r xs j d)
  | 0, d => by
    rw [if_neg (by omega)]
    exact List.Perm.refl _
  | j + 1, d => by
    have ih := bk_cons (r := r) (x := x) (xs := xs) j (d + 1)
    show List.Perm (dp r d (x :: xs) ++ bkL r (x :: xs) j (d + 1)) _
    by_cases q : atN r x = d
    · rw [if_neg (by omega)] at ih
      rw [if_pos (by omega), dp_y q]
      exact List.Perm.cons x (List.Perm.append_left _ ih)
    · rw [dp_n q]
      by_cases q2 : d ≤ atN r x ∧ atN r x < d + (j + 1)
      · rw [if_pos (by omega)] at ih
        rw [if_pos q2]
        exact (List.Perm.append_left _ ih).trans List.perm_middle
      · rw [if_neg (by omega)] at ih
        rw [if_neg q2]
        exact List.Perm.append_left _ ih
theorem bk_nil {r : Nat → Int32} : ∀ j d, bkL r [] j d = []
  | 0, _ => rfl
  | j + 1, d => bk_nil j (d + 1)
theorem bk_perm {r : Nat → Int32} : ∀ xs : List Nat, (∀ x, x ∈ xs → atN r x < 10) → List.Perm (bkL r xs 10 0) xs
  | [], _ => by rw [bk_nil]
  | x :: xs, h => by
    have ih := bk_perm xs (fun y hy => h y (List.mem_cons_of_mem _ hy))
    have h1 := bk_cons (r := r) (x := x) (xs := xs) 10 0
    have h2 := h x List.mem_cons_self
    rw [if_pos (by omega)] at h1
    exact h1.trans (List.Perm.cons x ih)
theorem bk_ge {r : Nat → Int32} {xs : List Nat} {y : Nat} : ∀ j d, y ∈ bkL r xs j d → d ≤ atN r y
  | 0, _, h => absurd h List.not_mem_nil
  | j + 1, d, h => by
    rcases List.mem_append.mp h with h | h
    · have := of_decide_eq_true (List.mem_filter.mp h).2
      omega
    · have := bk_ge j (d + 1) h
      omega
abbrev allL (r : Nat → Int32) : List Nat := List.range' 0 (many r)
theorem all_at {r : Nat → Int32} (hI : Iv r) : ∀ x, x ∈ allL r → atN r x < 10 := fun x hx => by
  have h := (List.mem_range'_1.mp hx).2
  exact (hI.2.2.1 x (by omega)).2.2.1.2
/-- those behind c in dip d, then those in greater dips -/
abbrev rem (r : Nat → Int32) (d c : Nat) : List Nat := dp r d (List.range' c (many r - c)) ++ bkL r (allL r) (9 - d) (d + 1)
theorem rem_in {r : Nat → Int32} {d : Nat} (h : d < 10) : bkL r (allL r) (10 - d) d = rem r d 0 := by
  have e : 10 - d = (9 - d) + 1 := by omega
  rw [e]
  rfl
theorem rem_end {r : Nat → Int32} {d : Nat} (h : d < 10) : rem r d (many r) = bkL r (allL r) (10 - (d + 1)) (d + 1) := by
  have e : 10 - (d + 1) = 9 - d := by omega
  show dp r d (List.range' (many r) (many r - many r)) ++ _ = _
  rw [Nat.sub_self, e]
  rfl
theorem rem_y {r : Nat → Int32} {d c : Nat} (hc : c < many r) (h : atN r c = d) : rem r d c = c :: rem r d (c + 1) := by
  have e : many r - c = (many r - (c + 1)) + 1 := by omega
  show dp r d (List.range' c (many r - c)) ++ _ = _
  rw [e]
  show dp r d (c :: List.range' (c + 1) (many r - (c + 1))) ++ _ = _
  rw [dp_y h]
  rfl
theorem rem_n {r : Nat → Int32} {d c : Nat} (hc : c < many r) (h : ¬ atN r c = d) : rem r d c = rem r d (c + 1) := by
  have e : many r - c = (many r - (c + 1)) + 1 := by omega
  show dp r d (List.range' c (many r - c)) ++ _ = _
  rw [e]
  show dp r d (c :: List.range' (c + 1) (many r - (c + 1))) ++ _ = _
  rw [dp_n h]
theorem rem_ge {r : Nat → Int32} {d c y : Nat} (h : y ∈ rem r d c) : d ≤ atN r y := by
  rcases List.mem_append.mp h with h | h
  · have := of_decide_eq_true (List.mem_filter.mp h).2
    omega
  · have := bk_ge _ _ h
    omega
/-- whatever is still to come, with what there is it makes the most -/
def OB (r : Nat → Int32) (cs : List Nat) (p w : Nat) : Prop := ∀ v, IsMx r cs w v → IsMx r (allL r) 0 (p + v)
theorem OB_start {r : Nat → Int32} (hI : Iv r) : OB r (bkL r (allL r) 10 0) 0 0 := fun v hv => by
  rw [Nat.zero_add]
  exact Mx_perm hI.1.2 (bk_perm _ (all_at hI)) (by decide) hv
theorem OB_end {r : Nat → Int32} {p w : Nat} (h : OB r [] p w) : IsMx r (allL r) 0 p := h 0 ⟨rfl, fun k hk => Nat.le_of_eq hk⟩
theorem OB_none {r : Nat → Int32} {c p w : Nat} {cs : List Nat} (h : OB r (c :: cs) p w) (hn : ¬ r (ix c 3) = nI 0 ∨ ∀ o, ¬ rc r w (atN r c) o) : OB r cs p w := fun v hv => h v (Mx_none hv hn)
theorem OB_step {r : Nat → Int32} {c p w o : Nat} {cs : List Nat} (h : OB r (c :: cs) p w) (h6 : many r ≤ 6) (hw : w < 64) (hc : r (ix c 3) = nI 0) (ho : rc r w (atN r c) o) (hmin : ∀ q, rc r w (atN r c) q → atN r o ≤ atN r q) (hs : ∀ q, q ∈ cs → atN r c ≤ atN r q) : OB r cs (p + 1) (stB w o) := fun v hv => by
  have := h (v + 1) (Mx_step h6 hw hc ho hmin hs hv)
  rwa [show p + (v + 1) = p + 1 + v by omega] at this
/-- what leastInReach finds -/
def LR (r : Nat → Int32) (w d : Nat) (x : Int32) : Prop := (∃ o, x = nI o ∧ rc r w d o ∧ ∀ q, rc r w d q → atN r o ≤ atN r q) ∨ (x = (-4) ∧ ∀ q, ¬ rc r w d q)
def LI (r : Nat → Int32) (w d i : Nat) (x y : Int32) : Prop := (∃ o, o < i ∧ x = nI o ∧ y = nI (atN r o) ∧ rc r w d o ∧ ∀ q, q < i → rc r w d q → atN r o ≤ atN r q) ∨ (x = (-4) ∧ y = nI 10 ∧ ∀ q, q < i → ¬ rc r w d q)
theorem LI_end {r : Nat → Int32} {w d : Nat} {x y : Int32} (h : LI r w d (many r) x y) : LR r w d x := by
  rcases h with ⟨o, h1, h2, h3, h4, h5⟩ | ⟨h1, h2, h3⟩
  · exact Or.inl ⟨o, h2, h4, fun q hq => h5 q hq.1.1 hq⟩
  · exact Or.inr ⟨h1, fun q hq => h3 q hq.1.1 hq⟩
theorem LI_skip {r : Nat → Int32} {w d i : Nat} {x y : Int32} (h : LI r w d i x y) (hn : ¬ rc r w d i) : LI r w d (i + 1) x y := by
  rcases h with ⟨o, h1, h2, h3, h4, h5⟩ | ⟨h1, h2, h3⟩
  · exact Or.inl ⟨o, by omega, h2, h3, h4, fun q hq hr => (Nat.lt_succ_iff_lt_or_eq.mp hq).elim (fun z => h5 q z hr) (fun z => absurd (z ▸ hr) hn)⟩
  · exact Or.inr ⟨h1, h2, fun q hq hr => (Nat.lt_succ_iff_lt_or_eq.mp hq).elim (fun z => h3 q z hr) (fun z => absurd (z ▸ hr) hn)⟩
theorem LI_no {r : Nat → Int32} {w d i : Nat} {x y : Int32} (hI : Iv r) (hi : i < many r) (h : LI r w d i x y) (hn : y ≤ nI (atN r i)) : LI r w d (i + 1) x y := by
  have ha := (hI.2.2.1 i hi).2.2.1.2
  rcases h with ⟨o, h1, h2, h3, h4, h5⟩ | ⟨h1, h2, h3⟩
  · refine Or.inl ⟨o, by omega, h2, h3, h4, fun q hq hr => (Nat.lt_succ_iff_lt_or_eq.mp hq).elim (fun z => h5 q z hr) (fun z => ?_)⟩
    rw [z]
    rw [h3] at hn
    exact (nI_leI (by have := (hI.2.2.1 o (by omega)).2.2.1.2; omega) (by omega)).mp hn
  · rw [h2] at hn
    have := (nI_leI (by decide) (by omega)).mp hn
    omega
theorem LI_yes {r : Nat → Int32} {w d i : Nat} {x y : Int32} (hI : Iv r) (hi : i < many r) (h : LI r w d i x y) (hr : rc r w d i) (hn : ¬ y ≤ nI (atN r i)) : LI r w d (i + 1) (nI i) (nI (atN r i)) := by
  have ha := (hI.2.2.1 i hi).2.2.1.2
  refine Or.inl ⟨i, by omega, rfl, rfl, hr, fun q hq hq2 => (Nat.lt_succ_iff_lt_or_eq.mp hq).elim (fun z => ?_) (fun z => by rw [z]; exact Nat.le_refl _)⟩
  rcases h with ⟨o, h1, h2, h3, h4, h5⟩ | ⟨h1, h2, h3⟩
  · have h6 := h5 q z hq2
    rw [h3] at hn
    have h7 : ¬ atN r o ≤ atN r i := fun z => hn ((nI_leI (by have := (hI.2.2.1 o (by omega)).2.2.1.2; omega) (by omega)).mpr z)
    omega
  · exact absurd hq2 (h3 q z)
theorem dif_cls : ∀ a, a < 10 → ∀ d, d < 10 → (nI 3 < (if 0 ≤ nI a - nI d then nI a - nI d else 0 - (nI a - nI d)) ↔ ¬ dif d a) := by decide +kernel
theorem dif_ref : ∀ a, a < 10 → ∀ c, c < 10 → (((-3) ≤ nI a - nI c ∧ nI a - nI c ≤ nI 3) ↔ dif a c) := by decide +kernel
theorem nI_nneg {o : Nat} (h : o < 2 ^ 31) : ¬ nI o < 0 := Int32.not_lt.mpr ((nI_leI (a := 0) (by decide) h).mpr (Nat.zero_le _))
set_option maxRecDepth 100000 in
set_option maxHeartbeats 800000 in
theorem c_reach (b : Int32) (X Y Z : DX) (im : Int32) (S : Nat → SX) (g h : Nat → Int32) (r : Nat → Int32) (hR : Rel b X r) (hI : Iv r) (h4 : r 4 = nI 0) (d w : Nat) (hd : d < 10) (hw : w < 64) : Ctr yX4_leastInReach cX4_leastInReach 7 (some .int) 2 0 0 [.ref 0, .int (nI d), .int (nI w)] (mW X Y Z im S g h) (fun v hh => (∃ x, v = some (.int x) ∧ LR r w d x) ∧ hh = mW X Y Z im S g h) := by
  have hm6 := hI.1.2
  refine Ctr.of rfl (Nat.le_of_ble_eq_true rfl) ⟨clS_of rfl, mW_cl _ _ _ _ _ _ _⟩ (fun K F X0 => ?_)
  show Go K 0 0 0 [(0, .ref 0), (1, .int (nI d)), (2, .int (nI w))] [] (mW X Y Z im S g h)
  refine g_bipush (pc := 0) F dX4_leastInReach_0 (v := (-4 : Int32)) (by decide) ?_
  refine g_istore_n (pc := 2) F dX4_leastInReach_2 (by decide) ?_
  refine g_bipush (pc := 3) F dX4_leastInReach_3 (v := nI 10) rfl ?_
  refine g_istore (pc := 5) F dX4_leastInReach_5 (by decide) ?_
  refine g_iconst (pc := 7) F dX4_leastInReach_7 (v := nI 0) rfl ?_
  refine g_istore (pc := 8) F dX4_leastInReach_8 (by decide) ?_
  have L : ∀ i, i ≤ many r → ∀ x y, LI r w d i x y → Go K 0 0 10 [(0, .ref 0), (1, .int (nI d)), (2, .int (nI w)), (3, .int x), (4, .int y), (5, .int (nI i))] [] (mW X Y Z im S g h) := loop_up (P := fun i => ∀ x y, LI r w d i x y → Go K 0 0 10 [(0, .ref 0), (1, .int (nI d)), (2, .int (nI w)), (3, .int x), (4, .int y), (5, .int (nI i))] [] (mW X Y Z im S g h)) (fun i hi ih => by
    intro x y hl
    refine g_iload (pc := 10) F dX4_leastInReach_10 rfl ?_
    refine g_aload_n (pc := 12) F dX4_leastInReach_12 rfl ?_
    refine g_getf (pc := 13) F fl_X4_12 dX4_leastInReach_13 rfl rfl ?_
    refine g_getf (pc := 16) F fl_X4_148 dX4_leastInReach_16 rfl rfl ?_
    refine g_icN_ge (pc := 19) F dX4_leastInReach_19 (tgt := 112) rfl rfl (hR.1.1.trans hI.1.1) (by omega) (by omega) (fun c_19 => ?_) (fun c_19 => ?_)
    · obtain rfl : i = many r := by omega
      refine g_iload_n (pc := 112) F dX4_leastInReach_112 rfl ?_
      exact g_iret (pc := 113) F X0 dX4_leastInReach_113 (Nat.le_of_ble_eq_true rfl) (Nat.le_of_ble_eq_true rfl) rfl ⟨⟨_, rfl, LI_end hl⟩, rfl⟩
    · have hY3 : dY X i = r (ix i 3) := (hR.2.2.2 i c_19).2.2.2.1
      have eA : dA X i = nI (atN r i) := (hR.2.2.2 i c_19).2.2.1.trans (hI.2.2.1 i c_19).2.2.1.1
      have ha10 := (hI.2.2.1 i c_19).2.2.1.2
      have hi6 : i < 6 := by have := hI.1.2; omega
      refine g_aload_n (pc := 22) F dX4_leastInReach_22 rfl ?_
      refine g_getf (pc := 23) F fl_X4_12 dX4_leastInReach_23 rfl rfl ?_
      refine g_getf (pc := 26) F fl_X4_91 dX4_leastInReach_26 rfl rfl ?_
      refine g_iload (pc := 29) F dX4_leastInReach_29 rfl ?_
      refine g_iald2 (pc := 31) F dX4_leastInReach_31 rfl rfl (by omega) (by decide) ?_
      refine g_iconst (pc := 32) F dX4_leastInReach_32 (v := nI 1) rfl ?_
      refine g_ic_ne (pc := 33) F dX4_leastInReach_33 (tgt := 49) rfl (fun c_33 => ?_) (fun c_33 => ?_)
      · refine g_iconst (pc := 49) F dX4_leastInReach_49 (v := nI 0) rfl ?_
        refine g_istore (pc := 50) F dX4_leastInReach_50 (by decide) ?_
        refine g_iload (pc := 52) F dX4_leastInReach_52 rfl ?_
        refine g_if_eq (pc := 54) F dX4_leastInReach_54 (tgt := 106) rfl (fun c_54 => ?_) (fun c_54 => absurd (by decide) c_54)
        refine g_iincN (pc := 106) F dX4_leastInReach_106 rfl (by decide) ?_
        refine g_goto (pc := 109) F dX4_leastInReach_109 (tgt := 10) rfl ?_
        refine g_less [0, 1, 2, 3, 4, 5] rfl ?_
        first
          | exact ih c_19 _ _ (LI_skip hl (fun z => c_33 (hY3.trans z.1.2)))
          | exact ih c_19 _ _ (LI_skip hl (fun z => Bool.noConfusion (c_42.symm.trans z.2.1)))
          | exact ih c_19 _ _ (LI_skip hl (fun z => (dif_cls _ ha10 d hd).mp c_73 z.2.2))
          | exact ih c_19 _ _ (LI_no hI c_19 hl c_88)
          | exact ih c_19 _ _ (LI_yes hI c_19 hl ⟨⟨c_19, hY3.symm.trans c_33⟩, c_42, Decidable.not_not.mp (fun z => c_73 ((dif_cls _ ha10 d hd).mpr z))⟩ c_88)
          | fail
      · refine g_iload_n (pc := 36) F dX4_leastInReach_36 rfl ?_
        refine g_iload (pc := 37) F dX4_leastInReach_37 rfl ?_
        refine h_readS (pc := 39) F (c_hasBit _ _) mi_X4_hasBit ks_X4_100 dX4_leastInReach_39 [] rfl (by decide) (by decide) rfl rfl (Nat.le_of_ble_eq_true rfl) trivial (by decide) (by decide) ?_
        refine g_ifne_b (pc := 42) F dX4_leastInReach_42 (tgt := 49) rfl (fun c_42 => ?_) (fun c_42 => ?_)
        · refine g_iconst (pc := 49) F dX4_leastInReach_49 (v := nI 0) rfl ?_
          refine g_istore (pc := 50) F dX4_leastInReach_50 (by decide) ?_
          refine g_iload (pc := 52) F dX4_leastInReach_52 rfl ?_
          refine g_if_eq (pc := 54) F dX4_leastInReach_54 (tgt := 106) rfl (fun c_54 => ?_) (fun c_54 => absurd (by decide) c_54)
          refine g_iincN (pc := 106) F dX4_leastInReach_106 rfl (by decide) ?_
          refine g_goto (pc := 109) F dX4_leastInReach_109 (tgt := 10) rfl ?_
          refine g_less [0, 1, 2, 3, 4, 5] rfl ?_
          first
            | exact ih c_19 _ _ (LI_skip hl (fun z => c_33 (hY3.trans z.1.2)))
            | exact ih c_19 _ _ (LI_skip hl (fun z => Bool.noConfusion (c_42.symm.trans z.2.1)))
            | exact ih c_19 _ _ (LI_skip hl (fun z => (dif_cls _ ha10 d hd).mp c_73 z.2.2))
            | exact ih c_19 _ _ (LI_no hI c_19 hl c_88)
            | exact ih c_19 _ _ (LI_yes hI c_19 hl ⟨⟨c_19, hY3.symm.trans c_33⟩, c_42, Decidable.not_not.mp (fun z => c_73 ((dif_cls _ ha10 d hd).mpr z))⟩ c_88)
            | fail
        · refine g_iconst (pc := 45) F dX4_leastInReach_45 (v := nI 1) rfl ?_
          refine g_goto (pc := 46) F dX4_leastInReach_46 (tgt := 50) rfl ?_
          refine g_istore (pc := 50) F dX4_leastInReach_50 (by decide) ?_
          refine g_iload (pc := 52) F dX4_leastInReach_52 rfl ?_
          refine g_if_eq (pc := 54) F dX4_leastInReach_54 (tgt := 106) rfl (fun c_54 => absurd c_54 (by decide)) (fun c_54 => ?_)
          refine g_aload_n (pc := 57) F dX4_leastInReach_57 rfl ?_
          refine g_getf (pc := 58) F fl_X4_12 dX4_leastInReach_58 rfl rfl ?_
          refine g_getf (pc := 61) F fl_X4_88 dX4_leastInReach_61 rfl rfl ?_
          refine g_iload (pc := 64) F dX4_leastInReach_64 rfl ?_
          refine g_iald2 (pc := 66) F dX4_leastInReach_66 rfl rfl (by omega) (by decide) ?_
          rw [eA]
          refine g_iload_n (pc := 67) F dX4_leastInReach_67 rfl ?_
          refine g_isub (pc := 68) F dX4_leastInReach_68 ?_
          refine g_mabs (pc := 69) F dX4_leastInReach_69 km_X4_185 (by decide) (Nat.le_of_ble_eq_true rfl) (by decide) (by decide) ?_
          refine g_iconst (pc := 72) F dX4_leastInReach_72 (v := nI 3) rfl ?_
          refine g_ic_gt (pc := 73) F dX4_leastInReach_73 (tgt := 106) rfl (fun c_73 => ?_) (fun c_73 => ?_)
          · refine g_iincN (pc := 106) F dX4_leastInReach_106 rfl (by decide) ?_
            refine g_goto (pc := 109) F dX4_leastInReach_109 (tgt := 10) rfl ?_
            refine g_less [0, 1, 2, 3, 4, 5] rfl ?_
            first
              | exact ih c_19 _ _ (LI_skip hl (fun z => c_33 (hY3.trans z.1.2)))
              | exact ih c_19 _ _ (LI_skip hl (fun z => Bool.noConfusion (c_42.symm.trans z.2.1)))
              | exact ih c_19 _ _ (LI_skip hl (fun z => (dif_cls _ ha10 d hd).mp c_73 z.2.2))
              | exact ih c_19 _ _ (LI_no hI c_19 hl c_88)
              | exact ih c_19 _ _ (LI_yes hI c_19 hl ⟨⟨c_19, hY3.symm.trans c_33⟩, c_42, Decidable.not_not.mp (fun z => c_73 ((dif_cls _ ha10 d hd).mpr z))⟩ c_88)
              | fail
          · refine g_aload_n (pc := 76) F dX4_leastInReach_76 rfl ?_
            refine g_getf (pc := 77) F fl_X4_12 dX4_leastInReach_77 rfl rfl ?_
            refine g_getf (pc := 80) F fl_X4_88 dX4_leastInReach_80 rfl rfl ?_
            refine g_iload (pc := 83) F dX4_leastInReach_83 rfl ?_
            refine g_iald2 (pc := 85) F dX4_leastInReach_85 rfl rfl (by omega) (by decide) ?_
            rw [eA]
            refine g_iload (pc := 86) F dX4_leastInReach_86 rfl ?_
            refine g_ic_ge (pc := 88) F dX4_leastInReach_88 (tgt := 106) rfl (fun c_88 => ?_) (fun c_88 => ?_)
            · refine g_iincN (pc := 106) F dX4_leastInReach_106 rfl (by decide) ?_
              refine g_goto (pc := 109) F dX4_leastInReach_109 (tgt := 10) rfl ?_
              refine g_less [0, 1, 2, 3, 4, 5] rfl ?_
              first
                | exact ih c_19 _ _ (LI_skip hl (fun z => c_33 (hY3.trans z.1.2)))
                | exact ih c_19 _ _ (LI_skip hl (fun z => Bool.noConfusion (c_42.symm.trans z.2.1)))
                | exact ih c_19 _ _ (LI_skip hl (fun z => (dif_cls _ ha10 d hd).mp c_73 z.2.2))
                | exact ih c_19 _ _ (LI_no hI c_19 hl c_88)
                | exact ih c_19 _ _ (LI_yes hI c_19 hl ⟨⟨c_19, hY3.symm.trans c_33⟩, c_42, Decidable.not_not.mp (fun z => c_73 ((dif_cls _ ha10 d hd).mpr z))⟩ c_88)
                | fail
            · refine g_aload_n (pc := 91) F dX4_leastInReach_91 rfl ?_
              refine g_getf (pc := 92) F fl_X4_12 dX4_leastInReach_92 rfl rfl ?_
              refine g_getf (pc := 95) F fl_X4_88 dX4_leastInReach_95 rfl rfl ?_
              refine g_iload (pc := 98) F dX4_leastInReach_98 rfl ?_
              refine g_iald2 (pc := 100) F dX4_leastInReach_100 rfl rfl (by omega) (by decide) ?_
              rw [eA]
              refine g_istore (pc := 101) F dX4_leastInReach_101 (by decide) ?_
              refine g_iload (pc := 103) F dX4_leastInReach_103 rfl ?_
              refine g_istore_n (pc := 105) F dX4_leastInReach_105 (by decide) ?_
              refine g_iincN (pc := 106) F dX4_leastInReach_106 rfl (by decide) ?_
              refine g_goto (pc := 109) F dX4_leastInReach_109 (tgt := 10) rfl ?_
              refine g_less [0, 1, 2, 3, 4, 5] rfl ?_
              first
                | exact ih c_19 _ _ (LI_skip hl (fun z => c_33 (hY3.trans z.1.2)))
                | exact ih c_19 _ _ (LI_skip hl (fun z => Bool.noConfusion (c_42.symm.trans z.2.1)))
                | exact ih c_19 _ _ (LI_skip hl (fun z => (dif_cls _ ha10 d hd).mp c_73 z.2.2))
                | exact ih c_19 _ _ (LI_no hI c_19 hl c_88)
                | exact ih c_19 _ _ (LI_yes hI c_19 hl ⟨⟨c_19, hY3.symm.trans c_33⟩, c_42, Decidable.not_not.mp (fun z => c_73 ((dif_cls _ ha10 d hd).mpr z))⟩ c_88)
                | fail)
  exact L 0 (Nat.zero_le _) _ _ (Or.inr ⟨rfl, rfl, fun q hq => absurd hq (Nat.not_lt_zero q)⟩)

set_option maxRecDepth 100000 in
set_option maxHeartbeats 800000 in
theorem c_pairs (b : Int32) (X Y Z : DX) (im : Int32) (S : Nat → SX) (g h : Nat → Int32) (r : Nat → Int32) (hR : Rel b X r) (hI : Iv r) (h4 : r 4 = nI 0) : Ctr yX4_pairs cX4_pairs 6 (some .int) 7 0 0 [.ref 0] (mW X Y Z im S g h) (fun v hh => ∃ q, v = some (.int (nI q)) ∧ IsMx r (allL r) 0 q ∧ ∃ Y g h, hh = mW X Y Z im S g h) := by
  have hm6 := hI.1.2
  refine Ctr.of rfl (Nat.le_of_ble_eq_true rfl) ⟨clS_of rfl, mW_cl _ _ _ _ _ _ _⟩ (fun K F X0 => ?_)
  show Go K 0 0 0 [(0, .ref 0)] [] (mW X Y Z im S g h)
  refine g_iconst (pc := 0) F dX4_pairs_0 (v := nI 0) rfl ?_
  refine g_istore_n (pc := 1) F dX4_pairs_1 (by decide) ?_
  refine g_iconst (pc := 2) F dX4_pairs_2 (v := nI 0) rfl ?_
  refine g_istore_n (pc := 3) F dX4_pairs_3 (by decide) ?_
  refine g_iconst (pc := 4) F dX4_pairs_4 (v := nI 0) rfl ?_
  refine g_istore_n (pc := 5) F dX4_pairs_5 (by decide) ?_
  have L : ∀ d, d ≤ 10 → ∀ p w, w < 64 → OB r (bkL r (allL r) (10 - d) d) p w → Go K 0 0 6 [(0, .ref 0), (1, .int (nI p)), (2, .int (nI w)), (3, .int (nI d))] [] (mW X Y Z im S g h) := loop_up (P := fun d => ∀ p w, w < 64 → OB r (bkL r (allL r) (10 - d) d) p w → Go K 0 0 6 [(0, .ref 0), (1, .int (nI p)), (2, .int (nI w)), (3, .int (nI d))] [] (mW X Y Z im S g h)) (fun d hiL ih => by
    intro p w hw ho
    refine g_iload_n (pc := 6) F dX4_pairs_6 rfl ?_
    refine g_bipush (pc := 7) F dX4_pairs_7 (v := nI 10) rfl ?_
    refine g_icN_ge (pc := 9) F dX4_pairs_9 (tgt := 94) rfl rfl rfl (by omega) (by omega) (fun c_9 => ?_) (fun c_9 => ?_)
    · obtain rfl : d = 10 := by omega
      refine g_iload_n (pc := 94) F dX4_pairs_94 rfl ?_
      exact g_iret (pc := 95) F X0 dX4_pairs_95 (Nat.le_of_ble_eq_true rfl) (Nat.le_of_ble_eq_true rfl) rfl ⟨p, rfl, OB_end ho, Y, g, h, rfl⟩
    · have hd : d < 10 := c_9
      refine g_iconst (pc := 12) F dX4_pairs_12 (v := nI 0) rfl ?_
      refine g_istore (pc := 13) F dX4_pairs_13 (by decide) ?_
      have L2 : ∀ c, c ≤ many r → ∀ p w, w < 64 → OB r (rem r d c) p w → Go K 0 0 15 [(0, .ref 0), (1, .int (nI p)), (2, .int (nI w)), (3, .int (nI d)), (4, .int (nI c))] [] (mW X Y Z im S g h) := loop_up (P := fun c => ∀ p w, w < 64 → OB r (rem r d c) p w → Go K 0 0 15 [(0, .ref 0), (1, .int (nI p)), (2, .int (nI w)), (3, .int (nI d)), (4, .int (nI c))] [] (mW X Y Z im S g h)) (fun c hiL2 ih2 => by
        intro p w hw ho
        refine g_iload (pc := 15) F dX4_pairs_15 rfl ?_
        refine g_aload_n (pc := 17) F dX4_pairs_17 rfl ?_
        refine g_getf (pc := 18) F fl_X4_12 dX4_pairs_18 rfl rfl ?_
        refine g_getf (pc := 21) F fl_X4_148 dX4_pairs_21 rfl rfl ?_
        refine g_icN_ge (pc := 24) F dX4_pairs_24 (tgt := 88) rfl rfl (hR.1.1.trans hI.1.1) (by omega) (by omega) (fun c_24 => ?_) (fun c_24 => ?_)
        · obtain rfl : c = many r := by omega
          refine g_iincN (pc := 88) F dX4_pairs_88 rfl (by decide) ?_
          refine g_goto (pc := 91) F dX4_pairs_91 (tgt := 6) rfl ?_
          refine g_less [0, 1, 2, 3] rfl ?_
          exact ih hd p w hw (by rw [rem_end hd] at ho; exact ho)
        · have hY3 : dY X c = r (ix c 3) := (hR.2.2.2 c c_24).2.2.2.1
          have eA : dA X c = nI (atN r c) := (hR.2.2.2 c c_24).2.2.1.trans (hI.2.2.1 c c_24).2.2.1.1
          have ha10 := (hI.2.2.1 c c_24).2.2.1.2
          have hc6 : c < 6 := by have := hI.1.2; omega
          refine g_aload_n (pc := 27) F dX4_pairs_27 rfl ?_
          refine g_getf (pc := 28) F fl_X4_12 dX4_pairs_28 rfl rfl ?_
          refine g_getf (pc := 31) F fl_X4_91 dX4_pairs_31 rfl rfl ?_
          refine g_iload (pc := 34) F dX4_pairs_34 rfl ?_
          refine g_iald2 (pc := 36) F dX4_pairs_36 rfl rfl (by omega) (by decide) ?_
          refine g_if_ne (pc := 37) F dX4_pairs_37 (tgt := 63) rfl (fun c_37 => ?_) (fun c_37 => ?_)
          · refine g_bipush (pc := 63) F dX4_pairs_63 (v := (-4 : Int32)) (by decide) ?_
            refine g_istore (pc := 65) F dX4_pairs_65 (by decide) ?_
            refine g_iload (pc := 67) F dX4_pairs_67 rfl ?_
            refine g_if_lt (pc := 69) F dX4_pairs_69 (tgt := 82) rfl (fun c_69 => ?_) (fun c_69 => absurd (by decide) c_69)
            refine g_iincN (pc := 82) F dX4_pairs_82 rfl (by decide) ?_
            refine g_goto (pc := 85) F dX4_pairs_85 (tgt := 15) rfl ?_
            refine g_less [0, 1, 2, 3, 4] rfl ?_
            first
              | (by_cases q : atN r c = d
                 · exact ih2 c_24 p w hw (OB_none (by rw [rem_y c_24 q] at ho; exact ho) (Or.inl (fun z => c_37 (hY3.trans z))))
                 · exact ih2 c_24 p w hw (by rw [rem_n c_24 q] at ho; exact ho))
              | exact ih2 c_24 p w hw (by rw [rem_n c_24 c_51] at ho; exact ho)
              | fail
          · refine g_aload_n (pc := 40) F dX4_pairs_40 rfl ?_
            refine g_getf (pc := 41) F fl_X4_12 dX4_pairs_41 rfl rfl ?_
            refine g_getf (pc := 44) F fl_X4_88 dX4_pairs_44 rfl rfl ?_
            refine g_iload (pc := 47) F dX4_pairs_47 rfl ?_
            refine g_iald2 (pc := 49) F dX4_pairs_49 rfl rfl (by omega) (by decide) ?_
            rw [eA]
            refine g_iload_n (pc := 50) F dX4_pairs_50 rfl ?_
            refine g_icN_ne (pc := 51) F dX4_pairs_51 (tgt := 63) rfl rfl rfl (by omega) (by omega) (fun c_51 => ?_) (fun c_51 => ?_)
            · refine g_bipush (pc := 63) F dX4_pairs_63 (v := (-4 : Int32)) (by decide) ?_
              refine g_istore (pc := 65) F dX4_pairs_65 (by decide) ?_
              refine g_iload (pc := 67) F dX4_pairs_67 rfl ?_
              refine g_if_lt (pc := 69) F dX4_pairs_69 (tgt := 82) rfl (fun c_69 => ?_) (fun c_69 => absurd (by decide) c_69)
              refine g_iincN (pc := 82) F dX4_pairs_82 rfl (by decide) ?_
              refine g_goto (pc := 85) F dX4_pairs_85 (tgt := 15) rfl ?_
              refine g_less [0, 1, 2, 3, 4] rfl ?_
              first
                | (by_cases q : atN r c = d
                   · exact ih2 c_24 p w hw (OB_none (by rw [rem_y c_24 q] at ho; exact ho) (Or.inl (fun z => c_37 (hY3.trans z))))
                   · exact ih2 c_24 p w hw (by rw [rem_n c_24 q] at ho; exact ho))
                | exact ih2 c_24 p w hw (by rw [rem_n c_24 c_51] at ho; exact ho)
                | fail
            · refine g_aload_n (pc := 54) F dX4_pairs_54 rfl ?_
              refine g_iload_n (pc := 55) F dX4_pairs_55 rfl ?_
              refine g_iload_n (pc := 56) F dX4_pairs_56 rfl ?_
              refine i_callV (pc := 57) F (c_reach b X Y Z im S g h r hR hI h4 d w (by omega) hw) mi_X4_leastInReach kv_X4_199 rfl rfl dX4_pairs_57 (by decide) (by decide) rfl (Nat.le_of_ble_eq_true rfl) (by decide) (by decide) ?_
              rintro _ _ ⟨⟨xo, rfl, hLR⟩, rfl⟩ -
              rcases hLR with ⟨o, rfl, hr, hmin⟩ | ⟨rfl, hno⟩
              · refine g_goto (pc := 60) F dX4_pairs_60 (tgt := 65) rfl ?_
                refine g_istore (pc := 65) F dX4_pairs_65 (by decide) ?_
                refine g_iload (pc := 67) F dX4_pairs_67 rfl ?_
                refine g_if_lt (pc := 69) F dX4_pairs_69 (tgt := 82) rfl (fun c_69 => absurd c_69 (nI_nneg (by have := hr.1.1; omega))) (fun c_69 => ?_)
                refine g_iload_n (pc := 72) F dX4_pairs_72 rfl ?_
                refine g_iconst (pc := 73) F dX4_pairs_73 (v := nI 1) rfl ?_
                refine g_iload (pc := 74) F dX4_pairs_74 rfl ?_
                refine g_ishl (pc := 76) F dX4_pairs_76 ?_
                refine g_ior (pc := 77) F dX4_pairs_77 ?_
                rw [(sb1 w hw o (by have := hr.1.1; omega)).1]
                refine g_istore_n (pc := 78) F dX4_pairs_78 (by decide) ?_
                refine g_iincN (pc := 79) F dX4_pairs_79 rfl (by decide) ?_
                refine g_iincN (pc := 82) F dX4_pairs_82 rfl (by decide) ?_
                refine g_goto (pc := 85) F dX4_pairs_85 (tgt := 15) rfl ?_
                refine g_less [0, 1, 2, 3, 4] rfl ?_
                exact ih2 c_24 (p + 1) (stB w o) (sb1 w hw o (by have := hr.1.1; omega)).2 (OB_step (by rw [rem_y c_24 c_51] at ho; exact ho) hI.1.2 hw (hY3.symm.trans c_37) (by rw [c_51]; exact hr) (by rw [c_51]; exact hmin) (fun q hq => by rw [c_51]; exact rem_ge hq))
              · refine g_goto (pc := 60) F dX4_pairs_60 (tgt := 65) rfl ?_
                refine g_istore (pc := 65) F dX4_pairs_65 (by decide) ?_
                refine g_iload (pc := 67) F dX4_pairs_67 rfl ?_
                refine g_if_lt (pc := 69) F dX4_pairs_69 (tgt := 82) rfl (fun c_69 => ?_) (fun c_69 => absurd (by decide) c_69)
                refine g_iincN (pc := 82) F dX4_pairs_82 rfl (by decide) ?_
                refine g_goto (pc := 85) F dX4_pairs_85 (tgt := 15) rfl ?_
                refine g_less [0, 1, 2, 3, 4] rfl ?_
                exact ih2 c_24 p w hw (OB_none (by rw [rem_y c_24 c_51] at ho; exact ho) (Or.inr (fun q => by rw [c_51]; exact hno q))))
      exact L2 0 (Nat.zero_le _) p w hw (by rw [rem_in hd] at ho; exact ho))
  exact L 0 (Nat.zero_le _) 0 0 (by decide) (OB_start hI)

/-- the most so far, those behind i not yet tried -/
def PM (r : Nat → Int32) (c : Nat) (cs : List Nat) (w i v : Nat) : Prop := Mt r (c :: cs) w v ∧ ∀ k, (Mt r cs w k ∨ ∃ o, o < i ∧ (r (ix c 3) = nI 0 ∧ rc r w (atN r c) o) ∧ ∃ j, k = j + 1 ∧ Mt r cs (stB w o) j) → k ≤ v
theorem PM_0 {r : Nat → Int32} {c w v : Nat} {cs : List Nat} (h : IsMx r cs w v) : PM r c cs w 0 v := ⟨Or.inl h.1, fun k hk => hk.elim (h.2 k) (fun ⟨_, h, _⟩ => absurd h (Nat.not_lt_zero _))⟩
theorem PM_end {r : Nat → Int32} {c w v : Nat} {cs : List Nat} (h : PM r c cs w (many r) v) : IsMx r (c :: cs) w v := ⟨h.1, fun k hk => h.2 k (hk.elim Or.inl (fun ⟨o, ho, hj⟩ => Or.inr ⟨o, ho.2.1.1, ho, hj⟩))⟩
theorem PM_way {r : Nat → Int32} {c w v i : Nat} {cs : List Nat} (h : PM r c cs w i v) (hn : ¬ r (ix c 3) = nI 0) : IsMx r (c :: cs) w v := ⟨h.1, fun k hk => h.2 k (hk.elim Or.inl (fun ⟨o, ho, hj⟩ => absurd ho.1 hn))⟩
theorem PM_skip {r : Nat → Int32} {c w v i : Nat} {cs : List Nat} (h : PM r c cs w i v) (hn : ¬ rc r w (atN r c) i) : PM r c cs w (i + 1) v := ⟨h.1, fun k hk => h.2 k (hk.elim Or.inl (fun ⟨o, ho, hj⟩ => Or.inr ⟨o, (Nat.lt_succ_iff_lt_or_eq.mp ho).elim id (fun z => absurd (z ▸ hj.1.2) hn), hj⟩))⟩
theorem PM_yes {r : Nat → Int32} {c w v u i : Nat} {cs : List Nat} (h : PM r c cs w i v) (hw : r (ix c 3) = nI 0) (hr : rc r w (atN r c) i) (hu : IsMx r cs (stB w i) u) : PM r c cs w (i + 1) (max v (1 + u)) := by
  refine ⟨?_, fun k hk => ?_⟩
  · by_cases q : 1 + u ≤ v
    · rw [Nat.max_eq_left q]; exact h.1
    · rw [Nat.max_eq_right (by omega)]
      exact Or.inr ⟨i, ⟨hw, hr⟩, u, by omega, hu.1⟩
  · rcases hk with hk | ⟨o, ho, h1, j, e, h2⟩
    · have := h.2 k (Or.inl hk)
      omega
    · rcases Nat.lt_succ_iff_lt_or_eq.mp ho with z | z
      · have := h.2 k (Or.inr ⟨o, z, h1, j, e, h2⟩)
        omega
      · rw [z] at h2
        have := hu.2 j h2
        omega
set_option maxRecDepth 100000 in
set_option maxHeartbeats 800000 in
theorem m_pf0 (s m ig ws : Nat → Int32) (hg : Int32) (T : TX) (V : VX) (hI : Iv s) (c w : Nat) (hc : c = many s) : Ctr yX5_pairsFrom cX5_pairsFrom 5 (some .int) 0 0 0 [.ref 0, .int (nI c), .int (nI w)] (rW s m ig ws hg T V) (fun v hh => (∃ q, v = some (.int (nI q)) ∧ IsMx s (List.range' c (0)) w q) ∧ hh = rW s m ig ws hg T V) := by
  have hm6 := hI.1.2
  refine Ctr.of rfl (Nat.le_of_ble_eq_true rfl) ⟨clS_of rfl, clH_of rfl⟩ (fun K F X0 => ?_)
  show Go K 0 0 0 [(0, .ref 0), (1, .int (nI c)), (2, .int (nI w))] [] (rW s m ig ws hg T V)
  refine g_iload_n (pc := 0) F dX5_pairsFrom_0 rfl ?_
  refine g_aload_n (pc := 1) F dX5_pairsFrom_1 rfl ?_
  refine g_getf (pc := 2) F fl_X5_9 dX5_pairsFrom_2 rfl rfl ?_
  refine g_iconst (pc := 5) F dX5_pairsFrom_5 (v := nI 0) rfl ?_
  refine g_iald2 (pc := 6) F dX5_pairsFrom_6 rfl rfl (by first | omega | (simp only [ix]; omega)) (by decide) ?_
  refine g_icN_ne (pc := 7) F dX5_pairsFrom_7 (tgt := 12) rfl rfl hI.1.1 (by omega) (by omega) (fun c_7 => absurd hc c_7) (fun c_7 => ?_)
  refine g_iconst (pc := 10) F dX5_pairsFrom_10 (v := nI 0) rfl ?_
  exact g_iret (pc := 11) F X0 dX5_pairsFrom_11 (Nat.le_of_ble_eq_true rfl) (Nat.le_of_ble_eq_true rfl) rfl ⟨⟨0, rfl, rfl, fun k hk => Nat.le_of_eq hk⟩, rfl⟩

set_option maxRecDepth 100000 in
set_option maxHeartbeats 800000 in
theorem m_pf1 (s m ig ws : Nat → Int32) (hg : Int32) (T : TX) (V : VX) (hI : Iv s) (c w k : Nat) (hc : c + (k + 1) = many s) (hw : w < 64) (ih : ∀ w, w < 64 → Ctr yX5_pairsFrom cX5_pairsFrom 5 (some .int) k 0 0 [.ref 0, .int (nI (c + 1)), .int (nI w)] (rW s m ig ws hg T V) (fun v hh => (∃ q, v = some (.int (nI q)) ∧ IsMx s (List.range' (c + 1) k) w q) ∧ hh = rW s m ig ws hg T V)) : Ctr yX5_pairsFrom cX5_pairsFrom 5 (some .int) (k + 1) 0 0 [.ref 0, .int (nI c), .int (nI w)] (rW s m ig ws hg T V) (fun v hh => (∃ q, v = some (.int (nI q)) ∧ IsMx s (List.range' c (k + 1)) w q) ∧ hh = rW s m ig ws hg T V) := by
  have hm6 := hI.1.2
  refine Ctr.of rfl (Nat.le_of_ble_eq_true rfl) ⟨clS_of rfl, clH_of rfl⟩ (fun K F X0 => ?_)
  show Go K 0 0 0 [(0, .ref 0), (1, .int (nI c)), (2, .int (nI w))] [] (rW s m ig ws hg T V)
  refine g_iload_n (pc := 0) F dX5_pairsFrom_0 rfl ?_
  refine g_aload_n (pc := 1) F dX5_pairsFrom_1 rfl ?_
  refine g_getf (pc := 2) F fl_X5_9 dX5_pairsFrom_2 rfl rfl ?_
  refine g_iconst (pc := 5) F dX5_pairsFrom_5 (v := nI 0) rfl ?_
  refine g_iald2 (pc := 6) F dX5_pairsFrom_6 rfl rfl (by first | omega | (simp only [ix]; omega)) (by decide) ?_
  refine g_icN_ne (pc := 7) F dX5_pairsFrom_7 (tgt := 12) rfl rfl hI.1.1 (by omega) (by omega) (fun c_7 => ?_) (fun c_7 => absurd c_7 (by omega))
  refine g_aload_n (pc := 12) F dX5_pairsFrom_12 rfl ?_
  refine g_iload_n (pc := 13) F dX5_pairsFrom_13 rfl ?_
  refine g_iconst (pc := 14) F dX5_pairsFrom_14 (v := nI 1) rfl ?_
  refine g_iaddN (pc := 15) F dX5_pairsFrom_15 ?_
  refine g_iload_n (pc := 16) F dX5_pairsFrom_16 rfl ?_
  refine i_callV (pc := 17) F (ih w hw) mi_X5_pairsFrom kv_X5_170 rfl rfl dX5_pairsFrom_17 (by omega) (by decide) rfl (Nat.le_of_ble_eq_true rfl) (by decide) (by decide) ?_
  rintro _ _ ⟨⟨q1, rfl, hq1⟩, rfl⟩ -
  refine g_istore_n (pc := 20) F dX5_pairsFrom_20 (by decide) ?_
  refine g_iconst (pc := 21) F dX5_pairsFrom_21 (v := nI 0) rfl ?_
  refine g_istore (pc := 22) F dX5_pairsFrom_22 (by decide) ?_
  have L : ∀ i, i ≤ many s → ∀ v, PM s c (List.range' (c + 1) k) w i v → Go K 0 0 24 [(0, .ref 0), (1, .int (nI c)), (2, .int (nI w)), (3, .int (nI v)), (4, .int (nI i))] [] (rW s m ig ws hg T V) := loop_up (P := fun i => ∀ v, PM s c (List.range' (c + 1) k) w i v → Go K 0 0 24 [(0, .ref 0), (1, .int (nI c)), (2, .int (nI w)), (3, .int (nI v)), (4, .int (nI i))] [] (rW s m ig ws hg T V)) (fun i hi ih2 => by
    intro v hv
    refine g_iload (pc := 24) F dX5_pairsFrom_24 rfl ?_
    refine g_aload_n (pc := 26) F dX5_pairsFrom_26 rfl ?_
    refine g_getf (pc := 27) F fl_X5_9 dX5_pairsFrom_27 rfl rfl ?_
    refine g_iconst (pc := 30) F dX5_pairsFrom_30 (v := nI 0) rfl ?_
    refine g_iald2 (pc := 31) F dX5_pairsFrom_31 rfl rfl (by first | omega | (simp only [ix]; omega)) (by decide) ?_
    refine g_icN_ge (pc := 32) F dX5_pairsFrom_32 (tgt := 131) rfl rfl hI.1.1 (by omega) (by omega) (fun c_32 => ?_) (fun c_32 => ?_)
    · obtain rfl : i = many s := by omega
      refine g_iload_n (pc := 131) F dX5_pairsFrom_131 rfl ?_
      exact g_iret (pc := 132) F X0 dX5_pairsFrom_132 (Nat.le_of_ble_eq_true rfl) (Nat.le_of_ble_eq_true rfl) rfl ⟨⟨v, rfl, by first | exact hfin | exact PM_end hv | fail⟩, rfl⟩
    · have hi6 : i < 6 := by omega
      have ai := (hI.2.2.1 i c_32).2.2.1
      have ac := (hI.2.2.1 c (by omega)).2.2.1
      refine g_aload_n (pc := 35) F dX5_pairsFrom_35 rfl ?_
      refine g_getf (pc := 36) F fl_X5_9 dX5_pairsFrom_36 rfl rfl ?_
      refine g_iload_n (pc := 39) F dX5_pairsFrom_39 rfl ?_
      refine g_iconst (pc := 40) F dX5_pairsFrom_40 (v := nI 3) rfl ?_
      refine h_readS (pc := 41) F (c_of c 3) mi_X5_of ks_X5_47 dX5_pairsFrom_41 [] rfl (by omega) (by decide) rfl rfl (Nat.le_of_ble_eq_true rfl) trivial (by decide) (by decide) ?_
      refine g_iald2 (pc := 44) F dX5_pairsFrom_44 rfl rfl (by first | omega | (simp only [ix]; omega)) (by decide) ?_
      refine g_if_ne (pc := 45) F dX5_pairsFrom_45 (tgt := 131) rfl (fun c_45 => ?_) (fun c_45 => ?_)
      · have hfin := PM_way hv c_45
        refine g_iload_n (pc := 131) F dX5_pairsFrom_131 rfl ?_
        exact g_iret (pc := 132) F X0 dX5_pairsFrom_132 (Nat.le_of_ble_eq_true rfl) (Nat.le_of_ble_eq_true rfl) rfl ⟨⟨v, rfl, by first | exact hfin | exact PM_end hv | fail⟩, rfl⟩
      · refine g_aload_n (pc := 48) F dX5_pairsFrom_48 rfl ?_
        refine g_getf (pc := 49) F fl_X5_9 dX5_pairsFrom_49 rfl rfl ?_
        refine g_iload (pc := 52) F dX5_pairsFrom_52 rfl ?_
        refine g_iconst (pc := 54) F dX5_pairsFrom_54 (v := nI 3) rfl ?_
        refine h_readS (pc := 55) F (c_of i 3) mi_X5_of ks_X5_47 dX5_pairsFrom_55 [] rfl (by omega) (by decide) rfl rfl (Nat.le_of_ble_eq_true rfl) trivial (by decide) (by decide) ?_
        refine g_iald2 (pc := 58) F dX5_pairsFrom_58 rfl rfl (by first | omega | (simp only [ix]; omega)) (by decide) ?_
        refine g_if_eq (pc := 59) F dX5_pairsFrom_59 (tgt := 125) rfl (fun c_59 => ?_) (fun c_59 => ?_)
        · refine g_iincN (pc := 125) F dX5_pairsFrom_125 rfl (by decide) ?_
          refine g_goto (pc := 128) F dX5_pairsFrom_128 (tgt := 24) rfl ?_
          first
            | exact ih2 c_32 v (PM_skip hv (fun z => absurd (z.1.2.symm.trans c_59) (by decide)))
            | exact ih2 c_32 v (PM_skip hv (fun z => Bool.noConfusion (c_68.symm.trans z.2.1)))
            | exact ih2 c_32 v (PM_skip hv (fun z => c_99 (by rw [ac.1, ai.1]; exact (dif_ref _ ac.2 _ ai.2).mpr z.2.2)))
            | exact ih2 c_32 _ (PM_yes hv c_45 ⟨⟨c_32, ((hI.2.2.1 i c_32).2.2.2.1).resolve_left c_59⟩, c_68, by rw [ac.1, ai.1] at c_99; exact (dif_ref _ ac.2 _ ai.2).mp c_99⟩ hu)
            | fail
        · refine g_iload_n (pc := 62) F dX5_pairsFrom_62 rfl ?_
          refine g_iload (pc := 63) F dX5_pairsFrom_63 rfl ?_
          refine h_readS (pc := 65) F (c_has _ _) mi_X5_has ks_X5_69 dX5_pairsFrom_65 [] rfl (by omega) (by decide) rfl rfl (Nat.le_of_ble_eq_true rfl) trivial (by decide) (by decide) ?_
          refine g_ifne_b (pc := 68) F dX5_pairsFrom_68 (tgt := 125) rfl (fun c_68 => ?_) (fun c_68 => ?_)
          · refine g_iincN (pc := 125) F dX5_pairsFrom_125 rfl (by decide) ?_
            refine g_goto (pc := 128) F dX5_pairsFrom_128 (tgt := 24) rfl ?_
            first
              | exact ih2 c_32 v (PM_skip hv (fun z => absurd (z.1.2.symm.trans c_59) (by decide)))
              | exact ih2 c_32 v (PM_skip hv (fun z => Bool.noConfusion (c_68.symm.trans z.2.1)))
              | exact ih2 c_32 v (PM_skip hv (fun z => c_99 (by rw [ac.1, ai.1]; exact (dif_ref _ ac.2 _ ai.2).mpr z.2.2)))
              | exact ih2 c_32 _ (PM_yes hv c_45 ⟨⟨c_32, ((hI.2.2.1 i c_32).2.2.2.1).resolve_left c_59⟩, c_68, by rw [ac.1, ai.1] at c_99; exact (dif_ref _ ac.2 _ ai.2).mp c_99⟩ hu)
              | fail
          · refine g_aload_n (pc := 71) F dX5_pairsFrom_71 rfl ?_
            refine g_getf (pc := 72) F fl_X5_9 dX5_pairsFrom_72 rfl rfl ?_
            refine g_iload_n (pc := 75) F dX5_pairsFrom_75 rfl ?_
            refine g_iconst (pc := 76) F dX5_pairsFrom_76 (v := nI 2) rfl ?_
            refine h_readS (pc := 77) F (c_of c 2) mi_X5_of ks_X5_47 dX5_pairsFrom_77 [] rfl (by omega) (by decide) rfl rfl (Nat.le_of_ble_eq_true rfl) trivial (by decide) (by decide) ?_
            refine g_iald2 (pc := 80) F dX5_pairsFrom_80 rfl rfl (by first | omega | (simp only [ix]; omega)) (by decide) ?_
            refine g_aload_n (pc := 81) F dX5_pairsFrom_81 rfl ?_
            refine g_getf (pc := 82) F fl_X5_9 dX5_pairsFrom_82 rfl rfl ?_
            refine g_iload (pc := 85) F dX5_pairsFrom_85 rfl ?_
            refine g_iconst (pc := 87) F dX5_pairsFrom_87 (v := nI 2) rfl ?_
            refine h_readS (pc := 88) F (c_of i 2) mi_X5_of ks_X5_47 dX5_pairsFrom_88 [] rfl (by omega) (by decide) rfl rfl (Nat.le_of_ble_eq_true rfl) trivial (by decide) (by decide) ?_
            refine g_iald2 (pc := 91) F dX5_pairsFrom_91 rfl rfl (by first | omega | (simp only [ix]; omega)) (by decide) ?_
            refine g_isub (pc := 92) F dX5_pairsFrom_92 ?_
            refine g_bipush (pc := 93) F dX5_pairsFrom_93 (v := (-3 : Int32)) (by decide) ?_
            refine g_iconst (pc := 95) F dX5_pairsFrom_95 (v := nI 3) rfl ?_
            refine h_readS (pc := 96) F (c_isIn _ _ _) mi_X5_isIn ks_X5_43 dX5_pairsFrom_96 [] rfl (by omega) (by decide) rfl rfl (Nat.le_of_ble_eq_true rfl) trivial (by decide) (by decide) ?_
            refine g_ifne_d (pc := 99) F dX5_pairsFrom_99 (tgt := 105) rfl (fun c_99 => ?_) (fun c_99 => ?_)
            · refine g_iload_n (pc := 105) F dX5_pairsFrom_105 rfl ?_
              refine g_iconst (pc := 106) F dX5_pairsFrom_106 (v := nI 1) rfl ?_
              refine g_aload_n (pc := 107) F dX5_pairsFrom_107 rfl ?_
              refine g_iload_n (pc := 108) F dX5_pairsFrom_108 rfl ?_
              refine g_iconst (pc := 109) F dX5_pairsFrom_109 (v := nI 1) rfl ?_
              refine g_iaddN (pc := 110) F dX5_pairsFrom_110 ?_
              refine g_iload_n (pc := 111) F dX5_pairsFrom_111 rfl ?_
              refine g_iconst (pc := 112) F dX5_pairsFrom_112 (v := nI 1) rfl ?_
              refine g_iload (pc := 113) F dX5_pairsFrom_113 rfl ?_
              refine g_ishl (pc := 115) F dX5_pairsFrom_115 ?_
              refine g_ior (pc := 116) F dX5_pairsFrom_116 ?_
              rw [(sb1 w hw i hi6).1]
              refine i_callV (pc := 117) F (ih (stB w i) (sb1 w hw i hi6).2) mi_X5_pairsFrom kv_X5_170 rfl rfl dX5_pairsFrom_117 (by omega) (by decide) rfl (Nat.le_of_ble_eq_true rfl) (by decide) (by decide) ?_
              rintro _ _ ⟨⟨u, rfl, hu⟩, rfl⟩ -
              have hb1 := Mt_len _ _ _ hv.1
              have hb2 := Mt_len _ _ _ hu.1
              rw [List.length_cons] at hb1
              rw [List.length_range'] at hb1 hb2
              refine g_iaddN (pc := 120) F dX5_pairsFrom_120 ?_
              refine h_readS (pc := 121) F (c_most _ _) mi_X5_most ks_X5_58 dX5_pairsFrom_121 [] rfl (by omega) (by decide) rfl rfl (Nat.le_of_ble_eq_true rfl) trivial (by decide) (by decide) ?_
              rw [mx_nI (by omega) (by omega)]
              refine g_istore_n (pc := 124) F dX5_pairsFrom_124 (by decide) ?_
              refine g_iincN (pc := 125) F dX5_pairsFrom_125 rfl (by decide) ?_
              refine g_goto (pc := 128) F dX5_pairsFrom_128 (tgt := 24) rfl ?_
              first
                | exact ih2 c_32 v (PM_skip hv (fun z => absurd (z.1.2.symm.trans c_59) (by decide)))
                | exact ih2 c_32 v (PM_skip hv (fun z => Bool.noConfusion (c_68.symm.trans z.2.1)))
                | exact ih2 c_32 v (PM_skip hv (fun z => c_99 (by rw [ac.1, ai.1]; exact (dif_ref _ ac.2 _ ai.2).mpr z.2.2)))
                | exact ih2 c_32 _ (PM_yes hv c_45 ⟨⟨c_32, ((hI.2.2.1 i c_32).2.2.2.1).resolve_left c_59⟩, c_68, by rw [ac.1, ai.1] at c_99; exact (dif_ref _ ac.2 _ ai.2).mp c_99⟩ hu)
                | fail
            · refine g_goto (pc := 102) F dX5_pairsFrom_102 (tgt := 125) rfl ?_
              refine g_iincN (pc := 125) F dX5_pairsFrom_125 rfl (by decide) ?_
              refine g_goto (pc := 128) F dX5_pairsFrom_128 (tgt := 24) rfl ?_
              first
                | exact ih2 c_32 v (PM_skip hv (fun z => absurd (z.1.2.symm.trans c_59) (by decide)))
                | exact ih2 c_32 v (PM_skip hv (fun z => Bool.noConfusion (c_68.symm.trans z.2.1)))
                | exact ih2 c_32 v (PM_skip hv (fun z => c_99 (by rw [ac.1, ai.1]; exact (dif_ref _ ac.2 _ ai.2).mpr z.2.2)))
                | exact ih2 c_32 _ (PM_yes hv c_45 ⟨⟨c_32, ((hI.2.2.1 i c_32).2.2.2.1).resolve_left c_59⟩, c_68, by rw [ac.1, ai.1] at c_99; exact (dif_ref _ ac.2 _ ai.2).mp c_99⟩ hu)
                | fail)
  exact L 0 (Nat.zero_le _) q1 (PM_0 hq1)

theorem m_pf (s m ig ws : Nat → Int32) (hg : Int32) (T : TX) (V : VX) (hI : Iv s) : ∀ k c w, c + k = many s → w < 64 → Ctr yX5_pairsFrom cX5_pairsFrom 5 (some .int) k 0 0 [.ref 0, .int (nI c), .int (nI w)] (rW s m ig ws hg T V) (fun v hh => (∃ q, v = some (.int (nI q)) ∧ IsMx s (List.range' c (k)) w q) ∧ hh = rW s m ig ws hg T V)
  | 0, c, w, hc, hw => m_pf0 s m ig ws hg T V hI c w hc
  | k + 1, c, w, hc, hw => m_pf1 s m ig ws hg T V hI c w k hc hw (fun w2 hw2 => m_pf s m ig ws hg T V hI k (c + 1) w2 (by omega) hw2)

set_option maxRecDepth 100000 in
set_option maxHeartbeats 800000 in
theorem m_pairs (s m ig ws : Nat → Int32) (hg : Int32) (T : TX) (V : VX) (hI : Iv s) : Ctr yX5_pairs cX5_pairs 1 (some .int) 7 0 0 [.ref 0] (rW s m ig ws hg T V) (fun v hh => ∃ q, v = some (.int (nI q)) ∧ IsMx s (allL s) 0 q ∧ ∃ m V, hh = rW s m ig ws hg T V) := by
  have hm6 := hI.1.2
  refine Ctr.of rfl (Nat.le_of_ble_eq_true rfl) ⟨clS_of rfl, clH_of rfl⟩ (fun K F X0 => ?_)
  show Go K 0 0 0 [(0, .ref 0)] [] (rW s m ig ws hg T V)
  refine g_aload_n (pc := 0) F dX5_pairs_0 rfl ?_
  refine g_iconst (pc := 1) F dX5_pairs_1 (v := nI 0) rfl ?_
  refine g_iconst (pc := 2) F dX5_pairs_2 (v := nI 0) rfl ?_
  refine i_callV (pc := 3) F (m_pf s m ig ws hg T V hI (many s) 0 0 (by omega) (by decide)) mi_X5_pairsFrom kv_X5_170 rfl rfl dX5_pairs_3 (by omega) (by decide) rfl (Nat.le_of_ble_eq_true rfl) (by decide) (by decide) ?_
  rintro _ _ ⟨⟨q1, rfl, hq1⟩, rfl⟩ -
  exact g_iret (pc := 6) F X0 dX5_pairs_6 (Nat.le_of_ble_eq_true rfl) (Nat.le_of_ble_eq_true rfl) rfl ⟨q1, rfl, hq1, m, V, rfl⟩

