/-! WHAT THE REFERENCE'S ROW SAYS, as plain functions of a row r of 61 ints -/
def lf (r : Nat → Int32) (d : Nat) : Int32 := r (5 + d) - r (15 + d)
def many (r : Nat → Int32) : Nat := (r 0).toNatClampNeg
def atN (r : Nat → Int32) (c : Nat) : Nat := (r (ix c 2)).toNatClampNeg
def cnt (k f u on : Int32) : Int32 :=
  if k = nI 1 then mn u (nI 9 + f) else if k = nI 2 then (u + nI 1) / nI 2 else if k = nI 3 then mn u ((nI 10 + f) / nI 2)
  else if k = nI 4 then mn u ((nI 9 + f) / nI 2 + nI 1) else if k = nI 5 then mn u (mx (nI 20) ((u + nI 1) / nI 2))
  else if k = nI 6 then (if on - on / nI 2 * nI 2 = 0 then mn u ((nI 10 + f) / nI 2) else nI 0)
  else if k = nI 7 then mn u (f + nI 1) else mn u (nI 10 + f)
theorem cnt_0 {k : Int32} (f u on : Int32) (h : k.toInt < 1 ∨ (7 : Int) < k.toInt) : cnt k f u on = mn u (nI 10 + f) := by
  have n : ∀ j, 1 ≤ j → j ≤ 7 → ¬ k = nI j := fun j h1 h2 => sw_ne (lo := 1) (hi := 7) h h1 h2 (by decide)
  unfold cnt
  rw [if_neg (n 1 (by decide) (by decide)), if_neg (n 2 (by decide) (by decide)), if_neg (n 3 (by decide) (by decide)), if_neg (n 4 (by decide) (by decide)), if_neg (n 5 (by decide) (by decide)), if_neg (n 6 (by decide) (by decide)), if_neg (n 7 (by decide) (by decide))]
def bks (k f c : Int32) : Int32 :=
  if k = nI 2 then (if 0 < c then c + f else nI 0) else if k = nI 5 then nI 2 * c else if k = nI 6 then (if 0 < c then c - nI 1 else nI 0) else c
def cntR (r : Nat → Int32) (c : Nat) (on : Int32) : Int32 := cnt (r (ix c 0)) (r (ix c 1)) (lf r (atN r c)) on
def wrR (r : Nat → Int32) (c : Nat) (v : Int32) : Nat → Int32 := upd r (ix c 4) (mn (nI 9999) (r (ix c 4) + v))
def anyN (p : Nat → Bool) : Nat → Bool
  | 0 => false
  | n + 1 => anyN p n || p n
theorem anyN_t {p : Nat → Bool} {n i : Nat} (hi : i < n) (h : p i = true) : anyN p n = true := by
  induction n with
  | zero => omega
  | succ n ih =>
    unfold anyN
    rcases Nat.lt_or_ge i n with q | q
    · rw [ih q, Bool.true_or]
    · have : i = n := by omega
      rw [← this, h, Bool.or_true]
theorem anyN_f {p : Nat → Bool} {n : Nat} (h : ∀ i, i < n → p i = false) : anyN p n = false := by
  induction n with
  | zero => rfl
  | succ n ih =>
    unfold anyN
    rw [ih (fun i hi => h i (by omega)), h n (by omega)]
    rfl
theorem anyN_cong {p q : Nat → Bool} {n : Nat} (h : ∀ i, i < n → p i = q i) : anyN p n = anyN q n := by
  induction n with
  | zero => rfl
  | succ n ih =>
    unfold anyN
    rw [ih (fun i hi => h i (by omega)), h n (by omega)]
def stoodR (r : Nat → Int32) (d way : Int32) : Bool := anyN (fun c => decide (r (ix c 2) = d ∧ r (ix c 3) = way)) (many r)
def toR (r : Nat → Int32) (c : Nat) : Int32 := r (ix c 2) + nI 1 - nI 2 * r (ix c 3)
def goesR (r : Nat → Int32) (c : Nat) : Nat → Int32 := if (nI 0 ≤ toR r c ∧ toR r c ≤ nI 9) ∧ stoodR r (toR r c) (nI 1 - r (ix c 3)) = false then upd r (ix c 2) (toR r c) else r
def workB (r : Nat → Int32) (c d : Nat) (v : Int32) : Nat → Int32 := wrR (upd r (15 + d) (r (15 + d) + v)) c (bks (upd r (15 + d) (r (15 + d) + v) (ix c 0)) (upd r (15 + d) (r (15 + d) + v) (ix c 1)) v)
def worksR (r : Nat → Int32) (c : Nat) : Nat → Int32 :=
  if r (ix c 5) = nI 1 then r else if hasb (r 4) (nI c) = true then wrR r c (nI 15)
  else if lf (workB r c (atN r c) (cntR r c (r 1))) (atN r c) = 0 then goesR (workB r c (atN r c) (cntR r c (r 1))) c else workB r c (atN r c) (cntR r c (r 1))
def gvV (r : Nat → Int32) (d to : Nat) (w : Int32) : Int32 := mn w (mn (r (5 + d)) (nI 999 - r (5 + to)))
def gvL (r : Nat → Int32) (d to : Nat) (w : Int32) : Int32 := mx (nI 0) (gvV r d to w - lf r d)
def gv1 (r : Nat → Int32) (d to : Nat) (w : Int32) : Nat → Int32 := upd r (5 + d) (r (5 + d) - gvV r d to w)
def gv2 (r : Nat → Int32) (d to : Nat) (w : Int32) : Nat → Int32 := upd (gv1 r d to w) (15 + d) (gv1 r d to w (15 + d) - gvL r d to w)
def gv3 (r : Nat → Int32) (d to : Nat) (w : Int32) : Nat → Int32 := upd (gv2 r d to w) 3 (gv2 r d to w 3 + gvL r d to w)
def givesR (r : Nat → Int32) (d to : Nat) (w : Int32) : Nat → Int32 := upd (gv3 r d to w) (5 + to) (gv3 r d to w (5 + to) + gvV r d to w)
def allWork (r : Nat → Int32) : Nat → Int32 := it (fun c r => worksR r c) (many r) r
def blowUp (r : Nat → Int32) (w : Int32) : Nat → Int32 := it (fun j r => givesR r (8 - j) (8 - j + 1) w) 9 r
def blowDn (r : Nat → Int32) (w : Int32) : Nat → Int32 := it (fun j r => givesR r (j + 1) j (-w)) 9 r
def blowR (r : Nat → Int32) (w : Int32) : Nat → Int32 := if 0 < w then blowUp r w else if w < 0 then blowDn r w else r
def dayR (r : Nat → Int32) (w : Int32) : Nat → Int32 := blowR (allWork (upd r 1 (r 1 + nI 1))) w
def daysR (r : Nat → Int32) (n : Nat) : Nat → Int32 := it (fun _ r => dayR r (r 2)) n r
def booksR (r : Nat → Int32) (way : Int32) : Int32 := it (fun c v => v + (if way < 0 ∨ r (ix c 3) = way then r (ix c 4) else nI 0)) (many r) (nI 0)
def doneR (r : Nat → Int32) : Int32 := it (fun d s => s ||| (if lf r d = 0 then nI 1 <<< (nI d &&& 31) else nI 0)) 10 (nI 0)
def fillR (r : Nat → Int32) (d : Nat) (v : Int32) : Nat → Int32 := upd (upd r (5 + d) v) (15 + d) (nI 0)
def floodR (r : Nat → Int32) : Nat → Int32 := it (fun c r => upd r (ix c 4) (nI 0)) (many r) (it (fun d r => upd r (15 + d) (nI 0)) 10 r)
def bitsR (s : Int32) : Int32 := it (fun k n => n + (s >>> (nI k &&& 31) &&& nI 1)) 10 (nI 0)
/-! WHAT IS ALWAYS SO of the row -/
def Iv (r : Nat → Int32) : Prop :=
  (r 0 = nI (many r) ∧ many r ≤ 6) ∧
  (∀ d, d < 10 → 0 ≤ (r (15 + d)).toInt ∧ (r (15 + d)).toInt ≤ (r (5 + d)).toInt ∧ (r (5 + d)).toInt ≤ 999) ∧
  (∀ c, c < many r → (∃ k, k < 8 ∧ r (ix c 0) = nI k) ∧ (∃ f, f < 10 ∧ r (ix c 1) = nI f) ∧ (r (ix c 2) = nI (atN r c) ∧ atN r c < 10) ∧ (r (ix c 3) = nI 0 ∨ r (ix c 3) = nI 1) ∧ (0 ≤ (r (ix c 4)).toInt ∧ (r (ix c 4)).toInt ≤ 9999) ∧ (r (ix c 5) = nI 0 ∨ r (ix c 5) = nI 1)) ∧
  (-9 ≤ (r 2).toInt ∧ (r 2).toInt ≤ 9)
theorem upd_at (f : Nat → Int32) (k : Nat) (x : Int32) : upd f k x k = x := if_pos rfl
theorem upd_ne {f : Nat → Int32} {k j : Nat} (x : Int32) (h : j ≠ k) : upd f k x j = f j := if_neg h
/-- what may be written at place j -/
def okv (r : Nat → Int32) (j : Nat) (v : Int32) : Prop :=
  j ≠ 0 ∧ (j = 2 → -9 ≤ v.toInt ∧ v.toInt ≤ 9) ∧
  (∀ d, d < 10 → j = 5 + d → (r (15 + d)).toInt ≤ v.toInt ∧ v.toInt ≤ 999) ∧
  (∀ d, d < 10 → j = 15 + d → 0 ≤ v.toInt ∧ v.toInt ≤ (r (5 + d)).toInt) ∧
  (∀ c, c < many r → (j = 25 + 6 * c + 0 → ∃ k, k < 8 ∧ v = nI k) ∧ (j = 25 + 6 * c + 1 → ∃ f, f < 10 ∧ v = nI f) ∧ (j = 25 + 6 * c + 2 → ∃ a, a < 10 ∧ v = nI a) ∧ (j = 25 + 6 * c + 3 → v = nI 0 ∨ v = nI 1) ∧ (j = 25 + 6 * c + 4 → 0 ≤ v.toInt ∧ v.toInt ≤ 9999) ∧ (j = 25 + 6 * c + 5 → v = nI 0 ∨ v = nI 1))
theorem upd_all {P : Int32 → Prop} {r : Nat → Int32} {j i : Nat} {v : Int32} (h : P (r i)) (hv : j = i → P v) : P (upd r j v i) := by
  by_cases q : i = j
  · rw [q, upd_at]; exact hv q.symm
  · rw [upd_ne v q]; exact h
theorem Iv_upd {r : Nat → Int32} {j : Nat} {v : Int32} (h : Iv r) (ok : okv r j v) : Iv (upd r j v) := by
  obtain ⟨⟨h1, h2⟩, h3, h4, h5⟩ := h
  obtain ⟨o1, o2, o3, o4, o5⟩ := ok
  have em : many (upd r j v) = many r := by
    unfold many
    rw [upd_ne v (fun q => o1 q.symm)]
  refine ⟨⟨?_, ?_⟩, ?_, ?_, ?_⟩
  · rw [em, upd_ne v (fun q => o1 q.symm)]; exact h1
  · rw [em]; exact h2
  · intro d hd
    obtain ⟨a1, a2, a3⟩ := h3 d hd
    by_cases q : 15 + d = j
    · have q2 : ¬ 5 + d = j := by omega
      rw [q, upd_at, upd_ne v q2]
      exact ⟨(o4 d hd q.symm).1, (o4 d hd q.symm).2, a3⟩
    · rw [upd_ne v q]
      by_cases q2 : 5 + d = j
      · rw [q2, upd_at]
        exact ⟨a1, (o3 d hd q2.symm).1, (o3 d hd q2.symm).2⟩
      · rw [upd_ne v q2]
        exact ⟨a1, a2, a3⟩
  · intro c hc
    rw [em] at hc
    obtain ⟨b0, b1, b2, b3, b4, b5⟩ := h4 c hc
    obtain ⟨p0, p1, p2, p3, p4, p5⟩ := o5 c hc
    refine ⟨?_, ?_, ?_, ?_, ?_, ?_⟩
    · exact upd_all (P := fun x => ∃ k, k < 8 ∧ x = nI k) b0 p0
    · exact upd_all (P := fun x => ∃ k, k < 10 ∧ x = nI k) b1 p1
    · refine upd_all (P := fun x => x = nI x.toNatClampNeg ∧ x.toNatClampNeg < 10) b2 (fun q => ?_)
      obtain ⟨a, ha, rfl⟩ := p2 q
      rw [nI_clamp (by omega)]
      exact ⟨rfl, ha⟩
    · exact upd_all (P := fun x => x = nI 0 ∨ x = nI 1) b3 p3
    · exact upd_all (P := fun x => 0 ≤ x.toInt ∧ x.toInt ≤ 9999) b4 p4
    · exact upd_all (P := fun x => x = nI 0 ∨ x = nI 1) b5 p5
  · exact upd_all (P := fun x => -9 ≤ x.toInt ∧ x.toInt ≤ 9) h5 o2
theorem Iv_done {r : Nat → Int32} {d : Nat} {v : Int32} (h : Iv r) (hd : d < 10) (h1 : 0 ≤ v.toInt) (h2 : v.toInt ≤ (r (5 + d)).toInt) : Iv (upd r (15 + d) v) :=
  Iv_upd h ⟨by omega, fun q => by omega, fun e he q => by omega, fun e he q => by
    have : e = d := by omega
    subst this
    exact ⟨h1, h2⟩, fun c hc => ⟨fun q => by omega, fun q => by omega, fun q => by omega, fun q => by omega, fun q => by omega, fun q => by omega⟩⟩
theorem Iv_grain {r : Nat → Int32} {d : Nat} {v : Int32} (h : Iv r) (hd : d < 10) (h1 : (r (15 + d)).toInt ≤ v.toInt) (h2 : v.toInt ≤ 999) : Iv (upd r (5 + d) v) :=
  Iv_upd h ⟨by omega, fun q => by omega, fun e he q => by
    have : e = d := by omega
    subst this
    exact ⟨h1, h2⟩, fun e he q => by omega, fun c hc => ⟨fun q => by omega, fun q => by omega, fun q => by omega, fun q => by omega, fun q => by omega, fun q => by omega⟩⟩
theorem Iv_free {r : Nat → Int32} {j : Nat} {v : Int32} (h : Iv r) (hj : j = 1 ∨ j = 3 ∨ j = 4) : Iv (upd r j v) :=
  Iv_upd h ⟨by omega, fun q => by omega, fun e he q => by omega, fun e he q => by omega, fun c hc => ⟨fun q => by omega, fun q => by omega, fun q => by omega, fun q => by omega, fun q => by omega, fun q => by omega⟩⟩
theorem Iv_wind {r : Nat → Int32} {v : Int32} (h : Iv r) (h1 : -9 ≤ v.toInt) (h2 : v.toInt ≤ 9) : Iv (upd r 2 v) :=
  Iv_upd h ⟨by omega, fun q => ⟨h1, h2⟩, fun e he q => by omega, fun e he q => by omega, fun c hc => ⟨fun q => by omega, fun q => by omega, fun q => by omega, fun q => by omega, fun q => by omega, fun q => by omega⟩⟩
theorem Iv_kind {r : Nat → Int32} {c k : Nat} (h : Iv r) (hk : k < 8) : Iv (upd r (ix c 0) (nI k)) :=
  Iv_upd h ⟨by simp only [ix]; omega, fun q => by simp only [ix] at q; omega, fun e he q => by simp only [ix] at q; omega, fun e he q => by simp only [ix] at q; omega, fun c hc => ⟨fun q => ⟨k, hk, rfl⟩, fun q => by simp only [ix] at q; omega, fun q => by simp only [ix] at q; omega, fun q => by simp only [ix] at q; omega, fun q => by simp only [ix] at q; omega, fun q => by simp only [ix] at q; omega⟩⟩
theorem Iv_fig {r : Nat → Int32} {c f : Nat} (h : Iv r) (hf : f < 10) : Iv (upd r (ix c 1) (nI f)) :=
  Iv_upd h ⟨by simp only [ix]; omega, fun q => by simp only [ix] at q; omega, fun e he q => by simp only [ix] at q; omega, fun e he q => by simp only [ix] at q; omega, fun c hc => ⟨fun q => by simp only [ix] at q; omega, fun q => ⟨f, hf, rfl⟩, fun q => by simp only [ix] at q; omega, fun q => by simp only [ix] at q; omega, fun q => by simp only [ix] at q; omega, fun q => by simp only [ix] at q; omega⟩⟩
theorem Iv_at {r : Nat → Int32} {c a : Nat} (h : Iv r) (ha : a < 10) : Iv (upd r (ix c 2) (nI a)) :=
  Iv_upd h ⟨by simp only [ix]; omega, fun q => by simp only [ix] at q; omega, fun e he q => by simp only [ix] at q; omega, fun e he q => by simp only [ix] at q; omega, fun c hc => ⟨fun q => by simp only [ix] at q; omega, fun q => by simp only [ix] at q; omega, fun q => ⟨a, ha, rfl⟩, fun q => by simp only [ix] at q; omega, fun q => by simp only [ix] at q; omega, fun q => by simp only [ix] at q; omega⟩⟩
theorem Iv_way {r : Nat → Int32} {c : Nat} {v : Int32} (h : Iv r) (hv : v = nI 0 ∨ v = nI 1) : Iv (upd r (ix c 3) v) :=
  Iv_upd h ⟨by simp only [ix]; omega, fun q => by simp only [ix] at q; omega, fun e he q => by simp only [ix] at q; omega, fun e he q => by simp only [ix] at q; omega, fun c hc => ⟨fun q => by simp only [ix] at q; omega, fun q => by simp only [ix] at q; omega, fun q => by simp only [ix] at q; omega, fun q => hv, fun q => by simp only [ix] at q; omega, fun q => by simp only [ix] at q; omega⟩⟩
theorem Iv_book {r : Nat → Int32} {c : Nat} {v : Int32} (h : Iv r) (h1 : 0 ≤ v.toInt) (h2 : v.toInt ≤ 9999) : Iv (upd r (ix c 4) v) :=
  Iv_upd h ⟨by simp only [ix]; omega, fun q => by simp only [ix] at q; omega, fun e he q => by simp only [ix] at q; omega, fun e he q => by simp only [ix] at q; omega, fun c hc => ⟨fun q => by simp only [ix] at q; omega, fun q => by simp only [ix] at q; omega, fun q => by simp only [ix] at q; omega, fun q => by simp only [ix] at q; omega, fun q => ⟨h1, h2⟩, fun q => by simp only [ix] at q; omega⟩⟩
theorem Iv_rests {r : Nat → Int32} {c : Nat} {v : Int32} (h : Iv r) (hv : v = nI 0 ∨ v = nI 1) : Iv (upd r (ix c 5) v) :=
  Iv_upd h ⟨by simp only [ix]; omega, fun q => by simp only [ix] at q; omega, fun e he q => by simp only [ix] at q; omega, fun e he q => by simp only [ix] at q; omega, fun c hc => ⟨fun q => by simp only [ix] at q; omega, fun q => by simp only [ix] at q; omega, fun q => by simp only [ix] at q; omega, fun q => by simp only [ix] at q; omega, fun q => by simp only [ix] at q; omega, fun q => hv⟩⟩
/-! whole numbers out of ints -/
theorem ti_add {a b : Int32} (h1 : -2147483648 ≤ a.toInt + b.toInt) (h2 : a.toInt + b.toInt < 2147483648) : (a + b).toInt = a.toInt + b.toInt := by
  rw [Int32.toInt_add]
  exact Int.bmod_eq_of_le (by omega) (by omega)
theorem ti_sub {a b : Int32} (h1 : -2147483648 ≤ a.toInt - b.toInt) (h2 : a.toInt - b.toInt < 2147483648) : (a - b).toInt = a.toInt - b.toInt := by
  rw [Int32.toInt_sub]
  exact Int.bmod_eq_of_le (by omega) (by omega)
theorem ti_lt (a b : Int32) : a < b ↔ a.toInt < b.toInt := Int32.lt_iff_toInt_lt
theorem ti_le (a b : Int32) : a ≤ b ↔ a.toInt ≤ b.toInt := Int32.le_iff_toInt_le
theorem ti_eq (a b : Int32) : a = b ↔ a.toInt = b.toInt := Int32.toInt_inj.symm
theorem ti_n (n : Nat) (h : n < 2147483648) : (nI n).toInt = (n : Int) := nI_toInt (by omega)
theorem ti_mn (a b : Int32) : (mn a b).toInt = if a.toInt < b.toInt then a.toInt else b.toInt := by
  unfold mn
  by_cases h : a < b
  · rw [if_pos h, if_pos ((ti_lt a b).mp h)]
  · rw [if_neg h, if_neg (fun q => h ((ti_lt a b).mpr q))]
theorem ti_mx (a b : Int32) : (mx a b).toInt = if b.toInt < a.toInt then a.toInt else b.toInt := by
  unfold mx
  by_cases h : b < a
  · rw [if_pos h, if_pos ((ti_lt b a).mp h)]
  · rw [if_neg h, if_neg (fun q => h ((ti_lt b a).mpr q))]
theorem ti_lo (a : Int32) : -2147483648 ≤ a.toInt := a.minValue_le_toInt
theorem ti_hi (a : Int32) : a.toInt < 2147483648 := a.toInt_lt
theorem givesR_is {r : Nat → Int32} {d to : Nat} {w : Int32} (hd : d < 10) (ht : to < 10) (hne : to ≠ d) : givesR r d to w = upd (upd (upd (upd r 3 (r 3 + gvL r d to w)) (15 + d) (r (15 + d) - gvL r d to w)) (5 + d) (r (5 + d) - gvV r d to w)) (5 + to) (r (5 + to) + gvV r d to w) := by
  funext i
  simp only [givesR, gv3, gv2, gv1]
  have e1 : ¬ 15 + d = 5 + d := by omega
  have e2 : ¬ 3 = 15 + d := by omega
  have e3 : ¬ 3 = 5 + d := by omega
  have e4 : ¬ 5 + to = 3 := by omega
  have e5 : ¬ 5 + to = 15 + d := by omega
  have e6 : ¬ 5 + to = 5 + d := by omega
  rw [upd_ne _ e1, upd_ne _ e2, upd_ne _ e3, upd_ne _ e4, upd_ne _ e5, upd_ne _ e6]
  by_cases q1 : i = 5 + to
  · rw [q1, upd_at, upd_at]
  · rw [upd_ne _ q1, upd_ne _ q1]
    by_cases q2 : i = 5 + d
    · rw [q2, upd_at, upd_ne _ (by omega : ¬ 5 + d = 3), upd_ne _ (by omega : ¬ 5 + d = 15 + d), upd_at]
    · rw [upd_ne _ q2]
      by_cases q3 : i = 15 + d
      · rw [q3, upd_at, upd_ne _ (by omega : ¬ 15 + d = 3), upd_at]
      · rw [upd_ne _ q3]
        by_cases q4 : i = 3
        · rw [q4, upd_at, upd_at]
        · rw [upd_ne _ q4, upd_ne _ q4, upd_ne _ q3, upd_ne _ q2]
theorem Iv_gives {r : Nat → Int32} {d to : Nat} {w : Int32} (h : Iv r) (hd : d < 10) (ht : to < 10) (hne : to ≠ d) (hw : 0 ≤ w.toInt) : Iv (givesR r d to w) := by
  obtain ⟨a1, a2, a3⟩ := h.2.1 d hd
  obtain ⟨b1, b2, b3⟩ := h.2.1 to ht
  have e999 : (nI 999).toInt = 999 := ti_n 999 (by decide)
  have e0 : (nI 0).toInt = 0 := ti_n 0 (by decide)
  have hs : (nI 999 - r (5 + to)).toInt = 999 - (r (5 + to)).toInt := by rw [ti_sub (by omega) (by omega), e999]
  have hv : 0 ≤ (gvV r d to w).toInt ∧ (gvV r d to w).toInt ≤ (r (5 + d)).toInt ∧ (gvV r d to w).toInt ≤ 999 - (r (5 + to)).toInt := by
    unfold gvV
    rw [ti_mn, ti_mn, hs]
    repeat' split
    all_goals omega
  have hf : (lf r d).toInt = (r (5 + d)).toInt - (r (15 + d)).toInt := by unfold lf; rw [ti_sub (by omega) (by omega)]
  have hl : 0 ≤ (gvL r d to w).toInt ∧ (gvL r d to w).toInt ≤ (r (15 + d)).toInt ∧ (r (15 + d)).toInt - (gvL r d to w).toInt ≤ (r (5 + d)).toInt - (gvV r d to w).toInt := by
    unfold gvL
    rw [ti_mx, ti_sub (by omega) (by omega), hf, e0]
    split <;> omega
  rw [givesR_is hd ht hne]
  have s1 := Iv_free (v := r 3 + gvL r d to w) h (Or.inr (Or.inl rfl) : (3 = 1 ∨ 3 = 3 ∨ 3 = 4))
  have k1 : ∀ j, 5 ≤ j → upd r 3 (r 3 + gvL r d to w) j = r j := fun j hj => upd_ne _ (by omega)
  have t1 : (r (15 + d) - gvL r d to w).toInt = (r (15 + d)).toInt - (gvL r d to w).toInt := ti_sub (by omega) (by omega)
  have s2 := Iv_done (v := r (15 + d) - gvL r d to w) s1 hd (by omega) (by rw [k1 _ (by omega)]; omega)
  have t2 : (r (5 + d) - gvV r d to w).toInt = (r (5 + d)).toInt - (gvV r d to w).toInt := ti_sub (by omega) (by omega)
  have s3 := Iv_grain (v := r (5 + d) - gvV r d to w) s2 hd (by rw [upd_at]; omega) (by omega)
  have t3 : (r (5 + to) + gvV r d to w).toInt = (r (5 + to)).toInt + (gvV r d to w).toInt := ti_add (by omega) (by omega)
  exact Iv_grain s3 ht (by rw [upd_ne _ (by omega), upd_ne _ (by omega), k1 _ (by omega)]; omega) (by omega)
