/-! who rests, bit by bit -/
def bsel (b0 b1 b2 b3 b4 b5 : Bool) (c : Nat) : Bool := match c with
  | 0 => b0
  | 1 => b1
  | 2 => b2
  | 3 => b3
  | 4 => b4
  | _ => b5
def restB (n : Nat) (f : Nat → Bool) : Int32 := it (fun c s => s ||| (bI (f c) <<< (nI c &&& 31))) n (nI 0)
theorem restB_6 {n : Nat} (hn : n ≤ 6) (f : Nat → Bool) : restB n f = restB n (bsel (f 0) (f 1) (f 2) (f 3) (f 4) (f 5)) := by
  refine it_cong (fun i s hi => ?_)
  rcases (show i = 0 ∨ i = 1 ∨ i = 2 ∨ i = 3 ∨ i = 4 ∨ i = 5 by omega) with rfl | rfl | rfl | rfl | rfl | rfl <;> rfl
theorem restB_has6 : ∀ n, n < 7 → ∀ c, c < n → ∀ b0 b1 b2 b3 b4 b5 : Bool, hasb (restB n (bsel b0 b1 b2 b3 b4 b5)) (nI c) = bsel b0 b1 b2 b3 b4 b5 c := by decide +kernel
theorem restB_turn6 : ∀ n, n < 7 → ∀ c, c < n → ∀ b0 b1 b2 b3 b4 b5 : Bool, restB n (bsel (if 0 = c then !b0 else b0) (if 1 = c then !b1 else b1) (if 2 = c then !b2 else b2) (if 3 = c then !b3 else b3) (if 4 = c then !b4 else b4) (if 5 = c then !b5 else b5)) = restB n (bsel b0 b1 b2 b3 b4 b5) ^^^ (nI 1 <<< (nI c &&& 31)) := by decide +kernel
theorem restB_set6 : ∀ n, n < 7 → ∀ c, c < n → ∀ b0 b1 b2 b3 b4 b5 : Bool, restB n (bsel (if 0 = c then true else b0) (if 1 = c then true else b1) (if 2 = c then true else b2) (if 3 = c then true else b3) (if 4 = c then true else b4) (if 5 = c then true else b5)) = restB n (bsel b0 b1 b2 b3 b4 b5) ||| (nI 1 <<< (nI c &&& 31)) := by decide +kernel
theorem restB_clear6 : ∀ n, n < 7 → ∀ c, c < n → ∀ a, a < n → ∀ b0 b1 b2 b3 b4 b5 : Bool, restB n (bsel (if 0 = c ∨ 0 = a then false else b0) (if 1 = c ∨ 1 = a then false else b1) (if 2 = c ∨ 2 = a then false else b2) (if 3 = c ∨ 3 = a then false else b3) (if 4 = c ∨ 4 = a then false else b4) (if 5 = c ∨ 5 = a then false else b5)) = restB n (bsel b0 b1 b2 b3 b4 b5) &&& (((nI 1 <<< (nI c &&& 31)) ||| (nI 1 <<< (nI a &&& 31))) ^^^ (-1)) := by decide +kernel
def rsB (r : Nat → Int32) (c : Nat) : Bool := decide (r (ix c 5) = nI 1)
theorem rs_bI {r : Nat → Int32} {c : Nat} (h : r (ix c 5) = nI 0 ∨ r (ix c 5) = nI 1) : r (ix c 5) = bI (rsB r c) := by
  unfold rsB
  rcases h with h | h <;> rw [h] <;> rfl
theorem restR_B {r : Nat → Int32} (h : Iv r) : restR r = restB (many r) (rsB r) :=
  it_cong (fun c s hc => by unfold restF; rw [← rs_bI (h.2.2.1 c hc).2.2.2.2.2])
theorem restR_has {r : Nat → Int32} {c : Nat} (h : Iv r) (hc : c < many r) : hasb (restR r) (nI c) = decide (r (ix c 5) = nI 1) := by
  have h6 := h.1.2
  rw [restR_B h, restB_6 h6, restB_has6 _ (by omega) c hc]
  show _ = rsB r c
  rcases (show c = 0 ∨ c = 1 ∨ c = 2 ∨ c = 3 ∨ c = 4 ∨ c = 5 by omega) with rfl | rfl | rfl | rfl | rfl | rfl <;> rfl
theorem ix5_inj {a c : Nat} : ix a 5 = ix c 5 ↔ a = c := by simp only [ix]; omega
theorem rsB_upd {r : Nat → Int32} {c i : Nat} {v : Int32} : rsB (upd r (ix c 5) v) i = if i = c then decide (v = nI 1) else rsB r i := by
  unfold rsB
  by_cases q : i = c
  · rw [q, upd_at, if_pos rfl]
  · rw [upd_ne _ (fun z => q (ix5_inj.mp z)), if_neg q]
theorem restR_turn {r : Nat → Int32} {c : Nat} (h : Iv r) (hc : c < many r) : restR (upd r (ix c 5) (r (ix c 5) ^^^ nI 1)) = restR r ^^^ (nI 1 <<< (nI c &&& 31)) := by
  have h6 := h.1.2
  have hv : r (ix c 5) ^^^ nI 1 = bI (!(rsB r c)) := by
    rw [rs_bI (h.2.2.1 c hc).2.2.2.2.2]
    cases rsB r c <;> rfl
  have hv2 : r (ix c 5) ^^^ nI 1 = nI 0 ∨ r (ix c 5) ^^^ nI 1 = nI 1 := by
    rw [hv]
    cases rsB r c
    · exact Or.inr rfl
    · exact Or.inl rfl
  have hI2 : Iv (upd r (ix c 5) (r (ix c 5) ^^^ nI 1)) := Iv_rests h hv2
  have hm : many (upd r (ix c 5) (r (ix c 5) ^^^ nI 1)) = many r := many_upd (by simp only [ix]; omega)
  have hf : ∀ i, rsB (upd r (ix c 5) (r (ix c 5) ^^^ nI 1)) i = if i = c then !(rsB r i) else rsB r i := by
    intro i
    rw [rsB_upd, hv]
    by_cases q : i = c
    · rw [if_pos q, if_pos q, q]
      cases rsB r c <;> rfl
    · rw [if_neg q, if_neg q]
  rw [restR_B hI2, restR_B h, hm, restB_6 h6, restB_6 h6 (rsB r), hf, hf, hf, hf, hf, hf]
  exact restB_turn6 _ (by omega) c hc _ _ _ _ _ _
theorem restR_set {r : Nat → Int32} {c : Nat} (h : Iv r) (hc : c < many r) : restR (upd r (ix c 5) (nI 1)) = restR r ||| (nI 1 <<< (nI c &&& 31)) := by
  have h6 := h.1.2
  have hI2 : Iv (upd r (ix c 5) (nI 1)) := Iv_rests h (Or.inr rfl)
  have hm : many (upd r (ix c 5) (nI 1)) = many r := many_upd (by simp only [ix]; omega)
  have hf : ∀ i, rsB (upd r (ix c 5) (nI 1)) i = if i = c then true else rsB r i := by
    intro i
    rw [rsB_upd]
    rfl
  rw [restR_B hI2, restR_B h, hm, restB_6 h6, restB_6 h6 (rsB r), hf, hf, hf, hf, hf, hf]
  exact restB_set6 _ (by omega) c hc _ _ _ _ _ _
theorem restR_clear {r : Nat → Int32} {c a : Nat} (h : Iv r) (hc : c < many r) (ha : a < many r) : restR (upd (upd r (ix c 5) (nI 0)) (ix a 5) (nI 0)) = restR r &&& (((nI 1 <<< (nI c &&& 31)) ||| (nI 1 <<< (nI a &&& 31))) ^^^ (-1)) := by
  have h6 := h.1.2
  have hI2 : Iv (upd (upd r (ix c 5) (nI 0)) (ix a 5) (nI 0)) := Iv_rests (Iv_rests h (Or.inl rfl)) (Or.inl rfl)
  have hm : many (upd (upd r (ix c 5) (nI 0)) (ix a 5) (nI 0)) = many r := (many_upd (by simp only [ix]; omega)).trans (many_upd (by simp only [ix]; omega))
  have hf : ∀ i, rsB (upd (upd r (ix c 5) (nI 0)) (ix a 5) (nI 0)) i = if i = c ∨ i = a then false else rsB r i := by
    intro i
    rw [rsB_upd, rsB_upd]
    by_cases q : i = a
    · rw [if_pos q, if_pos (Or.inr q)]; rfl
    · rw [if_neg q]
      by_cases q2 : i = c
      · rw [if_pos q2, if_pos (Or.inl q2)]; rfl
      · rw [if_neg q2, if_neg (fun z => z.elim q2 q)]
  rw [restR_B hI2, restR_B h, hm, restB_6 h6, restB_6 h6 (rsB r), hf, hf, hf, hf, hf, hf]
  exact restB_clear6 _ (by omega) c hc a ha _ _ _ _ _ _
