def mn (a b : Int32) : Int32 := if a < b then a else b
def mx (a b : Int32) : Int32 := if b < a then a else b
theorem mmin_eq (a b : Int32) : (if b < a then b else a) = mn a b := by
  unfold mn
  by_cases h : b < a
  · rw [if_pos h, if_neg (fun q => Int32.lt_irrefl (Int32.lt_trans h q))]
  · rw [if_neg h]
    by_cases h2 : a < b
    · rw [if_pos h2]
    · rw [if_neg h2]
      exact Int32.le_antisymm (Int32.not_lt.mp h) (Int32.not_lt.mp h2)
theorem mmax_eq (a b : Int32) : (if a < b then b else a) = mx a b := by
  unfold mx
  by_cases h : a < b
  · rw [if_pos h, if_neg (fun q => Int32.lt_irrefl (Int32.lt_trans h q))]
  · rw [if_neg h]
    by_cases h2 : b < a
    · rw [if_pos h2]
    · rw [if_neg h2]
      exact Int32.le_antisymm (Int32.not_lt.mp h2) (Int32.not_lt.mp h)
theorem g_mminM {K : Cx} {own : String} {cc : ByteArray} {nL fr mc ms k n pc : Nat} {ls : List (Nat × Value)} {st : List Value} {hp : Hp} (F : Fx K own cc nL fr mc ms) {idx : Nat} {x y : Int32} (d : decode cc pc = .ok (.invokestatic idx, 3)) (hl : Cond.methodLink own idx Lib.Math.min.name ∈ TB) (hf : 1 ≤ fr) (hr : (st.map fun v => v.category).sum ≤ 8) (hk : k ≤ mc) (hn : n ≤ ms) (kk : Go K k n (pc + 3) (ls) (.int (mn x y) :: st) (hp)) : Go K k n (pc) (ls) (.int y :: .int x :: st) (hp) := g_mmin F d hl hf hr hk hn (by rw [mmin_eq]; exact kk)
theorem g_mmaxM {K : Cx} {own : String} {cc : ByteArray} {nL fr mc ms k n pc : Nat} {ls : List (Nat × Value)} {st : List Value} {hp : Hp} (F : Fx K own cc nL fr mc ms) {idx : Nat} {x y : Int32} (d : decode cc pc = .ok (.invokestatic idx, 3)) (hl : Cond.methodLink own idx Lib.Math.max.name ∈ TB) (hf : 1 ≤ fr) (hr : (st.map fun v => v.category).sum ≤ 8) (hk : k ≤ mc) (hn : n ≤ ms) (kk : Go K k n (pc + 3) (ls) (.int (mx x y) :: st) (hp)) : Go K k n (pc) (ls) (.int y :: .int x :: st) (hp) := g_mmax F d hl hf hr hk hn (by rw [mmax_eq]; exact kk)
