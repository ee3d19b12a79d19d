/-! more of the row, and of a desert -/
def sumR (r : Nat → Int32) (k : Nat) : Int32 := it (fun d v => v + r (k + d)) 10 (nI 0)
def whoR (r : Nat → Int32) (x : Int32) : Int32 := it (fun c s => s ||| (if r (ix c 2) = x then nI 1 <<< (nI c &&& 31) else nI 0)) (many r) (nI 0)
def addR (r : Nat → Int32) (k f d w : Int32) : Nat → Int32 := upd (upd (upd (upd (upd (upd (upd r (ix (many r) 0) k) (ix (many r) 1) f) (ix (many r) 2) d) (ix (many r) 3) w) (ix (many r) 4) (nI 0)) (ix (many r) 5) (nI 0)) 0 (r 0 + nI 1)
theorem addR_0 {r : Nat → Int32} (k f d w : Int32) (h : r 0 = nI (many r)) (h6 : many r < 6) : addR r k f d w 0 = nI (many r + 1) ∧ many (addR r k f d w) = many r + 1 := by
  have e : addR r k f d w 0 = nI (many r + 1) := by
    unfold addR
    rw [upd_at, h, nI_add]
  refine ⟨e, ?_⟩
  unfold many at e ⊢
  rw [e, nI_clamp (by unfold many at h6; omega)]
theorem addR_ne {r : Nat → Int32} {k f d w : Int32} {j : Nat} (h0 : j ≠ 0) (h : j < 25 + 6 * many r ∨ 25 + 6 * many r + 6 ≤ j) : addR r k f d w j = r j := by
  unfold addR
  simp only [ix]
  rw [upd_ne _ (by omega), upd_ne _ (by omega), upd_ne _ (by omega), upd_ne _ (by omega), upd_ne _ (by omega), upd_ne _ (by omega), upd_ne _ (by omega)]
theorem addR_new {r : Nat → Int32} {k f d w : Int32} : addR r k f d w (ix (many r) 0) = k ∧ addR r k f d w (ix (many r) 1) = f ∧ addR r k f d w (ix (many r) 2) = d ∧ addR r k f d w (ix (many r) 3) = w ∧ addR r k f d w (ix (many r) 4) = nI 0 ∧ addR r k f d w (ix (many r) 5) = nI 0 := by
  unfold addR
  simp only [ix]
  refine ⟨?_, ?_, ?_, ?_, ?_, ?_⟩
  · rw [upd_ne _ (by omega), upd_ne _ (by omega), upd_ne _ (by omega), upd_ne _ (by omega), upd_ne _ (by omega), upd_ne _ (by omega), upd_at]
  · rw [upd_ne _ (by omega), upd_ne _ (by omega), upd_ne _ (by omega), upd_ne _ (by omega), upd_ne _ (by omega), upd_at]
  · rw [upd_ne _ (by omega), upd_ne _ (by omega), upd_ne _ (by omega), upd_ne _ (by omega), upd_at]
  · rw [upd_ne _ (by omega), upd_ne _ (by omega), upd_ne _ (by omega), upd_at]
  · rw [upd_ne _ (by omega), upd_ne _ (by omega), upd_at]
  · rw [upd_ne _ (by omega), upd_at]
theorem Iv_add {r : Nat → Int32} {k f d : Nat} {w : Int32} (h : Iv r) (h6 : many r < 6) (hk : k < 8) (hf : f < 10) (hd : d < 10) (hw : w = nI 0 ∨ w = nI 1) : Iv (addR r (nI k) (nI f) (nI d) w) := by
  obtain ⟨e0, em⟩ := addR_0 (nI k) (nI f) (nI d) w h.1.1 h6
  refine ⟨⟨by rw [em]; exact e0, by rw [em]; omega⟩, fun e he => ?_, fun c hc => ?_, ?_⟩
  · rw [addR_ne (by omega) (by omega), addR_ne (by omega) (by omega)]; exact h.2.1 e he
  · rw [em] at hc
    by_cases q : c = many r
    · subst q
      obtain ⟨n0, n1, n2, n3, n4, n5⟩ := addR_new (r := r) (k := nI k) (f := nI f) (d := nI d) (w := w)
      refine ⟨⟨k, hk, n0⟩, ⟨f, hf, n1⟩, ?_, ?_, ?_, ?_⟩
      · have e : atN (addR r (nI k) (nI f) (nI d) w) (many r) = d := by unfold atN; rw [n2, nI_clamp (by omega)]
        rw [e, n2]; exact ⟨rfl, hd⟩
      · rw [n3]; exact hw
      · rw [n4]; decide
      · rw [n5]; exact Or.inl rfl
    · have g : ∀ z, z < 6 → addR r (nI k) (nI f) (nI d) w (ix c z) = r (ix c z) := fun z hz => addR_ne (by simp only [ix]; omega) (by simp only [ix]; omega)
      unfold atN
      rw [g 0 (by omega), g 1 (by omega), g 2 (by omega), g 3 (by omega), g 4 (by omega), g 5 (by omega)]
      exact h.2.2.1 c (by omega)
  · rw [addR_ne (by omega) (by omega)]; exact h.2.2.2
theorem NW0 {r : Nat → Int32} (h : Iv r) (h4 : r 4 = nI 0) : NW r := by
  intro c hc hw
  rw [h4] at hw
  have := h.1.2
  rcases (show c = 0 ∨ c = 1 ∨ c = 2 ∨ c = 3 ∨ c = 4 ∨ c = 5 by omega) with rfl | rfl | rfl | rfl | rfl | rfl <;> exact absurd hw (by decide)
theorem shl0 (n : Nat) (h : n < 6) (s : Int32) : s ||| (nI 0 <<< (nI n &&& 31)) = s := by
  have e : nI 0 <<< (nI n &&& 31) = 0 := by
    rcases (show n = 0 ∨ n = 1 ∨ n = 2 ∨ n = 3 ∨ n = 4 ∨ n = 5 by omega) with rfl | rfl | rfl | rfl | rfl | rfl <;> decide
  rw [e]
  exact Int32.or_zero
theorem restR_add {r : Nat → Int32} (k f d w : Int32) (h : r 0 = nI (many r)) (h6 : many r < 6) : restR (addR r k f d w) = restR r := by
  obtain ⟨e0, em⟩ := addR_0 k f d w h h6
  unfold restR
  rw [em, it_succ]
  have e : it (restF (addR r k f d w)) (many r) (nI 0) = it (restF r) (many r) (nI 0) := it_cong (fun i z hi => by
    unfold restF
    rw [addR_ne (by simp only [ix]; omega) (by simp only [ix]; omega)])
  rw [e]
  unfold restF
  rw [addR_new.2.2.2.2.2]
  exact shl0 _ h6 _
theorem Rel_add {b : Int32} {X : DX} {r : Nat → Int32} {k f d w : Int32} (h : Rel b X r) (hI : Iv r) (h6 : many r < 6) :
    Rel b (sN (sB (sY (sA (sF (sK X (upd (dK X) (many r) k)) (upd (dF X) (many r) f)) (upd (dA X) (many r) d)) (upd (dY X) (many r) w)) (upd (dB X) (many r) (nI 0))) (dN X + nI 1)) (addR r k f d w) := by
  obtain ⟨e0, em⟩ := addR_0 k f d w hI.1.1 h6
  obtain ⟨⟨a1, a2, a3, a4, a5, a6⟩, a7, a8, a9⟩ := h
  refine ⟨⟨?_, ?_, ?_, ?_, ?_, ?_⟩, ?_, fun e he => ?_, fun c hc => ?_⟩
  · show dN X + nI 1 = _
    rw [e0, a1, hI.1.1, nI_add]
  · rw [addR_ne (by omega) (by omega)]; exact a2
  · rw [addR_ne (by omega) (by omega)]; exact a3
  · rw [addR_ne (by omega) (by omega)]; exact a4
  · rw [addR_ne (by omega) (by omega)]; exact a5
  · exact a6.trans (restR_add k f d w hI.1.1 h6).symm
  · intro c hc hw
    rw [em] at hc
    rw [addR_ne (by omega) (by omega)] at hw
    by_cases q : c = many r
    · rw [q, addR_new.2.2.2.2.2]; decide
    · rw [addR_ne (by simp only [ix]; omega) (by simp only [ix]; omega)]
      exact a7 c (by omega) hw
  · rw [addR_ne (by omega) (by omega), addR_ne (by omega) (by omega)]; exact a8 e he
  · rw [em] at hc
    by_cases q : c = many r
    · subst q
      obtain ⟨n0, n1, n2, n3, n4, n5⟩ := addR_new (r := r) (k := k) (f := f) (d := d) (w := w)
      rw [n0, n1, n2, n3, n4]
      exact ⟨upd_at _ _ _, upd_at _ _ _, upd_at _ _ _, upd_at _ _ _, upd_at _ _ _⟩
    · have g : ∀ z, z < 6 → addR r k f d w (ix c z) = r (ix c z) := fun z hz => addR_ne (by simp only [ix]; omega) (by simp only [ix]; omega)
      rw [g 0 (by omega), g 1 (by omega), g 2 (by omega), g 3 (by omega), g 4 (by omega)]
      obtain ⟨y0, y1, y2, y3, y4⟩ := a9 c (by omega)
      exact ⟨(upd_ne _ q).trans y0, (upd_ne _ q).trans y1, (upd_ne _ q).trans y2, (upd_ne _ q).trans y3, (upd_ne _ q).trans y4⟩
theorem hasb0 {c : Nat} (h : c < 6) : hasb (nI 0) (nI c) = false := by
  rcases (show c = 0 ∨ c = 1 ∨ c = 2 ∨ c = 3 ∨ c = 4 ∨ c = 5 by omega) with rfl | rfl | rfl | rfl | rfl | rfl <;> decide
/-- who rests changes, with its bits -/
theorem Rel_rests {b : Int32} {X : DX} {r : Nat → Int32} {c : Nat} {v z : Int32} (h : Rel b X r) (hz : z = restR (upd r (ix c 5) v)) (hn : NW (upd r (ix c 5) v)) : Rel b (sR X z) (upd r (ix c 5) v) := by
  obtain ⟨⟨a1, a2, a3, a4, a5, a6⟩, a7, a8, a9⟩ := h
  refine ⟨⟨?_, ?_, ?_, ?_, ?_, hz⟩, hn, fun e he => ?_, fun e he => ?_⟩
  · rw [upd_ne _ (by simp only [ix]; omega)]; exact a1
  · rw [upd_ne _ (by simp only [ix]; omega)]; exact a2
  · rw [upd_ne _ (by simp only [ix]; omega)]; exact a3
  · rw [upd_ne _ (by simp only [ix]; omega)]; exact a4
  · rw [upd_ne _ (by simp only [ix]; omega)]; exact a5
  · rw [upd_ne _ (by simp only [ix]; omega), upd_ne _ (by simp only [ix]; omega)]; exact a8 e he
  · rw [many_upd (by simp only [ix]; omega)] at he
    simp only [ix]
    rw [upd_ne _ (by omega), upd_ne _ (by omega), upd_ne _ (by omega), upd_ne _ (by omega), upd_ne _ (by omega)]
    exact a9 e he
def turnR (r : Nat → Int32) (c : Nat) : Nat → Int32 := upd r (ix c 5) (r (ix c 5) ^^^ nI 1)
theorem turn_01 {x : Int32} (h : x = nI 0 ∨ x = nI 1) : x ^^^ nI 1 = nI 0 ∨ x ^^^ nI 1 = nI 1 := by
  rcases h with rfl | rfl
  · exact Or.inr (by decide)
  · exact Or.inl (by decide)
theorem Iv_turn {r : Nat → Int32} {c : Nat} (h : Iv r) (hc : c < many r) : Iv (turnR r c) := Iv_rests h (turn_01 (h.2.2.1 c hc).2.2.2.2.2)
theorem Rel_turn {b : Int32} {X : DX} {r : Nat → Int32} {c : Nat} (h : Rel b X r) (hI : Iv r) (hc : c < many r) (h4 : r 4 = nI 0) : Rel b (sR X (dR X ^^^ (nI 1 <<< (nI c &&& 31)))) (turnR r c) :=
  Rel_rests h (by rw [restR_turn hI hc, h.1.2.2.2.2.2]) (NW0 (Iv_turn hI hc) ((upd_ne _ (by simp only [ix]; omega)).trans h4))
theorem Rel_fill {b : Int32} {X : DX} {r : Nat → Int32} {d : Nat} {v : Int32} (h : Rel b X r) (hd : d < 10) : Rel b (sD (sG X (upd (dG X) d v)) (upd (dD X) d (nI 0))) (fillR r d v) := Rel_done (Rel_grain h hd) hd
theorem flood1_at {r : Nat → Int32} : ∀ i d, it (fun d r => upd r (15 + d) (nI 0)) i r (15 + d) = if d < i then nI 0 else r (15 + d)
  | 0, d => (if_neg (by omega)).symm
  | i + 1, d => by
    rw [it_succ]
    by_cases q : d = i
    · subst q; rw [upd_at, if_pos (by omega)]
    · rw [upd_ne _ (by omega), flood1_at i d]
      by_cases q2 : d < i
      · rw [if_pos q2, if_pos (by omega)]
      · rw [if_neg q2, if_neg (by omega)]
theorem flood1_ne {r : Nat → Int32} {j : Nat} : ∀ i, i ≤ 10 → (j < 15 ∨ 25 ≤ j) → it (fun d r => upd r (15 + d) (nI 0)) i r j = r j
  | 0, _, _ => rfl
  | i + 1, hi, h => by rw [it_succ, upd_ne _ (by omega), flood1_ne i (by omega) h]
theorem flood2_at {r : Nat → Int32} : ∀ i c, it (fun c r => upd r (ix c 4) (nI 0)) i r (ix c 4) = if c < i then nI 0 else r (ix c 4)
  | 0, c => (if_neg (by omega)).symm
  | i + 1, c => by
    rw [it_succ]
    by_cases q : c = i
    · subst q; rw [upd_at, if_pos (by omega)]
    · rw [upd_ne _ (by simp only [ix]; omega), flood2_at i c]
      by_cases q2 : c < i
      · rw [if_pos q2, if_pos (by omega)]
      · rw [if_neg q2, if_neg (by omega)]
theorem flood2_ne {r : Nat → Int32} {j : Nat} : ∀ i, (∀ c, j ≠ 25 + 6 * c + 4) → it (fun c r => upd r (ix c 4) (nI 0)) i r j = r j
  | 0, _ => rfl
  | i + 1, h => by rw [it_succ, upd_ne _ (by simp only [ix]; exact h i), flood2_ne i h]
theorem floodR_ne {r : Nat → Int32} {j : Nat} (h : j < 15 ∨ 25 ≤ j) (h2 : ∀ c, j ≠ 25 + 6 * c + 4) : floodR r j = r j := by
  unfold floodR
  rw [flood2_ne _ h2, flood1_ne 10 (by omega) h]
theorem Rel_flood {b : Int32} {X X' : DX} {r : Nat → Int32} (h : Rel b X r) (h1 : dG X' = dG X ∧ dK X' = dK X ∧ dF X' = dF X ∧ dA X' = dA X ∧ dY X' = dY X ∧ X'.2.2.2.2.2.2.2 = X.2.2.2.2.2.2.2) (hD : ∀ d, d < 10 → dD X' d = nI 0) (hB : ∀ c, c < 6 → dB X' c = nI 0) (h6 : many r ≤ 6) : Rel b X' (floodR r) := by
  obtain ⟨⟨a1, a2, a3, a4, a5, a6⟩, a7, a8, a9⟩ := h
  obtain ⟨g1, g2, g3, g4, g5, g6⟩ := h1
  have lo : ∀ j, j < 15 → floodR r j = r j := fun j hj => floodR_ne (by omega) (fun c => by omega)
  have r5 : ∀ c, floodR r (ix c 5) = r (ix c 5) := fun c => floodR_ne (by simp only [ix]; omega) (fun e => by simp only [ix]; omega)
  refine ⟨⟨?_, ?_, ?_, ?_, ?_, ?_⟩, NW_cong a7 (lo 0 (by omega)) (lo 4 (by omega)) (fun c _ => r5 c), fun e he => ⟨?_, ?_⟩, fun c hc => ?_⟩
  · rw [lo 0 (by omega)]; exact (congrArg (fun z => z.1) g6).trans a1
  · rw [lo 1 (by omega)]; exact (congrArg (fun z => z.2.2.2.2.1) g6).trans a2
  · rw [lo 2 (by omega)]; exact (congrArg (fun z => z.2.2.2.1) g6).trans a3
  · rw [lo 4 (by omega)]; exact (congrArg (fun z => z.2.2.1) g6).trans a4
  · rw [lo 3 (by omega)]; exact (congrArg (fun z => z.2.2.2.2.2) g6).trans a5
  · rw [restR_cong (lo 0 (by omega)) (fun c _ => r5 c)]; exact (congrArg (fun z => z.2.1) g6).trans a6
  · rw [lo _ (by omega), g1]; exact (a8 e he).1
  · rw [hD e he]
    unfold floodR
    rw [flood2_ne _ (fun c => by omega), flood1_at, if_pos he]
  · rw [many_of (lo 0 (by omega))] at hc
    have z : ∀ w, w < 4 → floodR r (ix c w) = r (ix c w) := fun w hw => floodR_ne (by simp only [ix]; omega) (fun e => by simp only [ix]; omega)
    obtain ⟨y0, y1, y2, y3, y4⟩ := a9 c hc
    rw [z 0 (by omega), z 1 (by omega), z 2 (by omega), z 3 (by omega), g2, g3, g4, g5]
    refine ⟨y0, y1, y2, y3, ?_⟩
    rw [hB c (by omega)]
    unfold floodR
    rw [flood2_at, if_pos hc]
