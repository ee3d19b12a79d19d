/-! A DESERT OF THE CLASS: its cells, and how it stands to the reference's row -/
abbrev DX : Type := (Nat → Int32) × (Nat → Int32) × (Nat → Int32) × (Nat → Int32) × (Nat → Int32) × (Nat → Int32) × (Nat → Int32) × Int32 × Int32 × Int32 × Int32 × Int32 × Int32
abbrev dG (X : DX) : Nat → Int32 := X.1
abbrev dD (X : DX) : Nat → Int32 := X.2.1
abbrev dK (X : DX) : Nat → Int32 := X.2.2.1
abbrev dF (X : DX) : Nat → Int32 := X.2.2.2.1
abbrev dA (X : DX) : Nat → Int32 := X.2.2.2.2.1
abbrev dY (X : DX) : Nat → Int32 := X.2.2.2.2.2.1
abbrev dB (X : DX) : Nat → Int32 := X.2.2.2.2.2.2.1
abbrev dN (X : DX) : Int32 := X.2.2.2.2.2.2.2.1
abbrev dR (X : DX) : Int32 := X.2.2.2.2.2.2.2.2.1
abbrev dWr (X : DX) : Int32 := X.2.2.2.2.2.2.2.2.2.1
abbrev dWi (X : DX) : Int32 := X.2.2.2.2.2.2.2.2.2.2.1
abbrev dDy (X : DX) : Int32 := X.2.2.2.2.2.2.2.2.2.2.2.1
abbrev dBl (X : DX) : Int32 := X.2.2.2.2.2.2.2.2.2.2.2.2
abbrev sG (X : DX) (z : Nat → Int32) : DX := (z, X.2)
abbrev sD (X : DX) (z : Nat → Int32) : DX := (X.1, z, X.2.2)
abbrev sK (X : DX) (z : Nat → Int32) : DX := (X.1, X.2.1, z, X.2.2.2)
abbrev sF (X : DX) (z : Nat → Int32) : DX := (X.1, X.2.1, X.2.2.1, z, X.2.2.2.2)
abbrev sA (X : DX) (z : Nat → Int32) : DX := (X.1, X.2.1, X.2.2.1, X.2.2.2.1, z, X.2.2.2.2.2)
abbrev sY (X : DX) (z : Nat → Int32) : DX := (X.1, X.2.1, X.2.2.1, X.2.2.2.1, X.2.2.2.2.1, z, X.2.2.2.2.2.2)
abbrev sB (X : DX) (z : Nat → Int32) : DX := (X.1, X.2.1, X.2.2.1, X.2.2.2.1, X.2.2.2.2.1, X.2.2.2.2.2.1, z, X.2.2.2.2.2.2.2)
abbrev sN (X : DX) (z : Int32) : DX := (X.1, X.2.1, X.2.2.1, X.2.2.2.1, X.2.2.2.2.1, X.2.2.2.2.2.1, X.2.2.2.2.2.2.1, z, X.2.2.2.2.2.2.2.2)
abbrev sR (X : DX) (z : Int32) : DX := (X.1, X.2.1, X.2.2.1, X.2.2.2.1, X.2.2.2.2.1, X.2.2.2.2.2.1, X.2.2.2.2.2.2.1, X.2.2.2.2.2.2.2.1, z, X.2.2.2.2.2.2.2.2.2)
abbrev sWr (X : DX) (z : Int32) : DX := (X.1, X.2.1, X.2.2.1, X.2.2.2.1, X.2.2.2.2.1, X.2.2.2.2.2.1, X.2.2.2.2.2.2.1, X.2.2.2.2.2.2.2.1, X.2.2.2.2.2.2.2.2.1, z, X.2.2.2.2.2.2.2.2.2.2)
abbrev sWi (X : DX) (z : Int32) : DX := (X.1, X.2.1, X.2.2.1, X.2.2.2.1, X.2.2.2.2.1, X.2.2.2.2.2.1, X.2.2.2.2.2.2.1, X.2.2.2.2.2.2.2.1, X.2.2.2.2.2.2.2.2.1, X.2.2.2.2.2.2.2.2.2.1, z, X.2.2.2.2.2.2.2.2.2.2.2)
abbrev sDy (X : DX) (z : Int32) : DX := (X.1, X.2.1, X.2.2.1, X.2.2.2.1, X.2.2.2.2.1, X.2.2.2.2.2.1, X.2.2.2.2.2.2.1, X.2.2.2.2.2.2.2.1, X.2.2.2.2.2.2.2.2.1, X.2.2.2.2.2.2.2.2.2.1, X.2.2.2.2.2.2.2.2.2.2.1, z, X.2.2.2.2.2.2.2.2.2.2.2.2)
abbrev sBl (X : DX) (z : Int32) : DX := (X.1, X.2.1, X.2.2.1, X.2.2.2.1, X.2.2.2.2.1, X.2.2.2.2.2.1, X.2.2.2.2.2.2.1, X.2.2.2.2.2.2.2.1, X.2.2.2.2.2.2.2.2.1, X.2.2.2.2.2.2.2.2.2.1, X.2.2.2.2.2.2.2.2.2.2.1, X.2.2.2.2.2.2.2.2.2.2.2.1, z)
def dW (b : Nat) (X : DX) : Hp := [.inr (0, [.ref (b + 1), .ref (b + 2), .ref (b + 3), .ref (b + 4), .ref (b + 5), .ref (b + 6), .ref (b + 7), .int (dN X), .int (dR X), .int (dWr X), .int (dWi X), .int (dDy X), .int (dBl X)]),
  .inl (.int, 10, .inl (dG X)), .inl (.int, 10, .inl (dD X)), .inl (.int, 6, .inl (dK X)), .inl (.int, 6, .inl (dF X)), .inl (.int, 6, .inl (dA X)), .inl (.int, 6, .inl (dY X)), .inl (.int, 6, .inl (dB X))]
/-- who rests, as bits -/
def restF (r : Nat → Int32) (c : Nat) (s : Int32) : Int32 := s ||| (r (ix c 5) <<< (nI c &&& 31))
def restR (r : Nat → Int32) : Int32 := it (restF r) (many r) (nI 0)
/-- nobody who writes rests -/
def NW (r : Nat → Int32) : Prop := ∀ c, c < many r → hasb (r 4) (nI c) = true → ¬ r (ix c 5) = nI 1
/-- the desert X stands to the row r; b: how much more the one has blown on than the other -/
def Rel (b : Int32) (X : DX) (r : Nat → Int32) : Prop :=
  (dN X = r 0 ∧ dDy X = r 1 ∧ dWi X = r 2 ∧ dWr X = r 4 ∧ dBl X = r 3 + b ∧ dR X = restR r) ∧ NW r ∧
  (∀ d, d < 10 → dG X d = r (5 + d) ∧ dD X d = r (15 + d)) ∧
  (∀ c, c < many r → dK X c = r (ix c 0) ∧ dF X c = r (ix c 1) ∧ dA X c = r (ix c 2) ∧ dY X c = r (ix c 3) ∧ dB X c = r (ix c 4))
theorem restR_cong {r s : Nat → Int32} (h0 : s 0 = r 0) (h : ∀ c, c < many r → s (ix c 5) = r (ix c 5)) : restR s = restR r := by
  unfold restR
  rw [many_of h0]
  exact it_cong (fun i z hi => by unfold restF; rw [h i hi])
theorem NW_cong {r s : Nat → Int32} (hn : NW r) (h0 : s 0 = r 0) (h4 : s 4 = r 4) (h : ∀ c, c < many r → s (ix c 5) = r (ix c 5)) : NW s := by
  intro c hc hw
  rw [many_of h0] at hc
  rw [h4] at hw
  rw [h c hc]
  exact hn c hc hw
/-- one place changes that neither the count nor resting nor writing reads -/
theorem Rel_of {b : Int32} {X X' : DX} {r : Nat → Int32} {j : Nat} {v : Int32} (h : Rel b X r) (hj : j ≠ 0 ∧ j ≠ 4 ∧ ∀ c, j ≠ 25 + 6 * c + 5)
    (h1 : dN X' = dN X ∧ dDy X' = upd r j v 1 ∧ dWi X' = upd r j v 2 ∧ dWr X' = dWr X ∧ dBl X' = upd r j v 3 + b ∧ dR X' = dR X)
    (h2 : ∀ d, d < 10 → dG X' d = upd r j v (5 + d) ∧ dD X' d = upd r j v (15 + d))
    (h3 : ∀ c, c < many r → dK X' c = upd r j v (ix c 0) ∧ dF X' c = upd r j v (ix c 1) ∧ dA X' c = upd r j v (ix c 2) ∧ dY X' c = upd r j v (ix c 3) ∧ dB X' c = upd r j v (ix c 4)) : Rel b X' (upd r j v) := by
  obtain ⟨⟨a1, a2, a3, a4, a5, a6⟩, a7, a8, a9⟩ := h
  obtain ⟨b1, b2, b3, b4, b5, b6⟩ := h1
  have e0 : upd r j v 0 = r 0 := upd_ne v (fun q => hj.1 q.symm)
  have e4 : upd r j v 4 = r 4 := upd_ne v (fun q => hj.2.1 q.symm)
  have e5 : ∀ c, c < many r → upd r j v (ix c 5) = r (ix c 5) := fun c _ => upd_ne v (fun q => hj.2.2 c q.symm)
  refine ⟨⟨b1.trans (a1.trans e0.symm), b2, b3, b4.trans (a4.trans e4.symm), b5, b6.trans (a6.trans (restR_cong e0 e5).symm)⟩, NW_cong a7 e0 e4 e5, h2, ?_⟩
  rw [many_of e0]
  exact h3
section RelRows
variable {b : Int32} {X : DX} {r : Nat → Int32}
theorem Rel_done {d : Nat} {v : Int32} (h : Rel b X r) (hd : d < 10) : Rel b (sD X (upd (dD X) d v)) (upd r (15 + d) v) := by
  obtain ⟨⟨a1, a2, a3, a4, a5, a6⟩, a7, a8, a9⟩ := id h
  refine Rel_of h ⟨by omega, by omega, fun c => by omega⟩ ⟨rfl, ?_, ?_, rfl, ?_, rfl⟩ (fun e he => ⟨?_, ?_⟩) (fun c hc => ?_)
  · rw [upd_ne _ (by omega)]; exact a2
  · rw [upd_ne _ (by omega)]; exact a3
  · rw [upd_ne _ (by omega)]; exact a5
  · rw [upd_ne _ (by omega)]; exact (a8 e he).1
  · show upd (dD X) d v e = _
    by_cases q : e = d
    · rw [q, upd_at, upd_at]
    · rw [upd_ne _ q, upd_ne _ (by omega)]; exact (a8 e he).2
  · simp only [ix]
    rw [upd_ne _ (by omega), upd_ne _ (by omega), upd_ne _ (by omega), upd_ne _ (by omega), upd_ne _ (by omega)]
    exact a9 c hc
theorem Rel_grain {d : Nat} {v : Int32} (h : Rel b X r) (hd : d < 10) : Rel b (sG X (upd (dG X) d v)) (upd r (5 + d) v) := by
  obtain ⟨⟨a1, a2, a3, a4, a5, a6⟩, a7, a8, a9⟩ := id h
  refine Rel_of h ⟨by omega, by omega, fun c => by omega⟩ ⟨rfl, ?_, ?_, rfl, ?_, rfl⟩ (fun e he => ⟨?_, ?_⟩) (fun c hc => ?_)
  · rw [upd_ne _ (by omega)]; exact a2
  · rw [upd_ne _ (by omega)]; exact a3
  · rw [upd_ne _ (by omega)]; exact a5
  · show upd (dG X) d v e = _
    by_cases q : e = d
    · rw [q, upd_at, upd_at]
    · rw [upd_ne _ q, upd_ne _ (by omega)]; exact (a8 e he).1
  · rw [upd_ne _ (by omega)]; exact (a8 e he).2
  · simp only [ix]
    rw [upd_ne _ (by omega), upd_ne _ (by omega), upd_ne _ (by omega), upd_ne _ (by omega), upd_ne _ (by omega)]
    exact a9 c hc
theorem Rel_lost {v : Int32} (h : Rel b X r) : Rel b (sBl X (v + b)) (upd r 3 v) := by
  obtain ⟨⟨a1, a2, a3, a4, a5, a6⟩, a7, a8, a9⟩ := id h
  refine Rel_of h ⟨by omega, by omega, fun c => by omega⟩ ⟨rfl, ?_, ?_, rfl, ?_, rfl⟩ (fun e he => ⟨?_, ?_⟩) (fun c hc => ?_)
  · rw [upd_ne _ (by omega)]; exact a2
  · rw [upd_ne _ (by omega)]; exact a3
  · rw [upd_at]
  · rw [upd_ne _ (by omega)]; exact (a8 e he).1
  · rw [upd_ne _ (by omega)]; exact (a8 e he).2
  · simp only [ix]
    rw [upd_ne _ (by omega), upd_ne _ (by omega), upd_ne _ (by omega), upd_ne _ (by omega), upd_ne _ (by omega)]
    exact a9 c hc
theorem Rel_wind {v : Int32} (h : Rel b X r) : Rel b (sWi X v) (upd r 2 v) := by
  obtain ⟨⟨a1, a2, a3, a4, a5, a6⟩, a7, a8, a9⟩ := id h
  refine Rel_of h ⟨by omega, by omega, fun c => by omega⟩ ⟨rfl, ?_, ?_, rfl, ?_, rfl⟩ (fun e he => ⟨?_, ?_⟩) (fun c hc => ?_)
  · rw [upd_ne _ (by omega)]; exact a2
  · rw [upd_at]
  · rw [upd_ne _ (by omega)]; exact a5
  · rw [upd_ne _ (by omega)]; exact (a8 e he).1
  · rw [upd_ne _ (by omega)]; exact (a8 e he).2
  · simp only [ix]
    rw [upd_ne _ (by omega), upd_ne _ (by omega), upd_ne _ (by omega), upd_ne _ (by omega), upd_ne _ (by omega)]
    exact a9 c hc
theorem Rel_day {v : Int32} (h : Rel b X r) : Rel b (sDy X v) (upd r 1 v) := by
  obtain ⟨⟨a1, a2, a3, a4, a5, a6⟩, a7, a8, a9⟩ := id h
  refine Rel_of h ⟨by omega, by omega, fun c => by omega⟩ ⟨rfl, ?_, ?_, rfl, ?_, rfl⟩ (fun e he => ⟨?_, ?_⟩) (fun c hc => ?_)
  · rw [upd_at]
  · rw [upd_ne _ (by omega)]; exact a3
  · rw [upd_ne _ (by omega)]; exact a5
  · rw [upd_ne _ (by omega)]; exact (a8 e he).1
  · rw [upd_ne _ (by omega)]; exact (a8 e he).2
  · simp only [ix]
    rw [upd_ne _ (by omega), upd_ne _ (by omega), upd_ne _ (by omega), upd_ne _ (by omega), upd_ne _ (by omega)]
    exact a9 c hc
/-- one corporal's kind (0), figure (1), place (2), way (3) or book (4) -/
theorem Rel_one {c w : Nat} {v : Int32} {X' : DX} (h : Rel b X r) (hw : w < 5) (h1 : dG X' = dG X ∧ dD X' = dD X ∧ X'.2.2.2.2.2.2.2 = X.2.2.2.2.2.2.2)
    (h2 : ∀ e, (e = c ∧ w = 0 → dK X' e = v) ∧ (¬ (e = c ∧ w = 0) → dK X' e = dK X e) ∧ (e = c ∧ w = 1 → dF X' e = v) ∧ (¬ (e = c ∧ w = 1) → dF X' e = dF X e) ∧ (e = c ∧ w = 2 → dA X' e = v) ∧ (¬ (e = c ∧ w = 2) → dA X' e = dA X e) ∧ (e = c ∧ w = 3 → dY X' e = v) ∧ (¬ (e = c ∧ w = 3) → dY X' e = dY X e) ∧ (e = c ∧ w = 4 → dB X' e = v) ∧ (¬ (e = c ∧ w = 4) → dB X' e = dB X e)) : Rel b X' (upd r (ix c w) v) := by
  obtain ⟨⟨a1, a2, a3, a4, a5, a6⟩, a7, a8, a9⟩ := id h
  obtain ⟨g1, g2, g3⟩ := h1
  have key : ∀ (e k : Nat) (z z' : Int32), k < 5 → (e = c ∧ w = k → z' = v) → (¬ (e = c ∧ w = k) → z' = z) → z = r (ix e k) → z' = upd r (ix c w) v (ix e k) := by
    intro e k z z' hk p q hz
    by_cases y : e = c ∧ w = k
    · obtain ⟨y1, y2⟩ := y
      subst y1
      subst y2
      rw [upd_at]; exact p ⟨rfl, rfl⟩
    · rw [upd_ne _ (by simp only [ix]; omega), ← hz]; exact q y
  refine Rel_of h ⟨by simp only [ix]; omega, by simp only [ix]; omega, fun c => by simp only [ix]; omega⟩ ⟨?_, ?_, ?_, ?_, ?_, ?_⟩ (fun e he => ⟨?_, ?_⟩) (fun e he => ⟨?_, ?_, ?_, ?_, ?_⟩)
  · exact congrArg (fun z => z.1) g3
  · rw [upd_ne _ (by simp only [ix]; omega)]; exact (congrArg (fun z => z.2.2.2.2.1) g3).trans a2
  · rw [upd_ne _ (by simp only [ix]; omega)]; exact (congrArg (fun z => z.2.2.2.1) g3).trans a3
  · exact congrArg (fun z => z.2.2.1) g3
  · rw [upd_ne _ (by simp only [ix]; omega)]; exact (congrArg (fun z => z.2.2.2.2.2) g3).trans a5
  · exact congrArg (fun z => z.2.1) g3
  · rw [upd_ne _ (by simp only [ix]; omega), g1]; exact (a8 e he).1
  · rw [upd_ne _ (by simp only [ix]; omega), g2]; exact (a8 e he).2
  · exact key e 0 _ _ (by omega) (h2 e).1 (h2 e).2.1 (a9 e he).1
  · exact key e 1 _ _ (by omega) (h2 e).2.2.1 (h2 e).2.2.2.1 (a9 e he).2.1
  · exact key e 2 _ _ (by omega) (h2 e).2.2.2.2.1 (h2 e).2.2.2.2.2.1 (a9 e he).2.2.1
  · exact key e 3 _ _ (by omega) (h2 e).2.2.2.2.2.2.1 (h2 e).2.2.2.2.2.2.2.1 (a9 e he).2.2.2.1
  · exact key e 4 _ _ (by omega) (h2 e).2.2.2.2.2.2.2.2.1 (h2 e).2.2.2.2.2.2.2.2.2 (a9 e he).2.2.2.2
theorem Rel_book {c : Nat} {v : Int32} (h : Rel b X r) : Rel b (sB X (upd (dB X) c v)) (upd r (ix c 4) v) :=
  Rel_one h (by decide) ⟨rfl, rfl, rfl⟩ (fun e => ⟨fun q => absurd q.2 (by decide), fun _ => rfl, fun q => absurd q.2 (by decide), fun _ => rfl, fun q => absurd q.2 (by decide), fun _ => rfl, fun q => absurd q.2 (by decide), fun _ => rfl, fun q => by rw [q.1]; exact upd_at _ _ _, fun q => upd_ne _ (fun z => q ⟨z, rfl⟩)⟩)
theorem Rel_at {c : Nat} {v : Int32} (h : Rel b X r) : Rel b (sA X (upd (dA X) c v)) (upd r (ix c 2) v) :=
  Rel_one h (by decide) ⟨rfl, rfl, rfl⟩ (fun e => ⟨fun q => absurd q.2 (by decide), fun _ => rfl, fun q => absurd q.2 (by decide), fun _ => rfl, fun q => by rw [q.1]; exact upd_at _ _ _, fun q => upd_ne _ (fun z => q ⟨z, rfl⟩), fun q => absurd q.2 (by decide), fun _ => rfl, fun q => absurd q.2 (by decide), fun _ => rfl⟩)
theorem Rel_way {c : Nat} {v : Int32} (h : Rel b X r) : Rel b (sY X (upd (dY X) c v)) (upd r (ix c 3) v) :=
  Rel_one h (by decide) ⟨rfl, rfl, rfl⟩ (fun e => ⟨fun q => absurd q.2 (by decide), fun _ => rfl, fun q => absurd q.2 (by decide), fun _ => rfl, fun q => absurd q.2 (by decide), fun _ => rfl, fun q => by rw [q.1]; exact upd_at _ _ _, fun q => upd_ne _ (fun z => q ⟨z, rfl⟩), fun q => absurd q.2 (by decide), fun _ => rfl⟩)
theorem Rel_kind {c : Nat} {v : Int32} (h : Rel b X r) : Rel b (sK X (upd (dK X) c v)) (upd r (ix c 0) v) :=
  Rel_one h (by decide) ⟨rfl, rfl, rfl⟩ (fun e => ⟨fun q => by rw [q.1]; exact upd_at _ _ _, fun q => upd_ne _ (fun z => q ⟨z, rfl⟩), fun q => absurd q.2 (by decide), fun _ => rfl, fun q => absurd q.2 (by decide), fun _ => rfl, fun q => absurd q.2 (by decide), fun _ => rfl, fun q => absurd q.2 (by decide), fun _ => rfl⟩)
theorem Rel_fig {c : Nat} {v : Int32} (h : Rel b X r) : Rel b (sF X (upd (dF X) c v)) (upd r (ix c 1) v) :=
  Rel_one h (by decide) ⟨rfl, rfl, rfl⟩ (fun e => ⟨fun q => absurd q.2 (by decide), fun _ => rfl, fun q => by rw [q.1]; exact upd_at _ _ _, fun q => upd_ne _ (fun z => q ⟨z, rfl⟩), fun q => absurd q.2 (by decide), fun _ => rfl, fun q => absurd q.2 (by decide), fun _ => rfl, fun q => absurd q.2 (by decide), fun _ => rfl⟩)
end RelRows
