/-! the state at the start, on both sides -/
theorem rI_in {j : Nat} (h : 5 ≤ j ∧ j < 15) : rI 10 j = nI 100 := if_pos h
theorem rI_out {j : Nat} (h : ¬ (5 ≤ j ∧ j < 15)) : rI 10 j = 0 := if_neg h
theorem rI_many : many (rI 10) = 0 := by
  unfold many
  rw [rI_out (by omega)]
  rfl
theorem start_Iv : Iv (rI 10) ∧ rI 10 4 = nI 0 := by
  refine ⟨⟨⟨?_, ?_⟩, ?_, ?_, ?_⟩, rI_out (by omega)⟩
  · rw [rI_many, rI_out (by omega)]
    rfl
  · rw [rI_many]
    exact Nat.zero_le _
  · intro d hd
    rw [rI_out (j := 15 + d) (by omega), rI_in (j := 5 + d) (by omega)]
    decide
  · intro c hc
    rw [rI_many] at hc
    exact absurd hc (Nat.not_lt_zero _)
  · rw [rI_out (by omega)]
    decide
theorem start_Rel : Rel 0 X00 (rI 10) := by
  refine ⟨⟨?_, ?_, ?_, ?_, ?_, ?_⟩, ?_, ?_, ?_⟩
  · exact (rI_out (by omega)).symm
  · exact (rI_out (by omega)).symm
  · exact (rI_out (by omega)).symm
  · exact (rI_out (by omega)).symm
  · rw [rI_out (by omega)]
    rfl
  · unfold restR
    rw [rI_many]
    rfl
  · intro c hc
    rw [rI_many] at hc
    exact absurd hc (Nat.not_lt_zero _)
  · intro d hd
    rw [rI_out (j := 15 + d) (by omega), rI_in (j := 5 + d) (by omega)]
    exact ⟨fillF_in hd, rfl⟩
  · intro c hc
    rw [rI_many] at hc
    exact absurd hc (Nat.not_lt_zero _)
theorem start_RS : RS (fun _ => S00) T00 := fun j _ => ⟨⟨rfl, Or.inl rfl⟩, fun h => absurd (show (0 : Int32) = nI 1 from h) (by decide), rfl, ⟨0, Nat.zero_le _, rfl, rfl⟩, fun _ _ => rfl, fun _ i _ => by
  show -128 ≤ (0 : Int32).toInt ∧ (0 : Int32).toInt ≤ 127
  decide⟩
theorem start_GI : GI (rI 10) z0 0 T00 := GI_T start_Iv (fun h => absurd rfl h) start_RS
theorem start_CWd : CWd (rI 10) z0 0 T00 (mW X00 X00 X00 (nI 0) (fun _ => S00) z0 z0) := ⟨0, X00, X00, X00, _, _, _, rfl, start_Rel, start_RS, fun h => absurd rfl h⟩
theorem start_RWd : RWd (rI 10) z0 0 T00 (rW (rI 10) z0 z0 z0 0 T00 V00) := ⟨_, _, _, rfl⟩
