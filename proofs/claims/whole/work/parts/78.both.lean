/-! each call, both sides together -/
theorem Ctr.imp {y : MethodName} {cc : ByteArray} {nL : Nat} {ret : Option FieldType} {fr mc ms : Nat} {as : List Value} {hp : Hp} {Qp Qq : Option Value → Hp → Prop} (C : Ctr y cc nL ret fr mc ms as hp Qp) (h : ∀ v hh, Qp v hh → Qq v hh) : Ctr y cc nL ret fr mc ms as hp Qq := by
  refine ⟨C.1, fun l D cA ad sz => ?_⟩
  intro p e a1 a2 a3 s m args below f1 f2 f3 f4
  obtain ⟨n, o, e1, e2, e3, ⟨⟨u, hp2, ad2, q1, q2, q3⟩, q4⟩, q5⟩ := C.2 l D cA ad sz p e a1 a2 a3 s m args below f1 f2 f3 f4
  exact ⟨n, o, e1, e2, e3, ⟨⟨u, hp2, ad2, q1, h _ _ q2, q3⟩, q4⟩, q5⟩
/-- what is always so between calls: the row, the picture, the shelves -/
def GI (r i : Nat → Int32) (hi : Int32) (T : TX) : Prop := (Iv r ∧ r 4 = nI 0) ∧ (¬ hi = 0 → Iv i ∧ i 4 = nI 0) ∧ IT T ∧ ∀ j, j < 8 → tS T j = nI 0 → byOK T j
def CWd (r i : Nat → Int32) (hi : Int32) (T : TX) (hp : Hp) : Prop := ∃ b X Y Z S g h, hp = mW X Y Z hi S g h ∧ Rel b X r ∧ RS S T ∧ (¬ hi = 0 → ∃ b2, Rel b2 Z i)
def RWd (r i : Nat → Int32) (hi : Int32) (T : TX) (hp : Hp) : Prop := ∃ m w V, hp = rW r m i w hi T V
theorem RS_TB {S : Nat → SX} {T : TX} (h : RS S T) : ∀ j, j < 8 → tS T j = nI 0 → byOK T j := fun j hj z i hi => (h j hj).2.2.2.2.2 z i hi
theorem GI_T {r i : Nat → Int32} {hi : Int32} {T : TX} {S : Nat → SX} (h1 : Iv r ∧ r 4 = nI 0) (h2 : ¬ hi = 0 → Iv i ∧ i 4 = nI 0) (h : RS S T) : GI r i hi T := ⟨h1, h2, RS_IT h, RS_TB h⟩
/-- a call on both sides answers the same and leaves worlds that stand to the same state -/
def JC (y1 y2 : MethodName) (c1 c2 : ByteArray) (n1 n2 : Nat) (ret : Option FieldType) (f1 f2 : Nat) (as : List Value) (hp hq : Hp) : Prop :=
  ∃ (A : Int32) (r i : Nat → Int32) (hi : Int32) (T : TX), GI r i hi T ∧ Ctr y1 c1 n1 ret f1 0 0 (.ref 0 :: as) hp (fun v hh => v = some (.int A) ∧ CWd r i hi T hh) ∧ Ctr y2 c2 n2 ret f2 0 0 (.ref 0 :: as) hq (fun v hh => v = some (.int A) ∧ RWd r i hi T hh)
def JL (y1 y2 : MethodName) (c1 c2 : ByteArray) (n1 n2 : Nat) (ret : Option FieldType) (f1 f2 : Nat) (as : List Value) (hp hq : Hp) : Prop :=
  ∃ (A : Int64) (r i : Nat → Int32) (hi : Int32) (T : TX), GI r i hi T ∧ Ctr y1 c1 n1 ret f1 0 0 (.ref 0 :: as) hp (fun v hh => v = some (.long A) ∧ CWd r i hi T hh) ∧ Ctr y2 c2 n2 ret f2 0 0 (.ref 0 :: as) hq (fun v hh => v = some (.long A) ∧ RWd r i hi T hh)
theorem P_fills {r : Nat → Int32} (h : Iv r ∧ r 4 = nI 0) (d v : Int32) : Iv (R_fills r d v) ∧ R_fills r d v 4 = nI 0 := by
  unfold R_fills
  split
  · rename_i q
    obtain ⟨j, hj, rfl⟩ := dip_ex q.1
    obtain ⟨k, hk, rfl⟩ := in_ex (by decide) q.2
    rw [N_nI (by omega)]
    exact ⟨Iv_fill h.1 hj hk, (upd_ne _ (by omega)).trans ((upd_ne _ (by omega)).trans h.2)⟩
  · exact h
theorem P_blows {r : Nat → Int32} (h : Iv r ∧ r 4 = nI 0) (v : Int32) : Iv (R_blows r v) ∧ R_blows r v 4 = nI 0 := by
  unfold R_blows
  split
  · rename_i q
    have h1 := (ti_le _ _).mp q.1
    have h2 := (ti_le _ _).mp q.2
    rw [ti_n 9 (by decide)] at h2
    rw [show (-9 : Int32).toInt = -9 by decide] at h1
    exact ⟨Iv_wind h.1 h1 h2, (upd_ne _ (by omega)).trans h.2⟩
  · exact h
theorem P_rests {r : Nat → Int32} (h : Iv r ∧ r 4 = nI 0) (c : Int32) : Iv (R_rests r c) ∧ R_rests r c 4 = nI 0 := by
  unfold R_rests
  have h6 := h.1.1.2
  split
  · rename_i q
    obtain ⟨j, hj, rfl⟩ := one_ex h.1 q
    rw [N_nI (by omega)]
    exact ⟨Iv_turn h.1 hj, (upd_ne _ (by simp only [ix]; omega)).trans h.2⟩
  · exact h
theorem P_moves {r : Nat → Int32} (h : Iv r ∧ r 4 = nI 0) (c d : Int32) : Iv (R_moves r c d) ∧ R_moves r c d 4 = nI 0 := by
  unfold R_moves
  split
  · rename_i q
    obtain ⟨j, hj, rfl⟩ := dip_ex q.2
    exact ⟨Iv_at h.1 hj, (upd_ne _ (by simp only [ix]; omega)).trans h.2⟩
  · exact h
theorem P_flood {r : Nat → Int32} (h : Iv r ∧ r 4 = nI 0) : Iv (floodR r) ∧ floodR r 4 = nI 0 := ⟨Iv_flood h.1, flood_4.trans h.2⟩
theorem P_days {r : Nat → Int32} (h : Iv r ∧ r 4 = nI 0) (n : Int32) : Iv (R_days r n) ∧ R_days r n 4 = nI 0 := by
  unfold R_days
  split
  · split
    · obtain ⟨g1, g2, g3, g4⟩ := daysR_ok h.1 (N n)
      exact ⟨g1, g4.trans h.2⟩
    · exact h
  · exact h
theorem P_comes {r : Nat → Int32} {T : TX} {S : Nat → SX} (h : Iv r ∧ r 4 = nI 0) (hS : RS S T) (d e y : Int32) : Iv (R_comes r T d e y) ∧ R_comes r T d e y 4 = nI 0 := by
  unfold R_comes
  split
  · rename_i q
    split
    · rename_i q2
      split
      · rename_i q3
        have hsh := wrongK_0 q2
        obtain ⟨j, hj, rfl⟩ := sh_ex hsh
        obtain ⟨e9, he9, rfl⟩ := dip_ex q.1
        have hw := wrongK_in hS hj
        have h1 : tH T j = nI 1 := (hS j hj).1.1.symm.trans (refU_0 (hw.symm.trans q2))
        obtain ⟨-, ⟨k, hk, ek⟩, f, hf, ef⟩ := (hS j hj).2.1 h1
        rw [N_nI (by omega), ek, ef]
        exact ⟨Iv_add h.1 q3 hk hf he9 (b01_ex q.2), (addR_ne (by omega) (by omega)).trans h.2⟩
      · exact h
    · exact h
  · exact h
theorem rn_ok {B : Nat → Int32} {n : Nat} (hn : n ≤ 100) : ∀ f p q, p ≤ n + 10 → FO B n p → Iv q ∧ q 4 = nI 0 → rnA B n f p q < 0 → Iv (rnR B n f p q) ∧ rnR B n f p q 4 = nI 0
  | 0, _, _, _, _, h, _ => h
  | f + 1, p, q, hp, hfo, h, hA => by
    by_cases z : p < n
    · obtain ⟨hok, hfo2⟩ := FO_s hfo z (by omega)
      by_cases z2 : efP B p q
      · rw [rnA_y z z2] at hA
        rw [rnR_y z]
        exact rn_ok hn f _ _ (by show p + (kL (B p) + 2) ≤ n + 10; have := kL_le (B p); omega) hfo2 (ef_ok hok.1 h.1 h.2 z2) hA
      · rw [rnA_n z z2] at hA
        exact absurd hA (nI_nneg (by omega))
    · rw [rnR_e z]
      exact h
theorem P_desert {r : Nat → Int32} {T : TX} (hT : IT T) (h : Iv r ∧ r 4 = nI 0) (d : Int32) : Iv (R_desert r T d) ∧ R_desert r T d 4 = nI 0 := by
  by_cases q : wrong T d 0 = 0
  · obtain ⟨hsh, -⟩ := wrong_0 q
    obtain ⟨j, hj, rfl⟩ := sh_ex hsh
    obtain ⟨n, hn, en⟩ := hT j hj
    rw [(desert_y (r := r) q hj hn en rfl).2]
    unfold dsR
    split
    · rename_i q2
      split
      · rename_i q3
        exact rn_ok hn _ 0 r (by omega) (fun _ => ⟨n + 1, by omega, (frm_end (byT T j n) n (n + 1) 0 (by decide) hn).1 q2⟩) h q3
      · exact h
    · exact h
  · rw [(desert_n q).2]; exact h
theorem P_restore {r i : Nat → Int32} {hi : Int32} (h : Iv r ∧ r 4 = nI 0) (h2 : ¬ hi = 0 → Iv i ∧ i 4 = nI 0) : Iv (R_restore hi r i) ∧ R_restore hi r i 4 = nI 0 := by
  unfold R_restore
  split
  · exact h
  · rename_i q
    exact h2 q
theorem J_corporal {r i : Nat → Int32} {hi : Int32} {T : TX} {hp hq : Hp} (hG : GI r i hi T) (hc : CWd r i hi T hp) (hr : RWd r i hi T hq) (c wh : Int32) : JC yX4_corporal yX5_corporal cX4_corporal cX5_corporal 3 3 (some .int) 7 7 [.int c, .int wh] hp hq := by
  obtain ⟨b, X, Y, Z, S, g, h, rfl, hR, hS, hZ⟩ := hc
  obtain ⟨m, ws, V, rfl⟩ := hr
  obtain ⟨⟨hI, h4⟩, hI2, hT, hTb⟩ := id hG
  exact ⟨_, r, i, hi, T, hG, Ctr.imp (c_corporal b X Y Z hi S g h r hR hI h4 c wh) (fun v hh ⟨e, e2⟩ => ⟨e, b, X, Y, Z, S, g, h, e2, hR, hS, hZ⟩), Ctr.imp (m_corporal r m i ws hi T V hI c wh) (fun v hh ⟨e, e2⟩ => ⟨e, m, ws, V, e2⟩)⟩

theorem J_dip {r i : Nat → Int32} {hi : Int32} {T : TX} {hp hq : Hp} (hG : GI r i hi T) (hc : CWd r i hi T hp) (hr : RWd r i hi T hq) (d wh : Int32) : JC yX4_dip yX5_dip cX4_dip cX5_dip 3 5 (some .int) 7 7 [.int d, .int wh] hp hq := by
  obtain ⟨b, X, Y, Z, S, g, h, rfl, hR, hS, hZ⟩ := hc
  obtain ⟨m, ws, V, rfl⟩ := hr
  obtain ⟨⟨hI, h4⟩, hI2, hT, hTb⟩ := id hG
  exact ⟨_, r, i, hi, T, hG, Ctr.imp (c_dip b X Y Z hi S g h r hR hI h4 d wh) (fun v hh ⟨e, e2⟩ => ⟨e, b, X, Y, Z, S, g, h, e2, hR, hS, hZ⟩), Ctr.imp (m_dip r m i ws hi T V hI d wh) (fun v hh ⟨e, e2⟩ => ⟨e, m, ws, V, e2⟩)⟩

theorem J_count {r i : Nat → Int32} {hi : Int32} {T : TX} {hp hq : Hp} (hG : GI r i hi T) (hc : CWd r i hi T hp) (hr : RWd r i hi T hq) (wh : Int32) : JC yX4_count yX5_count cX4_count cX5_count 2 4 (some .int) 7 7 [.int wh] hp hq := by
  obtain ⟨b, X, Y, Z, S, g, h, rfl, hR, hS, hZ⟩ := hc
  obtain ⟨m, ws, V, rfl⟩ := hr
  obtain ⟨⟨hI, h4⟩, hI2, hT, hTb⟩ := id hG
  exact ⟨_, r, i, hi, T, hG, Ctr.imp (c_count b X Y Z hi S g h r hR hI h4 wh) (fun v hh ⟨e, e2⟩ => ⟨e, b, X, Y, Z, S, g, h, e2, hR, hS, hZ⟩), Ctr.imp (m_count r m i ws hi T V hI wh) (fun v hh ⟨e, e2⟩ => ⟨e, m, ws, V, e2⟩)⟩

theorem J_corporalThen {r i : Nat → Int32} {hi : Int32} {T : TX} {hp hq : Hp} (hG : GI r i hi T) (hc : CWd r i hi T hp) (hr : RWd r i hi T hq) (c n wh : Int32) : JC yX4_corporalThen yX5_corporalThen cX4_corporalThen cX5_corporalThen 4 4 (some .int) 7 7 [.int c, .int n, .int wh] hp hq := by
  obtain ⟨b, X, Y, Z, S, g, h, rfl, hR, hS, hZ⟩ := hc
  obtain ⟨m, ws, V, rfl⟩ := hr
  obtain ⟨⟨hI, h4⟩, hI2, hT, hTb⟩ := id hG
  exact ⟨_, r, i, hi, T, hG, (c_corporalThen b X Y Z hi S g h r hR hI h4 c n wh).imp (fun v hh ⟨e, Y2, g2, h2, e2⟩ => ⟨e, b, X, Y2, Z, S, g2, h2, e2, hR, hS, hZ⟩), (m_corporalThen r m i ws hi T V hI c n wh).imp (fun v hh ⟨e, m2, V2, e2⟩ => ⟨e, m2, ws, V2, e2⟩)⟩

theorem J_dipThen {r i : Nat → Int32} {hi : Int32} {T : TX} {hp hq : Hp} (hG : GI r i hi T) (hc : CWd r i hi T hp) (hr : RWd r i hi T hq) (d n wh : Int32) : JC yX4_dipThen yX5_dipThen cX4_dipThen cX5_dipThen 4 4 (some .int) 7 7 [.int d, .int n, .int wh] hp hq := by
  obtain ⟨b, X, Y, Z, S, g, h, rfl, hR, hS, hZ⟩ := hc
  obtain ⟨m, ws, V, rfl⟩ := hr
  obtain ⟨⟨hI, h4⟩, hI2, hT, hTb⟩ := id hG
  exact ⟨_, r, i, hi, T, hG, (c_dipThen b X Y Z hi S g h r hR hI h4 d n wh).imp (fun v hh ⟨e, Y2, g2, h2, e2⟩ => ⟨e, b, X, Y2, Z, S, g2, h2, e2, hR, hS, hZ⟩), (m_dipThen r m i ws hi T V hI d n wh).imp (fun v hh ⟨e, m2, V2, e2⟩ => ⟨e, m2, ws, V2, e2⟩)⟩

theorem J_dipsDone {r i : Nat → Int32} {hi : Int32} {T : TX} {hp hq : Hp} (hG : GI r i hi T) (hc : CWd r i hi T hp) (hr : RWd r i hi T hq) (n : Int32) : JC yX4_dipsDone yX5_dipsDone cX4_dipsDone cX5_dipsDone 2 2 (some .int) 7 7 [.int n] hp hq := by
  obtain ⟨b, X, Y, Z, S, g, h, rfl, hR, hS, hZ⟩ := hc
  obtain ⟨m, ws, V, rfl⟩ := hr
  obtain ⟨⟨hI, h4⟩, hI2, hT, hTb⟩ := id hG
  exact ⟨_, r, i, hi, T, hG, (c_dipsDone b X Y Z hi S g h r hR hI h4 n).imp (fun v hh ⟨e, Y2, g2, h2, e2⟩ => ⟨e, b, X, Y2, Z, S, g2, h2, e2, hR, hS, hZ⟩), (m_dipsDone r m i ws hi T V hI n).imp (fun v hh ⟨e, m2, V2, e2⟩ => ⟨e, m2, ws, V2, e2⟩)⟩

theorem J_ends {r i : Nat → Int32} {hi : Int32} {T : TX} {hp hq : Hp} (hG : GI r i hi T) (hc : CWd r i hi T hp) (hr : RWd r i hi T hq) (n : Int32) : JC yX4_ends yX5_ends cX4_ends cX5_ends 4 4 (some .int) 7 7 [.int n] hp hq := by
  obtain ⟨b, X, Y, Z, S, g, h, rfl, hR, hS, hZ⟩ := hc
  obtain ⟨m, ws, V, rfl⟩ := hr
  obtain ⟨⟨hI, h4⟩, hI2, hT, hTb⟩ := id hG
  exact ⟨_, r, i, hi, T, hG, (c_ends b X Y Z hi S g h r hR hI h4 n).imp (fun v hh ⟨e, Y2, g2, h2, e2⟩ => ⟨e, b, X, Y2, Z, S, g2, h2, e2, hR, hS, hZ⟩), (m_ends r m i ws hi T V hI n).imp (fun v hh ⟨e, m2, V2, e2⟩ => ⟨e, m2, ws, V2, e2⟩)⟩

theorem J_meet {r i : Nat → Int32} {hi : Int32} {T : TX} {hp hq : Hp} (hG : GI r i hi T) (hc : CWd r i hi T hp) (hr : RWd r i hi T hq) (c n : Int32) : JC yX4_meet yX5_meet cX4_meet cX5_meet 4 4 (some .int) 7 7 [.int c, .int n] hp hq := by
  obtain ⟨b, X, Y, Z, S, g, h, rfl, hR, hS, hZ⟩ := hc
  obtain ⟨m, ws, V, rfl⟩ := hr
  obtain ⟨⟨hI, h4⟩, hI2, hT, hTb⟩ := id hG
  exact ⟨_, r, i, hi, T, hG, (c_meet b X Y Z hi S g h r hR hI h4 c n).imp (fun v hh ⟨e, Y2, g2, h2, e2⟩ => ⟨e, b, X, Y2, Z, S, g2, h2, e2, hR, hS, hZ⟩), (m_meet r m i ws hi T V hI c n).imp (fun v hh ⟨e, m2, V2, e2⟩ => ⟨e, m2, ws, V2, e2⟩)⟩

theorem J_line {r i : Nat → Int32} {hi : Int32} {T : TX} {hp hq : Hp} (hG : GI r i hi T) (hc : CWd r i hi T hp) (hr : RWd r i hi T hq) (n : Int32) : JC yX4_line yX5_line cX4_line cX5_line 5 6 (some .int) 7 7 [.int n] hp hq := by
  obtain ⟨b, X, Y, Z, S, g, h, rfl, hR, hS, hZ⟩ := hc
  obtain ⟨m, ws, V, rfl⟩ := hr
  obtain ⟨⟨hI, h4⟩, hI2, hT, hTb⟩ := id hG
  exact ⟨_, r, i, hi, T, hG, (c_line b X Y Z hi S g h r hR hI h4 n).imp (fun v hh ⟨e, Y2, g2, h2, e2⟩ => ⟨e, b, X, Y2, Z, S, g2, h2, e2, hR, hS, hZ⟩), (m_line r m i ws hi T V hI n).imp (fun v hh ⟨e, m2, V2, e2⟩ => ⟨e, m2, ws, V2, e2⟩)⟩

theorem J_treaty {r i : Nat → Int32} {hi : Int32} {T : TX} {hp hq : Hp} (hG : GI r i hi T) (hc : CWd r i hi T hp) (hr : RWd r i hi T hq) (n : Int32) : JC yX4_treaty yX5_treaty cX4_treaty cX5_treaty 4 2 (some .int) 7 7 [.int n] hp hq := by
  obtain ⟨b, X, Y, Z, S, g, h, rfl, hR, hS, hZ⟩ := hc
  obtain ⟨m, ws, V, rfl⟩ := hr
  obtain ⟨⟨hI, h4⟩, hI2, hT, hTb⟩ := id hG
  exact ⟨_, r, i, hi, T, hG, (c_treaty b X Y Z hi S g h r hR hI h4 n).imp (fun v hh ⟨e, Y2, g2, h2, e2⟩ => ⟨e, b, X, Y2, Z, S, g2, h2, e2, hR, hS, hZ⟩), (m_treaty r m i ws hi T V hI n).imp (fun v hh ⟨e, m2, V2, e2⟩ => ⟨e, m2, ws, V2, e2⟩)⟩

theorem J_bestWind {r i : Nat → Int32} {hi : Int32} {T : TX} {hp hq : Hp} (hG : GI r i hi T) (hc : CWd r i hi T hp) (hr : RWd r i hi T hq) (n wh : Int32) : JC yX4_bestWind yX5_bestWind cX4_bestWind cX5_bestWind 7 6 (some .int) 7 7 [.int n, .int wh] hp hq := by
  obtain ⟨b, X, Y, Z, S, g, h, rfl, hR, hS, hZ⟩ := hc
  obtain ⟨m, ws, V, rfl⟩ := hr
  obtain ⟨⟨hI, h4⟩, hI2, hT, hTb⟩ := id hG
  exact ⟨_, r, i, hi, T, hG, (c_bestWind b X Y Z hi S g h r hR hI h4 n wh).imp (fun v hh ⟨e, Y2, g2, h2, e2⟩ => ⟨e, b, X, Y2, Z, S, g2, h2, e2, hR, hS, hZ⟩), (m_bestWind r m i ws hi T V hI n wh).imp (fun v hh ⟨e, m2, V2, e2⟩ => ⟨e, m2, ws, V2, e2⟩)⟩

theorem J_send {r i : Nat → Int32} {hi : Int32} {T : TX} {hp hq : Hp} (hG : GI r i hi T) (hc : CWd r i hi T hp) (hr : RWd r i hi T hq) (c n wh : Int32) : JC yX4_send yX5_send cX4_send cX5_send 8 7 (some .int) 7 7 [.int c, .int n, .int wh] hp hq := by
  obtain ⟨b, X, Y, Z, S, g, h, rfl, hR, hS, hZ⟩ := hc
  obtain ⟨m, ws, V, rfl⟩ := hr
  obtain ⟨⟨hI, h4⟩, hI2, hT, hTb⟩ := id hG
  exact ⟨_, r, i, hi, T, hG, (c_send b X Y Z hi S g h r hR hI h4 c n wh).imp (fun v hh ⟨e, Y2, g2, h2, e2⟩ => ⟨e, b, X, Y2, Z, S, g2, h2, e2, hR, hS, hZ⟩), (m_send r m i ws hi T V hI c n wh).imp (fun v hh ⟨e, m2, V2, e2⟩ => ⟨e, m2, ws, V2, e2⟩)⟩

theorem J_idle {r i : Nat → Int32} {hi : Int32} {T : TX} {hp hq : Hp} (hG : GI r i hi T) (hc : CWd r i hi T hp) (hr : RWd r i hi T hq) (n : Int32) : JC yX4_idle yX5_idle cX4_idle cX5_idle 4 4 (some .int) 7 7 [.int n] hp hq := by
  obtain ⟨b, X, Y, Z, S, g, h, rfl, hR, hS, hZ⟩ := hc
  obtain ⟨m, ws, V, rfl⟩ := hr
  obtain ⟨⟨hI, h4⟩, hI2, hT, hTb⟩ := id hG
  exact ⟨_, r, i, hi, T, hG, (c_idle b X Y Z hi S g h r hR hI h4 n).imp (fun v hh ⟨e, Y2, g2, h2, e2⟩ => ⟨e, b, X, Y2, Z, S, g2, h2, e2, hR, hS, hZ⟩), (m_idle r m i ws hi T V hI n).imp (fun v hh ⟨e, m2, V2, e2⟩ => ⟨e, m2, ws, V2, e2⟩)⟩

theorem J_slowest {r i : Nat → Int32} {hi : Int32} {T : TX} {hp hq : Hp} (hG : GI r i hi T) (hc : CWd r i hi T hp) (hr : RWd r i hi T hq) (n : Int32) : JC yX4_slowest yX5_slowest cX4_slowest cX5_slowest 6 6 (some .int) 7 7 [.int n] hp hq := by
  obtain ⟨b, X, Y, Z, S, g, h, rfl, hR, hS, hZ⟩ := hc
  obtain ⟨m, ws, V, rfl⟩ := hr
  obtain ⟨⟨hI, h4⟩, hI2, hT, hTb⟩ := id hG
  exact ⟨_, r, i, hi, T, hG, (c_slowest b X Y Z hi S g h r hR hI h4 n).imp (fun v hh ⟨e, Y2, g2, h2, e2⟩ => ⟨e, b, X, Y2, Z, S, g2, h2, e2, hR, hS, hZ⟩), (m_slowest r m i ws hi T V hI n).imp (fun v hh ⟨e, m2, V2, e2⟩ => ⟨e, m2, ws, V2, e2⟩)⟩

theorem J_lost {r i : Nat → Int32} {hi : Int32} {T : TX} {hp hq : Hp} (hG : GI r i hi T) (hc : CWd r i hi T hp) (hr : RWd r i hi T hq) (n : Int32) : JC yX4_lost yX5_lost cX4_lost cX5_lost 2 2 (some .int) 7 7 [.int n] hp hq := by
  obtain ⟨b, X, Y, Z, S, g, h, rfl, hR, hS, hZ⟩ := hc
  obtain ⟨m, ws, V, rfl⟩ := hr
  obtain ⟨⟨hI, h4⟩, hI2, hT, hTb⟩ := id hG
  exact ⟨_, r, i, hi, T, hG, (c_lost b X Y Z hi S g h r hR hI h4 n).imp (fun v hh ⟨e, Y2, g2, h2, e2⟩ => ⟨e, b, X, Y2, Z, S, g2, h2, e2, hR, hS, hZ⟩), (m_lost r m i ws hi T V hI n).imp (fun v hh ⟨e, m2, V2, e2⟩ => ⟨e, m2, ws, V2, e2⟩)⟩

theorem J_heap {r i : Nat → Int32} {hi : Int32} {T : TX} {hp hq : Hp} (hG : GI r i hi T) (hc : CWd r i hi T hp) (hr : RWd r i hi T hq) (n wh : Int32) : JC yX4_heap yX5_heap cX4_heap cX5_heap 5 5 (some .int) 7 7 [.int n, .int wh] hp hq := by
  obtain ⟨b, X, Y, Z, S, g, h, rfl, hR, hS, hZ⟩ := hc
  obtain ⟨m, ws, V, rfl⟩ := hr
  obtain ⟨⟨hI, h4⟩, hI2, hT, hTb⟩ := id hG
  exact ⟨_, r, i, hi, T, hG, (c_heap b X Y Z hi S g h r hR hI h4 n wh).imp (fun v hh ⟨e, Y2, g2, h2, e2⟩ => ⟨e, b, X, Y2, Z, S, g2, h2, e2, hR, hS, hZ⟩), (m_heap r m i ws hi T V hI n wh).imp (fun v hh ⟨e, m2, V2, e2⟩ => ⟨e, m2, ws, V2, e2⟩)⟩

theorem J_begin {r i : Nat → Int32} {hi : Int32} {T : TX} {hp hq : Hp} (hG : GI r i hi T) (hc : CWd r i hi T hp) (hr : RWd r i hi T hq) (c n : Int32) : JC yX4_begin yX5_begin cX4_begin cX5_begin 7 6 (some .int) 7 7 [.int c, .int n] hp hq := by
  obtain ⟨b, X, Y, Z, S, g, h, rfl, hR, hS, hZ⟩ := hc
  obtain ⟨m, ws, V, rfl⟩ := hr
  obtain ⟨⟨hI, h4⟩, hI2, hT, hTb⟩ := id hG
  exact ⟨_, r, i, hi, T, hG, (c_begin b X Y Z hi S g h r hR hI h4 c n).imp (fun v hh ⟨e, Y2, g2, h2, e2⟩ => ⟨e, b, X, Y2, Z, S, g2, h2, e2, hR, hS, hZ⟩), (m_begin r m i ws hi T V hI c n).imp (fun v hh ⟨e, m2, V2, e2⟩ => ⟨e, m2, ws, V2, e2⟩)⟩

theorem J_even {r i : Nat → Int32} {hi : Int32} {T : TX} {hp hq : Hp} (hG : GI r i hi T) (hc : CWd r i hi T hp) (hr : RWd r i hi T hq) (wh : Int32) : JC yX4_even yX5_even cX4_even cX5_even 8 4 (some .int) 7 7 [.int wh] hp hq := by
  obtain ⟨b, X, Y, Z, S, g, h, rfl, hR, hS, hZ⟩ := hc
  obtain ⟨m, ws, V, rfl⟩ := hr
  obtain ⟨⟨hI, h4⟩, hI2, hT, hTb⟩ := id hG
  exact ⟨_, r, i, hi, T, hG, (c_even b X Y Z hi S g h r hR hI h4 wh).imp (fun v hh ⟨e, Y2, g2, h2, e2⟩ => ⟨e, b, X, Y2, Z, S, g2, h2, e2, hR, hS, hZ⟩), (m_even r m i ws hi T V hI wh).imp (fun v hh ⟨e, m2, V2, e2⟩ => ⟨e, m2, ws, V2, e2⟩)⟩

theorem J_deserts {r i : Nat → Int32} {hi : Int32} {T : TX} {hp hq : Hp} (hG : GI r i hi T) (hc : CWd r i hi T hp) (hr : RWd r i hi T hq) (n z wh : Int32) : JC yX4_deserts yX5_deserts cX4_deserts cX5_deserts 10 7 (some .int) 7 7 [.int n, .int z, .int wh] hp hq := by
  obtain ⟨b, X, Y, Z, S, g, h, rfl, hR, hS, hZ⟩ := hc
  obtain ⟨m, ws, V, rfl⟩ := hr
  obtain ⟨⟨hI, h4⟩, hI2, hT, hTb⟩ := id hG
  exact ⟨_, r, i, hi, T, hG, (c_deserts b X Y Z hi S g h r hR hI h4 n z wh).imp (fun v hh ⟨e, Y2, g2, h2, e2⟩ => ⟨e, b, X, Y2, Z, S, g2, h2, e2, hR, hS, hZ⟩), (m_deserts r m i ws hi T V hI n z wh).imp (fun v hh ⟨e, m2, V2, e2⟩ => ⟨e, m2, ws, V2, e2⟩)⟩

theorem J_two {r i : Nat → Int32} {hi : Int32} {T : TX} {hp hq : Hp} (hG : GI r i hi T) (hc : CWd r i hi T hp) (hr : RWd r i hi T hq) (xa xc : Int32) : JC yX4_two yX5_two cX4_two cX5_two 6 6 (some .int) 7 7 [.int xa, .int xc] hp hq := by
  obtain ⟨b, X, Y, Z, S, g, h, rfl, hR, hS, hZ⟩ := hc
  obtain ⟨m, ws, V, rfl⟩ := hr
  obtain ⟨⟨hI, h4⟩, hI2, hT, hTb⟩ := id hG
  exact ⟨_, r, i, hi, T, hG, (c_two b X Y Z hi S g h r hR hI h4 xa xc).imp (fun v hh ⟨e, Y2, g2, h2, e2⟩ => ⟨e, b, X, Y2, Z, S, g2, h2, e2, hR, hS, hZ⟩), (m_two r m i ws hi T V hI xa xc).imp (fun v hh ⟨e, m2, V2, e2⟩ => ⟨e, m2, ws, V2, e2⟩)⟩

theorem J_storm {r i : Nat → Int32} {hi : Int32} {T : TX} {hp hq : Hp} (hG : GI r i hi T) (hc : CWd r i hi T hp) (hr : RWd r i hi T hq) (dd n t p : Int32) : JL yX4_storm yX5_storm cX4_storm cX5_storm 12 13 (some .long) 7 7 [.int dd, .int n, .int t, .int p] hp hq := by
  obtain ⟨b, X, Y, Z, S, g, h, rfl, hR, hS, hZ⟩ := hc
  obtain ⟨m, ws, V, rfl⟩ := hr
  obtain ⟨⟨hI, h4⟩, hI2, hT, hTb⟩ := id hG
  exact ⟨_, r, i, hi, T, hG, (c_storm b X Y Z hi S g h r hR hI h4 dd n t p).imp (fun v hh ⟨e, Y2, g2, h2, e2⟩ => ⟨e, b, X, Y2, Z, S, g2, h2, e2, hR, hS, hZ⟩), (m_storm r m i ws hi T V hI dd n t p).imp (fun v hh ⟨e, m2, V2, e2⟩ => ⟨e, m2, ws, V2, e2⟩)⟩

theorem J_mean {r i : Nat → Int32} {hi : Int32} {T : TX} {hp hq : Hp} (hG : GI r i hi T) (hc : CWd r i hi T hp) (hr : RWd r i hi T hq) (p : Int32) : JL yX4_mean yX5_mean cX4_mean cX5_mean 2 2 (some .long) 7 7 [.int p] hp hq := by
  obtain ⟨b, X, Y, Z, S, g, h, rfl, hR, hS, hZ⟩ := hc
  obtain ⟨m, ws, V, rfl⟩ := hr
  obtain ⟨⟨hI, h4⟩, hI2, hT, hTb⟩ := id hG
  exact ⟨_, r, i, hi, T, hG, (c_mean b X Y Z hi S g h r hR hI h4 p).imp (fun v hh ⟨e, Y2, g2, h2, e2⟩ => ⟨e, b, X, Y2, Z, S, g2, h2, e2, hR, hS, hZ⟩), (m_mean r m i ws hi T V hI p).imp (fun v hh ⟨e, m2, V2, e2⟩ => ⟨e, m2, ws, V2, e2⟩)⟩

theorem J_fills {r i : Nat → Int32} {hi : Int32} {T : TX} {hp hq : Hp} (hG : GI r i hi T) (hc : CWd r i hi T hp) (hr : RWd r i hi T hq) (d v : Int32) : JC yX4_fills yX5_fills cX4_fills cX5_fills 4 4 (some .int) 7 7 [.int d, .int v] hp hq := by
  obtain ⟨b, X, Y, Z, S, g, h, rfl, hR, hS, hZ⟩ := hc
  obtain ⟨m, ws, V, rfl⟩ := hr
  obtain ⟨⟨hI, h4⟩, hI2, hT, hTb⟩ := id hG
  exact ⟨_, (R_fills r d v), i, hi, T, GI_T (P_fills ⟨hI, h4⟩ d v) hI2 hS, (c_fills b X Y Z hi S g h r hR hI h4 d v).imp (fun v hh ⟨e, b2, X2, Y2, g2, h2, e2, hR2⟩ => ⟨e, b2, X2, Y2, Z, S, g2, h2, e2, hR2, hS, hZ⟩), (m_fills r m i ws hi T V hI d v).imp (fun v hh ⟨e, m2, w2, V2, e2⟩ => ⟨e, m2, w2, V2, e2⟩)⟩

theorem J_blows {r i : Nat → Int32} {hi : Int32} {T : TX} {hp hq : Hp} (hG : GI r i hi T) (hc : CWd r i hi T hp) (hr : RWd r i hi T hq) (v : Int32) : JC yX4_blows yX5_blows cX4_blows cX5_blows 3 3 (some .int) 7 7 [.int v] hp hq := by
  obtain ⟨b, X, Y, Z, S, g, h, rfl, hR, hS, hZ⟩ := hc
  obtain ⟨m, ws, V, rfl⟩ := hr
  obtain ⟨⟨hI, h4⟩, hI2, hT, hTb⟩ := id hG
  exact ⟨_, (R_blows r v), i, hi, T, GI_T (P_blows ⟨hI, h4⟩ v) hI2 hS, (c_blows b X Y Z hi S g h r hR hI h4 v).imp (fun v hh ⟨e, b2, X2, Y2, g2, h2, e2, hR2⟩ => ⟨e, b2, X2, Y2, Z, S, g2, h2, e2, hR2, hS, hZ⟩), (m_blows r m i ws hi T V hI v).imp (fun v hh ⟨e, m2, w2, V2, e2⟩ => ⟨e, m2, w2, V2, e2⟩)⟩

theorem J_rests {r i : Nat → Int32} {hi : Int32} {T : TX} {hp hq : Hp} (hG : GI r i hi T) (hc : CWd r i hi T hp) (hr : RWd r i hi T hq) (c : Int32) : JC yX4_rests yX5_rests cX4_rests cX5_rests 2 2 (some .int) 7 7 [.int c] hp hq := by
  obtain ⟨b, X, Y, Z, S, g, h, rfl, hR, hS, hZ⟩ := hc
  obtain ⟨m, ws, V, rfl⟩ := hr
  obtain ⟨⟨hI, h4⟩, hI2, hT, hTb⟩ := id hG
  exact ⟨_, (R_rests r c), i, hi, T, GI_T (P_rests ⟨hI, h4⟩ c) hI2 hS, (c_rests b X Y Z hi S g h r hR hI h4 c).imp (fun v hh ⟨e, b2, X2, Y2, g2, h2, e2, hR2⟩ => ⟨e, b2, X2, Y2, Z, S, g2, h2, e2, hR2, hS, hZ⟩), (m_rests r m i ws hi T V hI c).imp (fun v hh ⟨e, m2, w2, V2, e2⟩ => ⟨e, m2, w2, V2, e2⟩)⟩

theorem J_moves {r i : Nat → Int32} {hi : Int32} {T : TX} {hp hq : Hp} (hG : GI r i hi T) (hc : CWd r i hi T hp) (hr : RWd r i hi T hq) (c d : Int32) : JC yX4_moves yX5_moves cX4_moves cX5_moves 4 4 (some .int) 7 7 [.int c, .int d] hp hq := by
  obtain ⟨b, X, Y, Z, S, g, h, rfl, hR, hS, hZ⟩ := hc
  obtain ⟨m, ws, V, rfl⟩ := hr
  obtain ⟨⟨hI, h4⟩, hI2, hT, hTb⟩ := id hG
  exact ⟨_, (R_moves r c d), i, hi, T, GI_T (P_moves ⟨hI, h4⟩ c d) hI2 hS, (c_moves b X Y Z hi S g h r hR hI h4 c d).imp (fun v hh ⟨e, b2, X2, Y2, g2, h2, e2, hR2⟩ => ⟨e, b2, X2, Y2, Z, S, g2, h2, e2, hR2, hS, hZ⟩), (m_moves r m i ws hi T V hI c d).imp (fun v hh ⟨e, m2, w2, V2, e2⟩ => ⟨e, m2, w2, V2, e2⟩)⟩

theorem J_days {r i : Nat → Int32} {hi : Int32} {T : TX} {hp hq : Hp} (hG : GI r i hi T) (hc : CWd r i hi T hp) (hr : RWd r i hi T hq) (n : Int32) : JC yX4_days yX5_days cX4_days cX5_days 2 2 (some .int) 7 7 [.int n] hp hq := by
  obtain ⟨b, X, Y, Z, S, g, h, rfl, hR, hS, hZ⟩ := hc
  obtain ⟨m, ws, V, rfl⟩ := hr
  obtain ⟨⟨hI, h4⟩, hI2, hT, hTb⟩ := id hG
  exact ⟨_, (R_days r n), i, hi, T, GI_T (P_days ⟨hI, h4⟩ n) hI2 hS, (c_days b X Y Z hi S g h r hR hI h4 n).imp (fun v hh ⟨e, b2, X2, Y2, g2, h2, e2, hR2⟩ => ⟨e, b2, X2, Y2, Z, S, g2, h2, e2, hR2, hS, hZ⟩), (m_days r m i ws hi T V hI n).imp (fun v hh ⟨e, m2, w2, V2, e2⟩ => ⟨e, m2, w2, V2, e2⟩)⟩

theorem J_flood {r i : Nat → Int32} {hi : Int32} {T : TX} {hp hq : Hp} (hG : GI r i hi T) (hc : CWd r i hi T hp) (hr : RWd r i hi T hq)  : JC yX4_flood yX5_flood cX4_flood cX5_flood 2 2 (some .int) 7 7 [] hp hq := by
  obtain ⟨b, X, Y, Z, S, g, h, rfl, hR, hS, hZ⟩ := hc
  obtain ⟨m, ws, V, rfl⟩ := hr
  obtain ⟨⟨hI, h4⟩, hI2, hT, hTb⟩ := id hG
  exact ⟨_, (floodR r), i, hi, T, GI_T (P_flood ⟨hI, h4⟩) hI2 hS, (c_flood b X Y Z hi S g h r hR hI h4 ).imp (fun v hh ⟨e, b2, X2, Y2, g2, h2, e2, hR2⟩ => ⟨e, b2, X2, Y2, Z, S, g2, h2, e2, hR2, hS, hZ⟩), (m_flood r m i ws hi T V hI ).imp (fun v hh ⟨e, m2, w2, V2, e2⟩ => ⟨e, m2, w2, V2, e2⟩)⟩

theorem J_comes {r i : Nat → Int32} {hi : Int32} {T : TX} {hp hq : Hp} (hG : GI r i hi T) (hc : CWd r i hi T hp) (hr : RWd r i hi T hq) (d dd wy : Int32) : JC yX4_comes yX5_comes cX4_comes cX5_comes 6 5 (some .int) 7 7 [.int d, .int dd, .int wy] hp hq := by
  obtain ⟨b, X, Y, Z, S, g, h, rfl, hR, hS, hZ⟩ := hc
  obtain ⟨m, ws, V, rfl⟩ := hr
  obtain ⟨⟨hI, h4⟩, hI2, hT, hTb⟩ := id hG
  exact ⟨_, (R_comes r T d dd wy), i, hi, T, GI_T (P_comes ⟨hI, h4⟩ hS d dd wy) hI2 hS, (c_comes b X Y Z hi S g h r hR hI h4 T hS dd wy d).imp (fun v hh ⟨e, b2, X2, Y2, g2, h2, e2, hR2⟩ => ⟨e, b2, X2, Y2, Z, S, g2, h2, e2, hR2, hS, hZ⟩), (m_comes r m i ws hi T V hI d dd wy).imp (fun v hh ⟨e, m2, w2, V2, e2⟩ => ⟨e, m2, w2, V2, e2⟩)⟩

theorem J_desert {r i : Nat → Int32} {hi : Int32} {T : TX} {hp hq : Hp} (hG : GI r i hi T) (hc : CWd r i hi T hp) (hr : RWd r i hi T hq) (d : Int32) : JC yX4_desert yX5_desert cX4_desert cX5_desert 6 8 (some .int) 8 7 [.int d] hp hq := by
  obtain ⟨b, X, Y, Z, S, g, h, rfl, hR, hS, hZ⟩ := hc
  obtain ⟨m, ws, V, rfl⟩ := hr
  obtain ⟨⟨hI, h4⟩, hI2, hT, hTb⟩ := id hG
  exact ⟨_, (R_desert r T d), i, hi, T, GI_T (P_desert hT ⟨hI, h4⟩ d) hI2 hS, (c_desert b X Y Z hi S g h r hR hI h4 T hS d).imp (fun v hh ⟨e, b2, X2, Y2, g2, h2, e2, hR2⟩ => ⟨e, b2, X2, Y2, Z, S, g2, h2, e2, hR2, hS, hZ⟩), (m_desert r m i ws hi T V hI h4 hT hTb d).imp (fun v hh ⟨e, m2, w2, V2, e2⟩ => ⟨e, m2, w2, V2, e2⟩)⟩

theorem J_restore {r i : Nat → Int32} {hi : Int32} {T : TX} {hp hq : Hp} (hG : GI r i hi T) (hc : CWd r i hi T hp) (hr : RWd r i hi T hq)  : JC yX4_restore yX5_restore cX4_restore cX5_restore 1 1 (some .int) 7 7 [] hp hq := by
  obtain ⟨b, X, Y, Z, S, g, h, rfl, hR, hS, hZ⟩ := hc
  obtain ⟨m, ws, V, rfl⟩ := hr
  obtain ⟨⟨hI, h4⟩, hI2, hT, hTb⟩ := id hG
  exact ⟨_, (R_restore hi r i), i, hi, T, GI_T (P_restore ⟨hI, h4⟩ hI2) hI2 hS, (c_restore b X Y Z hi S g h r hR hI h4 i (fun z => ⟨hZ z, hI2 z⟩)).imp (fun v hh ⟨e, b2, X2, Y2, g2, h2, e2, hR2⟩ => ⟨e, b2, X2, Y2, Z, S, g2, h2, e2, hR2, hS, hZ⟩), (m_restore r m i ws hi T V hI ).imp (fun v hh ⟨e, m2, w2, V2, e2⟩ => ⟨e, m2, w2, V2, e2⟩)⟩

theorem J_forged {r i : Nat → Int32} {hi : Int32} {T : TX} {hp hq : Hp} (hG : GI r i hi T) (hc : CWd r i hi T hp) (hr : RWd r i hi T hq) (d : Int32) : JC yX4_forged yX5_forged cX4_forged cX5_forged 5 4 (some .int) 7 7 [.int d] hp hq := by
  obtain ⟨b, X, Y, Z, S, g, h, rfl, hR, hS, hZ⟩ := hc
  obtain ⟨m, ws, V, rfl⟩ := hr
  obtain ⟨⟨hI, h4⟩, hI2, hT, hTb⟩ := id hG
  exact ⟨_, r, i, hi, T, hG, (c_forged b X Y Z hi S g h r hR hI h4 T hS d).imp (fun v hh ⟨e, Y2, g2, h2, e2⟩ => ⟨e, b, X, Y2, Z, S, g2, h2, e2, hR, hS, hZ⟩), (m_forged r m i ws hi T V hI hT d).imp (fun v hh ⟨e, m2, V2, e2⟩ => ⟨e, m2, ws, V2, e2⟩)⟩

theorem J_judge {r i : Nat → Int32} {hi : Int32} {T : TX} {hp hq : Hp} (hG : GI r i hi T) (hc : CWd r i hi T hp) (hr : RWd r i hi T hq) (d : Int32) : JC yX4_judge yX5_judge cX4_judge cX5_judge 5 5 (some .int) 7 7 [.int d] hp hq := by
  obtain ⟨b, X, Y, Z, S, g, h, rfl, hR, hS, hZ⟩ := hc
  obtain ⟨m, ws, V, rfl⟩ := hr
  obtain ⟨⟨hI, h4⟩, hI2, hT, hTb⟩ := id hG
  exact ⟨_, r, i, hi, T, hG, (c_judge b X Y Z hi S g h r hR hI h4 T hS d).imp (fun v hh ⟨e, Y2, g2, h2, e2⟩ => ⟨e, b, X, Y2, Z, S, g2, h2, e2, hR, hS, hZ⟩), (m_judge r m i ws hi T V hI hT d).imp (fun v hh ⟨e, m2, V2, e2⟩ => ⟨e, m2, ws, V2, e2⟩)⟩

theorem J_howMany {r i : Nat → Int32} {hi : Int32} {T : TX} {hp hq : Hp} (hG : GI r i hi T) (hc : CWd r i hi T hp) (hr : RWd r i hi T hq) (d dd wh : Int32) : JC yX4_howMany yX5_howMany cX4_howMany cX5_howMany 11 9 (some .int) 7 7 [.int d, .int dd, .int wh] hp hq := by
  obtain ⟨b, X, Y, Z, S, g, h, rfl, hR, hS, hZ⟩ := hc
  obtain ⟨m, ws, V, rfl⟩ := hr
  obtain ⟨⟨hI, h4⟩, hI2, hT, hTb⟩ := id hG
  exact ⟨_, r, i, hi, T, hG, (c_howMany b X Y Z hi S g h r hR hI h4 T hS dd wh d).imp (fun v hh ⟨e, Y2, g2, h2, e2⟩ => ⟨e, b, X, Y2, Z, S, g2, h2, e2, hR, hS, hZ⟩), (m_howMany r m i ws hi T V hI hT d dd wh).imp (fun v hh ⟨e, m2, V2, e2⟩ => ⟨e, m2, ws, V2, e2⟩)⟩

theorem J_whatIs {r i : Nat → Int32} {hi : Int32} {T : TX} {hp hq : Hp} (hG : GI r i hi T) (hc : CWd r i hi T hp) (hr : RWd r i hi T hq) (d cc9 wh : Int32) : JC yX4_whatIs yX5_whatIs cX4_whatIs cX5_whatIs 10 7 (some .int) 7 7 [.int d, .int cc9, .int wh] hp hq := by
  obtain ⟨b, X, Y, Z, S, g, h, rfl, hR, hS, hZ⟩ := hc
  obtain ⟨m, ws, V, rfl⟩ := hr
  obtain ⟨⟨hI, h4⟩, hI2, hT, hTb⟩ := id hG
  exact ⟨_, r, i, hi, T, hG, (c_whatIs b X Y Z hi S g h r hR hI h4 T hS cc9 wh d).imp (fun v hh ⟨e, Y2, g2, h2, e2⟩ => ⟨e, b, X, Y2, Z, S, g2, h2, e2, hR, hS, hZ⟩), (m_whatIs r m i ws hi T V hI hT d cc9 wh).imp (fun v hh ⟨e, m2, V2, e2⟩ => ⟨e, m2, ws, V2, e2⟩)⟩

theorem J_cost {r i : Nat → Int32} {hi : Int32} {T : TX} {hp hq : Hp} (hG : GI r i hi T) (hc : CWd r i hi T hp) (hr : RWd r i hi T hq) (d : Int32) : JC yX4_cost yX5_cost cX4_cost cX5_cost 4 3 (some .int) 7 7 [.int d] hp hq := by
  obtain ⟨b, X, Y, Z, S, g, h, rfl, hR, hS, hZ⟩ := hc
  obtain ⟨m, ws, V, rfl⟩ := hr
  obtain ⟨⟨hI, h4⟩, hI2, hT, hTb⟩ := id hG
  exact ⟨_, r, i, hi, T, hG, (c_cost b X Y Z hi S g h r hR hI h4 T hS d).imp (fun v hh ⟨e, Y2, S2, g2, h2, e2, hS2⟩ => ⟨e, b, X, Y2, Z, S2, g2, h2, e2, hR, hS2, hZ⟩), (m_cost r m i ws hi T V hI d).imp (fun v hh ⟨e, m2, V2, e2⟩ => ⟨e, m2, ws, V2, e2⟩)⟩

theorem J_toss {r i : Nat → Int32} {hi : Int32} {T : TX} {hp hq : Hp} (hG : GI r i hi T) (hc : CWd r i hi T hp) (hr : RWd r i hi T hq) (d : Int32) : JC yX4_toss yX5_toss cX4_toss cX5_toss 4 5 (some .int) 7 7 [.int d] hp hq := by
  obtain ⟨b, X, Y, Z, S, g, h, rfl, hR, hS, hZ⟩ := hc
  obtain ⟨m, ws, V, rfl⟩ := hr
  obtain ⟨⟨hI, h4⟩, hI2, hT, hTb⟩ := id hG
  exact ⟨_, r, i, hi, T, hG, (c_toss b X Y Z hi S g h r hR hI h4 T hS d).imp (fun v hh ⟨e, Y2, S2, g2, h2, e2, hS2⟩ => ⟨e, b, X, Y2, Z, S2, g2, h2, e2, hR, hS2, hZ⟩), (m_toss r m i ws hi T V hI d).imp (fun v hh ⟨e, m2, V2, e2⟩ => ⟨e, m2, ws, V2, e2⟩)⟩

theorem TI_keep {T : TX} (hT : IT T) (hb : ∀ j, j < 8 → tS T j = nI 0 → byOK T j) (d wh k f : Int32) : IT (T_keep T d wh k f) ∧ ∀ j, j < 8 → tS (T_keep T d wh k f) j = nI 0 → byOK (T_keep T d wh k f) j := by
  unfold T_keep
  split
  · exact ⟨hT, hb⟩
  · exact ⟨hT, hb⟩
theorem TI_row {T : TX} (hT : IT T) (hb : ∀ j, j < 8 → tS T j = nI 0 → byOK T j) (d so n : Int32) : IT (T_row T d so n) ∧ ∀ j, j < 8 → tS (T_row T d so n) j = nI 0 → byOK (T_row T d so n) j := by
  unfold T_row
  split
  · rename_i q
    split
    · exact ⟨hT, hb⟩
    · rename_i q2
      obtain ⟨j, hj, rfl⟩ := sh_ex q.1
      rw [N_nI (by omega)]
      refine ⟨fun k hk => ?_, fun k hk z i hi => ?_⟩
      · by_cases e : k = j
        · subst e
          obtain ⟨x, hx, e2⟩ := row_ex q2 q.2.2
          exact ⟨x, hx, (upd_at _ _ _).trans e2⟩
        · obtain ⟨x, hx, e2⟩ := hT k hk
          exact ⟨x, hx, (upd_ne _ e).trans e2⟩
      · by_cases e : k = j
        · subst e
          have e4 : tE (trow T k so n) (100 * k + i) = nI 0 := if_pos (by omega)
          rw [e4]
          decide
        · have e4 : tE (trow T j so n) (100 * k + i) = tE T (100 * k + i) := if_neg (by omega)
          rw [e4]
          exact hb k hk ((upd_ne _ e).symm.trans z) i hi
  · exact ⟨hT, hb⟩
theorem TI_put {T : TX} (hT : IT T) (hb : ∀ j, j < 8 → tS T j = nI 0 → byOK T j) (d i v : Int32) : IT (T_put T d i v) ∧ ∀ j, j < 8 → tS (T_put T d i v) j = nI 0 → byOK (T_put T d i v) j := by
  unfold T_put
  split
  · rename_i q
    split
    · rename_i q2
      obtain ⟨hsh, -⟩ := wrong_0 q
      obtain ⟨j, hj, rfl⟩ := sh_ex hsh
      obtain ⟨n, hn, en⟩ := hT j hj
      rw [N_nI (by omega)] at q2 ⊢
      obtain ⟨x, hx, rfl⟩ := lt_ex (by omega) ((plP_iff en).mp q2)
      rw [N_nI (by omega)]
      refine ⟨hT, fun k hk z i hi => ?_⟩
      have z' : T.2.2.2.1 k = nI 0 := z
      by_cases e : 100 * k + i = 100 * j + x
      · obtain rfl : k = j := by omega
        have e4 : tE (tput T k x v) (100 * k + i) = nar (T.2.2.2.1 k) v := by rw [e]; exact upd_at _ _ _
        rw [e4, z']
        exact nar_byte v
      · have e4 : tE (tput T j x v) (100 * k + i) = tE T (100 * k + i) := upd_ne _ e
        rw [e4]
        exact hb k hk z i hi
    · exact ⟨hT, hb⟩
  · exact ⟨hT, hb⟩
theorem TI_copy {T : TX} (hT : IT T) (hb : ∀ j, j < 8 → tS T j = nI 0 → byOK T j) (d i e jj n : Int32) : IT (T_copy T d i e jj n) ∧ ∀ j, j < 8 → tS (T_copy T d i e jj n) j = nI 0 → byOK (T_copy T d i e jj n) j := by
  unfold T_copy
  split
  · rename_i q
    obtain ⟨a, ha, rfl⟩ := sh_ex q.1
    obtain ⟨c, hc, rfl⟩ := sh_ex q.2
    rw [N_nI (by omega), N_nI (by omega)]
    split
    · exact ⟨hT, hb⟩
    · split
      · rename_i q3
        split
        · rename_i q4
          obtain ⟨n1, hn1, en1⟩ := hT a ha
          obtain ⟨n2, hn2, en2⟩ := hT c hc
          obtain ⟨p0, p1, p2, p3, p4⟩ := q4
          rw [en1, ti_n _ (by omega)] at p3
          rw [en2, ti_n _ (by omega)] at p4
          have eN : ∀ x : Int32, 0 ≤ x.toInt → (N x : Int) = x.toInt := fun x hx => Int.toNat_of_nonneg hx
          have a1 := eN _ p0
          have a2 := eN _ p1
          have a3 := eN _ p2
          refine ⟨hT, fun k hk z x hx => ?_⟩
          have z' : tS T k = nI 0 := z
          by_cases q5 : 100 * c + N jj ≤ 100 * k + x ∧ 100 * k + x < 100 * c + N jj + N n
          · obtain rfl : k = c := by omega
            have e4 : tE (tcopy T a k (N i) (N jj) (N n)) (100 * k + x) = tE T (100 * a + (N i + (100 * k + x - (100 * k + N jj)))) := (pk_cpy_in q5.1 q5.2).trans (congrArg (tE T) (by omega))
            rw [e4]
            exact hb a ha (q3.2.2.trans z') _ (by omega)
          · have e4 : tE (tcopy T a c (N i) (N jj) (N n)) (100 * k + x) = tE T (100 * k + x) := pk_cpy_out (by omega)
            rw [e4]
            exact hb k hk z' x hx
        · exact ⟨hT, hb⟩
      · exact ⟨hT, hb⟩
  · exact ⟨hT, hb⟩
theorem J_keep {r i : Nat → Int32} {hi : Int32} {T : TX} {hp hq : Hp} (hG : GI r i hi T) (hc : CWd r i hi T hp) (hr : RWd r i hi T hq) (d wh k f : Int32) : JC yX4_keep yX5_keep cX4_keep cX5_keep 6 5 (some .int) 7 7 [.int d, .int wh, .int k, .int f] hp hq := by
  obtain ⟨b, X, Y, Z, S, g, h, rfl, hR, hS, hZ⟩ := hc
  obtain ⟨m, ws, V, rfl⟩ := hr
  obtain ⟨⟨hI, h4⟩, hI2, hT, hTb⟩ := id hG
  exact ⟨_, r, i, hi, (T_keep T d wh k f), ⟨⟨hI, h4⟩, hI2, TI_keep hT hTb d wh k f⟩, (c_keep b X Y Z hi S g h r hR hI h4 T hS wh k f d).imp (fun v hh ⟨e, Y2, S2, g2, h2, e2, hS2⟩ => ⟨e, b, X, Y2, Z, S2, g2, h2, e2, hR, hS2, hZ⟩), (m_keep r m i ws hi T V hI d wh k f).imp (fun v hh ⟨e, m2, w2, V2, e2⟩ => ⟨e, m2, w2, V2, e2⟩)⟩

theorem J_row {r i : Nat → Int32} {hi : Int32} {T : TX} {hp hq : Hp} (hG : GI r i hi T) (hc : CWd r i hi T hp) (hr : RWd r i hi T hq) (d so n : Int32) : JC yX4_row yX5_row cX4_row cX5_row 5 5 (some .int) 7 7 [.int d, .int so, .int n] hp hq := by
  obtain ⟨b, X, Y, Z, S, g, h, rfl, hR, hS, hZ⟩ := hc
  obtain ⟨m, ws, V, rfl⟩ := hr
  obtain ⟨⟨hI, h4⟩, hI2, hT, hTb⟩ := id hG
  exact ⟨_, r, i, hi, (T_row T d so n), ⟨⟨hI, h4⟩, hI2, TI_row hT hTb d so n⟩, (c_row b X Y Z hi S g h r hR hI h4 T hS so n d).imp (fun v hh ⟨e, Y2, S2, g2, h2, e2, hS2⟩ => ⟨e, b, X, Y2, Z, S2, g2, h2, e2, hR, hS2, hZ⟩), (m_row r m i ws hi T V hI d so n).imp (fun v hh ⟨e, m2, w2, V2, e2⟩ => ⟨e, m2, w2, V2, e2⟩)⟩

theorem J_put {r i : Nat → Int32} {hi : Int32} {T : TX} {hp hq : Hp} (hG : GI r i hi T) (hc : CWd r i hi T hp) (hr : RWd r i hi T hq) (d x v : Int32) : JC yX4_put yX5_put cX4_put cX5_put 6 5 (some .int) 7 7 [.int d, .int x, .int v] hp hq := by
  obtain ⟨b, X, Y, Z, S, g, h, rfl, hR, hS, hZ⟩ := hc
  obtain ⟨m, ws, V, rfl⟩ := hr
  obtain ⟨⟨hI, h4⟩, hI2, hT, hTb⟩ := id hG
  exact ⟨_, r, i, hi, (T_put T d x v), ⟨⟨hI, h4⟩, hI2, TI_put hT hTb d x v⟩, (c_put b X Y Z hi S g h r hR hI h4 T hS x v d).imp (fun v hh ⟨e, Y2, S2, g2, h2, e2, hS2⟩ => ⟨e, b, X, Y2, Z, S2, g2, h2, e2, hR, hS2, hZ⟩), (m_put r m i ws hi T V hI hT d x v).imp (fun v hh ⟨e, m2, w2, V2, e2⟩ => ⟨e, m2, w2, V2, e2⟩)⟩

theorem J_copy {r i : Nat → Int32} {hi : Int32} {T : TX} {hp hq : Hp} (hG : GI r i hi T) (hc : CWd r i hi T hp) (hr : RWd r i hi T hq) (d x e jj n : Int32) : JC yX4_copy yX5_copy cX4_copy cX5_copy 8 8 (some .int) 7 7 [.int d, .int x, .int e, .int jj, .int n] hp hq := by
  obtain ⟨b, X, Y, Z, S, g, h, rfl, hR, hS, hZ⟩ := hc
  obtain ⟨m, ws, V, rfl⟩ := hr
  obtain ⟨⟨hI, h4⟩, hI2, hT, hTb⟩ := id hG
  exact ⟨_, r, i, hi, (T_copy T d x e jj n), ⟨⟨hI, h4⟩, hI2, TI_copy hT hTb d x e jj n⟩, (c_copy b X Y Z hi S g h r hR hI h4 T hS x jj n d e).imp (fun v hh ⟨e, Y2, S2, g2, h2, e2, hS2⟩ => ⟨e, b, X, Y2, Z, S2, g2, h2, e2, hR, hS2, hZ⟩), (m_copy r m i ws hi T V hI hT d x e jj n).imp (fun v hh ⟨e, m2, w2, V2, e2⟩ => ⟨e, m2, w2, V2, e2⟩)⟩

theorem J_image {r i : Nat → Int32} {hi : Int32} {T : TX} {hp hq : Hp} (hG : GI r i hi T) (hc : CWd r i hi T hp) (hr : RWd r i hi T hq) : JC yX4_image yX5_image cX4_image cX5_image 1 1 (some .int) 7 7 [] hp hq := by
  obtain ⟨b, X, Y, Z, S, g, h, rfl, hR, hS, hZ⟩ := hc
  obtain ⟨m, ws, V, rfl⟩ := hr
  obtain ⟨⟨hI, h4⟩, hI2, hT, hTb⟩ := id hG
  exact ⟨_, r, r, nI 1, T, ⟨⟨hI, h4⟩, fun _ => ⟨hI, h4⟩, hT, hTb⟩, (c_image b X Y Z hi S g h r hR hI h4).imp (fun v hh ⟨e, b2, Z2, Y2, g2, h2, e2, hR2⟩ => ⟨e, b, X, Y2, Z2, S, g2, h2, e2, hR, hS, fun _ => ⟨b2, hR2⟩⟩), (m_image r m i ws hi T V hI).imp (fun v hh ⟨e, e2⟩ => ⟨e, m, ws, V, e2⟩)⟩

theorem J_pairs {r i : Nat → Int32} {hi : Int32} {T : TX} {hp hq : Hp} (hG : GI r i hi T) (hc : CWd r i hi T hp) (hr : RWd r i hi T hq) : ∃ i2 hi2 T2, GI r i2 hi2 T2 ∧ Ctr yX4_pairs cX4_pairs 6 (some .int) 7 0 0 [.ref 0] hp (fun v hh => ∃ q, v = some (.int (nI q)) ∧ IsMx r (allL r) 0 q ∧ CWd r i2 hi2 T2 hh) ∧ Ctr yX5_pairs cX5_pairs 1 (some .int) 7 0 0 [.ref 0] hq (fun v hh => ∃ q, v = some (.int (nI q)) ∧ IsMx r (allL r) 0 q ∧ RWd r i2 hi2 T2 hh) := by
  obtain ⟨b, X, Y, Z, S, g, h, rfl, hR, hS, hZ⟩ := hc
  obtain ⟨m, ws, V, rfl⟩ := hr
  obtain ⟨⟨hI, h4⟩, hI2, hT, hTb⟩ := id hG
  exact ⟨i, hi, T, hG, (c_pairs b X Y Z hi S g h r hR hI h4).imp (fun v hh ⟨q, e, hq, Y2, g2, h2, e2⟩ => ⟨q, e, hq, b, X, Y2, Z, S, g2, h2, e2, hR, hS, hZ⟩), (m_pairs r m i ws hi T V hI).imp (fun v hh ⟨q, e, hq, m2, V2, e2⟩ => ⟨q, e, hq, m2, ws, V2, e2⟩)⟩

