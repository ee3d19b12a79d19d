/-! what a statement does -/
abbrev cQ (B : Nat → Int32) (p : Nat) (r : Nat → Int32) : Prop := dgt (B (p + 1)) < 8 ∧ dgt (B (p + 4)) ≤ 1 ∧ many r < 6
abbrev dQ (x : Nat) (r : Nat → Int32) : Prop := (nI 1 ≤ nI x ∧ nI x ≤ nI 60) ∧ r 1 + nI x ≤ nI 999
abbrev efP (B : Nat → Int32) (p : Nat) (r : Nat → Int32) : Prop := (B p = nI 99 → cQ B p r) ∧ (B p = nI 114 → dgt (B (p + 1)) < many r) ∧ (B p = nI 100 → dQ (numN B (p + 1) 2) r)
def efR (B : Nat → Int32) (p : Nat) (r : Nat → Int32) : Nat → Int32 :=
  if B p = nI 99 then addR r (nI (dgt (B (p + 1)))) (nI (dgt (B (p + 2)))) (nI (dgt (B (p + 3)))) (nI (dgt (B (p + 4))))
  else if B p = nI 103 then fillR r (dgt (B (p + 1))) (nI (numN B (p + 2) 3))
  else if B p = nI 119 then upd r 2 (nI (dgt (B (p + 1)))) else if B p = nI 101 then upd r 2 (-(nI (dgt (B (p + 1)))))
  else if B p = nI 114 then turnR r (dgt (B (p + 1))) else if B p = nI 102 then floodR r else daysR r (numN B (p + 1) 2)
theorem nI_nq {a b : Nat} (ha : a < 2 ^ 31) (hb : b < 2 ^ 31) (h : a ≠ b) {x : Int32} (e : x = nI a) : ¬ x = nI b := fun z => h ((nI_eq ha hb).mp (e.symm.trans z))
section Ef
variable {B : Nat → Int32} {p : Nat} {r : Nat → Int32}
theorem ef_c (e : B p = nI 99) : efR B p r = addR r (nI (dgt (B (p + 1)))) (nI (dgt (B (p + 2)))) (nI (dgt (B (p + 3)))) (nI (dgt (B (p + 4)))) ∧ (efP B p r ↔ cQ B p r) :=
  ⟨if_pos e, fun z => z.1 e, fun z => ⟨fun _ => z, fun q => absurd q (nI_nq (by decide) (by decide) (by decide) e), fun q => absurd q (nI_nq (by decide) (by decide) (by decide) e)⟩⟩
theorem ef_g (e : B p = nI 103) : efR B p r = fillR r (dgt (B (p + 1))) (nI (numN B (p + 2) 3)) ∧ efP B p r :=
  ⟨(if_neg (nI_nq (by decide) (by decide) (by decide) e)).trans (if_pos e), fun q => absurd q (nI_nq (by decide) (by decide) (by decide) e), fun q => absurd q (nI_nq (by decide) (by decide) (by decide) e), fun q => absurd q (nI_nq (by decide) (by decide) (by decide) e)⟩
theorem ef_w (e : B p = nI 119) : efR B p r = upd r 2 (nI (dgt (B (p + 1)))) ∧ efP B p r :=
  ⟨(if_neg (nI_nq (by decide) (by decide) (by decide) e)).trans ((if_neg (nI_nq (by decide) (by decide) (by decide) e)).trans (if_pos e)), fun q => absurd q (nI_nq (by decide) (by decide) (by decide) e), fun q => absurd q (nI_nq (by decide) (by decide) (by decide) e), fun q => absurd q (nI_nq (by decide) (by decide) (by decide) e)⟩
theorem ef_e (e : B p = nI 101) : efR B p r = upd r 2 (-(nI (dgt (B (p + 1))))) ∧ efP B p r :=
  ⟨(if_neg (nI_nq (by decide) (by decide) (by decide) e)).trans ((if_neg (nI_nq (by decide) (by decide) (by decide) e)).trans ((if_neg (nI_nq (by decide) (by decide) (by decide) e)).trans (if_pos e))), fun q => absurd q (nI_nq (by decide) (by decide) (by decide) e), fun q => absurd q (nI_nq (by decide) (by decide) (by decide) e), fun q => absurd q (nI_nq (by decide) (by decide) (by decide) e)⟩
theorem ef_r (e : B p = nI 114) : efR B p r = turnR r (dgt (B (p + 1))) ∧ (efP B p r ↔ dgt (B (p + 1)) < many r) :=
  ⟨(if_neg (nI_nq (by decide) (by decide) (by decide) e)).trans ((if_neg (nI_nq (by decide) (by decide) (by decide) e)).trans ((if_neg (nI_nq (by decide) (by decide) (by decide) e)).trans ((if_neg (nI_nq (by decide) (by decide) (by decide) e)).trans (if_pos e)))), fun z => z.2.1 e, fun z => ⟨fun q => absurd q (nI_nq (by decide) (by decide) (by decide) e), fun _ => z, fun q => absurd q (nI_nq (by decide) (by decide) (by decide) e)⟩⟩
theorem ef_f (e : B p = nI 102) : efR B p r = floodR r ∧ efP B p r :=
  ⟨(if_neg (nI_nq (by decide) (by decide) (by decide) e)).trans ((if_neg (nI_nq (by decide) (by decide) (by decide) e)).trans ((if_neg (nI_nq (by decide) (by decide) (by decide) e)).trans ((if_neg (nI_nq (by decide) (by decide) (by decide) e)).trans ((if_neg (nI_nq (by decide) (by decide) (by decide) e)).trans (if_pos e))))), fun q => absurd q (nI_nq (by decide) (by decide) (by decide) e), fun q => absurd q (nI_nq (by decide) (by decide) (by decide) e), fun q => absurd q (nI_nq (by decide) (by decide) (by decide) e)⟩
theorem ef_d (e : B p = nI 100) : efR B p r = daysR r (numN B (p + 1) 2) ∧ (efP B p r ↔ dQ (numN B (p + 1) 2) r) :=
  ⟨(if_neg (nI_nq (by decide) (by decide) (by decide) e)).trans ((if_neg (nI_nq (by decide) (by decide) (by decide) e)).trans ((if_neg (nI_nq (by decide) (by decide) (by decide) e)).trans ((if_neg (nI_nq (by decide) (by decide) (by decide) e)).trans ((if_neg (nI_nq (by decide) (by decide) (by decide) e)).trans (if_neg (nI_nq (by decide) (by decide) (by decide) e)))))), fun z => z.2.2 e, fun z => ⟨fun q => absurd q (nI_nq (by decide) (by decide) (by decide) e), fun q => absurd q (nI_nq (by decide) (by decide) (by decide) e), fun _ => z⟩⟩
theorem w9_ok : ∀ d, d < 10 → (-9 ≤ (nI d).toInt ∧ (nI d).toInt ≤ 9) ∧ (-9 ≤ (-(nI d)).toInt ∧ (-(nI d)).toInt ≤ 9) := by decide
theorem flood_4 : floodR r 4 = r 4 := floodR_ne (Or.inl (by omega)) (fun c => by omega)
theorem ef_ok (hl : letP (B p)) (hI : Iv r) (h4 : r 4 = nI 0) (h : efP B p r) : Iv (efR B p r) ∧ efR B p r 4 = nI 0 := by
  have hd := fun i => dgt_le (B i)
  have h6 := hI.1.2
  rcases hl with e | e | e | e | e | e | e
  · obtain ⟨e1, e2⟩ := ef_c (r := r) e
    obtain ⟨q1, q2, q3⟩ := e2.mp h
    rw [e1]
    refine ⟨Iv_add hI q3 q1 (by have := hd (p + 2); omega) (by have := hd (p + 3); omega) ?_, (addR_ne (by omega) (by omega)).trans h4⟩
    rcases (show dgt (B (p + 4)) = 0 ∨ dgt (B (p + 4)) = 1 by omega) with z | z <;> rw [z]
    · exact Or.inl rfl
    · exact Or.inr rfl
  · rw [(ef_g (r := r) e).1]
    have hn := numN_le B (p + 2) 3
    have h10 : (10 : Nat) ^ 3 = 1000 := rfl
    refine ⟨Iv_fill hI (by have := hd (p + 1); omega) (by omega), ?_⟩
    have := hd (p + 1)
    exact (upd_ne _ (by omega)).trans ((upd_ne _ (by omega)).trans h4)
  · obtain ⟨e1, e2⟩ := ef_d (r := r) e
    rw [e1]
    obtain ⟨g1, g2, g3, g4⟩ := daysR_ok hI (numN B (p + 1) 2)
    exact ⟨g1, g4.trans h4⟩
  · rw [(ef_e (r := r) e).1]
    have hw := (w9_ok (dgt (B (p + 1))) (by have := hd (p + 1); omega)).2
    exact ⟨Iv_wind hI hw.1 hw.2, (upd_ne _ (by omega)).trans h4⟩
  · obtain ⟨e1, e2⟩ := ef_r (r := r) e
    rw [e1]
    exact ⟨Iv_turn hI (e2.mp h), (upd_ne _ (by simp only [ix]; omega)).trans h4⟩
  · rw [(ef_w (r := r) e).1]
    have hw := (w9_ok (dgt (B (p + 1))) (by have := hd (p + 1); omega)).1
    exact ⟨Iv_wind hI hw.1 hw.2, (upd_ne _ (by omega)).trans h4⟩
  · rw [(ef_f (r := r) e).1]
    exact ⟨Iv_flood hI, flood_4.trans h4⟩
end Ef
abbrev yW (Y : DX) (U : SX) : Hp := dW 0 Y ++ sW 8 U
theorem subY {Y : DX} {U : SX} : Sub (yW Y U) [0, 1, 2, 3, 4, 5, 6, 7] (dW 0 Y) := rfl
theorem subU {Y : DX} {U : SX} : Sub (yW Y U) [8, 9] (sW 0 U) := rfl
theorem placeY {Y P2 : DX} {U : SX} : place (yW Y U) [0, 1, 2, 3, 4, 5, 6, 7] (dW 0 P2) = yW P2 U := rfl
/-- whether it is as it must be; then the desert stands to r -/
def EP (b : Int32) (U : SX) (Q : Prop) [Decidable Q] (r : Nat → Int32) : Option Value → Hp → Prop := fun v hh => v = some (.int (bI (decide Q))) ∧ ∃ Y, hh = yW Y U ∧ (Q → Rel b Y r)
theorem ep_n {b : Int32} {U : SX} {Q : Prop} [Decidable Q] {r : Nat → Int32} {Y : DX} (h : ¬ Q) : EP b U Q r (some (.int (nI 0))) (yW Y U) := ⟨congrArg (fun z => some (Value.int z)) (bI_n h), Y, rfl, fun z => absurd z h⟩
theorem ep_y {b : Int32} {U : SX} {Q : Prop} [Decidable Q] {r : Nat → Int32} {Y : DX} (h : Q) (hR : Rel b Y r) : EP b U Q r (some (.int (nI 1))) (yW Y U) := ⟨congrArg (fun z => some (Value.int z)) (bI_y h), Y, rfl, fun _ => hR⟩
def EQ (b : Int32) (Q : Prop) [Decidable Q] (r : Nat → Int32) : Option Value → Hp → Prop := fun v hh => v = some (.int (bI (decide Q))) ∧ ∃ Y, hh = dW 0 Y ∧ (Q → Rel b Y r)
theorem eq_n {b : Int32} {Q : Prop} [Decidable Q] {r : Nat → Int32} {Y : DX} (h : ¬ Q) : EQ b Q r (some (.int (nI 0))) (dW 0 Y) := ⟨congrArg (fun z => some (Value.int z)) (bI_n h), Y, rfl, fun z => absurd z h⟩
theorem eq_y {b : Int32} {Q : Prop} [Decidable Q] {r : Nat → Int32} {Y : DX} (h : Q) (hR : Rel b Y r) : EQ b Q r (some (.int (nI 1))) (dW 0 Y) := ⟨congrArg (fun z => some (Value.int z)) (bI_y h), Y, rfl, fun _ => hR⟩
theorem bI_iff {P Q : Prop} [Decidable P] [Decidable Q] (h : P ↔ Q) : bI (decide P) = bI (decide Q) := by
  by_cases q : P
  · rw [decide_eq_true q, decide_eq_true (h.mp q)]
  · rw [decide_eq_false q, decide_eq_false (fun z => q (h.mpr z))]
set_option maxRecDepth 100000 in
set_option maxHeartbeats 800000 in
theorem c_restsOn (b : Int32) (Y : DX) (r : Nat → Int32) (hR : Rel b Y r) (hI : Iv r) (h4 : r 4 = nI 0) (a : Nat) (ha : a < 10) : Ctr yX3_restsOn cX3_restsOn 2 (some .boolean) 1 0 0 [.ref 0, .int (nI a)] (dW 0 Y) (EQ b (a < many r) (turnR r a)) := by
  have hm6 := hI.1.2
  refine Ctr.of rfl (Nat.le_of_ble_eq_true rfl) ⟨clS_of rfl, clH_of rfl⟩ (fun K F X0 => ?_)
  show Go K 0 0 0 [(0, .ref 0), (1, .int (nI a))] [] (dW 0 Y)
  refine g_iload_n (pc := 0) F dX3_restsOn_0 rfl ?_
  refine g_aload_n (pc := 1) F dX3_restsOn_1 rfl ?_
  refine g_getf (pc := 2) F fl_X3_67 dX3_restsOn_2 rfl rfl ?_
  refine g_icN_lt (pc := 5) F dX3_restsOn_5 (tgt := 10) rfl rfl (hR.1.1.trans hI.1.1) (by omega) (by omega) (fun c_5 => ?_) (fun c_5 => ?_)
  · refine g_aload_n (pc := 10) F dX3_restsOn_10 rfl ?_
    refine g_iload_n (pc := 11) F dX3_restsOn_11 rfl ?_
    refine h_callV (pc := 12) F (c_turnRest b Y r _ a hR hI rfl c_5 h4) mi_X0_turnRest kv_X3_70 rfl rfl dX3_restsOn_12 [0, 1, 2, 3, 4, 5, 6, 7] rfl (by decide) (by decide) rfl rfl (Nat.le_of_ble_eq_true rfl) (by decide) (by decide) ?_
    rintro _ _ ⟨rfl, P2, rfl, hR2⟩ -
    refine g_iconst (pc := 15) F dX3_restsOn_15 (v := nI 1) rfl ?_
    exact g_zret (pc := 16) F X0 dX3_restsOn_16 (by first | exact bI_nar _ | rfl) (Nat.le_of_ble_eq_true rfl) (Nat.le_of_ble_eq_true rfl) rfl (eq_y c_5 hR2)
  · refine g_iconst (pc := 8) F dX3_restsOn_8 (v := nI 0) rfl ?_
    exact g_zret (pc := 9) F X0 dX3_restsOn_9 (by first | exact bI_nar _ | rfl) (Nat.le_of_ble_eq_true rfl) (Nat.le_of_ble_eq_true rfl) rfl (eq_n (Nat.not_lt.mpr c_5))

set_option maxRecDepth 100000 in
set_option maxHeartbeats 800000 in
theorem c_daysPassOn (b : Int32) (Y : DX) (r : Nat → Int32) (hR : Rel b Y r) (hI : Iv r) (a : Nat) (ha : a < 1000) : Ctr yX3_daysPassOn cX3_daysPassOn 2 (some .boolean) 6 0 0 [.ref 0, .int (nI a)] (dW 0 Y) (EQ b (dQ a r) (daysR r a)) := by
  refine Ctr.of rfl (Nat.le_of_ble_eq_true rfl) ⟨clS_of rfl, clH_of rfl⟩ (fun K F X0 => ?_)
  show Go K 0 0 0 [(0, .ref 0), (1, .int (nI a))] [] (dW 0 Y)
  refine g_iload_n (pc := 0) F dX3_daysPassOn_0 rfl ?_
  refine g_iconst (pc := 1) F dX3_daysPassOn_1 (v := nI 1) rfl ?_
  refine g_bipush (pc := 2) F dX3_daysPassOn_2 (v := nI 60) rfl ?_
  refine h_readSN (pc := 4) F (c_isWithin _ _ _) mi_X4_isWithin kn_X3_74 kn2_X3_74 dX3_daysPassOn_4 [] rfl (by decide) (by decide) rfl rfl (Nat.le_of_ble_eq_true rfl) trivial (by decide) (by decide) ?_
  refine g_ifeq_d (pc := 7) F dX3_daysPassOn_7 (tgt := 22) rfl (fun c_7 => ?_) (fun c_7 => ?_)
  · refine g_iconst (pc := 22) F dX3_daysPassOn_22 (v := nI 0) rfl ?_
    exact g_zret (pc := 23) F X0 dX3_daysPassOn_23 (by first | exact bI_nar _ | rfl) (Nat.le_of_ble_eq_true rfl) (Nat.le_of_ble_eq_true rfl) rfl (eq_n (by first | exact (fun z => c_7 z.1) | exact (fun z => c_19 z.2) | fail))
  · refine g_aload_n (pc := 10) F dX3_daysPassOn_10 rfl ?_
    refine g_getf (pc := 11) F fl_X3_78 dX3_daysPassOn_11 rfl rfl ?_
    rw [hR.1.2.1]
    refine g_iload_n (pc := 14) F dX3_daysPassOn_14 rfl ?_
    refine g_iadd (pc := 15) F dX3_daysPassOn_15 ?_
    refine g_sipush (pc := 16) F dX3_daysPassOn_16 (v := nI 999) rfl ?_
    refine g_ic_le (pc := 19) F dX3_daysPassOn_19 (tgt := 24) rfl (fun c_19 => ?_) (fun c_19 => ?_)
    · refine g_aload_n (pc := 24) F dX3_daysPassOn_24 rfl ?_
      refine g_iload_n (pc := 25) F dX3_daysPassOn_25 rfl ?_
      refine h_callV (pc := 26) F (c_passDays b Y r _ a hR hI rfl ha) mi_X0_passDays kv_X3_81 rfl rfl dX3_daysPassOn_26 [0, 1, 2, 3, 4, 5, 6, 7] rfl (by decide) (by decide) rfl rfl (Nat.le_of_ble_eq_true rfl) (by decide) (by decide) ?_
      rintro _ _ ⟨rfl, P2, rfl, hR2⟩ -
      refine g_iconst (pc := 29) F dX3_daysPassOn_29 (v := nI 1) rfl ?_
      exact g_zret (pc := 30) F X0 dX3_daysPassOn_30 (by first | exact bI_nar _ | rfl) (Nat.le_of_ble_eq_true rfl) (Nat.le_of_ble_eq_true rfl) rfl (eq_y ⟨c_7, c_19⟩ hR2)
    · refine g_iconst (pc := 22) F dX3_daysPassOn_22 (v := nI 0) rfl ?_
      exact g_zret (pc := 23) F X0 dX3_daysPassOn_23 (by first | exact bI_nar _ | rfl) (Nat.le_of_ble_eq_true rfl) (Nat.le_of_ble_eq_true rfl) rfl (eq_n (by first | exact (fun z => c_7 z.1) | exact (fun z => c_19 z.2) | fail))

set_option maxRecDepth 100000 in
set_option maxHeartbeats 800000 in
theorem c_comesOn (b : Int32) (Y : DX) (r : Nat → Int32) (hR : Rel b Y r) (hI : Iv r) (U : SX) (n p : Nat) (hs : sSi U = nI n) (hn : n ≤ 100) (B : Nat → Int32) (hB : B = byU U n) (hp : p < 800) : Ctr yX3_comesOn cX3_comesOn 5 (some .boolean) 4 0 0 [.ref 0, .int (nI (dgt (B (p + 1)))), .ref 8, .int (nI p)] (yW Y U) (EP b U (cQ B p r) (addR r (nI (dgt (B (p + 1)))) (nI (dgt (B (p + 2)))) (nI (dgt (B (p + 3)))) (nI (dgt (B (p + 4)))))) := by
  have hda : ∀ q, q < 1000 → RCtr yX3_digitAt cX3_digitAt 3 (some .int) 3 [.ref 0, .int (nI q)] (sW 0 U) (.int (nI (dgt (B q)))) := fun q hq => by
    rw [hB]
    exact c_digitAt U n q hs hn _ rfl hq
  have hd1 := dgt_le (B (p + 1))
  have hd4 := dgt_le (B (p + 4))
  refine Ctr.of rfl (Nat.le_of_ble_eq_true rfl) ⟨clS_of rfl, clH_of rfl⟩ (fun K F X0 => ?_)
  show Go K 0 0 0 [(0, .ref 0), (1, .int (nI (dgt (B (p + 1))))), (2, .ref 8), (3, .int (nI p))] [] (yW Y U)
  refine g_aload_n (pc := 0) F dX3_comesOn_0 rfl ?_
  refine g_iload_n (pc := 1) F dX3_comesOn_1 rfl ?_
  refine g_iconst (pc := 2) F dX3_comesOn_2 (v := nI 4) rfl ?_
  refine g_iaddN (pc := 3) F dX3_comesOn_3 ?_
  refine h_readS (pc := 4) F (hda (p + 4) (by omega)) mi_X3_digitAt ks_X3_29 dX3_comesOn_4 [8, 9] subU (by decide) (by decide) rfl rfl (Nat.le_of_ble_eq_true rfl) trivial (by decide) (by decide) ?_
  refine g_istore (pc := 7) F dX3_comesOn_7 (by decide) ?_
  refine g_iload_n (pc := 9) F dX3_comesOn_9 rfl ?_
  refine g_bipush (pc := 10) F dX3_comesOn_10 (v := nI 8) rfl ?_
  refine g_icN_ge (pc := 12) F dX3_comesOn_12 (tgt := 28) rfl rfl rfl (by omega) (by omega) (fun c_12 => ?_) (fun c_12 => ?_)
  · refine g_iconst (pc := 28) F dX3_comesOn_28 (v := nI 0) rfl ?_
    exact g_zret (pc := 29) F X0 dX3_comesOn_29 (by first | exact bI_nar _ | rfl) (Nat.le_of_ble_eq_true rfl) (Nat.le_of_ble_eq_true rfl) rfl (ep_n (by first | exact (fun z => c_25 z.2.2) | exact (fun z => absurd z.2.1 (by omega)) | exact (fun z => absurd z.1 (by omega)) | fail))
  · refine g_iload (pc := 15) F dX3_comesOn_15 rfl ?_
    refine g_iconst (pc := 17) F dX3_comesOn_17 (v := nI 1) rfl ?_
    refine g_icN_gt (pc := 18) F dX3_comesOn_18 (tgt := 28) rfl rfl rfl (by omega) (by omega) (fun c_18 => ?_) (fun c_18 => ?_)
    · refine g_iconst (pc := 28) F dX3_comesOn_28 (v := nI 0) rfl ?_
      exact g_zret (pc := 29) F X0 dX3_comesOn_29 (by first | exact bI_nar _ | rfl) (Nat.le_of_ble_eq_true rfl) (Nat.le_of_ble_eq_true rfl) rfl (ep_n (by first | exact (fun z => c_25 z.2.2) | exact (fun z => absurd z.2.1 (by omega)) | exact (fun z => absurd z.1 (by omega)) | fail))
    · refine g_aload_n (pc := 21) F dX3_comesOn_21 rfl ?_
      refine h_readV (pc := 22) F (c_hasRoom b Y r hR hI) mi_X0_hasRoom kv_X3_59 rfl rfl dX3_comesOn_22 [0, 1, 2, 3, 4, 5, 6, 7] subY (by decide) (by decide) rfl rfl (Nat.le_of_ble_eq_true rfl) trivial (by decide) (by decide) ?_
      refine g_ifne_d (pc := 25) F dX3_comesOn_25 (tgt := 30) rfl (fun c_25 => ?_) (fun c_25 => ?_)
      · refine g_aload_n (pc := 30) F dX3_comesOn_30 rfl ?_
        refine g_iload_n (pc := 31) F dX3_comesOn_31 rfl ?_
        refine g_aload_n (pc := 32) F dX3_comesOn_32 rfl ?_
        refine g_iload_n (pc := 33) F dX3_comesOn_33 rfl ?_
        refine g_iconst (pc := 34) F dX3_comesOn_34 (v := nI 2) rfl ?_
        refine g_iaddN (pc := 35) F dX3_comesOn_35 ?_
        refine h_readS (pc := 36) F (hda (p + 2) (by omega)) mi_X3_digitAt ks_X3_29 dX3_comesOn_36 [8, 9] subU (by decide) (by decide) rfl rfl (Nat.le_of_ble_eq_true rfl) trivial (by decide) (by decide) ?_
        refine g_aload_n (pc := 39) F dX3_comesOn_39 rfl ?_
        refine g_iload_n (pc := 40) F dX3_comesOn_40 rfl ?_
        refine g_iconst (pc := 41) F dX3_comesOn_41 (v := nI 3) rfl ?_
        refine g_iaddN (pc := 42) F dX3_comesOn_42 ?_
        refine h_readS (pc := 43) F (hda (p + 3) (by omega)) mi_X3_digitAt ks_X3_29 dX3_comesOn_43 [8, 9] subU (by decide) (by decide) rfl rfl (Nat.le_of_ble_eq_true rfl) trivial (by decide) (by decide) ?_
        refine g_iload (pc := 46) F dX3_comesOn_46 rfl ?_
        refine h_callV (pc := 48) F (c_takesIn b Y r _ _ _ _ hR hI c_25) mi_X0_takesIn kv_X3_63 rfl rfl dX3_comesOn_48 [0, 1, 2, 3, 4, 5, 6, 7] subY (by decide) (by decide) rfl rfl (Nat.le_of_ble_eq_true rfl) (by decide) (by decide) ?_
        rintro _ _ ⟨rfl, P2, rfl, hR2⟩ -
        rw [placeY]
        refine g_iconst (pc := 51) F dX3_comesOn_51 (v := nI 1) rfl ?_
        exact g_zret (pc := 52) F X0 dX3_comesOn_52 (by first | exact bI_nar _ | rfl) (Nat.le_of_ble_eq_true rfl) (Nat.le_of_ble_eq_true rfl) rfl (ep_y ⟨c_12, c_18, c_25⟩ hR2)
      · refine g_iconst (pc := 28) F dX3_comesOn_28 (v := nI 0) rfl ?_
        exact g_zret (pc := 29) F X0 dX3_comesOn_29 (by first | exact bI_nar _ | rfl) (Nat.le_of_ble_eq_true rfl) (Nat.le_of_ble_eq_true rfl) rfl (ep_n (by first | exact (fun z => c_25 z.2.2) | exact (fun z => absurd z.2.1 (by omega)) | exact (fun z => absurd z.1 (by omega)) | fail))

set_option maxRecDepth 100000 in
set_option maxHeartbeats 800000 in
theorem c_doneOn (b : Int32) (Y : DX) (r : Nat → Int32) (hR : Rel b Y r) (hI : Iv r) (h4 : r 4 = nI 0) (U : SX) (n p : Nat) (hs : sSi U = nI n) (hn : n ≤ 100) (B : Nat → Int32) (hB : B = byU U n) (hp : p < 800) (hl : letP (B p)) : Ctr yX3_isDoneOn cX3_isDoneOn 4 (some .boolean) 7 0 0 [.ref 0, .ref 8, .int (nI p)] (yW Y U) (EP b U (efP B p r) (efR B p r)) := by
  have hda : ∀ q, q < 1000 → RCtr yX3_digitAt cX3_digitAt 3 (some .int) 3 [.ref 0, .int (nI q)] (sW 0 U) (.int (nI (dgt (B q)))) := fun q hq => by
    rw [hB]
    exact c_digitAt U n q hs hn _ rfl hq
  have hnu : ∀ q k, q < 900 → k ≤ 4 → RCtr yX3_numberAt cX3_numberAt 5 (some .int) 4 [.ref 0, .int (nI q), .int (nI k)] (sW 0 U) (.int (nI (numN B q k))) := fun q k hq hk => by
    rw [hB]
    exact c_numberAt U n q k hs hn hq hk _ rfl
  have hbt : ∀ p, p < 1000 → RCtr yX3_byteAt cX3_byteAt 2 (some .int) 2 [.ref 0, .int (nI p)] (sW 0 U) (.int (B p)) := fun p hp => by
    rw [hB]
    exact c_byteAt U n p hs hn _ rfl hp
  have hd1 := dgt_le (B (p + 1))
  have hn2 := numN_le B (p + 1) 2
  have h10 : (10 : Nat) ^ 2 = 100 := rfl
  refine Ctr.of rfl (Nat.le_of_ble_eq_true rfl) ⟨clS_of rfl, clH_of rfl⟩ (fun K F X0 => ?_)
  show Go K 0 0 0 [(0, .ref 0), (1, .ref 8), (2, .int (nI p))] [] (yW Y U)
  refine g_aload_n (pc := 0) F dX3_isDoneOn_0 rfl ?_
  refine g_iload_n (pc := 1) F dX3_isDoneOn_1 rfl ?_
  refine g_iconst (pc := 2) F dX3_isDoneOn_2 (v := nI 1) rfl ?_
  refine g_iaddN (pc := 3) F dX3_isDoneOn_3 ?_
  refine h_readS (pc := 4) F (hda (p + 1) (by omega)) mi_X3_digitAt ks_X3_29 dX3_isDoneOn_4 [8, 9] subU (by decide) (by decide) rfl rfl (Nat.le_of_ble_eq_true rfl) trivial (by decide) (by decide) ?_
  refine g_istore_n (pc := 7) F dX3_isDoneOn_7 (by decide) ?_
  refine g_aload_n (pc := 8) F dX3_isDoneOn_8 rfl ?_
  refine g_iload_n (pc := 9) F dX3_isDoneOn_9 rfl ?_
  refine h_readS (pc := 10) F (hbt p (by omega)) mi_X3_byteAt ks_X3_9 dX3_isDoneOn_10 [8, 9] subU (by decide) (by decide) rfl rfl (Nat.le_of_ble_eq_true rfl) trivial (by decide) (by decide) ?_
  rcases hl with e | e | e | e | e | e | e
  · refine g_lookIn (pc := 13) F dX3_isDoneOn_13 (by decide) e (by decide) (off := 59) (by decide) (tgt := 72) rfl ?_
    refine g_aload_n (pc := 72) F dX3_isDoneOn_72 rfl ?_
    refine g_iload_n (pc := 73) F dX3_isDoneOn_73 rfl ?_
    refine g_aload_n (pc := 74) F dX3_isDoneOn_74 rfl ?_
    refine g_iload_n (pc := 75) F dX3_isDoneOn_75 rfl ?_
    refine h_callS (pc := 76) F (c_comesOn b Y r hR hI U n p hs hn B hB hp) mi_X3_comesOn ks_X3_32 dX3_isDoneOn_76 [0, 1, 2, 3, 4, 5, 6, 7, 8, 9] rfl (by decide) (by decide) rfl rfl (Nat.le_of_ble_eq_true rfl) (by decide) (by decide) ?_
    rintro _ _ ⟨rfl, P2, rfl, hR2⟩ -
    exact g_zret (pc := 79) F X0 dX3_isDoneOn_79 (by first | exact bI_nar _ | rfl) (Nat.le_of_ble_eq_true rfl) (Nat.le_of_ble_eq_true rfl) rfl ⟨congrArg (fun z => some (Value.int z)) (bI_iff (ef_c e).2.symm), P2, rfl, fun z => by rw [(ef_c e).1]; exact hR2 ((ef_c e).2.mp z)⟩
  · refine g_lookIn (pc := 13) F dX3_isDoneOn_13 (by decide) e (by decide) (off := 67) (by decide) (tgt := 80) rfl ?_
    refine g_aload_n (pc := 80) F dX3_isDoneOn_80 rfl ?_
    refine g_iload_n (pc := 81) F dX3_isDoneOn_81 rfl ?_
    refine g_aload_n (pc := 82) F dX3_isDoneOn_82 rfl ?_
    refine g_iload_n (pc := 83) F dX3_isDoneOn_83 rfl ?_
    refine g_iconst (pc := 84) F dX3_isDoneOn_84 (v := nI 2) rfl ?_
    refine g_iaddN (pc := 85) F dX3_isDoneOn_85 ?_
    refine g_iconst (pc := 86) F dX3_isDoneOn_86 (v := nI 3) rfl ?_
    refine h_readS (pc := 87) F (hnu (p + 2) 3 (by omega) (by decide)) mi_X3_numberAt ks_X3_36 dX3_isDoneOn_87 [8, 9] subU (by decide) (by decide) rfl rfl (Nat.le_of_ble_eq_true rfl) trivial (by decide) (by decide) ?_
    refine h_callV (pc := 90) F (c_refill b Y r _ _ (dgt (B (p + 1))) hR rfl (by omega)) mi_X0_refill kv_X3_40 rfl rfl dX3_isDoneOn_90 [0, 1, 2, 3, 4, 5, 6, 7] subY (by decide) (by decide) rfl rfl (Nat.le_of_ble_eq_true rfl) (by decide) (by decide) ?_
    rintro _ _ ⟨rfl, P2, rfl, hR2⟩ -
    rw [placeY]
    refine g_iconst (pc := 93) F dX3_isDoneOn_93 (v := nI 1) rfl ?_
    exact g_zret (pc := 94) F X0 dX3_isDoneOn_94 (by first | exact bI_nar _ | rfl) (Nat.le_of_ble_eq_true rfl) (Nat.le_of_ble_eq_true rfl) rfl (ep_y (ef_g e).2 (by rw [(ef_g e).1]; exact hR2))
  · refine g_lookOut (pc := 13) F dX3_isDoneOn_13 (by decide) ?_ (tgt := 122) rfl ?_
    · intro q hq
      rcases List.mem_cons.mp hq with rfl | hq
      · exact ⟨99, rfl, by decide, nI_nq (by decide) (by decide) (by decide) e⟩
      rcases List.mem_cons.mp hq with rfl | hq
      · exact ⟨101, rfl, by decide, nI_nq (by decide) (by decide) (by decide) e⟩
      rcases List.mem_cons.mp hq with rfl | hq
      · exact ⟨102, rfl, by decide, nI_nq (by decide) (by decide) (by decide) e⟩
      rcases List.mem_cons.mp hq with rfl | hq
      · exact ⟨103, rfl, by decide, nI_nq (by decide) (by decide) (by decide) e⟩
      rcases List.mem_cons.mp hq with rfl | hq
      · exact ⟨114, rfl, by decide, nI_nq (by decide) (by decide) (by decide) e⟩
      rcases List.mem_cons.mp hq with rfl | hq
      · exact ⟨119, rfl, by decide, nI_nq (by decide) (by decide) (by decide) e⟩
      exact absurd hq List.not_mem_nil
    refine g_aload_n (pc := 122) F dX3_isDoneOn_122 rfl ?_
    refine g_aload_n (pc := 123) F dX3_isDoneOn_123 rfl ?_
    refine g_iload_n (pc := 124) F dX3_isDoneOn_124 rfl ?_
    refine g_iconst (pc := 125) F dX3_isDoneOn_125 (v := nI 1) rfl ?_
    refine g_iaddN (pc := 126) F dX3_isDoneOn_126 ?_
    refine g_iconst (pc := 127) F dX3_isDoneOn_127 (v := nI 2) rfl ?_
    refine h_readS (pc := 128) F (hnu (p + 1) 2 (by omega) (by decide)) mi_X3_numberAt ks_X3_36 dX3_isDoneOn_128 [8, 9] subU (by decide) (by decide) rfl rfl (Nat.le_of_ble_eq_true rfl) trivial (by decide) (by decide) ?_
    refine h_callS (pc := 131) F (c_daysPassOn b Y r hR hI (numN B (p + 1) 2) (by omega)) mi_X3_daysPassOn ks_X3_56 dX3_isDoneOn_131 [0, 1, 2, 3, 4, 5, 6, 7] subY (by decide) (by decide) rfl rfl (Nat.le_of_ble_eq_true rfl) (by decide) (by decide) ?_
    rintro _ _ ⟨rfl, P2, rfl, hR2⟩ -
    rw [placeY]
    exact g_zret (pc := 134) F X0 dX3_isDoneOn_134 (by first | exact bI_nar _ | rfl) (Nat.le_of_ble_eq_true rfl) (Nat.le_of_ble_eq_true rfl) rfl ⟨congrArg (fun z => some (Value.int z)) (bI_iff (ef_d e).2.symm), P2, rfl, fun z => by rw [(ef_d e).1]; exact hR2 ((ef_d e).2.mp z)⟩
  · refine g_lookIn (pc := 13) F dX3_isDoneOn_13 (by decide) e (by decide) (off := 89) (by decide) (tgt := 102) rfl ?_
    refine g_aload_n (pc := 102) F dX3_isDoneOn_102 rfl ?_
    refine g_iload_n (pc := 103) F dX3_isDoneOn_103 rfl ?_
    refine g_ineg (pc := 104) F dX3_isDoneOn_104 ?_
    refine g_putf (pc := 105) F fl_X3_46 dX3_isDoneOn_105 rfl (Nat.le_of_ble_eq_true rfl) ?_
    show Go K 0 0 108 _ _ (yW (sWi Y (-(nI (dgt (B (p + 1)))))) U)
    refine g_iconst (pc := 108) F dX3_isDoneOn_108 (v := nI 1) rfl ?_
    exact g_zret (pc := 109) F X0 dX3_isDoneOn_109 (by first | exact bI_nar _ | rfl) (Nat.le_of_ble_eq_true rfl) (Nat.le_of_ble_eq_true rfl) rfl (ep_y (ef_e e).2 (by rw [(ef_e e).1]; exact Rel_wind hR))
  · refine g_lookIn (pc := 13) F dX3_isDoneOn_13 (by decide) e (by decide) (off := 97) (by decide) (tgt := 110) rfl ?_
    refine g_aload_n (pc := 110) F dX3_isDoneOn_110 rfl ?_
    refine g_iload_n (pc := 111) F dX3_isDoneOn_111 rfl ?_
    refine h_callS (pc := 112) F (c_restsOn b Y r hR hI h4 (dgt (B (p + 1))) (by omega)) mi_X3_restsOn ks_X3_49 dX3_isDoneOn_112 [0, 1, 2, 3, 4, 5, 6, 7] subY (by decide) (by decide) rfl rfl (Nat.le_of_ble_eq_true rfl) (by decide) (by decide) ?_
    rintro _ _ ⟨rfl, P2, rfl, hR2⟩ -
    rw [placeY]
    exact g_zret (pc := 115) F X0 dX3_isDoneOn_115 (by first | exact bI_nar _ | rfl) (Nat.le_of_ble_eq_true rfl) (Nat.le_of_ble_eq_true rfl) rfl ⟨congrArg (fun z => some (Value.int z)) (bI_iff (ef_r e).2.symm), P2, rfl, fun z => by rw [(ef_r e).1]; exact hR2 ((ef_r e).2.mp z)⟩
  · refine g_lookIn (pc := 13) F dX3_isDoneOn_13 (by decide) e (by decide) (off := 82) (by decide) (tgt := 95) rfl ?_
    refine g_aload_n (pc := 95) F dX3_isDoneOn_95 rfl ?_
    refine g_iload_n (pc := 96) F dX3_isDoneOn_96 rfl ?_
    refine g_putf (pc := 97) F fl_X3_46 dX3_isDoneOn_97 rfl (Nat.le_of_ble_eq_true rfl) ?_
    show Go K 0 0 100 _ _ (yW (sWi Y (nI (dgt (B (p + 1))))) U)
    refine g_iconst (pc := 100) F dX3_isDoneOn_100 (v := nI 1) rfl ?_
    exact g_zret (pc := 101) F X0 dX3_isDoneOn_101 (by first | exact bI_nar _ | rfl) (Nat.le_of_ble_eq_true rfl) (Nat.le_of_ble_eq_true rfl) rfl (ep_y (ef_w e).2 (by rw [(ef_w e).1]; exact Rel_wind hR))
  · refine g_lookIn (pc := 13) F dX3_isDoneOn_13 (by decide) e (by decide) (off := 103) (by decide) (tgt := 116) rfl ?_
    refine g_aload_n (pc := 116) F dX3_isDoneOn_116 rfl ?_
    refine h_callV (pc := 117) F (c_setBack b Y r hR hI) mi_X0_setBack kv_X3_53 rfl rfl dX3_isDoneOn_117 [0, 1, 2, 3, 4, 5, 6, 7] subY (by decide) (by decide) rfl rfl (Nat.le_of_ble_eq_true rfl) (by decide) (by decide) ?_
    rintro _ _ ⟨rfl, P2, rfl, hR2⟩ -
    rw [placeY]
    refine g_iconst (pc := 120) F dX3_isDoneOn_120 (v := nI 1) rfl ?_
    exact g_zret (pc := 121) F X0 dX3_isDoneOn_121 (by first | exact bI_nar _ | rfl) (Nat.le_of_ble_eq_true rfl) (Nat.le_of_ble_eq_true rfl) rfl (ep_y (ef_f e).2 (by rw [(ef_f e).1]; exact hR2))

