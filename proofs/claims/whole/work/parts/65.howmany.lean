/-! howMany, whatIs -/
abbrev hmP (r : Nat → Int32) (T : TX) (j n e u : Nat) : Prop := TOLD T j n (upd r (5 + e) (nI u)) (15 + e)
abbrev Z3 : Type := Int32 × Int32 × Int32
def hmF (r : Nat → Int32) (T : TX) (j n e lo : Nat) (i : Nat) (z : Z3) : Z3 := if hmP r T j n e (lo + i) then (z.1 + nI 1, (if z.2.1 = (-4) then nI (lo + i) else z.2.1), nI (lo + i)) else z
def hm0 : Z3 := (nI 0, (-4), (-4))
def pick (wh : Int32) (z : Z3) : Int32 := if wh = 0 then z.1 else if wh = nI 1 then z.2.1 else z.2.2
def S_howMany (r : Nat → Int32) (T : TX) (d e wh : Int32) : Int32 := if dipP e ∧ (nI 0 ≤ wh ∧ wh ≤ nI 2) then (if wrong T d (-1) = 0 then pick wh (it (hmF r T (N d) (N (tN T (N d))) (N e) (N (r (15 + N e)))) (1000 - N (r (15 + N e))) hm0) else wrong T d (-1)) else (-1)
theorem S_howMany_n {r : Nat → Int32} {T : TX} {d e wh : Int32} (h : dipP e ∧ (nI 0 ≤ wh ∧ wh ≤ nI 2)) (h2 : ¬ wrong T d (-1) = 0) : S_howMany r T d e wh = wrong T d (-1) := (if_pos h).trans (if_neg h2)
theorem S_howMany_y {r : Nat → Int32} {T : TX} {j n e lo : Nat} {wh : Int32} (h : dipP (nI e) ∧ (nI 0 ≤ wh ∧ wh ≤ nI 2)) (hw : wrong T (nI j) (-1) = 0) (hj : j < 8) (he : e < 10) (hn : n ≤ 100) (en : tN T j = nI n) (hl : lo ≤ 999) (el : r (15 + e) = nI lo) : S_howMany r T (nI j) (nI e) wh = pick wh (it (hmF r T j n e lo) (1000 - lo) hm0) := by
  refine (if_pos h).trans ((if_pos hw).trans ?_)
  rw [N_nI (by omega), N_nI (by omega), en, N_nI (by omega), el, N_nI (by omega)]
theorem lo_ex {r : Nat → Int32} {e : Nat} (hI : Iv r) (he : e < 10) : ∃ lo, lo ≤ 999 ∧ r (15 + e) = nI lo := by
  obtain ⟨h1, h2, h3⟩ := hI.2.1 e he
  exact ⟨_, by omega, nI_of_ti h1⟩
theorem nI_ne4 {n : Nat} (h : n < 2 ^ 31) : ¬ nI n = (-4) := by
  intro z
  have h2 := ti_n n (by omega)
  rw [z] at h2
  have h3 : (-4 : Int32).toInt = -4 := by decide
  omega
theorem hm_inv {r : Nat → Int32} {T : TX} {j n e lo : Nat} : ∀ i, lo + i ≤ 1000 → ((it (hmF r T j n e lo) i hm0).1 = 0 ↔ (it (hmF r T j n e lo) i hm0).2.1 = (-4)) ∧ ∃ c, c ≤ i ∧ (it (hmF r T j n e lo) i hm0).1 = nI c
  | 0, _ => ⟨⟨fun _ => rfl, fun _ => rfl⟩, 0, Nat.le_refl 0, rfl⟩
  | i + 1, h => by
    obtain ⟨h1, c, hc, h2⟩ := hm_inv (r := r) (T := T) (j := j) (n := n) (e := e) (lo := lo) i (by omega)
    rw [it_succ]
    by_cases q : hmP r T j n e (lo + i)
    · have e9 : hmF r T j n e lo i (it (hmF r T j n e lo) i hm0) = ((it (hmF r T j n e lo) i hm0).1 + nI 1, (if (it (hmF r T j n e lo) i hm0).2.1 = (-4) then nI (lo + i) else (it (hmF r T j n e lo) i hm0).2.1), nI (lo + i)) := if_pos q
      rw [e9]
      have a1 : (it (hmF r T j n e lo) i hm0).1 + nI 1 = nI (c + 1) := by rw [h2, nI_add]
      refine ⟨⟨fun z => ?_, fun z => ?_⟩, c + 1, by omega, a1⟩
      · have z2 : nI (c + 1) = nI 0 := a1.symm.trans z
        have := (nI_eq (by omega) (by decide)).mp z2
        omega
      · exfalso
        revert z
        show ¬ (if (it (hmF r T j n e lo) i hm0).2.1 = (-4) then nI (lo + i) else (it (hmF r T j n e lo) i hm0).2.1) = (-4)
        by_cases q2 : (it (hmF r T j n e lo) i hm0).2.1 = (-4)
        · rw [if_pos q2]; exact nI_ne4 (by omega)
        · rw [if_neg q2]; exact q2
    · have e9 : hmF r T j n e lo i (it (hmF r T j n e lo) i hm0) = it (hmF r T j n e lo) i hm0 := if_neg q
      rw [e9]
      exact ⟨h1, c, by omega, h2⟩
theorem Iv_hm {r : Nat → Int32} {e lo i : Nat} (hI : Iv r) (he : e < 10) (el : r (15 + e) = nI lo) (h : lo + i ≤ 999) : Iv (upd r (5 + e) (nI (lo + i))) := by
  have h2 := ti_n (lo + i) (by omega)
  have h3 := ti_n lo (by omega)
  exact Iv_grain hI he (by rw [el, h2, h3]; omega) (by rw [h2]; omega)
theorem hmF_y {r : Nat → Int32} {T : TX} {j n e lo i : Nat} (h : hmP r T j n e (lo + i)) (h2 : (it (hmF r T j n e lo) i hm0).2.1 = (-4)) : it (hmF r T j n e lo) (i + 1) hm0 = ((it (hmF r T j n e lo) i hm0).1 + nI 1, nI (lo + i), nI (lo + i)) :=
  (if_pos h).trans (congrArg (fun y => ((it (hmF r T j n e lo) i hm0).1 + nI 1, y, nI (lo + i))) (if_pos h2))
theorem hmF_z {r : Nat → Int32} {T : TX} {j n e lo i : Nat} (h : hmP r T j n e (lo + i)) (h2 : ¬ (it (hmF r T j n e lo) i hm0).2.1 = (-4)) : it (hmF r T j n e lo) (i + 1) hm0 = ((it (hmF r T j n e lo) i hm0).1 + nI 1, (it (hmF r T j n e lo) i hm0).2.1, nI (lo + i)) :=
  (if_pos h).trans (congrArg (fun y => ((it (hmF r T j n e lo) i hm0).1 + nI 1, y, nI (lo + i))) (if_neg h2))
theorem hmF_n {r : Nat → Int32} {T : TX} {j n e lo i : Nat} (h : ¬ hmP r T j n e (lo + i)) : it (hmF r T j n e lo) (i + 1) hm0 = it (hmF r T j n e lo) i hm0 := if_neg h
set_option maxRecDepth 100000 in
set_option maxHeartbeats 800000 in
theorem c_howMany_no (b : Int32) (X Y Z : DX) (im : Int32) (S : Nat → SX) (g h : Nat → Int32) (r : Nat → Int32) (hR : Rel b X r) (hI : Iv r) (h4 : r 4 = nI 0) (T : TX) (hS : RS S T) (dd wh : Int32) (d : Int32) (hd : ¬ shP d) : Ctr yX4_howMany cX4_howMany 11 (some .int) 7 0 0 [.ref 0, .int d, .int dd, .int wh] (mW X Y Z im S g h) (Look (.int (S_howMany r T d dd wh)) X Z im S) := by
  refine Ctr.of rfl (Nat.le_of_ble_eq_true rfl) ⟨clS_of rfl, mW_cl _ _ _ _ _ _ _⟩ (fun K F X0 => ?_)
  show Go K 0 0 0 [(0, .ref 0), (1, .int d), (2, .int dd), (3, .int wh)] [] (mW X Y Z im S g h)
  refine g_iload_n (pc := 0) F dX4_howMany_0 rfl ?_
  refine h_readS (pc := 1) F (c_isDip _) mi_X4_isDip ks_X4_117 dX4_howMany_1 [] rfl (by decide) (by decide) rfl rfl (Nat.le_of_ble_eq_true rfl) trivial (by decide) (by decide) ?_
  refine g_ifeq_d (pc := 4) F dX4_howMany_4 (tgt := 16) rfl (fun c_4 => ?_) (fun c_4 => ?_)
  · refine g_iconst (pc := 16) F dX4_howMany_16 (v := (-1 : Int32)) (by decide) ?_
    exact g_iret (pc := 17) F X0 dX4_howMany_17 (Nat.le_of_ble_eq_true rfl) (Nat.le_of_ble_eq_true rfl) rfl (by first
      | exact ⟨congrArg (fun z => some (Value.int z)) (if_neg (fun z => c_4 z.1)).symm, Y, g, h, rfl⟩
      | exact ⟨congrArg (fun z => some (Value.int z)) (if_neg (fun z => c_13 z.2)).symm, Y, g, h, rfl⟩
      | fail)
  · refine g_iload_n (pc := 7) F dX4_howMany_7 rfl ?_
    refine g_iconst (pc := 8) F dX4_howMany_8 (v := nI 0) rfl ?_
    refine g_iconst (pc := 9) F dX4_howMany_9 (v := nI 2) rfl ?_
    refine h_readS (pc := 10) F (c_isWithin _ _ _) mi_X4_isWithin ks_X4_129 dX4_howMany_10 [] rfl (by decide) (by decide) rfl rfl (Nat.le_of_ble_eq_true rfl) trivial (by decide) (by decide) ?_
    refine g_ifne_d (pc := 13) F dX4_howMany_13 (tgt := 18) rfl (fun c_13 => ?_) (fun c_13 => ?_)
    · refine g_aload_n (pc := 18) F dX4_howMany_18 rfl ?_
      refine g_iload_n (pc := 19) F dX4_howMany_19 rfl ?_
      refine i_readV (pc := 20) F (c_shelfNone X Y Z im S g h _ hd) mi_X4_shelfOrNull kv_X4_40 rfl rfl dX4_howMany_20 (by decide) (by decide) rfl (Nat.le_of_ble_eq_true rfl) (by decide) (by decide) ?_
      refine g_astoreN (pc := 23) F dX4_howMany_23 (by decide) ?_
      refine g_aloadN (pc := 25) F dX4_howMany_25 rfl ?_
      refine g_iconst (pc := 27) F dX4_howMany_27 (v := nI 2) rfl ?_
      refine h_readS (pc := 28) F (c_refusalN _) mi_X4_refusalUnless ks_X4_133 dX4_howMany_28 [] rfl (by decide) (by decide) rfl rfl (Nat.le_of_ble_eq_true rfl) trivial (by decide) (by decide) ?_
      refine g_istore (pc := 31) F dX4_howMany_31 (by decide) ?_
      refine g_aloadN (pc := 33) F dX4_howMany_33 rfl ?_
      refine g_ifnullN (pc := 35) F dX4_howMany_35 (tgt := 43) rfl ?_
      refine g_iload (pc := 43) F dX4_howMany_43 rfl ?_
      exact g_iret (pc := 45) F X0 dX4_howMany_45 (Nat.le_of_ble_eq_true rfl) (Nat.le_of_ble_eq_true rfl) rfl ⟨congrArg (fun z => some (Value.int z)) ((S_howMany_n ⟨c_4, c_13⟩ (fun z => absurd ((wrong_no hd).symm.trans z) (by decide))).trans (wrong_no hd)).symm, Y, g, h, rfl⟩
    · refine g_iconst (pc := 16) F dX4_howMany_16 (v := (-1 : Int32)) (by decide) ?_
      exact g_iret (pc := 17) F X0 dX4_howMany_17 (Nat.le_of_ble_eq_true rfl) (Nat.le_of_ble_eq_true rfl) rfl (by first
      | exact ⟨congrArg (fun z => some (Value.int z)) (if_neg (fun z => c_4 z.1)).symm, Y, g, h, rfl⟩
      | exact ⟨congrArg (fun z => some (Value.int z)) (if_neg (fun z => c_13 z.2)).symm, Y, g, h, rfl⟩
      | fail)

set_option maxRecDepth 100000 in
set_option maxHeartbeats 800000 in
theorem c_howMany_in (b : Int32) (X Y Z : DX) (im : Int32) (S : Nat → SX) (g h : Nat → Int32) (r : Nat → Int32) (hR : Rel b X r) (hI : Iv r) (h4 : r 4 = nI 0) (T : TX) (hS : RS S T) (dd wh : Int32) (d : Int32) (j : Nat) (hd : d = nI j) (hj : j < 8) : Ctr yX4_howMany cX4_howMany 11 (some .int) 7 0 0 [.ref 0, .int d, .int dd, .int wh] (mW X Y Z im S g h) (Look (.int (S_howMany r T d dd wh)) X Z im S) := by
  subst hd
  have hw := wrong_in hS hj
  obtain ⟨n9, hn9, en1, em1⟩ := (hS j hj).2.2.2.1
  refine Ctr.of rfl (Nat.le_of_ble_eq_true rfl) ⟨clS_of rfl, mW_cl _ _ _ _ _ _ _⟩ (fun K F X0 => ?_)
  show Go K 0 0 0 [(0, .ref 0), (1, .int (nI j)), (2, .int dd), (3, .int wh)] [] (mW X Y Z im S g h)
  refine g_iload_n (pc := 0) F dX4_howMany_0 rfl ?_
  refine h_readS (pc := 1) F (c_isDip _) mi_X4_isDip ks_X4_117 dX4_howMany_1 [] rfl (by decide) (by decide) rfl rfl (Nat.le_of_ble_eq_true rfl) trivial (by decide) (by decide) ?_
  refine g_ifeq_d (pc := 4) F dX4_howMany_4 (tgt := 16) rfl (fun c_4 => ?_) (fun c_4 => ?_)
  · refine g_iconst (pc := 16) F dX4_howMany_16 (v := (-1 : Int32)) (by decide) ?_
    exact g_iret (pc := 17) F X0 dX4_howMany_17 (Nat.le_of_ble_eq_true rfl) (Nat.le_of_ble_eq_true rfl) rfl (by first
      | exact ⟨congrArg (fun z => some (Value.int z)) (if_neg (fun z => c_4 z.1)).symm, Y, g, h, rfl⟩
      | exact ⟨congrArg (fun z => some (Value.int z)) (if_neg (fun z => c_13 z.2)).symm, Y, g, h, rfl⟩
      | fail)
  · refine g_iload_n (pc := 7) F dX4_howMany_7 rfl ?_
    refine g_iconst (pc := 8) F dX4_howMany_8 (v := nI 0) rfl ?_
    refine g_iconst (pc := 9) F dX4_howMany_9 (v := nI 2) rfl ?_
    refine h_readS (pc := 10) F (c_isWithin _ _ _) mi_X4_isWithin ks_X4_129 dX4_howMany_10 [] rfl (by decide) (by decide) rfl rfl (Nat.le_of_ble_eq_true rfl) trivial (by decide) (by decide) ?_
    refine g_ifne_d (pc := 13) F dX4_howMany_13 (tgt := 18) rfl (fun c_13 => ?_) (fun c_13 => ?_)
    · obtain ⟨e, he, rfl⟩ := dip_ex c_4
      obtain ⟨lo, hlo, el⟩ := lo_ex hI he
      have eD : dD X e = nI lo := (hR.2.2.1 e he).2.trans el
      refine g_aload_n (pc := 18) F dX4_howMany_18 rfl ?_
      refine g_iload_n (pc := 19) F dX4_howMany_19 rfl ?_
      refine i_readV (pc := 20) F (c_shelfSome X Y Z im S g h _ j rfl hj) mi_X4_shelfOrNull kv_X4_40 rfl rfl dX4_howMany_20 (by decide) (by decide) rfl (Nat.le_of_ble_eq_true rfl) (by decide) (by decide) ?_
      refine g_astore (pc := 23) F dX4_howMany_23 (by decide) ?_
      refine g_aload (pc := 25) F dX4_howMany_25 rfl ?_
      refine g_iconst (pc := 27) F dX4_howMany_27 (v := nI 2) rfl ?_
      refine h_readS (pc := 28) F (c_refusal (S j) _) mi_X4_refusalUnless ks_X4_133 dX4_howMany_28 [28 + 2 * j, 28 + 2 * j + 1] (mW_sub hj) (by decide) (by decide) (mW_nd hj) rfl (Nat.le_of_ble_eq_true rfl) trivial (by decide) (by decide) ?_
      refine g_istore (pc := 31) F dX4_howMany_31 (by decide) ?_
      refine g_aload (pc := 33) F dX4_howMany_33 rfl ?_
      refine g_ifnull (pc := 35) F dX4_howMany_35 ?_
      refine g_iload (pc := 38) F dX4_howMany_38 rfl ?_
      refine g_if_eq (pc := 40) F dX4_howMany_40 (tgt := 46) rfl (fun c_40 => ?_) (fun c_40 => ?_)
      · refine g_iconst (pc := 46) F dX4_howMany_46 (v := nI 0) rfl ?_
        refine g_istore (pc := 47) F dX4_howMany_47 (by decide) ?_
        refine g_bipush (pc := 49) F dX4_howMany_49 (v := (-4 : Int32)) (by decide) ?_
        refine g_istore (pc := 51) F dX4_howMany_51 (by decide) ?_
        refine g_bipush (pc := 53) F dX4_howMany_53 (v := (-4 : Int32)) (by decide) ?_
        refine g_istore (pc := 55) F dX4_howMany_55 (by decide) ?_
        refine g_aload (pc := 57) F dX4_howMany_57 rfl ?_
        refine h_readV (pc := 59) F (c_behind (S j) n9 em1 hn9) mi_X2_behindLastTold kv_X4_205 rfl rfl dX4_howMany_59 [28 + 2 * j, 28 + 2 * j + 1] (mW_sub hj) (by decide) (by decide) (mW_nd hj) rfl (Nat.le_of_ble_eq_true rfl) trivial (by decide) (by decide) ?_
        refine g_istore (pc := 62) F dX4_howMany_62 (by decide) ?_
        refine g_aload_n (pc := 64) F dX4_howMany_64 rfl ?_
        refine g_getf (pc := 65) F fl_X4_12 dX4_howMany_65 rfl rfl ?_
        refine g_getf (pc := 68) F fl_X4_123 dX4_howMany_68 rfl rfl ?_
        refine g_iload_n (pc := 71) F dX4_howMany_71 rfl ?_
        refine g_iald2 (pc := 72) F dX4_howMany_72 rfl rfl he (by decide) ?_
        rw [eD]
        refine g_istore (pc := 73) F dX4_howMany_73 (by decide) ?_
        have L : ∀ i, i ≤ 1000 - lo → ∀ Ya, Go K 0 0 75 [(0, .ref 0), (1, .int (nI j)), (2, .int (nI e)), (3, .int wh), (4, .ref (28 + 2 * j)), (5, .int (refU (sH (S j)) (nI 2))), (6, .int (it (hmF r T j n9 e lo) i hm0).1), (7, .int (it (hmF r T j n9 e lo) i hm0).2.1), (8, .int (it (hmF r T j n9 e lo) i hm0).2.2), (9, .int (nI (bhd (skp (S j)) n9))), (10, .int (nI (lo + i)))] [] (mW X Ya Z im S g h) := loop_up (P := fun i => ∀ Ya, Go K 0 0 75 [(0, .ref 0), (1, .int (nI j)), (2, .int (nI e)), (3, .int wh), (4, .ref (28 + 2 * j)), (5, .int (refU (sH (S j)) (nI 2))), (6, .int (it (hmF r T j n9 e lo) i hm0).1), (7, .int (it (hmF r T j n9 e lo) i hm0).2.1), (8, .int (it (hmF r T j n9 e lo) i hm0).2.2), (9, .int (nI (bhd (skp (S j)) n9))), (10, .int (nI (lo + i)))] [] (mW X Ya Z im S g h)) (fun i hi ih => by
          intro Ya
          refine g_iload (pc := 75) F dX4_howMany_75 rfl ?_
          refine g_sipush (pc := 77) F dX4_howMany_77 (v := nI 999) rfl ?_
          refine g_icN_gt (pc := 80) F dX4_howMany_80 (tgt := 126) rfl rfl rfl (by omega) (by omega) (fun c_80 => ?_) (fun c_80 => ?_)
          · obtain rfl : i = 1000 - lo := by omega
            refine g_iload_n (pc := 126) F dX4_howMany_126 rfl ?_
            refine g_if_ne (pc := 127) F dX4_howMany_127 (tgt := 135) rfl (fun c_127 => ?_) (fun c_127 => ?_)
            · refine g_iload_n (pc := 135) F dX4_howMany_135 rfl ?_
              refine g_iconst (pc := 136) F dX4_howMany_136 (v := nI 1) rfl ?_
              refine g_ic_ne (pc := 137) F dX4_howMany_137 (tgt := 145) rfl (fun c_137 => ?_) (fun c_137 => ?_)
              · refine g_iload (pc := 145) F dX4_howMany_145 rfl ?_
                exact g_iret (pc := 147) F X0 dX4_howMany_147 (Nat.le_of_ble_eq_true rfl) (Nat.le_of_ble_eq_true rfl) rfl ⟨congrArg (fun z => some (Value.int z)) (by
              rw [S_howMany_y ⟨c_4, c_13⟩ (hw.trans c_40) hj he hn9 en1 hlo el]
              unfold pick
              first
                | exact (if_pos c_127).symm
                | exact ((if_neg c_127).trans (if_pos c_137)).symm
                | exact ((if_neg c_127).trans (if_neg c_137)).symm
                | fail), Ya, g, h, rfl⟩
              · refine g_iload (pc := 140) F dX4_howMany_140 rfl ?_
                refine g_goto (pc := 142) F dX4_howMany_142 (tgt := 147) rfl ?_
                exact g_iret (pc := 147) F X0 dX4_howMany_147 (Nat.le_of_ble_eq_true rfl) (Nat.le_of_ble_eq_true rfl) rfl ⟨congrArg (fun z => some (Value.int z)) (by
              rw [S_howMany_y ⟨c_4, c_13⟩ (hw.trans c_40) hj he hn9 en1 hlo el]
              unfold pick
              first
                | exact (if_pos c_127).symm
                | exact ((if_neg c_127).trans (if_pos c_137)).symm
                | exact ((if_neg c_127).trans (if_neg c_137)).symm
                | fail), Ya, g, h, rfl⟩
            · refine g_iload (pc := 130) F dX4_howMany_130 rfl ?_
              refine g_goto (pc := 132) F dX4_howMany_132 (tgt := 147) rfl ?_
              exact g_iret (pc := 147) F X0 dX4_howMany_147 (Nat.le_of_ble_eq_true rfl) (Nat.le_of_ble_eq_true rfl) rfl ⟨congrArg (fun z => some (Value.int z)) (by
              rw [S_howMany_y ⟨c_4, c_13⟩ (hw.trans c_40) hj he hn9 en1 hlo el]
              unfold pick
              first
                | exact (if_pos c_127).symm
                | exact ((if_neg c_127).trans (if_pos c_137)).symm
                | exact ((if_neg c_127).trans (if_neg c_137)).symm
                | fail), Ya, g, h, rfl⟩
          · have hi9 : i < 1000 - lo := by omega
            refine g_aload_n (pc := 83) F dX4_howMany_83 rfl ?_
            refine g_aload (pc := 84) F dX4_howMany_84 rfl ?_
            refine g_iload (pc := 86) F dX4_howMany_86 rfl ?_
            refine g_iload_n (pc := 88) F dX4_howMany_88 rfl ?_
            refine g_iload (pc := 89) F dX4_howMany_89 rfl ?_
            refine i_callV (pc := 91) F (c_doneTold b X Ya Z im S g h r hR hI h4 T hS j hj n9 hn9 e he (lo + i) (Iv_hm hI he el (by omega))) mi_X4_isDoneAsTold kv_X4_208 rfl rfl dX4_howMany_91 (by decide) (by decide) rfl (Nat.le_of_ble_eq_true rfl) (by decide) (by decide) ?_
            rintro _ _ ⟨rfl, Y3, rfl⟩ -
            refine g_ifeq_d (pc := 94) F dX4_howMany_94 (tgt := 120) rfl (fun c_94 => ?_) (fun c_94 => ?_)
            · refine g_iincN (pc := 120) F dX4_howMany_120 rfl (by decide) ?_
              refine g_goto (pc := 123) F dX4_howMany_123 (tgt := 75) rfl ?_
              first
                | exact (congrArg (fun z => Go K 0 0 75 [(0, .ref 0), (1, .int (nI j)), (2, .int (nI e)), (3, .int wh), (4, .ref (28 + 2 * j)), (5, .int (refU (sH (S j)) (nI 2))), (6, .int (z).1), (7, .int (z).2.1), (8, .int (z).2.2), (9, .int (nI (bhd (skp (S j)) n9))), (10, .int (nI (lo + (i + 1))))] [] (mW X Y3 Z im S g h)) (hmF_y c_94 c_104)).mp (ih hi9 Y3)
                | exact (congrArg (fun z => Go K 0 0 75 [(0, .ref 0), (1, .int (nI j)), (2, .int (nI e)), (3, .int wh), (4, .ref (28 + 2 * j)), (5, .int (refU (sH (S j)) (nI 2))), (6, .int (z).1), (7, .int (z).2.1), (8, .int (z).2.2), (9, .int (nI (bhd (skp (S j)) n9))), (10, .int (nI (lo + (i + 1))))] [] (mW X Y3 Z im S g h)) (hmF_z c_94 c_104)).mp (ih hi9 Y3)
                | exact (congrArg (fun z => Go K 0 0 75 [(0, .ref 0), (1, .int (nI j)), (2, .int (nI e)), (3, .int wh), (4, .ref (28 + 2 * j)), (5, .int (refU (sH (S j)) (nI 2))), (6, .int (z).1), (7, .int (z).2.1), (8, .int (z).2.2), (9, .int (nI (bhd (skp (S j)) n9))), (10, .int (nI (lo + (i + 1))))] [] (mW X Y3 Z im S g h)) (hmF_n c_94)).mp (ih hi9 Y3)
                | fail
            · refine g_iinc (pc := 97) F dX4_howMany_97 rfl (show _ + Int32.ofInt 1 = _ + nI 1 from rfl) (by decide) ?_
              refine g_iload (pc := 100) F dX4_howMany_100 rfl ?_
              refine g_bipush (pc := 102) F dX4_howMany_102 (v := (-4 : Int32)) (by decide) ?_
              refine g_ic_ne (pc := 104) F dX4_howMany_104 (tgt := 112) rfl (fun c_104 => ?_) (fun c_104 => ?_)
              · refine g_iload (pc := 112) F dX4_howMany_112 rfl ?_
                refine g_istore (pc := 114) F dX4_howMany_114 (by decide) ?_
                refine g_iload (pc := 116) F dX4_howMany_116 rfl ?_
                refine g_istore (pc := 118) F dX4_howMany_118 (by decide) ?_
                refine g_iincN (pc := 120) F dX4_howMany_120 rfl (by decide) ?_
                refine g_goto (pc := 123) F dX4_howMany_123 (tgt := 75) rfl ?_
                first
                  | exact (congrArg (fun z => Go K 0 0 75 [(0, .ref 0), (1, .int (nI j)), (2, .int (nI e)), (3, .int wh), (4, .ref (28 + 2 * j)), (5, .int (refU (sH (S j)) (nI 2))), (6, .int (z).1), (7, .int (z).2.1), (8, .int (z).2.2), (9, .int (nI (bhd (skp (S j)) n9))), (10, .int (nI (lo + (i + 1))))] [] (mW X Y3 Z im S g h)) (hmF_y c_94 c_104)).mp (ih hi9 Y3)
                  | exact (congrArg (fun z => Go K 0 0 75 [(0, .ref 0), (1, .int (nI j)), (2, .int (nI e)), (3, .int wh), (4, .ref (28 + 2 * j)), (5, .int (refU (sH (S j)) (nI 2))), (6, .int (z).1), (7, .int (z).2.1), (8, .int (z).2.2), (9, .int (nI (bhd (skp (S j)) n9))), (10, .int (nI (lo + (i + 1))))] [] (mW X Y3 Z im S g h)) (hmF_z c_94 c_104)).mp (ih hi9 Y3)
                  | exact (congrArg (fun z => Go K 0 0 75 [(0, .ref 0), (1, .int (nI j)), (2, .int (nI e)), (3, .int wh), (4, .ref (28 + 2 * j)), (5, .int (refU (sH (S j)) (nI 2))), (6, .int (z).1), (7, .int (z).2.1), (8, .int (z).2.2), (9, .int (nI (bhd (skp (S j)) n9))), (10, .int (nI (lo + (i + 1))))] [] (mW X Y3 Z im S g h)) (hmF_n c_94)).mp (ih hi9 Y3)
                  | fail
              · refine g_iload (pc := 107) F dX4_howMany_107 rfl ?_
                refine g_goto (pc := 109) F dX4_howMany_109 (tgt := 114) rfl ?_
                refine g_istore (pc := 114) F dX4_howMany_114 (by decide) ?_
                refine g_iload (pc := 116) F dX4_howMany_116 rfl ?_
                refine g_istore (pc := 118) F dX4_howMany_118 (by decide) ?_
                refine g_iincN (pc := 120) F dX4_howMany_120 rfl (by decide) ?_
                refine g_goto (pc := 123) F dX4_howMany_123 (tgt := 75) rfl ?_
                first
                  | exact (congrArg (fun z => Go K 0 0 75 [(0, .ref 0), (1, .int (nI j)), (2, .int (nI e)), (3, .int wh), (4, .ref (28 + 2 * j)), (5, .int (refU (sH (S j)) (nI 2))), (6, .int (z).1), (7, .int (z).2.1), (8, .int (z).2.2), (9, .int (nI (bhd (skp (S j)) n9))), (10, .int (nI (lo + (i + 1))))] [] (mW X Y3 Z im S g h)) (hmF_y c_94 c_104)).mp (ih hi9 Y3)
                  | exact (congrArg (fun z => Go K 0 0 75 [(0, .ref 0), (1, .int (nI j)), (2, .int (nI e)), (3, .int wh), (4, .ref (28 + 2 * j)), (5, .int (refU (sH (S j)) (nI 2))), (6, .int (z).1), (7, .int (z).2.1), (8, .int (z).2.2), (9, .int (nI (bhd (skp (S j)) n9))), (10, .int (nI (lo + (i + 1))))] [] (mW X Y3 Z im S g h)) (hmF_z c_94 c_104)).mp (ih hi9 Y3)
                  | exact (congrArg (fun z => Go K 0 0 75 [(0, .ref 0), (1, .int (nI j)), (2, .int (nI e)), (3, .int wh), (4, .ref (28 + 2 * j)), (5, .int (refU (sH (S j)) (nI 2))), (6, .int (z).1), (7, .int (z).2.1), (8, .int (z).2.2), (9, .int (nI (bhd (skp (S j)) n9))), (10, .int (nI (lo + (i + 1))))] [] (mW X Y3 Z im S g h)) (hmF_n c_94)).mp (ih hi9 Y3)
                  | fail)
        exact L 0 (Nat.zero_le _) Y
      · refine g_iload (pc := 43) F dX4_howMany_43 rfl ?_
        exact g_iret (pc := 45) F X0 dX4_howMany_45 (Nat.le_of_ble_eq_true rfl) (Nat.le_of_ble_eq_true rfl) rfl ⟨congrArg (fun z => some (Value.int z)) ((S_howMany_n ⟨c_4, c_13⟩ (fun z => c_40 (hw.symm.trans z))).trans hw).symm, Y, g, h, rfl⟩
    · refine g_iconst (pc := 16) F dX4_howMany_16 (v := (-1 : Int32)) (by decide) ?_
      exact g_iret (pc := 17) F X0 dX4_howMany_17 (Nat.le_of_ble_eq_true rfl) (Nat.le_of_ble_eq_true rfl) rfl (by first
      | exact ⟨congrArg (fun z => some (Value.int z)) (if_neg (fun z => c_4 z.1)).symm, Y, g, h, rfl⟩
      | exact ⟨congrArg (fun z => some (Value.int z)) (if_neg (fun z => c_13 z.2)).symm, Y, g, h, rfl⟩
      | fail)

theorem c_howMany (b : Int32) (X Y Z : DX) (im : Int32) (S : Nat → SX) (g h : Nat → Int32) (r : Nat → Int32) (hR : Rel b X r) (hI : Iv r) (h4 : r 4 = nI 0) (T : TX) (hS : RS S T) (dd wh : Int32) (d : Int32) : Ctr yX4_howMany cX4_howMany 11 (some .int) 7 0 0 [.ref 0, .int d, .int dd, .int wh] (mW X Y Z im S g h) (Look (.int (S_howMany r T d dd wh)) X Z im S) := by
  by_cases hd : shP d
  · obtain ⟨j, hj, e⟩ := sh_ex hd
    exact c_howMany_in b X Y Z im S g h r hR hI h4 T hS dd wh d j e hj
  · exact c_howMany_no b X Y Z im S g h r hR hI h4 T hS dd wh d hd

set_option maxRecDepth 100000 in
set_option maxHeartbeats 800000 in
theorem m_howMany (s m ig ws : Nat → Int32) (hg : Int32) (T : TX) (V : VX) (hI : Iv s) (hT : IT T) (d dd wh : Int32) : Ctr yX5_howMany cX5_howMany 9 (some .int) 7 0 0 [.ref 0, .int d, .int dd, .int wh] (rW s m ig ws hg T V) (LookR (.int (S_howMany s T d dd wh)) s ig ws hg T) := by
  refine Ctr.of rfl (Nat.le_of_ble_eq_true rfl) ⟨clS_of rfl, clH_of rfl⟩ (fun K F X0 => ?_)
  show Go K 0 0 0 [(0, .ref 0), (1, .int d), (2, .int dd), (3, .int wh)] [] (rW s m ig ws hg T V)
  refine g_iload_n (pc := 0) F dX5_howMany_0 rfl ?_
  refine h_readS (pc := 1) F (c_mDip _) mi_X5_isDip ks_X5_61 dX5_howMany_1 [] rfl (by decide) (by decide) rfl rfl (Nat.le_of_ble_eq_true rfl) trivial (by decide) (by decide) ?_
  refine g_ifeq_d (pc := 4) F dX5_howMany_4 (tgt := 16) rfl (fun c_4 => ?_) (fun c_4 => ?_)
  · refine g_iconst (pc := 16) F dX5_howMany_16 (v := (-1 : Int32)) (by decide) ?_
    exact g_iret (pc := 17) F X0 dX5_howMany_17 (Nat.le_of_ble_eq_true rfl) (Nat.le_of_ble_eq_true rfl) rfl (by first
      | exact ⟨congrArg (fun z => some (Value.int z)) (if_neg (fun z => c_4 z.1)).symm, m, V, rfl⟩
      | exact ⟨congrArg (fun z => some (Value.int z)) (if_neg (fun z => c_13 z.2)).symm, m, V, rfl⟩
      | fail)
  · refine g_iload_n (pc := 7) F dX5_howMany_7 rfl ?_
    refine g_iconst (pc := 8) F dX5_howMany_8 (v := nI 0) rfl ?_
    refine g_iconst (pc := 9) F dX5_howMany_9 (v := nI 2) rfl ?_
    refine h_readS (pc := 10) F (c_isIn _ _ _) mi_X5_isIn ks_X5_43 dX5_howMany_10 [] rfl (by decide) (by decide) rfl rfl (Nat.le_of_ble_eq_true rfl) trivial (by decide) (by decide) ?_
    refine g_ifne_d (pc := 13) F dX5_howMany_13 (tgt := 18) rfl (fun c_13 => ?_) (fun c_13 => ?_)
    · obtain ⟨e, he, rfl⟩ := dip_ex c_4
      obtain ⟨lo, hlo, el⟩ := lo_ex hI he
      refine g_aload_n (pc := 18) F dX5_howMany_18 rfl ?_
      refine g_iload_n (pc := 19) F dX5_howMany_19 rfl ?_
      refine g_iconst (pc := 20) F dX5_howMany_20 (v := (-1 : Int32)) (by decide) ?_
      refine i_readV (pc := 21) F (m_wrongRow s m ig ws hg T V _ _) mi_X5_wrongRow kv_X5_133 rfl rfl dX5_howMany_21 (by decide) (by decide) rfl (Nat.le_of_ble_eq_true rfl) (by decide) (by decide) ?_
      refine g_istore (pc := 24) F dX5_howMany_24 (by decide) ?_
      refine g_iload (pc := 26) F dX5_howMany_26 rfl ?_
      refine g_if_eq (pc := 28) F dX5_howMany_28 (tgt := 34) rfl (fun c_28 => ?_) (fun c_28 => ?_)
      · obtain ⟨hsh, hk2⟩ := wrong_0 c_28
        obtain ⟨j, hj, rfl⟩ := sh_ex hsh
        obtain ⟨n9, hn9, en1⟩ := hT j hj
        refine g_iconst (pc := 34) F dX5_howMany_34 (v := nI 0) rfl ?_
        refine g_istore (pc := 35) F dX5_howMany_35 (by decide) ?_
        refine g_bipush (pc := 37) F dX5_howMany_37 (v := (-4 : Int32)) (by decide) ?_
        refine g_istore (pc := 39) F dX5_howMany_39 (by decide) ?_
        refine g_bipush (pc := 41) F dX5_howMany_41 (v := (-4 : Int32)) (by decide) ?_
        refine g_istore (pc := 43) F dX5_howMany_43 (by decide) ?_
        refine g_aload_n (pc := 45) F dX5_howMany_45 rfl ?_
        refine g_getf (pc := 46) F fl_X5_9 dX5_howMany_46 rfl rfl ?_
        refine g_bipush (pc := 49) F dX5_howMany_49 (v := nI 15) rfl ?_
        refine g_iload_n (pc := 51) F dX5_howMany_51 rfl ?_
        refine g_iaddN (pc := 52) F dX5_howMany_52 ?_
        refine g_iald2 (pc := 53) F dX5_howMany_53 rfl rfl (by first | omega | (simp only [ix]; omega)) (by decide) ?_
        rw [el]
        refine g_istore (pc := 54) F dX5_howMany_54 (by decide) ?_
        have L : ∀ i, i ≤ 1000 - lo → ∀ ma, Go K 0 0 56 [(0, .ref 0), (1, .int (nI j)), (2, .int (nI e)), (3, .int wh), (4, .int (wrong T (nI j) (-1))), (5, .int (it (hmF s T j n9 e lo) i hm0).1), (6, .int (it (hmF s T j n9 e lo) i hm0).2.1), (7, .int (it (hmF s T j n9 e lo) i hm0).2.2), (8, .int (nI (lo + i)))] [] (rW s ma ig ws hg T V) := loop_up (P := fun i => ∀ ma, Go K 0 0 56 [(0, .ref 0), (1, .int (nI j)), (2, .int (nI e)), (3, .int wh), (4, .int (wrong T (nI j) (-1))), (5, .int (it (hmF s T j n9 e lo) i hm0).1), (6, .int (it (hmF s T j n9 e lo) i hm0).2.1), (7, .int (it (hmF s T j n9 e lo) i hm0).2.2), (8, .int (nI (lo + i)))] [] (rW s ma ig ws hg T V)) (fun i hi ih => by
          intro ma
          refine g_iload (pc := 56) F dX5_howMany_56 rfl ?_
          refine g_sipush (pc := 58) F dX5_howMany_58 (v := nI 999) rfl ?_
          refine g_icN_gt (pc := 61) F dX5_howMany_61 (tgt := 127) rfl rfl rfl (by omega) (by omega) (fun c_61 => ?_) (fun c_61 => ?_)
          · obtain rfl : i = 1000 - lo := by omega
            refine g_iload_n (pc := 127) F dX5_howMany_127 rfl ?_
            refine g_if_ne (pc := 128) F dX5_howMany_128 (tgt := 136) rfl (fun c_128 => ?_) (fun c_128 => ?_)
            · refine g_iload_n (pc := 136) F dX5_howMany_136 rfl ?_
              refine g_iconst (pc := 137) F dX5_howMany_137 (v := nI 1) rfl ?_
              refine g_ic_ne (pc := 138) F dX5_howMany_138 (tgt := 146) rfl (fun c_138 => ?_) (fun c_138 => ?_)
              · refine g_iload (pc := 146) F dX5_howMany_146 rfl ?_
                exact g_iret (pc := 148) F X0 dX5_howMany_148 (Nat.le_of_ble_eq_true rfl) (Nat.le_of_ble_eq_true rfl) rfl ⟨congrArg (fun z => some (Value.int z)) (by
              rw [S_howMany_y ⟨c_4, c_13⟩ c_28 hj he hn9 en1 hlo el]
              unfold pick
              first
                | exact (if_pos c_128).symm
                | exact ((if_neg c_128).trans (if_pos c_138)).symm
                | exact ((if_neg c_128).trans (if_neg c_138)).symm
                | fail), ma, V, rfl⟩
              · refine g_iload (pc := 141) F dX5_howMany_141 rfl ?_
                refine g_goto (pc := 143) F dX5_howMany_143 (tgt := 148) rfl ?_
                exact g_iret (pc := 148) F X0 dX5_howMany_148 (Nat.le_of_ble_eq_true rfl) (Nat.le_of_ble_eq_true rfl) rfl ⟨congrArg (fun z => some (Value.int z)) (by
              rw [S_howMany_y ⟨c_4, c_13⟩ c_28 hj he hn9 en1 hlo el]
              unfold pick
              first
                | exact (if_pos c_128).symm
                | exact ((if_neg c_128).trans (if_pos c_138)).symm
                | exact ((if_neg c_128).trans (if_neg c_138)).symm
                | fail), ma, V, rfl⟩
            · refine g_iload (pc := 131) F dX5_howMany_131 rfl ?_
              refine g_goto (pc := 133) F dX5_howMany_133 (tgt := 148) rfl ?_
              exact g_iret (pc := 148) F X0 dX5_howMany_148 (Nat.le_of_ble_eq_true rfl) (Nat.le_of_ble_eq_true rfl) rfl ⟨congrArg (fun z => some (Value.int z)) (by
              rw [S_howMany_y ⟨c_4, c_13⟩ c_28 hj he hn9 en1 hlo el]
              unfold pick
              first
                | exact (if_pos c_128).symm
                | exact ((if_neg c_128).trans (if_pos c_138)).symm
                | exact ((if_neg c_128).trans (if_neg c_138)).symm
                | fail), ma, V, rfl⟩
          · have hi9 : i < 1000 - lo := by omega
            have hv := hm_inv (r := s) (T := T) (j := j) (n := n9) (e := e) (lo := lo) i (by omega)
            refine g_aload_n (pc := 64) F dX5_howMany_64 rfl ?_
            refine g_getf (pc := 65) F fl_X5_9 dX5_howMany_65 rfl rfl ?_
            refine g_aload_n (pc := 68) F dX5_howMany_68 rfl ?_
            refine g_getf (pc := 69) F fl_X5_13 dX5_howMany_69 rfl rfl ?_
            refine h_callS (pc := 72) F (c_copyAll s ma) mi_X5_copies ks_X5_140 dX5_howMany_72 [1, 2] rfl (by decide) (by decide) rfl rfl (Nat.le_of_ble_eq_true rfl) (by decide) (by decide) ?_
            rintro _ _ ⟨rfl, rfl⟩ -
            refine g_aload_n (pc := 75) F dX5_howMany_75 rfl ?_
            refine g_getf (pc := 76) F fl_X5_13 dX5_howMany_76 rfl rfl ?_
            refine g_iconst (pc := 79) F dX5_howMany_79 (v := nI 5) rfl ?_
            refine g_iload_n (pc := 80) F dX5_howMany_80 rfl ?_
            refine g_iaddN (pc := 81) F dX5_howMany_81 ?_
            refine g_iload (pc := 82) F dX5_howMany_82 rfl ?_
            refine g_iast2 (pc := 84) F dX5_howMany_84 rfl rfl (by first | omega | (simp only [ix]; omega)) (by decide) ?_
            refine g_aload_n (pc := 85) F dX5_howMany_85 rfl ?_
            refine g_iload_n (pc := 86) F dX5_howMany_86 rfl ?_
            refine g_bipush (pc := 87) F dX5_howMany_87 (v := nI 15) rfl ?_
            refine g_iload_n (pc := 89) F dX5_howMany_89 rfl ?_
            refine g_iaddN (pc := 90) F dX5_howMany_90 ?_
            refine i_callV (pc := 91) F (m_isTold s (upd s (5 + e) (nI (lo + i))) ig ws hg T V (Iv_hm hI he el (by omega)) j hj n9 hn9 en1 _ (15 + e) rfl (by omega)) mi_X5_isTold kv_X5_180 rfl rfl dX5_howMany_91 (by decide) (by decide) rfl (Nat.le_of_ble_eq_true rfl) (by decide) (by decide) ?_
            rintro _ _ ⟨rfl, m2, rfl⟩ -
            refine g_ifne_d (pc := 94) F dX5_howMany_94 (tgt := 100) rfl (fun c_94 => ?_) (fun c_94 => ?_)
            · refine g_iload (pc := 100) F dX5_howMany_100 rfl ?_
              refine g_if_ne (pc := 102) F dX5_howMany_102 (tgt := 110) rfl (fun c_102 => ?_) (fun c_102 => ?_)
              · refine g_iload (pc := 110) F dX5_howMany_110 rfl ?_
                refine g_istore (pc := 112) F dX5_howMany_112 (by decide) ?_
                refine g_iload (pc := 114) F dX5_howMany_114 rfl ?_
                refine g_istore (pc := 116) F dX5_howMany_116 (by decide) ?_
                refine g_iinc (pc := 118) F dX5_howMany_118 rfl (show _ + Int32.ofInt 1 = _ + nI 1 from rfl) (by decide) ?_
                refine g_iincN (pc := 121) F dX5_howMany_121 rfl (by decide) ?_
                refine g_goto (pc := 124) F dX5_howMany_124 (tgt := 56) rfl ?_
                first
                  | exact (congrArg (fun z => Go K 0 0 56 [(0, .ref 0), (1, .int (nI j)), (2, .int (nI e)), (3, .int wh), (4, .int (wrong T (nI j) (-1))), (5, .int (z).1), (6, .int (z).2.1), (7, .int (z).2.2), (8, .int (nI (lo + (i + 1))))] [] (rW s m2 ig ws hg T V)) (hmF_y c_94 (hv.1.mp c_102))).mp (ih hi9 m2)
                  | exact (congrArg (fun z => Go K 0 0 56 [(0, .ref 0), (1, .int (nI j)), (2, .int (nI e)), (3, .int wh), (4, .int (wrong T (nI j) (-1))), (5, .int (z).1), (6, .int (z).2.1), (7, .int (z).2.2), (8, .int (nI (lo + (i + 1))))] [] (rW s m2 ig ws hg T V)) (hmF_z c_94 (fun z => c_102 (hv.1.mpr z)))).mp (ih hi9 m2)
                  | exact (congrArg (fun z => Go K 0 0 56 [(0, .ref 0), (1, .int (nI j)), (2, .int (nI e)), (3, .int wh), (4, .int (wrong T (nI j) (-1))), (5, .int (z).1), (6, .int (z).2.1), (7, .int (z).2.2), (8, .int (nI (lo + (i + 1))))] [] (rW s m2 ig ws hg T V)) (hmF_n c_94)).mp (ih hi9 m2)
                  | fail
              · refine g_iload (pc := 105) F dX5_howMany_105 rfl ?_
                refine g_goto (pc := 107) F dX5_howMany_107 (tgt := 112) rfl ?_
                refine g_istore (pc := 112) F dX5_howMany_112 (by decide) ?_
                refine g_iload (pc := 114) F dX5_howMany_114 rfl ?_
                refine g_istore (pc := 116) F dX5_howMany_116 (by decide) ?_
                refine g_iinc (pc := 118) F dX5_howMany_118 rfl (show _ + Int32.ofInt 1 = _ + nI 1 from rfl) (by decide) ?_
                refine g_iincN (pc := 121) F dX5_howMany_121 rfl (by decide) ?_
                refine g_goto (pc := 124) F dX5_howMany_124 (tgt := 56) rfl ?_
                first
                  | exact (congrArg (fun z => Go K 0 0 56 [(0, .ref 0), (1, .int (nI j)), (2, .int (nI e)), (3, .int wh), (4, .int (wrong T (nI j) (-1))), (5, .int (z).1), (6, .int (z).2.1), (7, .int (z).2.2), (8, .int (nI (lo + (i + 1))))] [] (rW s m2 ig ws hg T V)) (hmF_y c_94 (hv.1.mp c_102))).mp (ih hi9 m2)
                  | exact (congrArg (fun z => Go K 0 0 56 [(0, .ref 0), (1, .int (nI j)), (2, .int (nI e)), (3, .int wh), (4, .int (wrong T (nI j) (-1))), (5, .int (z).1), (6, .int (z).2.1), (7, .int (z).2.2), (8, .int (nI (lo + (i + 1))))] [] (rW s m2 ig ws hg T V)) (hmF_z c_94 (fun z => c_102 (hv.1.mpr z)))).mp (ih hi9 m2)
                  | exact (congrArg (fun z => Go K 0 0 56 [(0, .ref 0), (1, .int (nI j)), (2, .int (nI e)), (3, .int wh), (4, .int (wrong T (nI j) (-1))), (5, .int (z).1), (6, .int (z).2.1), (7, .int (z).2.2), (8, .int (nI (lo + (i + 1))))] [] (rW s m2 ig ws hg T V)) (hmF_n c_94)).mp (ih hi9 m2)
                  | fail
            · refine g_goto (pc := 97) F dX5_howMany_97 (tgt := 121) rfl ?_
              refine g_iincN (pc := 121) F dX5_howMany_121 rfl (by decide) ?_
              refine g_goto (pc := 124) F dX5_howMany_124 (tgt := 56) rfl ?_
              first
                | exact (congrArg (fun z => Go K 0 0 56 [(0, .ref 0), (1, .int (nI j)), (2, .int (nI e)), (3, .int wh), (4, .int (wrong T (nI j) (-1))), (5, .int (z).1), (6, .int (z).2.1), (7, .int (z).2.2), (8, .int (nI (lo + (i + 1))))] [] (rW s m2 ig ws hg T V)) (hmF_y c_94 (hv.1.mp c_102))).mp (ih hi9 m2)
                | exact (congrArg (fun z => Go K 0 0 56 [(0, .ref 0), (1, .int (nI j)), (2, .int (nI e)), (3, .int wh), (4, .int (wrong T (nI j) (-1))), (5, .int (z).1), (6, .int (z).2.1), (7, .int (z).2.2), (8, .int (nI (lo + (i + 1))))] [] (rW s m2 ig ws hg T V)) (hmF_z c_94 (fun z => c_102 (hv.1.mpr z)))).mp (ih hi9 m2)
                | exact (congrArg (fun z => Go K 0 0 56 [(0, .ref 0), (1, .int (nI j)), (2, .int (nI e)), (3, .int wh), (4, .int (wrong T (nI j) (-1))), (5, .int (z).1), (6, .int (z).2.1), (7, .int (z).2.2), (8, .int (nI (lo + (i + 1))))] [] (rW s m2 ig ws hg T V)) (hmF_n c_94)).mp (ih hi9 m2)
                | fail)
        exact L 0 (Nat.zero_le _) m
      · refine g_iload (pc := 31) F dX5_howMany_31 rfl ?_
        exact g_iret (pc := 33) F X0 dX5_howMany_33 (Nat.le_of_ble_eq_true rfl) (Nat.le_of_ble_eq_true rfl) rfl ⟨congrArg (fun z => some (Value.int z)) (S_howMany_n ⟨c_4, c_13⟩ c_28).symm, m, V, rfl⟩
    · refine g_iconst (pc := 16) F dX5_howMany_16 (v := (-1 : Int32)) (by decide) ?_
      exact g_iret (pc := 17) F X0 dX5_howMany_17 (Nat.le_of_ble_eq_true rfl) (Nat.le_of_ble_eq_true rfl) rfl (by first
      | exact ⟨congrArg (fun z => some (Value.int z)) (if_neg (fun z => c_4 z.1)).symm, m, V, rfl⟩
      | exact ⟨congrArg (fun z => some (Value.int z)) (if_neg (fun z => c_13 z.2)).symm, m, V, rfl⟩
      | fail)

def wiF (r : Nat → Int32) (T : TX) (j n c q : Nat) (k : Nat) (z : Int32) : Int32 := if TOLD T j n (upd r (ix c q) (nI k)) (ix c 4) then z ||| (nI 1 <<< (nI k &&& 31)) else z
def nM (wh : Int32) : Nat := if wh = 0 then 8 else 10
def S_whatIs (r : Nat → Int32) (T : TX) (d c wh : Int32) : Int32 := if oneP r c ∧ b01 wh then (if wrong T d (-1) = 0 then it (wiF r T (N d) (N (tN T (N d))) (N c) (N wh)) (nM wh) (nI 0) else wrong T d (-1)) else (-1)
theorem S_whatIs_n {r : Nat → Int32} {T : TX} {d c wh : Int32} (h : oneP r c ∧ b01 wh) (h2 : ¬ wrong T d (-1) = 0) : S_whatIs r T d c wh = wrong T d (-1) := (if_pos h).trans (if_neg h2)
theorem S_whatIs_y {r : Nat → Int32} {T : TX} {j n c q : Nat} (h : oneP r (nI c) ∧ b01 (nI q)) (hw : wrong T (nI j) (-1) = 0) (hj : j < 8) (hc : c < 6) (hn : n ≤ 100) (en : tN T j = nI n) (hq : q ≤ 1) : S_whatIs r T (nI j) (nI c) (nI q) = it (wiF r T j n c q) (nM (nI q)) (nI 0) := by
  refine (if_pos h).trans ((if_pos hw).trans ?_)
  rw [N_nI (by omega), N_nI (by omega), N_nI (by omega), en, N_nI (by omega)]
theorem nM_0 {wh : Int32} (h : wh = 0) : nM wh = 8 := if_pos h
theorem nM_1 {wh : Int32} (h : ¬ wh = 0) : nM wh = 10 := if_neg h
theorem nM_le (wh : Int32) : nM wh ≤ 10 := by
  unfold nM
  split <;> decide
theorem q_0 {q : Nat} (hq : q ≤ 1) (h : nI q = 0) : q = 0 := (nI_eq (b := 0) (by omega) (by decide)).mp h
theorem q_1 {q : Nat} (hq : q ≤ 1) (h : ¬ nI q = 0) : q = 1 := by
  have : ¬ q = 0 := fun z => h (by rw [z]; rfl)
  omega
theorem Iv_wi {r : Nat → Int32} {c q k : Nat} (h : Iv r) (hq : q ≤ 1) (hk : k < nM (nI q)) : Iv (upd r (ix c q) (nI k)) := by
  by_cases e : nI q = 0
  · obtain rfl := q_0 hq e
    rw [nM_0 e] at hk
    exact Iv_kind h hk
  · obtain rfl := q_1 hq e
    rw [nM_1 e] at hk
    exact Iv_fig h hk
theorem wiF_y {r : Nat → Int32} {T : TX} {j n c q k : Nat} (h : TOLD T j n (upd r (ix c q) (nI k)) (ix c 4)) : it (wiF r T j n c q) (k + 1) (nI 0) = it (wiF r T j n c q) k (nI 0) ||| (nI 1 <<< (nI k &&& 31)) := if_pos h
theorem wiF_n {r : Nat → Int32} {T : TX} {j n c q k : Nat} (h : ¬ TOLD T j n (upd r (ix c q) (nI k)) (ix c 4)) : it (wiF r T j n c q) (k + 1) (nI 0) = it (wiF r T j n c q) k (nI 0) := if_neg h
theorem wiF_n0 {r : Nat → Int32} {T : TX} {j n c q k : Nat} (h : ¬ TOLD T j n (upd r (ix c q) (nI k)) (ix c 4)) : it (wiF r T j n c q) (k + 1) (nI 0) = it (wiF r T j n c q) k (nI 0) ||| nI 0 := (wiF_n h).trans Int32.or_zero.symm
set_option maxRecDepth 100000 in
set_option maxHeartbeats 800000 in
theorem c_whatIs_no (b : Int32) (X Y Z : DX) (im : Int32) (S : Nat → SX) (g h : Nat → Int32) (r : Nat → Int32) (hR : Rel b X r) (hI : Iv r) (h4 : r 4 = nI 0) (T : TX) (hS : RS S T) (cc9 wh : Int32) (d : Int32) (hd : ¬ shP d) : Ctr yX4_whatIs cX4_whatIs 10 (some .int) 7 0 0 [.ref 0, .int d, .int cc9, .int wh] (mW X Y Z im S g h) (Look (.int (S_whatIs r T d cc9 wh)) X Z im S) := by
  refine Ctr.of rfl (Nat.le_of_ble_eq_true rfl) ⟨clS_of rfl, mW_cl _ _ _ _ _ _ _⟩ (fun K F X0 => ?_)
  show Go K 0 0 0 [(0, .ref 0), (1, .int d), (2, .int cc9), (3, .int wh)] [] (mW X Y Z im S g h)
  refine g_aload_n (pc := 0) F dX4_whatIs_0 rfl ?_
  refine g_iload_n (pc := 1) F dX4_whatIs_1 rfl ?_
  refine i_readV (pc := 2) F (c_isCorporal b X Y Z im S g h r _ hR hI) mi_X4_isCorporal kv_X4_78 rfl rfl dX4_whatIs_2 (by decide) (by decide) rfl (Nat.le_of_ble_eq_true rfl) (by decide) (by decide) ?_
  refine g_ifeq_d (pc := 5) F dX4_whatIs_5 (tgt := 17) rfl (fun c_5 => ?_) (fun c_5 => ?_)
  · refine g_iconst (pc := 17) F dX4_whatIs_17 (v := (-1 : Int32)) (by decide) ?_
    exact g_iret (pc := 18) F X0 dX4_whatIs_18 (Nat.le_of_ble_eq_true rfl) (Nat.le_of_ble_eq_true rfl) rfl (by first
      | exact ⟨congrArg (fun z => some (Value.int z)) (if_neg (fun z => c_5 z.1)).symm, Y, g, h, rfl⟩
      | exact ⟨congrArg (fun z => some (Value.int z)) (if_neg (fun z => c_14 z.2)).symm, Y, g, h, rfl⟩
      | fail)
  · refine g_iload_n (pc := 8) F dX4_whatIs_8 rfl ?_
    refine g_iconst (pc := 9) F dX4_whatIs_9 (v := nI 0) rfl ?_
    refine g_iconst (pc := 10) F dX4_whatIs_10 (v := nI 1) rfl ?_
    refine h_readS (pc := 11) F (c_isWithin _ _ _) mi_X4_isWithin ks_X4_129 dX4_whatIs_11 [] rfl (by decide) (by decide) rfl rfl (Nat.le_of_ble_eq_true rfl) trivial (by decide) (by decide) ?_
    refine g_ifne_d (pc := 14) F dX4_whatIs_14 (tgt := 19) rfl (fun c_14 => ?_) (fun c_14 => ?_)
    · refine g_aload_n (pc := 19) F dX4_whatIs_19 rfl ?_
      refine g_iload_n (pc := 20) F dX4_whatIs_20 rfl ?_
      refine i_readV (pc := 21) F (c_shelfNone X Y Z im S g h _ hd) mi_X4_shelfOrNull kv_X4_40 rfl rfl dX4_whatIs_21 (by decide) (by decide) rfl (Nat.le_of_ble_eq_true rfl) (by decide) (by decide) ?_
      refine g_astoreN (pc := 24) F dX4_whatIs_24 (by decide) ?_
      refine g_aloadN (pc := 26) F dX4_whatIs_26 rfl ?_
      refine g_iconst (pc := 28) F dX4_whatIs_28 (v := nI 2) rfl ?_
      refine h_readS (pc := 29) F (c_refusalN _) mi_X4_refusalUnless ks_X4_133 dX4_whatIs_29 [] rfl (by decide) (by decide) rfl rfl (Nat.le_of_ble_eq_true rfl) trivial (by decide) (by decide) ?_
      refine g_istore (pc := 32) F dX4_whatIs_32 (by decide) ?_
      refine g_aloadN (pc := 34) F dX4_whatIs_34 rfl ?_
      refine g_ifnullN (pc := 36) F dX4_whatIs_36 (tgt := 44) rfl ?_
      refine g_iload (pc := 44) F dX4_whatIs_44 rfl ?_
      exact g_iret (pc := 46) F X0 dX4_whatIs_46 (Nat.le_of_ble_eq_true rfl) (Nat.le_of_ble_eq_true rfl) rfl ⟨congrArg (fun z => some (Value.int z)) ((S_whatIs_n ⟨c_5, c_14⟩ (fun z => absurd ((wrong_no hd).symm.trans z) (by decide))).trans (wrong_no hd)).symm, Y, g, h, rfl⟩
    · refine g_iconst (pc := 17) F dX4_whatIs_17 (v := (-1 : Int32)) (by decide) ?_
      exact g_iret (pc := 18) F X0 dX4_whatIs_18 (Nat.le_of_ble_eq_true rfl) (Nat.le_of_ble_eq_true rfl) rfl (by first
      | exact ⟨congrArg (fun z => some (Value.int z)) (if_neg (fun z => c_5 z.1)).symm, Y, g, h, rfl⟩
      | exact ⟨congrArg (fun z => some (Value.int z)) (if_neg (fun z => c_14 z.2)).symm, Y, g, h, rfl⟩
      | fail)

set_option maxRecDepth 100000 in
set_option maxHeartbeats 800000 in
theorem c_whatIs_in (b : Int32) (X Y Z : DX) (im : Int32) (S : Nat → SX) (g h : Nat → Int32) (r : Nat → Int32) (hR : Rel b X r) (hI : Iv r) (h4 : r 4 = nI 0) (T : TX) (hS : RS S T) (cc9 wh : Int32) (d : Int32) (j : Nat) (hd : d = nI j) (hj : j < 8) : Ctr yX4_whatIs cX4_whatIs 10 (some .int) 7 0 0 [.ref 0, .int d, .int cc9, .int wh] (mW X Y Z im S g h) (Look (.int (S_whatIs r T d cc9 wh)) X Z im S) := by
  subst hd
  have hw := wrong_in hS hj
  obtain ⟨n9, hn9, en1, em1⟩ := (hS j hj).2.2.2.1
  refine Ctr.of rfl (Nat.le_of_ble_eq_true rfl) ⟨clS_of rfl, mW_cl _ _ _ _ _ _ _⟩ (fun K F X0 => ?_)
  show Go K 0 0 0 [(0, .ref 0), (1, .int (nI j)), (2, .int cc9), (3, .int wh)] [] (mW X Y Z im S g h)
  refine g_aload_n (pc := 0) F dX4_whatIs_0 rfl ?_
  refine g_iload_n (pc := 1) F dX4_whatIs_1 rfl ?_
  refine i_readV (pc := 2) F (c_isCorporal b X Y Z im S g h r _ hR hI) mi_X4_isCorporal kv_X4_78 rfl rfl dX4_whatIs_2 (by decide) (by decide) rfl (Nat.le_of_ble_eq_true rfl) (by decide) (by decide) ?_
  refine g_ifeq_d (pc := 5) F dX4_whatIs_5 (tgt := 17) rfl (fun c_5 => ?_) (fun c_5 => ?_)
  · refine g_iconst (pc := 17) F dX4_whatIs_17 (v := (-1 : Int32)) (by decide) ?_
    exact g_iret (pc := 18) F X0 dX4_whatIs_18 (Nat.le_of_ble_eq_true rfl) (Nat.le_of_ble_eq_true rfl) rfl (by first
      | exact ⟨congrArg (fun z => some (Value.int z)) (if_neg (fun z => c_5 z.1)).symm, Y, g, h, rfl⟩
      | exact ⟨congrArg (fun z => some (Value.int z)) (if_neg (fun z => c_14 z.2)).symm, Y, g, h, rfl⟩
      | fail)
  · refine g_iload_n (pc := 8) F dX4_whatIs_8 rfl ?_
    refine g_iconst (pc := 9) F dX4_whatIs_9 (v := nI 0) rfl ?_
    refine g_iconst (pc := 10) F dX4_whatIs_10 (v := nI 1) rfl ?_
    refine h_readS (pc := 11) F (c_isWithin _ _ _) mi_X4_isWithin ks_X4_129 dX4_whatIs_11 [] rfl (by decide) (by decide) rfl rfl (Nat.le_of_ble_eq_true rfl) trivial (by decide) (by decide) ?_
    refine g_ifne_d (pc := 14) F dX4_whatIs_14 (tgt := 19) rfl (fun c_14 => ?_) (fun c_14 => ?_)
    · have hm6 := hI.1.2
      obtain ⟨c, hc, rfl⟩ := one_ex hI c_5
      obtain ⟨q, hq, rfl⟩ := in_ex (by decide) c_14
      refine g_aload_n (pc := 19) F dX4_whatIs_19 rfl ?_
      refine g_iload_n (pc := 20) F dX4_whatIs_20 rfl ?_
      refine i_readV (pc := 21) F (c_shelfSome X Y Z im S g h _ j rfl hj) mi_X4_shelfOrNull kv_X4_40 rfl rfl dX4_whatIs_21 (by decide) (by decide) rfl (Nat.le_of_ble_eq_true rfl) (by decide) (by decide) ?_
      refine g_astore (pc := 24) F dX4_whatIs_24 (by decide) ?_
      refine g_aload (pc := 26) F dX4_whatIs_26 rfl ?_
      refine g_iconst (pc := 28) F dX4_whatIs_28 (v := nI 2) rfl ?_
      refine h_readS (pc := 29) F (c_refusal (S j) _) mi_X4_refusalUnless ks_X4_133 dX4_whatIs_29 [28 + 2 * j, 28 + 2 * j + 1] (mW_sub hj) (by decide) (by decide) (mW_nd hj) rfl (Nat.le_of_ble_eq_true rfl) trivial (by decide) (by decide) ?_
      refine g_istore (pc := 32) F dX4_whatIs_32 (by decide) ?_
      refine g_aload (pc := 34) F dX4_whatIs_34 rfl ?_
      refine g_ifnull (pc := 36) F dX4_whatIs_36 ?_
      refine g_iload (pc := 39) F dX4_whatIs_39 rfl ?_
      refine g_if_eq (pc := 41) F dX4_whatIs_41 (tgt := 47) rfl (fun c_41 => ?_) (fun c_41 => ?_)
      · have LL : ∀ M, nM (nI q) = M → ∀ i, i ≤ M → ∀ Ya, Go K 0 0 73 [(0, .ref 0), (1, .int (nI j)), (2, .int (nI c)), (3, .int (nI q)), (4, .ref (28 + 2 * j)), (5, .int (refU (sH (S j)) (nI 2))), (6, .int (it (wiF r T j n9 c q) i (nI 0))), (7, .int (nI (bhd (skp (S j)) n9))), (8, .int (nI M)), (9, .int (nI (i)))] [] (mW X Ya Z im S g h) := fun M hM => by
          have hM9 : M ≤ 10 := hM ▸ nM_le _
          have L : ∀ i, i ≤ M → ∀ Ya, Go K 0 0 73 [(0, .ref 0), (1, .int (nI j)), (2, .int (nI c)), (3, .int (nI q)), (4, .ref (28 + 2 * j)), (5, .int (refU (sH (S j)) (nI 2))), (6, .int (it (wiF r T j n9 c q) i (nI 0))), (7, .int (nI (bhd (skp (S j)) n9))), (8, .int (nI M)), (9, .int (nI (i)))] [] (mW X Ya Z im S g h) := loop_up (P := fun i => ∀ Ya, Go K 0 0 73 [(0, .ref 0), (1, .int (nI j)), (2, .int (nI c)), (3, .int (nI q)), (4, .ref (28 + 2 * j)), (5, .int (refU (sH (S j)) (nI 2))), (6, .int (it (wiF r T j n9 c q) i (nI 0))), (7, .int (nI (bhd (skp (S j)) n9))), (8, .int (nI M)), (9, .int (nI (i)))] [] (mW X Ya Z im S g h)) (fun i hi ih => by
            intro Ya
            refine g_iload (pc := 73) F dX4_whatIs_73 rfl ?_
            refine g_iload (pc := 75) F dX4_whatIs_75 rfl ?_
            refine g_icN_ge (pc := 77) F dX4_whatIs_77 (tgt := 147) rfl rfl rfl (by omega) (by omega) (fun c_77 => ?_) (fun c_77 => ?_)
            · obtain rfl : i = M := by omega
              refine g_iload (pc := 147) F dX4_whatIs_147 rfl ?_
              exact g_iret (pc := 149) F X0 dX4_whatIs_149 (Nat.le_of_ble_eq_true rfl) (Nat.le_of_ble_eq_true rfl) rfl ⟨congrArg (fun z => some (Value.int z)) ((S_whatIs_y ⟨c_5, c_14⟩ (hw.trans c_41) hj (by omega) hn9 en1 hq).trans (by rw [hM])).symm, Ya, g, h, rfl⟩
            · have hi9 : i < M := c_77
              have hi8 : i < nM (nI q) := hM ▸ c_77
              refine g_aload_n (pc := 80) F dX4_whatIs_80 rfl ?_
              refine g_getf (pc := 81) F fl_X4_16 dX4_whatIs_81 rfl rfl ?_
              refine g_aload_n (pc := 84) F dX4_whatIs_84 rfl ?_
              refine g_getf (pc := 85) F fl_X4_12 dX4_whatIs_85 rfl rfl ?_
              refine h_callV (pc := 88) F (c_becomes b Ya X r hR hI h4) mi_X0_becomes kv_X4_57 rfl rfl dX4_whatIs_88 [9, 10, 11, 12, 13, 14, 15, 16, 1, 2, 3, 4, 5, 6, 7, 8] sub_mn (by decide) (by decide) rfl rfl (Nat.le_of_ble_eq_true rfl) (by decide) (by decide) ?_
              rintro _ _ ⟨rfl, Y2, rfl, hY2⟩ -
              rw [place_mn]
              refine g_iload_n (pc := 91) F dX4_whatIs_91 rfl ?_
              refine g_if_ne (pc := 92) F dX4_whatIs_92 (tgt := 109) rfl (fun c_92 => ?_) (fun c_92 => ?_)
              · refine g_aload_n (pc := 109) F dX4_whatIs_109 rfl ?_
                refine g_getf (pc := 110) F fl_X4_16 dX4_whatIs_110 rfl rfl ?_
                refine g_getf (pc := 113) F fl_X4_85 dX4_whatIs_113 rfl rfl ?_
                refine g_iload_n (pc := 116) F dX4_whatIs_116 rfl ?_
                refine g_iload (pc := 117) F dX4_whatIs_117 rfl ?_
                refine g_iast2 (pc := 119) F dX4_whatIs_119 rfl rfl (by omega) (by decide) ?_
                obtain ⟨Y3, hYe, hY3⟩ : ∃ Y3, mW X (sF Y2 (upd (dF Y2) c (nI i))) Z im S g h = mW X Y3 Z im S g h ∧ Rel (nI 0 - r 3) Y3 (upd r (ix c q) (nI i)) := ⟨sF Y2 (upd (dF Y2) c (nI i)), rfl, by rw [q_1 hq c_92]; exact Rel_fig hY2⟩
                show Go K 0 0 120 _ _ (mW X (sF Y2 (upd (dF Y2) c (nI i))) Z im S g h)
                rw [hYe]
                refine g_aload_n (pc := 120) F dX4_whatIs_120 rfl ?_
                refine g_aload (pc := 121) F dX4_whatIs_121 rfl ?_
                refine g_iload (pc := 123) F dX4_whatIs_123 rfl ?_
                refine g_iload_n (pc := 125) F dX4_whatIs_125 rfl ?_
                refine i_callV (pc := 126) F (c_bookTold (nI 0 - r 3) X Y3 Z im S g h (upd r (ix c q) (nI i)) hY3 (Iv_wi hI hq hi8) T hS j hj n9 hn9 c (by rw [many_upd (by simp only [ix]; omega)]; exact hc)) mi_X4_isBookInMindAsTold kv_X4_212 rfl rfl dX4_whatIs_126 (by decide) (by decide) rfl (Nat.le_of_ble_eq_true rfl) (by decide) (by decide) ?_
                rintro _ _ ⟨rfl, Y4, rfl⟩ -
                refine g_ifeq_d (pc := 129) F dX4_whatIs_129 (tgt := 141) rfl (fun c_129 => ?_) (fun c_129 => ?_)
                · refine g_iincN (pc := 141) F dX4_whatIs_141 rfl (by decide) ?_
                  refine g_goto (pc := 144) F dX4_whatIs_144 (tgt := 73) rfl ?_
                  first
                    | exact (congrArg (fun z => Go K 0 0 73 [(0, .ref 0), (1, .int (nI j)), (2, .int (nI c)), (3, .int (nI q)), (4, .ref (28 + 2 * j)), (5, .int (refU (sH (S j)) (nI 2))), (6, .int (z)), (7, .int (nI (bhd (skp (S j)) n9))), (8, .int (nI M)), (9, .int (nI (i + 1)))] [] (mW X Y4 Z im S g h)) (wiF_y c_129)).mp (ih hi9 Y4)
                    | exact (congrArg (fun z => Go K 0 0 73 [(0, .ref 0), (1, .int (nI j)), (2, .int (nI c)), (3, .int (nI q)), (4, .ref (28 + 2 * j)), (5, .int (refU (sH (S j)) (nI 2))), (6, .int (z)), (7, .int (nI (bhd (skp (S j)) n9))), (8, .int (nI M)), (9, .int (nI (i + 1)))] [] (mW X Y4 Z im S g h)) (wiF_n c_129)).mp (ih hi9 Y4)
                    | fail
                · refine g_iload (pc := 132) F dX4_whatIs_132 rfl ?_
                  refine g_iconst (pc := 134) F dX4_whatIs_134 (v := nI 1) rfl ?_
                  refine g_iload (pc := 135) F dX4_whatIs_135 rfl ?_
                  refine g_ishl (pc := 137) F dX4_whatIs_137 ?_
                  refine g_ior (pc := 138) F dX4_whatIs_138 ?_
                  refine g_istore (pc := 139) F dX4_whatIs_139 (by decide) ?_
                  refine g_iincN (pc := 141) F dX4_whatIs_141 rfl (by decide) ?_
                  refine g_goto (pc := 144) F dX4_whatIs_144 (tgt := 73) rfl ?_
                  first
                    | exact (congrArg (fun z => Go K 0 0 73 [(0, .ref 0), (1, .int (nI j)), (2, .int (nI c)), (3, .int (nI q)), (4, .ref (28 + 2 * j)), (5, .int (refU (sH (S j)) (nI 2))), (6, .int (z)), (7, .int (nI (bhd (skp (S j)) n9))), (8, .int (nI M)), (9, .int (nI (i + 1)))] [] (mW X Y4 Z im S g h)) (wiF_y c_129)).mp (ih hi9 Y4)
                    | exact (congrArg (fun z => Go K 0 0 73 [(0, .ref 0), (1, .int (nI j)), (2, .int (nI c)), (3, .int (nI q)), (4, .ref (28 + 2 * j)), (5, .int (refU (sH (S j)) (nI 2))), (6, .int (z)), (7, .int (nI (bhd (skp (S j)) n9))), (8, .int (nI M)), (9, .int (nI (i + 1)))] [] (mW X Y4 Z im S g h)) (wiF_n c_129)).mp (ih hi9 Y4)
                    | fail
              · refine g_aload_n (pc := 95) F dX4_whatIs_95 rfl ?_
                refine g_getf (pc := 96) F fl_X4_16 dX4_whatIs_96 rfl rfl ?_
                refine g_getf (pc := 99) F fl_X4_82 dX4_whatIs_99 rfl rfl ?_
                refine g_iload_n (pc := 102) F dX4_whatIs_102 rfl ?_
                refine g_iload (pc := 103) F dX4_whatIs_103 rfl ?_
                refine g_iast2 (pc := 105) F dX4_whatIs_105 rfl rfl (by omega) (by decide) ?_
                refine g_goto (pc := 106) F dX4_whatIs_106 (tgt := 120) rfl ?_
                obtain ⟨Y3, hYe, hY3⟩ : ∃ Y3, mW X (sK Y2 (upd (dK Y2) c (nI i))) Z im S g h = mW X Y3 Z im S g h ∧ Rel (nI 0 - r 3) Y3 (upd r (ix c q) (nI i)) := ⟨sK Y2 (upd (dK Y2) c (nI i)), rfl, by rw [q_0 hq c_92]; exact Rel_kind hY2⟩
                show Go K 0 0 120 _ _ (mW X (sK Y2 (upd (dK Y2) c (nI i))) Z im S g h)
                rw [hYe]
                refine g_aload_n (pc := 120) F dX4_whatIs_120 rfl ?_
                refine g_aload (pc := 121) F dX4_whatIs_121 rfl ?_
                refine g_iload (pc := 123) F dX4_whatIs_123 rfl ?_
                refine g_iload_n (pc := 125) F dX4_whatIs_125 rfl ?_
                refine i_callV (pc := 126) F (c_bookTold (nI 0 - r 3) X Y3 Z im S g h (upd r (ix c q) (nI i)) hY3 (Iv_wi hI hq hi8) T hS j hj n9 hn9 c (by rw [many_upd (by simp only [ix]; omega)]; exact hc)) mi_X4_isBookInMindAsTold kv_X4_212 rfl rfl dX4_whatIs_126 (by decide) (by decide) rfl (Nat.le_of_ble_eq_true rfl) (by decide) (by decide) ?_
                rintro _ _ ⟨rfl, Y4, rfl⟩ -
                refine g_ifeq_d (pc := 129) F dX4_whatIs_129 (tgt := 141) rfl (fun c_129 => ?_) (fun c_129 => ?_)
                · refine g_iincN (pc := 141) F dX4_whatIs_141 rfl (by decide) ?_
                  refine g_goto (pc := 144) F dX4_whatIs_144 (tgt := 73) rfl ?_
                  first
                    | exact (congrArg (fun z => Go K 0 0 73 [(0, .ref 0), (1, .int (nI j)), (2, .int (nI c)), (3, .int (nI q)), (4, .ref (28 + 2 * j)), (5, .int (refU (sH (S j)) (nI 2))), (6, .int (z)), (7, .int (nI (bhd (skp (S j)) n9))), (8, .int (nI M)), (9, .int (nI (i + 1)))] [] (mW X Y4 Z im S g h)) (wiF_y c_129)).mp (ih hi9 Y4)
                    | exact (congrArg (fun z => Go K 0 0 73 [(0, .ref 0), (1, .int (nI j)), (2, .int (nI c)), (3, .int (nI q)), (4, .ref (28 + 2 * j)), (5, .int (refU (sH (S j)) (nI 2))), (6, .int (z)), (7, .int (nI (bhd (skp (S j)) n9))), (8, .int (nI M)), (9, .int (nI (i + 1)))] [] (mW X Y4 Z im S g h)) (wiF_n c_129)).mp (ih hi9 Y4)
                    | fail
                · refine g_iload (pc := 132) F dX4_whatIs_132 rfl ?_
                  refine g_iconst (pc := 134) F dX4_whatIs_134 (v := nI 1) rfl ?_
                  refine g_iload (pc := 135) F dX4_whatIs_135 rfl ?_
                  refine g_ishl (pc := 137) F dX4_whatIs_137 ?_
                  refine g_ior (pc := 138) F dX4_whatIs_138 ?_
                  refine g_istore (pc := 139) F dX4_whatIs_139 (by decide) ?_
                  refine g_iincN (pc := 141) F dX4_whatIs_141 rfl (by decide) ?_
                  refine g_goto (pc := 144) F dX4_whatIs_144 (tgt := 73) rfl ?_
                  first
                    | exact (congrArg (fun z => Go K 0 0 73 [(0, .ref 0), (1, .int (nI j)), (2, .int (nI c)), (3, .int (nI q)), (4, .ref (28 + 2 * j)), (5, .int (refU (sH (S j)) (nI 2))), (6, .int (z)), (7, .int (nI (bhd (skp (S j)) n9))), (8, .int (nI M)), (9, .int (nI (i + 1)))] [] (mW X Y4 Z im S g h)) (wiF_y c_129)).mp (ih hi9 Y4)
                    | exact (congrArg (fun z => Go K 0 0 73 [(0, .ref 0), (1, .int (nI j)), (2, .int (nI c)), (3, .int (nI q)), (4, .ref (28 + 2 * j)), (5, .int (refU (sH (S j)) (nI 2))), (6, .int (z)), (7, .int (nI (bhd (skp (S j)) n9))), (8, .int (nI M)), (9, .int (nI (i + 1)))] [] (mW X Y4 Z im S g h)) (wiF_n c_129)).mp (ih hi9 Y4)
                    | fail)
          exact L
        refine g_iconst (pc := 47) F dX4_whatIs_47 (v := nI 0) rfl ?_
        refine g_istore (pc := 48) F dX4_whatIs_48 (by decide) ?_
        refine g_aload (pc := 50) F dX4_whatIs_50 rfl ?_
        refine h_readV (pc := 52) F (c_behind (S j) n9 em1 hn9) mi_X2_behindLastTold kv_X4_205 rfl rfl dX4_whatIs_52 [28 + 2 * j, 28 + 2 * j + 1] (mW_sub hj) (by decide) (by decide) (mW_nd hj) rfl (Nat.le_of_ble_eq_true rfl) trivial (by decide) (by decide) ?_
        refine g_istore (pc := 55) F dX4_whatIs_55 (by decide) ?_
        refine g_iload_n (pc := 57) F dX4_whatIs_57 rfl ?_
        refine g_if_ne (pc := 58) F dX4_whatIs_58 (tgt := 66) rfl (fun c_58 => ?_) (fun c_58 => ?_)
        · refine g_bipush (pc := 66) F dX4_whatIs_66 (v := nI 10) rfl ?_
          refine g_istore (pc := 68) F dX4_whatIs_68 (by decide) ?_
          refine g_iconst (pc := 70) F dX4_whatIs_70 (v := nI 0) rfl ?_
          refine g_istore (pc := 71) F dX4_whatIs_71 (by decide) ?_
          first
            | exact LL 8 (nM_0 c_58) 0 (Nat.zero_le _) Y
            | exact LL 10 (nM_1 c_58) 0 (Nat.zero_le _) Y
            | fail
        · refine g_bipush (pc := 61) F dX4_whatIs_61 (v := nI 8) rfl ?_
          refine g_goto (pc := 63) F dX4_whatIs_63 (tgt := 68) rfl ?_
          refine g_istore (pc := 68) F dX4_whatIs_68 (by decide) ?_
          refine g_iconst (pc := 70) F dX4_whatIs_70 (v := nI 0) rfl ?_
          refine g_istore (pc := 71) F dX4_whatIs_71 (by decide) ?_
          first
            | exact LL 8 (nM_0 c_58) 0 (Nat.zero_le _) Y
            | exact LL 10 (nM_1 c_58) 0 (Nat.zero_le _) Y
            | fail
      · refine g_iload (pc := 44) F dX4_whatIs_44 rfl ?_
        exact g_iret (pc := 46) F X0 dX4_whatIs_46 (Nat.le_of_ble_eq_true rfl) (Nat.le_of_ble_eq_true rfl) rfl ⟨congrArg (fun z => some (Value.int z)) ((S_whatIs_n ⟨c_5, c_14⟩ (fun z => c_41 (hw.symm.trans z))).trans hw).symm, Y, g, h, rfl⟩
    · refine g_iconst (pc := 17) F dX4_whatIs_17 (v := (-1 : Int32)) (by decide) ?_
      exact g_iret (pc := 18) F X0 dX4_whatIs_18 (Nat.le_of_ble_eq_true rfl) (Nat.le_of_ble_eq_true rfl) rfl (by first
      | exact ⟨congrArg (fun z => some (Value.int z)) (if_neg (fun z => c_5 z.1)).symm, Y, g, h, rfl⟩
      | exact ⟨congrArg (fun z => some (Value.int z)) (if_neg (fun z => c_14 z.2)).symm, Y, g, h, rfl⟩
      | fail)

theorem c_whatIs (b : Int32) (X Y Z : DX) (im : Int32) (S : Nat → SX) (g h : Nat → Int32) (r : Nat → Int32) (hR : Rel b X r) (hI : Iv r) (h4 : r 4 = nI 0) (T : TX) (hS : RS S T) (cc9 wh : Int32) (d : Int32) : Ctr yX4_whatIs cX4_whatIs 10 (some .int) 7 0 0 [.ref 0, .int d, .int cc9, .int wh] (mW X Y Z im S g h) (Look (.int (S_whatIs r T d cc9 wh)) X Z im S) := by
  by_cases hd : shP d
  · obtain ⟨j, hj, e⟩ := sh_ex hd
    exact c_whatIs_in b X Y Z im S g h r hR hI h4 T hS cc9 wh d j e hj
  · exact c_whatIs_no b X Y Z im S g h r hR hI h4 T hS cc9 wh d hd

set_option maxRecDepth 100000 in
set_option maxHeartbeats 800000 in
theorem m_whatIs (s m ig ws : Nat → Int32) (hg : Int32) (T : TX) (V : VX) (hI : Iv s) (hT : IT T) (d cc9 wh : Int32) : Ctr yX5_whatIs cX5_whatIs 7 (some .int) 7 0 0 [.ref 0, .int d, .int cc9, .int wh] (rW s m ig ws hg T V) (LookR (.int (S_whatIs s T d cc9 wh)) s ig ws hg T) := by
  refine Ctr.of rfl (Nat.le_of_ble_eq_true rfl) ⟨clS_of rfl, clH_of rfl⟩ (fun K F X0 => ?_)
  show Go K 0 0 0 [(0, .ref 0), (1, .int d), (2, .int cc9), (3, .int wh)] [] (rW s m ig ws hg T V)
  refine g_aload_n (pc := 0) F dX5_whatIs_0 rfl ?_
  refine g_iload_n (pc := 1) F dX5_whatIs_1 rfl ?_
  refine i_readV (pc := 2) F (m_isOne s m ig ws hg T V _ hI) mi_X5_isOne kv_X5_123 rfl rfl dX5_whatIs_2 (by decide) (by decide) rfl (Nat.le_of_ble_eq_true rfl) (by decide) (by decide) ?_
  refine g_ifeq_d (pc := 5) F dX5_whatIs_5 (tgt := 17) rfl (fun c_5 => ?_) (fun c_5 => ?_)
  · refine g_iconst (pc := 17) F dX5_whatIs_17 (v := (-1 : Int32)) (by decide) ?_
    exact g_iret (pc := 18) F X0 dX5_whatIs_18 (Nat.le_of_ble_eq_true rfl) (Nat.le_of_ble_eq_true rfl) rfl (by first
      | exact ⟨congrArg (fun z => some (Value.int z)) (if_neg (fun z => c_5 z.1)).symm, m, V, rfl⟩
      | exact ⟨congrArg (fun z => some (Value.int z)) (if_neg (fun z => c_14 z.2)).symm, m, V, rfl⟩
      | fail)
  · refine g_iload_n (pc := 8) F dX5_whatIs_8 rfl ?_
    refine g_iconst (pc := 9) F dX5_whatIs_9 (v := nI 0) rfl ?_
    refine g_iconst (pc := 10) F dX5_whatIs_10 (v := nI 1) rfl ?_
    refine h_readS (pc := 11) F (c_isIn _ _ _) mi_X5_isIn ks_X5_43 dX5_whatIs_11 [] rfl (by decide) (by decide) rfl rfl (Nat.le_of_ble_eq_true rfl) trivial (by decide) (by decide) ?_
    refine g_ifne_d (pc := 14) F dX5_whatIs_14 (tgt := 19) rfl (fun c_14 => ?_) (fun c_14 => ?_)
    · have hm6 := hI.1.2
      obtain ⟨c, hc, rfl⟩ := one_ex hI c_5
      obtain ⟨q, hq, rfl⟩ := in_ex (by decide) c_14
      refine g_aload_n (pc := 19) F dX5_whatIs_19 rfl ?_
      refine g_iload_n (pc := 20) F dX5_whatIs_20 rfl ?_
      refine g_iconst (pc := 21) F dX5_whatIs_21 (v := (-1 : Int32)) (by decide) ?_
      refine i_readV (pc := 22) F (m_wrongRow s m ig ws hg T V _ _) mi_X5_wrongRow kv_X5_133 rfl rfl dX5_whatIs_22 (by decide) (by decide) rfl (Nat.le_of_ble_eq_true rfl) (by decide) (by decide) ?_
      refine g_istore (pc := 25) F dX5_whatIs_25 (by decide) ?_
      refine g_iload (pc := 27) F dX5_whatIs_27 rfl ?_
      refine g_if_eq (pc := 29) F dX5_whatIs_29 (tgt := 35) rfl (fun c_29 => ?_) (fun c_29 => ?_)
      · obtain ⟨hsh, hk2⟩ := wrong_0 c_29
        obtain ⟨j, hj, rfl⟩ := sh_ex hsh
        obtain ⟨n9, hn9, en1⟩ := hT j hj
        have hM10 := nM_le (nI q)
        refine g_iconst (pc := 35) F dX5_whatIs_35 (v := nI 0) rfl ?_
        refine g_istore (pc := 36) F dX5_whatIs_36 (by decide) ?_
        refine g_iconst (pc := 38) F dX5_whatIs_38 (v := nI 0) rfl ?_
        refine g_istore (pc := 39) F dX5_whatIs_39 (by decide) ?_
        have L : ∀ i, i ≤ nM (nI q) → ∀ ma, Go K 0 0 41 [(0, .ref 0), (1, .int (nI j)), (2, .int (nI c)), (3, .int (nI q)), (4, .int (wrong T (nI j) (-1))), (5, .int (it (wiF s T j n9 c q) i (nI 0))), (6, .int (nI (i)))] [] (rW s ma ig ws hg T V) := loop_up (P := fun i => ∀ ma, Go K 0 0 41 [(0, .ref 0), (1, .int (nI j)), (2, .int (nI c)), (3, .int (nI q)), (4, .int (wrong T (nI j) (-1))), (5, .int (it (wiF s T j n9 c q) i (nI 0))), (6, .int (nI (i)))] [] (rW s ma ig ws hg T V)) (fun i hi ih => by
          intro ma
          refine g_iload (pc := 41) F dX5_whatIs_41 rfl ?_
          refine g_iload_n (pc := 43) F dX5_whatIs_43 rfl ?_
          refine g_if_ne (pc := 44) F dX5_whatIs_44 (tgt := 52) rfl (fun c_44 => ?_) (fun c_44 => ?_)
          · refine g_bipush (pc := 52) F dX5_whatIs_52 (v := nI 10) rfl ?_
            refine g_icN_ge (pc := 54) F dX5_whatIs_54 (tgt := 112) rfl rfl rfl (by omega) (by omega) (fun c_54 => ?_) (fun c_54 => ?_)
            · obtain rfl : i = nM (nI q) := by have := nM_1 c_44; omega
              refine g_iload (pc := 112) F dX5_whatIs_112 rfl ?_
              exact g_iret (pc := 114) F X0 dX5_whatIs_114 (Nat.le_of_ble_eq_true rfl) (Nat.le_of_ble_eq_true rfl) rfl ⟨congrArg (fun z => some (Value.int z)) (S_whatIs_y ⟨c_5, c_14⟩ c_29 hj (by omega) hn9 en1 hq).symm, ma, V, rfl⟩
            · have hi9 : i < nM (nI q) := by have := nM_1 c_44; omega
              refine g_aload_n (pc := 57) F dX5_whatIs_57 rfl ?_
              refine g_getf (pc := 58) F fl_X5_9 dX5_whatIs_58 rfl rfl ?_
              refine g_aload_n (pc := 61) F dX5_whatIs_61 rfl ?_
              refine g_getf (pc := 62) F fl_X5_13 dX5_whatIs_62 rfl rfl ?_
              refine h_callS (pc := 65) F (c_copyAll s ma) mi_X5_copies ks_X5_140 dX5_whatIs_65 [1, 2] rfl (by decide) (by decide) rfl rfl (Nat.le_of_ble_eq_true rfl) (by decide) (by decide) ?_
              rintro _ _ ⟨rfl, rfl⟩ -
              refine g_aload_n (pc := 68) F dX5_whatIs_68 rfl ?_
              refine g_getf (pc := 69) F fl_X5_13 dX5_whatIs_69 rfl rfl ?_
              refine g_iload_n (pc := 72) F dX5_whatIs_72 rfl ?_
              refine g_iload_n (pc := 73) F dX5_whatIs_73 rfl ?_
              refine h_readS (pc := 74) F (c_of c q) mi_X5_of ks_X5_47 dX5_whatIs_74 [] rfl (by decide) (by decide) rfl rfl (Nat.le_of_ble_eq_true rfl) trivial (by decide) (by decide) ?_
              refine g_iload (pc := 77) F dX5_whatIs_77 rfl ?_
              refine g_iast2 (pc := 79) F dX5_whatIs_79 rfl rfl (by first | omega | (simp only [ix]; omega)) (by decide) ?_
              refine g_iload (pc := 80) F dX5_whatIs_80 rfl ?_
              refine g_aload_n (pc := 82) F dX5_whatIs_82 rfl ?_
              refine g_iload_n (pc := 83) F dX5_whatIs_83 rfl ?_
              refine g_iload_n (pc := 84) F dX5_whatIs_84 rfl ?_
              refine g_iconst (pc := 85) F dX5_whatIs_85 (v := nI 4) rfl ?_
              refine h_readS (pc := 86) F (c_of c 4) mi_X5_of ks_X5_47 dX5_whatIs_86 [] rfl (by decide) (by decide) rfl rfl (Nat.le_of_ble_eq_true rfl) trivial (by decide) (by decide) ?_
              refine i_callV (pc := 89) F (m_isTold s (upd s (ix c q) (nI i)) ig ws hg T V (Iv_wi hI hq hi9) j hj n9 hn9 en1 _ (ix c 4) rfl (by simp only [ix]; omega)) mi_X5_isTold kv_X5_180 rfl rfl dX5_whatIs_89 (by decide) (by decide) rfl (Nat.le_of_ble_eq_true rfl) (by decide) (by decide) ?_
              rintro _ _ ⟨rfl, m2, rfl⟩ -
              refine g_ifeq_d (pc := 92) F dX5_whatIs_92 (tgt := 102) rfl (fun c_92 => ?_) (fun c_92 => ?_)
              · refine g_iconst (pc := 102) F dX5_whatIs_102 (v := nI 0) rfl ?_
                refine g_ior (pc := 103) F dX5_whatIs_103 ?_
                refine g_istore (pc := 104) F dX5_whatIs_104 (by decide) ?_
                refine g_iincN (pc := 106) F dX5_whatIs_106 rfl (by decide) ?_
                refine g_goto (pc := 109) F dX5_whatIs_109 (tgt := 41) rfl ?_
                first
                  | exact (congrArg (fun z => Go K 0 0 41 [(0, .ref 0), (1, .int (nI j)), (2, .int (nI c)), (3, .int (nI q)), (4, .int (wrong T (nI j) (-1))), (5, .int (z)), (6, .int (nI (i + 1)))] [] (rW s m2 ig ws hg T V)) (wiF_y c_92)).mp (ih hi9 m2)
                  | exact (congrArg (fun z => Go K 0 0 41 [(0, .ref 0), (1, .int (nI j)), (2, .int (nI c)), (3, .int (nI q)), (4, .int (wrong T (nI j) (-1))), (5, .int (z)), (6, .int (nI (i + 1)))] [] (rW s m2 ig ws hg T V)) (wiF_n0 c_92)).mp (ih hi9 m2)
                  | fail
              · refine g_iconst (pc := 95) F dX5_whatIs_95 (v := nI 1) rfl ?_
                refine g_iload (pc := 96) F dX5_whatIs_96 rfl ?_
                refine g_ishl (pc := 98) F dX5_whatIs_98 ?_
                refine g_goto (pc := 99) F dX5_whatIs_99 (tgt := 103) rfl ?_
                refine g_ior (pc := 103) F dX5_whatIs_103 ?_
                refine g_istore (pc := 104) F dX5_whatIs_104 (by decide) ?_
                refine g_iincN (pc := 106) F dX5_whatIs_106 rfl (by decide) ?_
                refine g_goto (pc := 109) F dX5_whatIs_109 (tgt := 41) rfl ?_
                first
                  | exact (congrArg (fun z => Go K 0 0 41 [(0, .ref 0), (1, .int (nI j)), (2, .int (nI c)), (3, .int (nI q)), (4, .int (wrong T (nI j) (-1))), (5, .int (z)), (6, .int (nI (i + 1)))] [] (rW s m2 ig ws hg T V)) (wiF_y c_92)).mp (ih hi9 m2)
                  | exact (congrArg (fun z => Go K 0 0 41 [(0, .ref 0), (1, .int (nI j)), (2, .int (nI c)), (3, .int (nI q)), (4, .int (wrong T (nI j) (-1))), (5, .int (z)), (6, .int (nI (i + 1)))] [] (rW s m2 ig ws hg T V)) (wiF_n0 c_92)).mp (ih hi9 m2)
                  | fail
          · refine g_bipush (pc := 47) F dX5_whatIs_47 (v := nI 8) rfl ?_
            refine g_goto (pc := 49) F dX5_whatIs_49 (tgt := 54) rfl ?_
            refine g_icN_ge (pc := 54) F dX5_whatIs_54 (tgt := 112) rfl rfl rfl (by omega) (by omega) (fun c_54 => ?_) (fun c_54 => ?_)
            · obtain rfl : i = nM (nI q) := by have := nM_0 c_44; omega
              refine g_iload (pc := 112) F dX5_whatIs_112 rfl ?_
              exact g_iret (pc := 114) F X0 dX5_whatIs_114 (Nat.le_of_ble_eq_true rfl) (Nat.le_of_ble_eq_true rfl) rfl ⟨congrArg (fun z => some (Value.int z)) (S_whatIs_y ⟨c_5, c_14⟩ c_29 hj (by omega) hn9 en1 hq).symm, ma, V, rfl⟩
            · have hi9 : i < nM (nI q) := by have := nM_0 c_44; omega
              refine g_aload_n (pc := 57) F dX5_whatIs_57 rfl ?_
              refine g_getf (pc := 58) F fl_X5_9 dX5_whatIs_58 rfl rfl ?_
              refine g_aload_n (pc := 61) F dX5_whatIs_61 rfl ?_
              refine g_getf (pc := 62) F fl_X5_13 dX5_whatIs_62 rfl rfl ?_
              refine h_callS (pc := 65) F (c_copyAll s ma) mi_X5_copies ks_X5_140 dX5_whatIs_65 [1, 2] rfl (by decide) (by decide) rfl rfl (Nat.le_of_ble_eq_true rfl) (by decide) (by decide) ?_
              rintro _ _ ⟨rfl, rfl⟩ -
              refine g_aload_n (pc := 68) F dX5_whatIs_68 rfl ?_
              refine g_getf (pc := 69) F fl_X5_13 dX5_whatIs_69 rfl rfl ?_
              refine g_iload_n (pc := 72) F dX5_whatIs_72 rfl ?_
              refine g_iload_n (pc := 73) F dX5_whatIs_73 rfl ?_
              refine h_readS (pc := 74) F (c_of c q) mi_X5_of ks_X5_47 dX5_whatIs_74 [] rfl (by decide) (by decide) rfl rfl (Nat.le_of_ble_eq_true rfl) trivial (by decide) (by decide) ?_
              refine g_iload (pc := 77) F dX5_whatIs_77 rfl ?_
              refine g_iast2 (pc := 79) F dX5_whatIs_79 rfl rfl (by first | omega | (simp only [ix]; omega)) (by decide) ?_
              refine g_iload (pc := 80) F dX5_whatIs_80 rfl ?_
              refine g_aload_n (pc := 82) F dX5_whatIs_82 rfl ?_
              refine g_iload_n (pc := 83) F dX5_whatIs_83 rfl ?_
              refine g_iload_n (pc := 84) F dX5_whatIs_84 rfl ?_
              refine g_iconst (pc := 85) F dX5_whatIs_85 (v := nI 4) rfl ?_
              refine h_readS (pc := 86) F (c_of c 4) mi_X5_of ks_X5_47 dX5_whatIs_86 [] rfl (by decide) (by decide) rfl rfl (Nat.le_of_ble_eq_true rfl) trivial (by decide) (by decide) ?_
              refine i_callV (pc := 89) F (m_isTold s (upd s (ix c q) (nI i)) ig ws hg T V (Iv_wi hI hq hi9) j hj n9 hn9 en1 _ (ix c 4) rfl (by simp only [ix]; omega)) mi_X5_isTold kv_X5_180 rfl rfl dX5_whatIs_89 (by decide) (by decide) rfl (Nat.le_of_ble_eq_true rfl) (by decide) (by decide) ?_
              rintro _ _ ⟨rfl, m2, rfl⟩ -
              refine g_ifeq_d (pc := 92) F dX5_whatIs_92 (tgt := 102) rfl (fun c_92 => ?_) (fun c_92 => ?_)
              · refine g_iconst (pc := 102) F dX5_whatIs_102 (v := nI 0) rfl ?_
                refine g_ior (pc := 103) F dX5_whatIs_103 ?_
                refine g_istore (pc := 104) F dX5_whatIs_104 (by decide) ?_
                refine g_iincN (pc := 106) F dX5_whatIs_106 rfl (by decide) ?_
                refine g_goto (pc := 109) F dX5_whatIs_109 (tgt := 41) rfl ?_
                first
                  | exact (congrArg (fun z => Go K 0 0 41 [(0, .ref 0), (1, .int (nI j)), (2, .int (nI c)), (3, .int (nI q)), (4, .int (wrong T (nI j) (-1))), (5, .int (z)), (6, .int (nI (i + 1)))] [] (rW s m2 ig ws hg T V)) (wiF_y c_92)).mp (ih hi9 m2)
                  | exact (congrArg (fun z => Go K 0 0 41 [(0, .ref 0), (1, .int (nI j)), (2, .int (nI c)), (3, .int (nI q)), (4, .int (wrong T (nI j) (-1))), (5, .int (z)), (6, .int (nI (i + 1)))] [] (rW s m2 ig ws hg T V)) (wiF_n0 c_92)).mp (ih hi9 m2)
                  | fail
              · refine g_iconst (pc := 95) F dX5_whatIs_95 (v := nI 1) rfl ?_
                refine g_iload (pc := 96) F dX5_whatIs_96 rfl ?_
                refine g_ishl (pc := 98) F dX5_whatIs_98 ?_
                refine g_goto (pc := 99) F dX5_whatIs_99 (tgt := 103) rfl ?_
                refine g_ior (pc := 103) F dX5_whatIs_103 ?_
                refine g_istore (pc := 104) F dX5_whatIs_104 (by decide) ?_
                refine g_iincN (pc := 106) F dX5_whatIs_106 rfl (by decide) ?_
                refine g_goto (pc := 109) F dX5_whatIs_109 (tgt := 41) rfl ?_
                first
                  | exact (congrArg (fun z => Go K 0 0 41 [(0, .ref 0), (1, .int (nI j)), (2, .int (nI c)), (3, .int (nI q)), (4, .int (wrong T (nI j) (-1))), (5, .int (z)), (6, .int (nI (i + 1)))] [] (rW s m2 ig ws hg T V)) (wiF_y c_92)).mp (ih hi9 m2)
                  | exact (congrArg (fun z => Go K 0 0 41 [(0, .ref 0), (1, .int (nI j)), (2, .int (nI c)), (3, .int (nI q)), (4, .int (wrong T (nI j) (-1))), (5, .int (z)), (6, .int (nI (i + 1)))] [] (rW s m2 ig ws hg T V)) (wiF_n0 c_92)).mp (ih hi9 m2)
                  | fail)
        exact L 0 (Nat.zero_le _) m
      · refine g_iload (pc := 32) F dX5_whatIs_32 rfl ?_
        exact g_iret (pc := 34) F X0 dX5_whatIs_34 (Nat.le_of_ble_eq_true rfl) (Nat.le_of_ble_eq_true rfl) rfl ⟨congrArg (fun z => some (Value.int z)) (S_whatIs_n ⟨c_5, c_14⟩ c_29).symm, m, V, rfl⟩
    · refine g_iconst (pc := 17) F dX5_whatIs_17 (v := (-1 : Int32)) (by decide) ?_
      exact g_iret (pc := 18) F X0 dX5_whatIs_18 (Nat.le_of_ble_eq_true rfl) (Nat.le_of_ble_eq_true rfl) rfl (by first
      | exact ⟨congrArg (fun z => some (Value.int z)) (if_neg (fun z => c_5 z.1)).symm, m, V, rfl⟩
      | exact ⟨congrArg (fun z => some (Value.int z)) (if_neg (fun z => c_14 z.2)).symm, m, V, rfl⟩
      | fail)

