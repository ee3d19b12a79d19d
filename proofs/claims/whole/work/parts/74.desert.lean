/-! desert(d): the form of the text, then its statements one by one -/
def byT (T : TX) (j n i : Nat) : Int32 := if i < n then tE T (100 * j + i) else (-1)
theorem byU_T {U : SX} {T : TX} {j n : Nat} (h : RS1 U T j) (hn : n ≤ 100) : byU U n = byT T j n := by
  funext i
  unfold byU byT
  by_cases q : i < n
  · rw [if_pos q, if_pos q, h.2.2.2.2.1 i (by omega)]
  · rw [if_neg q, if_neg q]
/-- the place where it can't be done, -1 if none -/
def rnA (B : Nat → Int32) (n : Nat) : Nat → Nat → (Nat → Int32) → Int32
  | 0, _, _ => (-1)
  | f + 1, p, q => if p < n then (if efP B p q then rnA B n f (p + lenS B p) (efR B p q) else nI p) else (-1)
def rnR (B : Nat → Int32) (n : Nat) : Nat → Nat → (Nat → Int32) → (Nat → Int32)
  | 0, _, q => q
  | f + 1, p, q => if p < n then rnR B n f (p + lenS B p) (efR B p q) else q
def cnS (B : Nat → Int32) (n : Nat) : Nat → Nat → Nat
  | 0, _ => 0
  | f + 1, p => if p < n then cnS B n f (p + lenS B p) + 1 else 0
section Rn
variable {B : Nat → Int32} {n f p : Nat} {q : Nat → Int32}
theorem rnA_n (h : p < n) (h2 : ¬ efP B p q) : rnA B n (f + 1) p q = nI p := (if_pos h).trans (if_neg h2)
theorem rnA_y (h : p < n) (h2 : efP B p q) : rnA B n (f + 1) p q = rnA B n f (p + lenS B p) (efR B p q) := (if_pos h).trans (if_pos h2)
theorem rnA_e (h : ¬ p < n) : rnA B n (f + 1) p q = (-1) := if_neg h
theorem rnR_y (h : p < n) : rnR B n (f + 1) p q = rnR B n f (p + lenS B p) (efR B p q) := if_pos h
theorem rnR_e (h : ¬ p < n) : rnR B n (f + 1) p q = q := if_neg h
theorem cnS_y (h : p < n) : cnS B n (f + 1) p = cnS B n f (p + lenS B p) + 1 := if_pos h
theorem cnS_e (h : ¬ p < n) : cnS B n (f + 1) p = 0 := if_neg h
/-- from p on the form is good -/
def FO (B : Nat → Int32) (n p : Nat) : Prop := p < n → ∃ f, n < p + f ∧ frm B n f p = (-1)
theorem bad_le (B : Nat → Int32) (p : Nat) : badS B p ≤ p + 5 := by
  have h1 := ldN_le B (p + 1) (kL (B p))
  have h2 := kL_le (B p)
  unfold badS
  split <;> omega
theorem FO_s (h : FO B n p) (hp : p < n) (hp2 : p < 1000) : okS B p ∧ FO B n (p + lenS B p) := by
  obtain ⟨g, hg, e⟩ := h hp
  cases g with
  | zero => omega
  | succ g =>
    by_cases z : okS B p
    · refine ⟨z, fun h2 => ⟨g, by show n < p + (kL (B p) + 2) + g; omega, ?_⟩⟩
      rw [frm_s z h2] at e
      exact e
    · rw [frm_b z] at e
      have := bad_le B p
      exact absurd (e ▸ nI_nneg (o := badS B p) (by omega)) (by decide)
theorem frm_end (B : Nat → Int32) (n : Nat) : ∀ f p, p < 1000 → n ≤ 100 → (frm B n f p < 0 → frm B n f p = (-1)) ∧ (¬ frm B n f p < 0 → ∃ b, b < 2000 ∧ frm B n f p = nI b)
  | 0, _, _, _ => ⟨fun _ => rfl, fun h => absurd (show (-1 : Int32) < 0 by decide) h⟩
  | f + 1, p, hp, hn => by
    by_cases z : okS B p
    · by_cases z2 : p + lenS B p < n
      · rw [frm_s z z2]
        exact frm_end B n f _ (by omega) hn
      · rw [frm_e z z2]
        exact ⟨fun _ => rfl, fun h => absurd (by decide) h⟩
    · rw [frm_b z]
      have := bad_le B p
      exact ⟨fun h => absurd h (nI_nneg (by omega)), fun _ => ⟨_, by omega, rfl⟩⟩
theorem len_in (h : okS B p) (hB : ∀ i, ¬ B i = (-1) → i < n) : p + lenS B p ≤ n := by
  have := hB (p + 1 + kL (B p)) (fun z => absurd (h.2.2.symm.trans z) (by decide))
  show p + (kL (B p) + 2) ≤ n
  omega
end Rn
/-- what desert(d) answers, and the row then; B: the text, n: its size -/
def dsA (B : Nat → Int32) (n : Nat) (r : Nat → Int32) : Int32 :=
  if frm B n (n + 1) 0 < 0 then (if rnA B n (n + 1) 0 r < 0 then nI (cnS B n (n + 1) 0) else (-2000) - rnA B n (n + 1) 0 r) else (-1000) - frm B n (n + 1) 0
def dsR (B : Nat → Int32) (n : Nat) (r : Nat → Int32) : Nat → Int32 :=
  if frm B n (n + 1) 0 < 0 then (if rnA B n (n + 1) 0 r < 0 then rnR B n (n + 1) 0 r else r) else r
def A_desert (r : Nat → Int32) (T : TX) (d : Int32) : Int32 := if wrong T d 0 = 0 then dsA (byT T (N d) (N (tN T (N d)))) (N (tN T (N d))) r else wrong T d 0
def R_desert (r : Nat → Int32) (T : TX) (d : Int32) : Nat → Int32 := if wrong T d 0 = 0 then dsR (byT T (N d) (N (tN T (N d)))) (N (tN T (N d))) r else r
theorem desert_n {r : Nat → Int32} {T : TX} {d : Int32} (h : ¬ wrong T d 0 = 0) : A_desert r T d = wrong T d 0 ∧ R_desert r T d = r := ⟨if_neg h, if_neg h⟩
theorem desert_y {r : Nat → Int32} {T : TX} {j n : Nat} {B : Nat → Int32} (h : wrong T (nI j) 0 = 0) (hj : j < 8) (hn : n ≤ 100) (en : tN T j = nI n) (hB : B = byT T j n) : A_desert r T (nI j) = dsA B n r ∧ R_desert r T (nI j) = dsR B n r := by
  subst hB
  refine ⟨(if_pos h).trans ?_, (if_pos h).trans ?_⟩ <;> rw [N_nI (by omega), en, N_nI (by omega)]
theorem wrong_b {S : Nat → SX} {T : TX} {j : Nat} (h : RS S T) (hj : j < 8) : wrong T (nI j) 0 = if sH (S j) = 0 then (-11) else if sH (S j) = nI 2 ∧ sSo (S j) = 0 then nI 0 else (-12) := by
  unfold wrong
  rw [if_pos (sh_in hj), N_nI (by omega), (h j hj).1.1, (h j hj).2.2.1]
  by_cases q : tH T j = 0
  · rw [if_pos q, if_pos q]
  · rw [if_neg q, if_neg q]
    by_cases q2 : tH T j = nI 2 ∧ tS T j = 0
    · rw [if_pos q2, if_pos ⟨q2.1, Or.inr q2.2⟩]
    · rw [if_neg q2, if_neg (fun z => q2 ⟨z.1, z.2.resolve_left (by decide)⟩)]
set_option maxRecDepth 20000 in
set_option maxHeartbeats 1000000 in
theorem sub_my {X Y Z : DX} {im : Int32} {S : Nat → SX} {g h : Nat → Int32} {j : Nat} (hj : j < 8) : Sub (mW X Y Z im S g h) [9, 10, 11, 12, 13, 14, 15, 16, 28 + 2 * j, 28 + 2 * j + 1] (yW Y (S j)) :=
  sh8 (P := fun j => Sub (mW X Y Z im S g h) [9, 10, 11, 12, 13, 14, 15, 16, 28 + 2 * j, 28 + 2 * j + 1] (yW Y (S j))) rfl rfl rfl rfl rfl rfl rfl rfl hj
set_option maxRecDepth 20000 in
set_option maxHeartbeats 1000000 in
theorem place_my {X Y Z : DX} {im : Int32} {S : Nat → SX} {g h : Nat → Int32} {P2 : DX} {j : Nat} (hj : j < 8) : place (mW X Y Z im S g h) [9, 10, 11, 12, 13, 14, 15, 16, 28 + 2 * j, 28 + 2 * j + 1] (yW P2 (S j)) = mW X P2 Z im S g h :=
  sh8 (P := fun j => place (mW X Y Z im S g h) [9, 10, 11, 12, 13, 14, 15, 16, 28 + 2 * j, 28 + 2 * j + 1] (yW P2 (S j)) = mW X P2 Z im S g h) rfl rfl rfl rfl rfl rfl rfl rfl hj
theorem nd_my {j : Nat} (hj : j < 8) : va_nd [9, 10, 11, 12, 13, 14, 15, 16, 28 + 2 * j, 28 + 2 * j + 1] = true :=
  sh8 (P := fun j => va_nd [9, 10, 11, 12, 13, 14, 15, 16, 28 + 2 * j, 28 + 2 * j + 1] = true) rfl rfl rfl rfl rfl rfl rfl rfl hj
set_option maxRecDepth 100000 in
set_option maxHeartbeats 800000 in
theorem c_desert_no (b : Int32) (X Y Z : DX) (im : Int32) (S : Nat → SX) (g h : Nat → Int32) (r : Nat → Int32) (hR : Rel b X r) (hI : Iv r) (h4 : r 4 = nI 0) (T : TX) (hS : RS S T) (d : Int32) (hd : ¬ shP d) : Ctr yX4_desert cX4_desert 6 (some .int) 8 0 0 [.ref 0, .int d] (mW X Y Z im S g h) (Stt (.int (A_desert r T d)) (R_desert r T d) Z im S) := by
  refine Ctr.of rfl (Nat.le_of_ble_eq_true rfl) ⟨clS_of rfl, mW_cl _ _ _ _ _ _ _⟩ (fun K F X0 => ?_)
  show Go K 0 0 0 [(0, .ref 0), (1, .int d)] [] (mW X Y Z im S g h)
  refine g_aload_n (pc := 0) F dX4_desert_0 rfl ?_
  refine g_iload_n (pc := 1) F dX4_desert_1 rfl ?_
  refine i_readV (pc := 2) F (c_shelfNone X Y Z im S g h _ hd) mi_X4_shelfOrNull kv_X4_40 rfl rfl dX4_desert_2 (by decide) (by decide) rfl (Nat.le_of_ble_eq_true rfl) (by decide) (by decide) ?_
  refine g_astore_nN (pc := 5) F dX4_desert_5 (by decide) ?_
  refine g_aload_nN (pc := 6) F dX4_desert_6 rfl ?_
  refine g_ifnonnullN (pc := 7) F dX4_desert_7 ?_
  refine g_iconst (pc := 10) F dX4_desert_10 (v := (-1 : Int32)) (by decide) ?_
  exact g_iret (pc := 11) F X0 dX4_desert_11 (Nat.le_of_ble_eq_true rfl) (Nat.le_of_ble_eq_true rfl) rfl ⟨congrArg (fun z => some (Value.int z)) ((desert_n (fun z => absurd ((wrong_no hd).symm.trans z) (by decide))).1.trans (wrong_no hd)).symm, b, X, Y, g, h, rfl, (congrArg (Rel b X) (desert_n (fun z => absurd ((wrong_no hd).symm.trans z) (by decide))).2).mpr hR⟩

set_option maxRecDepth 100000 in
set_option maxHeartbeats 800000 in
theorem c_desert_in (b : Int32) (X Y Z : DX) (im : Int32) (S : Nat → SX) (g h : Nat → Int32) (r : Nat → Int32) (hR : Rel b X r) (hI : Iv r) (h4 : r 4 = nI 0) (T : TX) (hS : RS S T) (d : Int32) (j : Nat) (hd : d = nI j) (hj : j < 8) : Ctr yX4_desert cX4_desert 6 (some .int) 8 0 0 [.ref 0, .int d] (mW X Y Z im S g h) (Stt (.int (A_desert r T d)) (R_desert r T d) Z im S) := by
  subst hd
  refine Ctr.of rfl (Nat.le_of_ble_eq_true rfl) ⟨clS_of rfl, mW_cl _ _ _ _ _ _ _⟩ (fun K F X0 => ?_)
  show Go K 0 0 0 [(0, .ref 0), (1, .int (nI j))] [] (mW X Y Z im S g h)
  refine g_aload_n (pc := 0) F dX4_desert_0 rfl ?_
  refine g_iload_n (pc := 1) F dX4_desert_1 rfl ?_
  refine i_readV (pc := 2) F (c_shelfSome X Y Z im S g h _ j rfl hj) mi_X4_shelfOrNull kv_X4_40 rfl rfl dX4_desert_2 (by decide) (by decide) rfl (Nat.le_of_ble_eq_true rfl) (by decide) (by decide) ?_
  refine g_astore_n (pc := 5) F dX4_desert_5 (by decide) ?_
  refine g_aload_n (pc := 6) F dX4_desert_6 rfl ?_
  refine g_ifnonnull (pc := 7) F dX4_desert_7 (tgt := 12) rfl ?_
  refine g_aload_n (pc := 12) F dX4_desert_12 rfl ?_
  refine g_getf (pc := 13) F fl_X4_44 dX4_desert_13 (mW_sh hj) rfl ?_
  refine g_if_ne (pc := 16) F dX4_desert_16 (tgt := 22) rfl (fun c_16 => ?_) (fun c_16 => ?_)
  · refine g_aload_n (pc := 22) F dX4_desert_22 rfl ?_
    refine g_getf (pc := 23) F fl_X4_44 dX4_desert_23 (mW_sh hj) rfl ?_
    refine g_iconst (pc := 26) F dX4_desert_26 (v := nI 2) rfl ?_
    refine g_ic_ne (pc := 27) F dX4_desert_27 (tgt := 37) rfl (fun c_27 => ?_) (fun c_27 => ?_)
    · refine g_bipush (pc := 37) F dX4_desert_37 (v := (-12 : Int32)) (by decide) ?_
      exact g_iret (pc := 39) F X0 dX4_desert_39 (Nat.le_of_ble_eq_true rfl) (Nat.le_of_ble_eq_true rfl) rfl ⟨congrArg (fun z => some (Value.int z)) ((desert_n (fun z => absurd ((show wrong T (nI j) 0 = (-12) by rw [wrong_b hS hj]; exact (if_neg c_16).trans (if_neg (by first | exact (fun z => c_27 z.1) | exact (fun z => c_34 z.2) | fail))).symm.trans z) (by decide))).1.trans ((show wrong T (nI j) 0 = (-12) by rw [wrong_b hS hj]; exact (if_neg c_16).trans (if_neg (by first | exact (fun z => c_27 z.1) | exact (fun z => c_34 z.2) | fail))))).symm, b, X, Y, g, h, rfl, (congrArg (Rel b X) (desert_n (fun z => absurd ((show wrong T (nI j) 0 = (-12) by rw [wrong_b hS hj]; exact (if_neg c_16).trans (if_neg (by first | exact (fun z => c_27 z.1) | exact (fun z => c_34 z.2) | fail))).symm.trans z) (by decide))).2).mpr hR⟩
    · refine g_aload_n (pc := 30) F dX4_desert_30 rfl ?_
      refine g_getf (pc := 31) F fl_X4_48 dX4_desert_31 (mW_sh hj) rfl ?_
      refine g_if_eq (pc := 34) F dX4_desert_34 (tgt := 40) rfl (fun c_34 => ?_) (fun c_34 => ?_)
      · have hw0 : wrong T (nI j) 0 = 0 := by
          rw [wrong_b hS hj, if_neg c_16, if_pos ⟨c_27, c_34⟩]
          rfl
        have hU := hS j hj
        obtain ⟨n9, hn9, en1, em1⟩ := hU.2.2.2.1
        obtain ⟨B, hB⟩ : ∃ B, B = byU (S j) n9 := ⟨_, rfl⟩
        have hBT : B = byT T j n9 := hB.trans (byU_T hU hn9)
        have hdy := desert_y (r := r) hw0 hj hn9 en1 hBT
        have hBn : ∀ i, ¬ B i = (-1) → i < n9 := fun i h => byB_lt hB h
        obtain ⟨hf1, hf2⟩ := frm_end B n9 (n9 + 1) 0 (by decide) hn9
        refine g_aload_n (pc := 40) F dX4_desert_40 rfl ?_
        refine h_readS (pc := 41) F (c_form (S j) n9 em1 hn9 B hB) mi_X3_placeOfBadForm ks_X4_51 dX4_desert_41 [28 + 2 * j, 28 + 2 * j + 1] (mW_sub hj) (by decide) (by decide) (mW_nd hj) rfl (Nat.le_of_ble_eq_true rfl) trivial (by decide) (by decide) ?_
        refine g_istore_n (pc := 44) F dX4_desert_44 (by decide) ?_
        refine g_iload_n (pc := 45) F dX4_desert_45 rfl ?_
        refine g_if_lt (pc := 46) F dX4_desert_46 (tgt := 55) rfl (fun c_46 => ?_) (fun c_46 => ?_)
        · refine g_aload_n (pc := 55) F dX4_desert_55 rfl ?_
          refine g_getf (pc := 56) F fl_X4_16 dX4_desert_56 rfl rfl ?_
          refine g_aload_n (pc := 59) F dX4_desert_59 rfl ?_
          refine g_getf (pc := 60) F fl_X4_12 dX4_desert_60 rfl rfl ?_
          refine h_callV (pc := 63) F (c_becomes b Y X r hR hI h4) mi_X0_becomes kv_X4_57 rfl rfl dX4_desert_63 [9, 10, 11, 12, 13, 14, 15, 16, 1, 2, 3, 4, 5, 6, 7, 8] sub_mn (by decide) (by decide) rfl rfl (Nat.le_of_ble_eq_true rfl) (by decide) (by decide) ?_
          rintro _ _ ⟨rfl, Y2, rfl, hY2⟩ -
          rw [place_mn]
          refine g_iconst (pc := 66) F dX4_desert_66 (v := nI 0) rfl ?_
          refine g_istore (pc := 67) F dX4_desert_67 (by decide) ?_
          refine g_iconst (pc := 69) F dX4_desert_69 (v := nI 0) rfl ?_
          refine g_istore (pc := 70) F dX4_desert_70 (by decide) ?_
          have hA1 := hf1 c_46
          obtain ⟨A1, hAe⟩ : ∃ A1, frm B n9 (n9 + 1) 0 = A1 := ⟨_, rfl⟩
          have hfo0 : FO B n9 0 := fun _ => ⟨n9 + 1, by omega, hA1⟩
          obtain ⟨C, hC0⟩ : ∃ C, cnS B n9 (n9 + 1) 0 = C := ⟨_, rfl⟩
          obtain ⟨A2, hA20⟩ : ∃ A2, rnA B n9 (n9 + 1) 0 r = A2 := ⟨_, rfl⟩
          obtain ⟨R2, hR20⟩ : ∃ R2, rnR B n9 (n9 + 1) 0 r = R2 := ⟨_, rfl⟩
          have hdA : A_desert r T (nI j) = if A2 < 0 then nI C else (-2000) - A2 := by
            rw [hdy.1]
            unfold dsA
            rw [if_pos c_46, hA20, hC0]
          have hdR : R_desert r T (nI j) = if A2 < 0 then R2 else r := by
            rw [hdy.2]
            unfold dsR
            rw [if_pos c_46, hA20, hR20]
          have hdA1 : A2 = (-1) → A_desert r T (nI j) = nI C := fun z => hdA.trans (if_pos (by rw [z]; decide))
          have hdR1 : A2 = (-1) → R_desert r T (nI j) = R2 := fun z => hdR.trans (if_pos (by rw [z]; decide))
          have hdA2 : ∀ {v : Int32}, ¬ A2 < 0 → A2 = v → A_desert r T (nI j) = (-2000) - v := fun z e => by rw [hdA, if_neg z, e]
          have hdR2 : ¬ A2 < 0 → R_desert r T (nI j) = r := fun z => hdR.trans (if_neg z)
          have hln : ∀ p, p < 900 → letP (B p) → RCtr yX3_lengthOfStatement cX3_lengthOfStatement 2 (some .int) 3 [.ref 0, .int (nI p)] (sW 0 (S j)) (.int (nI (lenS B p))) := fun p hp hl => by
            rw [hB]
            rw [hB] at hl
            exact c_lenS (S j) n9 p em1 hn9 hp _ rfl hl
          rw [hAe]
          obtain ⟨bb, hbb⟩ : ∃ bb, bb = nI 0 - r 3 := ⟨_, rfl⟩
          rw [← hbb] at hY2
          have L : ∀ f, ∀ p k q Ya, p ≤ n9 → n9 < p + f → FO B n9 p → Rel bb Ya q → Iv q → q 4 = nI 0 → k + cnS B n9 f p = C → rnA B n9 f p q = A2 → rnR B n9 f p q = R2 → Go K 0 0 72 [(0, .ref 0), (1, .int (nI j)), (2, .ref (28 + 2 * j)), (3, .int A1), (4, .int (nI k)), (5, .int (nI p))] [] (mW X Ya Z im S g h) := by
            intro f
            induction f with
            | zero =>
              intro p k q Ya hp hf hfo hYa hIq h4q hC hA2 hR2
              exact absurd hf (by omega)
            | succ f ih =>
              intro p k q Ya hp hf hfo hYa hIq h4q hC hA2 hR2
              refine g_iload (pc := 72) F dX4_desert_72 rfl ?_
              refine g_aload_n (pc := 74) F dX4_desert_74 rfl ?_
              refine g_getf (pc := 75) F fl_X4_61 dX4_desert_75 (mW_sh hj) rfl ?_
              refine g_icN_ge (pc := 78) F dX4_desert_78 (tgt := 122) rfl rfl em1 (by omega) (by omega) (fun c_78 => ?_) (fun c_78 => ?_)
              · have hpe : ¬ p < n9 := by omega
                have hk0 : k = C := by rw [cnS_e hpe] at hC; omega
                have hA9 : A2 = (-1) := by rw [← hA2, rnA_e hpe]
                have hR9 : q = R2 := by rw [← hR2, rnR_e hpe]
                refine g_aload_n (pc := 122) F dX4_desert_122 rfl ?_
                refine g_getf (pc := 123) F fl_X4_12 dX4_desert_123 rfl rfl ?_
                refine g_aload_n (pc := 126) F dX4_desert_126 rfl ?_
                refine g_getf (pc := 127) F fl_X4_16 dX4_desert_127 rfl rfl ?_
                refine h_callV (pc := 130) F (c_becomes bb X Ya q hYa hIq h4q) mi_X0_becomes kv_X4_57 rfl rfl dX4_desert_130 [1, 2, 3, 4, 5, 6, 7, 8, 9, 10, 11, 12, 13, 14, 15, 16] sub_nm (by decide) (by decide) rfl rfl (Nat.le_of_ble_eq_true rfl) (by decide) (by decide) ?_
                rintro _ _ ⟨rfl, P2, rfl, hP2⟩ -
                rw [place_nm]
                refine g_iload (pc := 133) F dX4_desert_133 rfl ?_
                exact g_iret (pc := 135) F X0 dX4_desert_135 (Nat.le_of_ble_eq_true rfl) (Nat.le_of_ble_eq_true rfl) rfl ⟨congrArg (fun z => some (Value.int z)) ((hdA1 hA9).trans (congrArg nI hk0.symm)).symm, _, P2, Ya, g, h, rfl, by rw [hdR1 hA9, ← hR9]; exact hP2⟩
              · obtain ⟨hok, hfo2⟩ := FO_s hfo c_78 (by omega)
                have hlk := kL_le (B p)
                refine g_aload_n (pc := 81) F dX4_desert_81 rfl ?_
                refine g_getf (pc := 82) F fl_X4_16 dX4_desert_82 rfl rfl ?_
                refine g_aload_n (pc := 85) F dX4_desert_85 rfl ?_
                refine g_iload (pc := 86) F dX4_desert_86 rfl ?_
                refine h_callS (pc := 88) F (c_doneOn bb Ya q hYa hIq h4q (S j) n9 p em1 hn9 B hB (by omega) hok.1) mi_X3_isDoneOn ks_X4_64 dX4_desert_88 [9, 10, 11, 12, 13, 14, 15, 16, 28 + 2 * j, 28 + 2 * j + 1] (sub_my hj) (by decide) (by decide) (nd_my hj) rfl (Nat.le_of_ble_eq_true rfl) (by decide) (by decide) ?_
                rintro _ _ ⟨rfl, Y3, rfl, hY3⟩ -
                rw [place_my hj]
                refine g_ifne_d (pc := 91) F dX4_desert_91 (tgt := 101) rfl (fun c_91 => ?_) (fun c_91 => ?_)
                · refine g_iincN (pc := 101) F dX4_desert_101 rfl (by decide) ?_
                  refine g_iload (pc := 104) F dX4_desert_104 rfl ?_
                  refine g_iconst (pc := 106) F dX4_desert_106 (v := nI 2) rfl ?_
                  refine g_aload_n (pc := 107) F dX4_desert_107 rfl ?_
                  refine g_iload (pc := 108) F dX4_desert_108 rfl ?_
                  refine h_readS (pc := 110) F (hln p (by omega) hok.1) mi_X3_lengthOfStatement ks_X4_68 dX4_desert_110 [28 + 2 * j, 28 + 2 * j + 1] (mW_sub hj) (by decide) (by decide) (mW_nd hj) rfl (Nat.le_of_ble_eq_true rfl) trivial (by decide) (by decide) ?_
                  refine g_mmaxM (pc := 113) F dX4_desert_113 km_X4_72 (by decide) (Nat.le_of_ble_eq_true rfl) (by decide) (by decide) ?_
                  rw [mx_len B p]
                  refine g_iaddN (pc := 116) F dX4_desert_116 ?_
                  refine g_istore (pc := 117) F dX4_desert_117 (by decide) ?_
                  refine g_goto (pc := 119) F dX4_desert_119 (tgt := 72) rfl ?_
                  exact ih (p + lenS B p) (k + 1) (efR B p q) Y3 (len_in hok hBn) (by show n9 < p + (kL (B p) + 2) + f; omega) hfo2 (hY3 c_91) (ef_ok hok.1 hIq h4q c_91).1 (ef_ok hok.1 hIq h4q c_91).2 (by rw [cnS_y c_78] at hC; omega) (by rw [← hA2, rnA_y c_78 c_91]) (by rw [← hR2, rnR_y c_78])
                · refine g_sipush (pc := 94) F dX4_desert_94 (v := (-2000 : Int32)) (by decide) ?_
                  refine g_iload (pc := 97) F dX4_desert_97 rfl ?_
                  refine g_isub (pc := 99) F dX4_desert_99 ?_
                  exact g_iret (pc := 100) F X0 dX4_desert_100 (Nat.le_of_ble_eq_true rfl) (Nat.le_of_ble_eq_true rfl) rfl ⟨congrArg (fun z => some (Value.int z)) (hdA2 (by rw [← hA2, rnA_n c_78 c_91]; exact nI_nneg (by omega)) (by rw [← hA2, rnA_n c_78 c_91])).symm, b, X, Y3, g, h, rfl, (congrArg (Rel b X) (hdR2 (by rw [← hA2, rnA_n c_78 c_91]; exact nI_nneg (by omega)))).mpr hR⟩
          exact L (n9 + 1) 0 0 r Y2 (Nat.zero_le _) (by omega) hfo0 hY2 hI h4 (by rw [Nat.zero_add]; exact hC0) hA20 hR20
        · refine g_sipush (pc := 49) F dX4_desert_49 (v := (-1000 : Int32)) (by decide) ?_
          refine g_iload_n (pc := 52) F dX4_desert_52 rfl ?_
          refine g_isub (pc := 53) F dX4_desert_53 ?_
          exact g_iret (pc := 54) F X0 dX4_desert_54 (Nat.le_of_ble_eq_true rfl) (Nat.le_of_ble_eq_true rfl) rfl ⟨congrArg (fun z => some (Value.int z)) (hdy.1.trans (if_neg c_46)).symm, b, X, Y, g, h, rfl, (congrArg (Rel b X) (hdy.2.trans (if_neg c_46))).mpr hR⟩
      · refine g_bipush (pc := 37) F dX4_desert_37 (v := (-12 : Int32)) (by decide) ?_
        exact g_iret (pc := 39) F X0 dX4_desert_39 (Nat.le_of_ble_eq_true rfl) (Nat.le_of_ble_eq_true rfl) rfl ⟨congrArg (fun z => some (Value.int z)) ((desert_n (fun z => absurd ((show wrong T (nI j) 0 = (-12) by rw [wrong_b hS hj]; exact (if_neg c_16).trans (if_neg (by first | exact (fun z => c_27 z.1) | exact (fun z => c_34 z.2) | fail))).symm.trans z) (by decide))).1.trans ((show wrong T (nI j) 0 = (-12) by rw [wrong_b hS hj]; exact (if_neg c_16).trans (if_neg (by first | exact (fun z => c_27 z.1) | exact (fun z => c_34 z.2) | fail))))).symm, b, X, Y, g, h, rfl, (congrArg (Rel b X) (desert_n (fun z => absurd ((show wrong T (nI j) 0 = (-12) by rw [wrong_b hS hj]; exact (if_neg c_16).trans (if_neg (by first | exact (fun z => c_27 z.1) | exact (fun z => c_34 z.2) | fail))).symm.trans z) (by decide))).2).mpr hR⟩
  · refine g_bipush (pc := 19) F dX4_desert_19 (v := (-11 : Int32)) (by decide) ?_
    exact g_iret (pc := 21) F X0 dX4_desert_21 (Nat.le_of_ble_eq_true rfl) (Nat.le_of_ble_eq_true rfl) rfl ⟨congrArg (fun z => some (Value.int z)) ((desert_n (fun z => absurd ((show wrong T (nI j) 0 = (-11) by rw [wrong_b hS hj]; exact if_pos c_16).symm.trans z) (by decide))).1.trans ((show wrong T (nI j) 0 = (-11) by rw [wrong_b hS hj]; exact if_pos c_16))).symm, b, X, Y, g, h, rfl, (congrArg (Rel b X) (desert_n (fun z => absurd ((show wrong T (nI j) 0 = (-11) by rw [wrong_b hS hj]; exact if_pos c_16).symm.trans z) (by decide))).2).mpr hR⟩

theorem c_desert (b : Int32) (X Y Z : DX) (im : Int32) (S : Nat → SX) (g h : Nat → Int32) (r : Nat → Int32) (hR : Rel b X r) (hI : Iv r) (h4 : r 4 = nI 0) (T : TX) (hS : RS S T) (d : Int32) : Ctr yX4_desert cX4_desert 6 (some .int) 8 0 0 [.ref 0, .int d] (mW X Y Z im S g h) (Stt (.int (A_desert r T d)) (R_desert r T d) Z im S) := by
  by_cases hd : shP d
  · obtain ⟨j, hj, e⟩ := sh_ex hd
    exact c_desert_in b X Y Z im S g h r hR hI h4 T hS d j e hj
  · exact c_desert_no b X Y Z im S g h r hR hI h4 T hS d hd

