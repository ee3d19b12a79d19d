/-! fractions in least terms, mean -/
theorem lT {m : Nat} (h : m < 2 ^ 63) : (lN m).toInt = (m : Int) := Int64.toInt_ofNat_of_lt h
theorem lN_ij {a b : Nat} (ha : a < 2 ^ 63) (hb : b < 2 ^ 63) : lN a = lN b ↔ a = b := by
  rw [← Int64.toInt_inj, lT ha, lT hb]
  omega
theorem lN_ne1 {b : Nat} (h : b < 2 ^ 63) : lN b ≠ -1 := by
  intro z
  have h2 := lT h
  rw [z] at h2
  have h3 : (-1 : Int64).toInt = -1 := by decide
  omega
theorem lN_ne0 {b : Nat} (h : b < 2 ^ 63) (h0 : 0 < b) : ¬ lN b = 0 := by
  intro z
  have := (lN_ij (b := 0) h (by decide)).mp z
  omega
theorem lN_dv {a b : Nat} (ha : a < 2 ^ 63) (hb : b < 2 ^ 63) : lN a / lN b = lN (a / b) := by
  have h := Nat.div_le_self a b
  rw [← Int64.toInt_inj, Int64.toInt_div_of_ne_right _ _ (lN_ne1 hb), lT ha, lT hb, lT (by omega), Int.ofNat_tdiv]
theorem lN_rm {a b : Nat} (ha : a < 2 ^ 63) (hb : b < 2 ^ 63) : lN a - lN a / lN b * lN b = lN (a % b) := by
  rw [lN_dv ha hb, lN_mul, lN_sub (Nat.div_mul_le_self a b), Nat.mod_def, Nat.mul_comm]
theorem i2l_nI {n : Nat} (h : n < 2 ^ 31) : (nI n).toInt64 = lN n := by
  rw [← Int64.toInt_inj, Int32.toInt_toInt64, lT (by omega), ti_n n (by omega)]
theorem lc_0 {b : Nat} (h : b < 2 ^ 63) : lg_cmp (lN b) (lN 0) = 0 ↔ b = 0 := (lg_cmp_eq _ _).trans (lN_ij h (by decide))
/-- in at most f steps the second of the two is 0 -/
def eT : Nat → Nat → Nat → Prop
  | 0, _, b => b = 0
  | f + 1, a, b => b = 0 ∨ eT f b (a % b)
theorem eT_of : ∀ k a b, b < 2 ^ k → eT (2 * k) a b
  | 0, a, b, h => by
    show b = 0
    have : 2 ^ 0 = 1 := rfl
    omega
  | k + 1, a, b, h => by
    show b = 0 ∨ (a % b = 0 ∨ eT (2 * k) (a % b) (b % (a % b)))
    by_cases q : b = 0
    · exact Or.inl q
    · refine Or.inr ?_
      by_cases q2 : a % b = 0
      · exact Or.inl q2
      · refine Or.inr (eT_of k _ _ ?_)
        have h1 : a % b < b := Nat.mod_lt _ (by omega)
        have h2 : b % (a % b) < a % b := Nat.mod_lt _ (by omega)
        have h3 : b % (a % b) ≤ b - a % b := by
          rw [Nat.mod_eq_sub_mod (by omega)]
          exact Nat.mod_le _ _
        have h4 : 2 ^ (k + 1) = 2 ^ k * 2 := rfl
        omega
theorem eT_up : ∀ f a b, eT f a b → eT (f + 1) a b
  | 0, a, b, h => Or.inl h
  | f + 1, a, b, h => h.elim Or.inl (fun q => Or.inr (eT_up f _ _ q))
theorem eT_le {f g a b : Nat} (h : eT f a b) (hg : f ≤ g) : eT g a b := by
  obtain ⟨d, rfl⟩ : ∃ d, g = f + d := ⟨g - f, by omega⟩
  clear hg
  induction d with
  | zero => exact h
  | succ d ih => exact eT_up _ _ _ ih
theorem gcd_st {a b : Nat} : Nat.gcd b (a % b) = Nat.gcd a b := by rw [Nat.gcd_comm b, ← Nat.gcd_rec, Nat.gcd_comm]
def partV (A B : Nat) (p : Int32) : Int64 := if p = 0 then lN (A / Nat.gcd A B) else lN (B / Nat.gcd A B)
theorem g_ldivN {K : Cx} {own : String} {cc : ByteArray} {nL fr mc ms k n pc : Nat} {ls : List (Nat × Value)} {st : List Value} {hp : Hp} (F : Fx K own cc nL fr mc ms) {a b : Nat} (d : decode cc pc = .ok (.ldiv, 1)) (ha : a < 2 ^ 63) (hb : b < 2 ^ 63) (h0 : 0 < b) (kk : Go K k n (pc + 1) ls (.long (lN (a / b)) :: st) hp) : Go K k n pc ls (.long (lN b) :: .long (lN a) :: st) hp := by
  refine g_ldiv F d (lN_ne0 hb h0) ?_
  rw [lN_dv ha hb]
  exact kk
theorem g_lremN {K : Cx} {own : String} {cc : ByteArray} {nL fr mc ms k n pc : Nat} {ls : List (Nat × Value)} {st : List Value} {hp : Hp} (F : Fx K own cc nL fr mc ms) {a b : Nat} (d : decode cc pc = .ok (.lrem, 1)) (ha : a < 2 ^ 63) (hb : b < 2 ^ 63) (h0 : 0 < b) (kk : Go K k n (pc + 1) ls (.long (lN (a % b)) :: st) hp) : Go K k n pc ls (.long (lN b) :: .long (lN a) :: st) hp := by
  refine g_lrem F d (lN_ne0 hb h0) ?_
  rw [lN_rm ha hb]
  exact kk
set_option maxRecDepth 100000 in
set_option maxHeartbeats 800000 in
theorem m_gcd (x y : Nat) (hx : x < 2 ^ 63) (hy : y < 2 ^ 40) : RCtr yX5_gcd cX5_gcd 10 (some .long) 0 [.long (lN x), .long (lN y)] ([]) (.long (lN (Nat.gcd x y))) := by
  refine Ctr.of rfl (Nat.le_of_ble_eq_true rfl) ⟨clS_of rfl, clH_of rfl⟩ (fun K F X0 => ?_)
  have L : ∀ f a b, eT f a b → a < 2 ^ 63 → b < 2 ^ 63 → Nat.gcd a b = Nat.gcd x y → Go K 0 0 6 [(0, .long (lN x)), (2, .long (lN y)), (4, .long (lN a)), (6, .long (lN b))] [] [] := by
    intro f
    induction f with
    | zero =>
      intro a b he ha hb hg
      refine g_lload (pc := 6) F dX5_gcd_6 rfl ?_
      refine g_lconst (pc := 8) F dX5_gcd_8 (v := lN 0) rfl ?_
      refine g_lcmp (pc := 9) F dX5_gcd_9 ?_
      refine g_if_eq (pc := 10) F dX5_gcd_10 (tgt := 31) rfl (fun c_10 => ?_) (fun c_10 => ?_)
      · have hb0 := (lc_0 hb).mp c_10
        refine g_lload (pc := 31) F dX5_gcd_31 rfl ?_
        exact g_lret (pc := 33) F X0 dX5_gcd_33 (Nat.le_of_ble_eq_true rfl) (Nat.le_of_ble_eq_true rfl) rfl ⟨congrArg (fun z => some (Value.long (lN z))) (by rw [← hg, hb0, Nat.gcd_zero_right]), rfl⟩
      · have hb0 : ¬ b = 0 := fun z => c_10 ((lc_0 hb).mpr z)
        have hml := Nat.mod_lt a (show 0 < b by omega)
        refine g_lload (pc := 13) F dX5_gcd_13 rfl ?_
        refine g_lload (pc := 15) F dX5_gcd_15 rfl ?_
        refine g_lremN (pc := 17) F dX5_gcd_17 ha hb (by omega) ?_
        refine g_lstore (pc := 18) F dX5_gcd_18 (by decide) ?_
        refine g_lload (pc := 20) F dX5_gcd_20 rfl ?_
        refine g_lstore (pc := 22) F dX5_gcd_22 (by decide) ?_
        refine g_lload (pc := 24) F dX5_gcd_24 rfl ?_
        refine g_lstore (pc := 26) F dX5_gcd_26 (by decide) ?_
        refine g_goto (pc := 28) F dX5_gcd_28 (tgt := 6) rfl ?_
        refine g_less [0, 1, 2, 3] rfl ?_
        exact absurd (show b = 0 from he) hb0
    | succ f ih =>
      intro a b he ha hb hg
      refine g_lload (pc := 6) F dX5_gcd_6 rfl ?_
      refine g_lconst (pc := 8) F dX5_gcd_8 (v := lN 0) rfl ?_
      refine g_lcmp (pc := 9) F dX5_gcd_9 ?_
      refine g_if_eq (pc := 10) F dX5_gcd_10 (tgt := 31) rfl (fun c_10 => ?_) (fun c_10 => ?_)
      · have hb0 := (lc_0 hb).mp c_10
        refine g_lload (pc := 31) F dX5_gcd_31 rfl ?_
        exact g_lret (pc := 33) F X0 dX5_gcd_33 (Nat.le_of_ble_eq_true rfl) (Nat.le_of_ble_eq_true rfl) rfl ⟨congrArg (fun z => some (Value.long (lN z))) (by rw [← hg, hb0, Nat.gcd_zero_right]), rfl⟩
      · have hb0 : ¬ b = 0 := fun z => c_10 ((lc_0 hb).mpr z)
        have hml := Nat.mod_lt a (show 0 < b by omega)
        refine g_lload (pc := 13) F dX5_gcd_13 rfl ?_
        refine g_lload (pc := 15) F dX5_gcd_15 rfl ?_
        refine g_lremN (pc := 17) F dX5_gcd_17 ha hb (by omega) ?_
        refine g_lstore (pc := 18) F dX5_gcd_18 (by decide) ?_
        refine g_lload (pc := 20) F dX5_gcd_20 rfl ?_
        refine g_lstore (pc := 22) F dX5_gcd_22 (by decide) ?_
        refine g_lload (pc := 24) F dX5_gcd_24 rfl ?_
        refine g_lstore (pc := 26) F dX5_gcd_26 (by decide) ?_
        refine g_goto (pc := 28) F dX5_gcd_28 (tgt := 6) rfl ?_
        refine g_less [0, 1, 2, 3] rfl ?_
        exact ih b (a % b) (he.resolve_left hb0) hb (by omega) (gcd_st.trans hg)
  show Go K 0 0 0 [(0, .long (lN x)), (2, .long (lN y))] [] ([])
  refine g_lload_n (pc := 0) F dX5_gcd_0 rfl ?_
  refine g_lstore (pc := 1) F dX5_gcd_1 (by decide) ?_
  refine g_lload_n (pc := 3) F dX5_gcd_3 rfl ?_
  refine g_lstore (pc := 4) F dX5_gcd_4 (by decide) ?_
  exact L (2 * 40) x y (eT_of 40 x y hy) hx (by omega) rfl

theorem part_0 {B : Nat} {p : Int32} (hB : 0 < B) (hp : b01 p) : p.toInt64 = partV 0 B p := by
  unfold partV
  rw [Nat.gcd_zero_left]
  rcases b01_ex hp with rfl | rfl
  · rw [if_pos (show nI 0 = 0 from rfl), Nat.zero_div]; exact i2l_nI (by decide)
  · rw [if_neg (by decide), Nat.div_self hB]; exact i2l_nI (by decide)
theorem gcd_bd {A B : Nat} (hA : A < 2 ^ 63) (hB : 0 < B) (hB2 : B < 2 ^ 40) : 0 < Nat.gcd A B ∧ Nat.gcd A B < 2 ^ 63 := by
  have h1 := Nat.gcd_pos_of_pos_right A hB
  have h2 := Nat.gcd_le_right A hB
  omega
set_option maxRecDepth 100000 in
set_option maxHeartbeats 800000 in
theorem m_partOf (A B : Nat) (p : Int32) (hA : A < 2 ^ 63) (hB : 0 < B) (hB2 : B < 2 ^ 40) (hp : b01 p) : RCtr yX5_partOf cX5_partOf 5 (some .long) 1 [.long (lN A), .long (lN B), .int p] ([]) (.long (partV A B p)) := by
  refine Ctr.of rfl (Nat.le_of_ble_eq_true rfl) ⟨clS_of rfl, clH_of rfl⟩ (fun K F X0 => ?_)
  show Go K 0 0 0 [(0, .long (lN A)), (2, .long (lN B)), (4, .int p)] [] ([])
  refine g_lload_n (pc := 0) F dX5_partOf_0 rfl ?_
  refine g_lconst (pc := 1) F dX5_partOf_1 (v := lN 0) rfl ?_
  refine g_lcmp (pc := 2) F dX5_partOf_2 ?_
  refine g_if_ne (pc := 3) F dX5_partOf_3 (tgt := 10) rfl (fun c_3 => ?_) (fun c_3 => ?_)
  · have hA0 : ¬ A = 0 := fun z => c_3 ((lc_0 hA).mpr z)
    obtain ⟨g1, g2⟩ := gcd_bd hA hB hB2
    refine g_iload (pc := 10) F dX5_partOf_10 rfl ?_
    refine g_if_ne (pc := 12) F dX5_partOf_12 (tgt := 19) rfl (fun c_12 => ?_) (fun c_12 => ?_)
    · refine g_lload_n (pc := 19) F dX5_partOf_19 rfl ?_
      refine g_lload_n (pc := 20) F dX5_partOf_20 rfl ?_
      refine g_lload_n (pc := 21) F dX5_partOf_21 rfl ?_
      refine h_readS (pc := 22) F (m_gcd A B hA hB2) mi_X5_gcd ks_X5_187 dX5_partOf_22 [] rfl (by decide) (by decide) rfl rfl (Nat.le_of_ble_eq_true rfl) trivial (by decide) (by decide) ?_
      first
        | refine g_ldivN (pc := 25) F dX5_partOf_25 hA g2 g1 ?_
        | refine g_ldivN (pc := 25) F dX5_partOf_25 (show B < 2 ^ 63 by omega) g2 g1 ?_
      exact g_lret (pc := 26) F X0 dX5_partOf_26 (Nat.le_of_ble_eq_true rfl) (Nat.le_of_ble_eq_true rfl) rfl ⟨congrArg (fun z => some (Value.long z)) (by first | exact (if_pos c_12).symm | exact (if_neg c_12).symm | fail), rfl⟩
    · refine g_lload_n (pc := 15) F dX5_partOf_15 rfl ?_
      refine g_goto (pc := 16) F dX5_partOf_16 (tgt := 20) rfl ?_
      refine g_lload_n (pc := 20) F dX5_partOf_20 rfl ?_
      refine g_lload_n (pc := 21) F dX5_partOf_21 rfl ?_
      refine h_readS (pc := 22) F (m_gcd A B hA hB2) mi_X5_gcd ks_X5_187 dX5_partOf_22 [] rfl (by decide) (by decide) rfl rfl (Nat.le_of_ble_eq_true rfl) trivial (by decide) (by decide) ?_
      first
        | refine g_ldivN (pc := 25) F dX5_partOf_25 hA g2 g1 ?_
        | refine g_ldivN (pc := 25) F dX5_partOf_25 (show B < 2 ^ 63 by omega) g2 g1 ?_
      exact g_lret (pc := 26) F X0 dX5_partOf_26 (Nat.le_of_ble_eq_true rfl) (Nat.le_of_ble_eq_true rfl) rfl ⟨congrArg (fun z => some (Value.long z)) (by first | exact (if_pos c_12).symm | exact (if_neg c_12).symm | fail), rfl⟩
  · have hA0 := (lc_0 hA).mp c_3
    obtain ⟨g1, g2⟩ := gcd_bd hA hB hB2
    refine g_iload (pc := 6) F dX5_partOf_6 rfl ?_
    refine g_i2l (pc := 8) F dX5_partOf_8 ?_
    exact g_lret (pc := 9) F X0 dX5_partOf_9 (Nat.le_of_ble_eq_true rfl) (Nat.le_of_ble_eq_true rfl) rfl ⟨congrArg (fun z => some (Value.long z)) (by rw [hA0]; exact part_0 hB hp), rfl⟩

set_option maxRecDepth 100000 in
set_option maxHeartbeats 800000 in
theorem c_parts (A B : Nat) (p : Int32) (hA : A < 2 ^ 40) (hB : 0 < B) (hB2 : B < 2 ^ 40) : RCtr yX4_partInLeastTerms cX4_partInLeastTerms 12 (some .long) 0 [.long (lN A), .long (lN B), .int p] ([]) (.long (partV A B p)) := by
  obtain ⟨g1, g2⟩ := gcd_bd (A := A) (by omega) hB hB2
  have hA3 : A < 2 ^ 63 := by omega
  refine Ctr.of rfl (Nat.le_of_ble_eq_true rfl) ⟨clS_of rfl, clH_of rfl⟩ (fun K F X0 => ?_)
  have L : ∀ i, i ≤ 100 → ∀ a b, eT (100 - i) a b → a < 2 ^ 63 → b < 2 ^ 63 → Nat.gcd a b = Nat.gcd A B → Go K 0 0 9 [(0, .long (lN A)), (2, .long (lN B)), (4, .int p), (5, .long (lN a)), (7, .long (lN b)), (9, .int (nI (i)))] [] [] := loop_up (P := fun i => ∀ a b, eT (100 - i) a b → a < 2 ^ 63 → b < 2 ^ 63 → Nat.gcd a b = Nat.gcd A B → Go K 0 0 9 [(0, .long (lN A)), (2, .long (lN B)), (4, .int p), (5, .long (lN a)), (7, .long (lN b)), (9, .int (nI (i)))] [] []) (fun i hi ih => by
    intro a b he ha hb hg
    refine g_iload (pc := 9) F dX4_partInLeastTerms_9 rfl ?_
    refine g_bipush (pc := 11) F dX4_partInLeastTerms_11 (v := nI 100) rfl ?_
    refine g_icN_ge (pc := 13) F dX4_partInLeastTerms_13 (tgt := 44) rfl rfl rfl (by omega) (by omega) (fun c_13 => ?_) (fun c_13 => ?_)
    · have hb0 : b = 0 := by
        first
          | exact (lc_0 hb).mp c_20
          | (have e : 100 - i = 0 := by omega
             rw [e] at he
             exact he)
      have hga : a = Nat.gcd A B := by rw [← hg, hb0, Nat.gcd_zero_right]
      refine g_lload (pc := 44) F dX4_partInLeastTerms_44 rfl ?_
      refine g_lconst (pc := 46) F dX4_partInLeastTerms_46 (v := lN 0) rfl ?_
      refine g_lcmp (pc := 47) F dX4_partInLeastTerms_47 ?_
      refine g_if_ne (pc := 48) F dX4_partInLeastTerms_48 (tgt := 53) rfl (fun c_48 => ?_) (fun c_48 => absurd ((lc_0 ha).mp c_48) (by omega))
      refine g_iload (pc := 53) F dX4_partInLeastTerms_53 rfl ?_
      refine g_if_ne (pc := 55) F dX4_partInLeastTerms_55 (tgt := 62) rfl (fun c_55 => ?_) (fun c_55 => ?_)
      · refine g_lload_n (pc := 62) F dX4_partInLeastTerms_62 rfl ?_
        refine g_lload (pc := 63) F dX4_partInLeastTerms_63 rfl ?_
        first
          | refine g_ldivN (pc := 65) F dX4_partInLeastTerms_65 hA3 ha (by omega) ?_
          | refine g_ldivN (pc := 65) F dX4_partInLeastTerms_65 (show B < 2 ^ 63 by omega) ha (by omega) ?_
        exact g_lret (pc := 66) F X0 dX4_partInLeastTerms_66 (Nat.le_of_ble_eq_true rfl) (Nat.le_of_ble_eq_true rfl) rfl ⟨congrArg (fun z => some (Value.long z)) (by rw [hga]; first | exact (if_pos c_55).symm | exact (if_neg c_55).symm | fail), rfl⟩
      · refine g_lload_n (pc := 58) F dX4_partInLeastTerms_58 rfl ?_
        refine g_goto (pc := 59) F dX4_partInLeastTerms_59 (tgt := 63) rfl ?_
        refine g_lload (pc := 63) F dX4_partInLeastTerms_63 rfl ?_
        first
          | refine g_ldivN (pc := 65) F dX4_partInLeastTerms_65 hA3 ha (by omega) ?_
          | refine g_ldivN (pc := 65) F dX4_partInLeastTerms_65 (show B < 2 ^ 63 by omega) ha (by omega) ?_
        exact g_lret (pc := 66) F X0 dX4_partInLeastTerms_66 (Nat.le_of_ble_eq_true rfl) (Nat.le_of_ble_eq_true rfl) rfl ⟨congrArg (fun z => some (Value.long z)) (by rw [hga]; first | exact (if_pos c_55).symm | exact (if_neg c_55).symm | fail), rfl⟩
    · refine g_lload (pc := 16) F dX4_partInLeastTerms_16 rfl ?_
      refine g_lconst (pc := 18) F dX4_partInLeastTerms_18 (v := lN 0) rfl ?_
      refine g_lcmp (pc := 19) F dX4_partInLeastTerms_19 ?_
      refine g_if_eq (pc := 20) F dX4_partInLeastTerms_20 (tgt := 44) rfl (fun c_20 => ?_) (fun c_20 => ?_)
      · have hb0 : b = 0 := by
          first
            | exact (lc_0 hb).mp c_20
            | (have e : 100 - i = 0 := by omega
               rw [e] at he
               exact he)
        have hga : a = Nat.gcd A B := by rw [← hg, hb0, Nat.gcd_zero_right]
        refine g_lload (pc := 44) F dX4_partInLeastTerms_44 rfl ?_
        refine g_lconst (pc := 46) F dX4_partInLeastTerms_46 (v := lN 0) rfl ?_
        refine g_lcmp (pc := 47) F dX4_partInLeastTerms_47 ?_
        refine g_if_ne (pc := 48) F dX4_partInLeastTerms_48 (tgt := 53) rfl (fun c_48 => ?_) (fun c_48 => absurd ((lc_0 ha).mp c_48) (by omega))
        refine g_iload (pc := 53) F dX4_partInLeastTerms_53 rfl ?_
        refine g_if_ne (pc := 55) F dX4_partInLeastTerms_55 (tgt := 62) rfl (fun c_55 => ?_) (fun c_55 => ?_)
        · refine g_lload_n (pc := 62) F dX4_partInLeastTerms_62 rfl ?_
          refine g_lload (pc := 63) F dX4_partInLeastTerms_63 rfl ?_
          first
            | refine g_ldivN (pc := 65) F dX4_partInLeastTerms_65 hA3 ha (by omega) ?_
            | refine g_ldivN (pc := 65) F dX4_partInLeastTerms_65 (show B < 2 ^ 63 by omega) ha (by omega) ?_
          exact g_lret (pc := 66) F X0 dX4_partInLeastTerms_66 (Nat.le_of_ble_eq_true rfl) (Nat.le_of_ble_eq_true rfl) rfl ⟨congrArg (fun z => some (Value.long z)) (by rw [hga]; first | exact (if_pos c_55).symm | exact (if_neg c_55).symm | fail), rfl⟩
        · refine g_lload_n (pc := 58) F dX4_partInLeastTerms_58 rfl ?_
          refine g_goto (pc := 59) F dX4_partInLeastTerms_59 (tgt := 63) rfl ?_
          refine g_lload (pc := 63) F dX4_partInLeastTerms_63 rfl ?_
          first
            | refine g_ldivN (pc := 65) F dX4_partInLeastTerms_65 hA3 ha (by omega) ?_
            | refine g_ldivN (pc := 65) F dX4_partInLeastTerms_65 (show B < 2 ^ 63 by omega) ha (by omega) ?_
          exact g_lret (pc := 66) F X0 dX4_partInLeastTerms_66 (Nat.le_of_ble_eq_true rfl) (Nat.le_of_ble_eq_true rfl) rfl ⟨congrArg (fun z => some (Value.long z)) (by rw [hga]; first | exact (if_pos c_55).symm | exact (if_neg c_55).symm | fail), rfl⟩
      · have hb0 : ¬ b = 0 := fun z => c_20 ((lc_0 hb).mpr z)
        have hml := Nat.mod_lt a (show 0 < b by omega)
        have he2 : eT (100 - (i + 1)) b (a % b) := by
          have e : 100 - i = (100 - (i + 1)) + 1 := by omega
          rw [e] at he
          exact he.resolve_left hb0
        refine g_lload (pc := 23) F dX4_partInLeastTerms_23 rfl ?_
        refine g_lload (pc := 25) F dX4_partInLeastTerms_25 rfl ?_
        refine g_lremN (pc := 27) F dX4_partInLeastTerms_27 ha hb (by omega) ?_
        refine g_lstore (pc := 28) F dX4_partInLeastTerms_28 (by decide) ?_
        refine g_lload (pc := 30) F dX4_partInLeastTerms_30 rfl ?_
        refine g_lstore (pc := 32) F dX4_partInLeastTerms_32 (by decide) ?_
        refine g_lload (pc := 34) F dX4_partInLeastTerms_34 rfl ?_
        refine g_lstore (pc := 36) F dX4_partInLeastTerms_36 (by decide) ?_
        refine g_iincN (pc := 38) F dX4_partInLeastTerms_38 rfl (by decide) ?_
        refine g_goto (pc := 41) F dX4_partInLeastTerms_41 (tgt := 9) rfl ?_
        refine g_less [0, 1, 2, 3, 4, 5] rfl ?_
        exact ih c_13 b (a % b) he2 hb (by omega) (gcd_st.trans hg))
  show Go K 0 0 0 [(0, .long (lN A)), (2, .long (lN B)), (4, .int p)] [] ([])
  refine g_lload_n (pc := 0) F dX4_partInLeastTerms_0 rfl ?_
  refine g_lstore (pc := 1) F dX4_partInLeastTerms_1 (by decide) ?_
  refine g_lload_n (pc := 3) F dX4_partInLeastTerms_3 rfl ?_
  refine g_lstore (pc := 4) F dX4_partInLeastTerms_4 (by decide) ?_
  refine g_iconst (pc := 6) F dX4_partInLeastTerms_6 (v := nI 0) rfl ?_
  refine g_istore (pc := 7) F dX4_partInLeastTerms_7 (by decide) ?_
  exact L 0 (Nat.zero_le _) B A (eT_le (eT_of 40 B A hA) (by decide)) (by omega) hA3 (Nat.gcd_comm B A)

def S_mean (r : Nat → Int32) (p : Int32) : Int64 := if b01 p then partV (N (sumR r 5)) 10 p else 1000000001
theorem sum_nI {r : Nat → Int32} (hI : Iv r) : sumR r 5 = nI (N (sumR r 5)) ∧ N (sumR r 5) ≤ 9990 := by
  obtain ⟨b1, b2⟩ := upT_bd hI 10 (Nat.le_refl _)
  rw [upT_all] at b1 b2
  have e := nI_of_ti b1
  have e2 : N (sumR r 5) = (sumR r 5).toInt.toNat := rfl
  rw [e2]
  exact ⟨e, by omega⟩
set_option maxRecDepth 100000 in
set_option maxHeartbeats 800000 in
theorem c_mean (b : Int32) (X Y Z : DX) (im : Int32) (S : Nat → SX) (g h : Nat → Int32) (r : Nat → Int32) (hR : Rel b X r) (hI : Iv r) (h4 : r 4 = nI 0) (p : Int32) : Ctr yX4_mean cX4_mean 2 (some .long) 7 0 0 [.ref 0, .int p] (mW X Y Z im S g h) (Look (.long (S_mean r p)) X Z im S) := by
  refine Ctr.of rfl (Nat.le_of_ble_eq_true rfl) ⟨clS_of rfl, mW_cl _ _ _ _ _ _ _⟩ (fun K F X0 => ?_)
  show Go K 0 0 0 [(0, .ref 0), (1, .int p)] [] (mW X Y Z im S g h)
  refine g_iload_n (pc := 0) F dX4_mean_0 rfl ?_
  refine g_iconst (pc := 1) F dX4_mean_1 (v := nI 0) rfl ?_
  refine g_iconst (pc := 2) F dX4_mean_2 (v := nI 1) rfl ?_
  refine h_readS (pc := 3) F (c_isWithin _ _ _) mi_X4_isWithin ks_X4_129 dX4_mean_3 [] rfl (by decide) (by decide) rfl rfl (Nat.le_of_ble_eq_true rfl) trivial (by decide) (by decide) ?_
  refine g_ifne_d (pc := 6) F dX4_mean_6 (tgt := 13) rfl (fun c_6 => ?_) (fun c_6 => ?_)
  · obtain ⟨e9, h9⟩ := sum_nI hI
    refine g_aload_n (pc := 13) F dX4_mean_13 rfl ?_
    refine g_getf (pc := 14) F fl_X4_12 dX4_mean_14 rfl rfl ?_
    refine h_readV (pc := 17) F (c_allGrains b X r hR) mi_X0_allGrains kv_X4_202 rfl rfl dX4_mean_17 [1, 2, 3, 4, 5, 6, 7, 8] sub_now (by decide) (by decide) rfl rfl (Nat.le_of_ble_eq_true rfl) trivial (by decide) (by decide) ?_
    rw [e9]
    refine g_i2l (pc := 20) F dX4_mean_20 ?_
    rw [i2l_nI (by omega)]
    refine g_ldc2 (pc := 21) F dX4_mean_21 kl_X4_229 ?_
    refine g_iload_n (pc := 24) F dX4_mean_24 rfl ?_
    refine h_readS (pc := 25) F (c_parts (N (sumR r 5)) 10 p (by omega) (by decide) (by decide)) mi_X4_partInLeastTerms ks_X4_225 dX4_mean_25 [] rfl (by decide) (by decide) rfl rfl (Nat.le_of_ble_eq_true rfl) trivial (by decide) (by decide) ?_
    exact g_lret (pc := 28) F X0 dX4_mean_28 (Nat.le_of_ble_eq_true rfl) (Nat.le_of_ble_eq_true rfl) rfl ⟨congrArg (fun z => some (Value.long z)) (by first | exact (if_pos c_6).symm | exact (if_neg c_6).symm | fail), Y, g, h, rfl⟩
  · refine g_ldc2 (pc := 9) F dX4_mean_9 kl_X4_220 ?_
    exact g_lret (pc := 12) F X0 dX4_mean_12 (Nat.le_of_ble_eq_true rfl) (Nat.le_of_ble_eq_true rfl) rfl ⟨congrArg (fun z => some (Value.long z)) (by first | exact (if_pos c_6).symm | exact (if_neg c_6).symm | fail), Y, g, h, rfl⟩

set_option maxRecDepth 100000 in
set_option maxHeartbeats 800000 in
theorem m_mean (s m ig ws : Nat → Int32) (hg : Int32) (T : TX) (V : VX) (hI : Iv s) (p : Int32) : Ctr yX5_mean cX5_mean 2 (some .long) 7 0 0 [.ref 0, .int p] (rW s m ig ws hg T V) (LookR (.long (S_mean s p)) s ig ws hg T) := by
  refine Ctr.of rfl (Nat.le_of_ble_eq_true rfl) ⟨clS_of rfl, clH_of rfl⟩ (fun K F X0 => ?_)
  show Go K 0 0 0 [(0, .ref 0), (1, .int p)] [] (rW s m ig ws hg T V)
  refine g_iload_n (pc := 0) F dX5_mean_0 rfl ?_
  refine g_iconst (pc := 1) F dX5_mean_1 (v := nI 0) rfl ?_
  refine g_iconst (pc := 2) F dX5_mean_2 (v := nI 1) rfl ?_
  refine h_readS (pc := 3) F (c_isIn _ _ _) mi_X5_isIn ks_X5_43 dX5_mean_3 [] rfl (by decide) (by decide) rfl rfl (Nat.le_of_ble_eq_true rfl) trivial (by decide) (by decide) ?_
  refine g_ifeq_d (pc := 6) F dX5_mean_6 (tgt := 25) rfl (fun c_6 => ?_) (fun c_6 => ?_)
  · refine g_ldc2 (pc := 25) F dX5_mean_25 kl_X5_191 ?_
    exact g_lret (pc := 28) F X0 dX5_mean_28 (Nat.le_of_ble_eq_true rfl) (Nat.le_of_ble_eq_true rfl) rfl ⟨congrArg (fun z => some (Value.long z)) (by first | exact (if_pos c_6).symm | exact (if_neg c_6).symm | fail), m, V, rfl⟩
  · obtain ⟨e9, h9⟩ := sum_nI hI
    refine g_aload_n (pc := 9) F dX5_mean_9 rfl ?_
    refine g_iconst (pc := 10) F dX5_mean_10 (v := nI 5) rfl ?_
    refine i_readV (pc := 11) F (m_sumOf s m ig ws hg T V 5 (by decide)) mi_X5_sumOf kv_X5_197 rfl rfl dX5_mean_11 (by decide) (by decide) rfl (Nat.le_of_ble_eq_true rfl) (by decide) (by decide) ?_
    rw [e9]
    refine g_i2l (pc := 14) F dX5_mean_14 ?_
    rw [i2l_nI (by omega)]
    refine g_ldc2 (pc := 15) F dX5_mean_15 kl_X5_200 ?_
    refine g_iload_n (pc := 18) F dX5_mean_18 rfl ?_
    refine h_readS (pc := 19) F (m_partOf (N (sumR s 5)) 10 p (by omega) (by decide) (by decide) c_6) mi_X5_partOf ks_X5_193 dX5_mean_19 [] rfl (by decide) (by decide) rfl rfl (Nat.le_of_ble_eq_true rfl) trivial (by decide) (by decide) ?_
    refine g_goto (pc := 22) F dX5_mean_22 (tgt := 28) rfl ?_
    exact g_lret (pc := 28) F X0 dX5_mean_28 (Nat.le_of_ble_eq_true rfl) (Nat.le_of_ble_eq_true rfl) rfl ⟨congrArg (fun z => some (Value.long z)) (by first | exact (if_pos c_6).symm | exact (if_neg c_6).symm | fail), m, V, rfl⟩

