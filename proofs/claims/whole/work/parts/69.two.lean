/-! two -/
def wrB (a c x y : Nat) : Int32 := (nI (1 - x) <<< (nI a &&& 31)) ||| (nI (1 - y) <<< (nI c &&& 31))
def twR (r : Nat → Int32) (a c x y : Nat) : Nat → Int32 := upd (upd (upd r (ix a 5) (nI 0)) (ix c 5) (nI 0)) 4 (wrB a c x y)
def hbM (r : Nat → Int32) (a c q x y : Nat) : Int32 := daysR (twR r a c x y) 5 (ix q 4) - r (ix q 4)
def hbV (r : Nat → Int32) (a c q x y : Nat) : Int32 := if (q = a ∧ x = 0 ∧ y = 1) ∨ (¬ q = a ∧ y = 0 ∧ x = 1) then hbM r a c q x y - nI 20 else hbM r a c q x y
theorem hb_y {r : Nat → Int32} {a c q x y : Nat} (h : (q = a ∧ x = 0 ∧ y = 1) ∨ (¬ q = a ∧ y = 0 ∧ x = 1)) : hbV r a c q x y = hbM r a c q x y - nI 20 := if_pos h
theorem hb_n {r : Nat → Int32} {a c q x y : Nat} (h : ¬ ((q = a ∧ x = 0 ∧ y = 1) ∨ (¬ q = a ∧ y = 0 ∧ x = 1))) : hbV r a c q x y = hbM r a c q x y := if_neg h
abbrev twP (r : Nat → Int32) (a c i : Nat) : Prop := ¬ hbV r a c a (i / 2) (i % 2) < hbV r a c a (1 - i / 2) (i % 2) ∧ ¬ hbV r a c c (i / 2) (i % 2) < hbV r a c c (i / 2) (1 - i % 2)
def twS (r : Nat → Int32) (a c : Nat) : Nat → Nat → Int32
  | 0, _ => (-4)
  | k + 1, i => if twP r a c i then nI (10 * (i / 2) + i % 2) else twS r a c k (i + 1)
def S_two (r : Nat → Int32) (a c : Int32) : Int32 := if oneP r a ∧ oneP r c ∧ ¬ a = c then twS r (N a) (N c) 4 0 else (-1)
theorem tw_yes {r : Nat → Int32} {a c i : Nat} {v : Int32} (hi : i < 4) (h : v = twS r a c (4 - i) i) (hp : twP r a c i) : v = nI (10 * (i / 2) + i % 2) := by
  obtain ⟨k, hk⟩ : ∃ k, 4 - i = k + 1 := ⟨3 - i, by omega⟩
  rw [h, hk]
  exact if_pos hp
theorem tw_no {r : Nat → Int32} {a c i : Nat} {v : Int32} (hi : i < 4) (h : v = twS r a c (4 - i) i) (hp : ¬ twP r a c i) : v = twS r a c (4 - (i + 1)) (i + 1) := by
  obtain ⟨k, hk⟩ : ∃ k, 4 - i = k + 1 := ⟨3 - i, by omega⟩
  have e : 4 - (i + 1) = k := by omega
  rw [h, hk, e]
  exact if_neg hp
theorem S_two_y {r : Nat → Int32} {a c : Nat} (ha : a < 6) (hc : c < 6) (h1 : oneP r (nI a)) (h2 : oneP r (nI c)) (h3 : ¬ nI a = nI c) : S_two r (nI a) (nI c) = twS r a c (4 - 0) 0 := by
  unfold S_two
  rw [if_pos ⟨h1, h2, h3⟩, N_nI (by omega), N_nI (by omega)]
theorem ix_inj5 {a c : Nat} (h : a ≠ c) : ix a 5 ≠ ix c 5 := by simp only [ix]; omega
theorem tw_rest {r : Nat → Int32} {a c q : Nat} (hq : q = a ∨ q = c) : upd (upd r (ix a 5) (nI 0)) (ix c 5) (nI 0) (ix q 5) = nI 0 := by
  by_cases e : q = c
  · rw [e, upd_at]
  · rw [upd_ne _ (ix_inj5 e), hq.resolve_right e, upd_at]
def wrO (a c x y : Nat) : Bool := (List.range 6).all (fun q => decide (q = a) || (decide (q = c) || !hasb (wrB a c x y) (nI q)))
theorem wrO_ok : ∀ a, a < 6 → ∀ c, c < 6 → ∀ x, x < 2 → ∀ y, y < 2 → wrO a c x y = true := by decide +kernel
theorem wrB_out (a : Nat) (ha : a < 6) (c : Nat) (hc : c < 6) (x : Nat) (hx : x < 2) (y : Nat) (hy : y < 2) (q : Nat) (hq : q < 6) : q = a ∨ q = c ∨ hasb (wrB a c x y) (nI q) = false := by
  have h := List.all_eq_true.mp (wrO_ok a ha c hc x hx y hy) q (List.mem_range.mpr hq)
  rcases (Bool.or_eq_true _ _).mp h with h | h
  · exact Or.inl (of_decide_eq_true h)
  · rcases (Bool.or_eq_true _ _).mp h with h | h
    · exact Or.inr (Or.inl (of_decide_eq_true h))
    · refine Or.inr (Or.inr ?_)
      cases z : hasb (wrB a c x y) (nI q) with
      | false => rfl
      | true => rw [z] at h; exact Bool.noConfusion h
theorem Iv_tw {r : Nat → Int32} {a c x y : Nat} (h : Iv r) : Iv (twR r a c x y) := Iv_free (Iv_rests (Iv_rests h (Or.inl rfl)) (Or.inl rfl)) (Or.inr (Or.inr rfl))
theorem many_tw {r : Nat → Int32} {a c x y : Nat} : many (twR r a c x y) = many r := (many_upd (by omega)).trans ((many_upd (by simp only [ix]; omega)).trans (many_upd (by simp only [ix]; omega)))
theorem tw_ne {r : Nat → Int32} {a c x y j : Nat} (h4 : j ≠ 4) (ha : j ≠ ix a 5) (hc : j ≠ ix c 5) : twR r a c x y j = r j := (upd_ne _ h4).trans ((upd_ne _ hc).trans (upd_ne _ ha))
theorem Rel_tw {b : Int32} {Y : DX} {r : Nat → Int32} {a c x y : Nat} {v1 v2 : Int32} (h : Rel b Y r) (hI : Iv r) (ha : a < many r) (hc : c < many r) (hx : x < 2) (hy : y < 2) (e1 : v1 = dR Y &&& (((nI 1 <<< (nI a &&& 31)) ||| (nI 1 <<< (nI c &&& 31))) ^^^ (-1))) (e2 : v2 = wrB a c x y) : Rel b (sWr (sR Y v1) v2) (twR r a c x y) := by
  obtain ⟨⟨a1, a2, a3, a4, a5, a6⟩, a7, a8, a9⟩ := h
  have hm6 := hI.1.2
  have n : ∀ j, j ≠ 4 → (∀ q, j ≠ 25 + 6 * q + 5) → twR r a c x y j = r j := fun j h1 h2 => tw_ne h1 (h2 a) (h2 c)
  have e4 : twR r a c x y 4 = wrB a c x y := upd_at _ _ _
  have er : ∀ q, twR r a c x y (ix q 5) = upd (upd r (ix a 5) (nI 0)) (ix c 5) (nI 0) (ix q 5) := fun q => upd_ne _ (by simp only [ix]; omega)
  refine ⟨⟨?_, ?_, ?_, ?_, ?_, ?_⟩, ?_, fun d hd => ?_, fun q hq => ?_⟩
  · rw [n 0 (by omega) (fun q => by omega)]; exact a1
  · rw [n 1 (by omega) (fun q => by omega)]; exact a2
  · rw [n 2 (by omega) (fun q => by omega)]; exact a3
  · rw [e4]; exact e2
  · rw [n 3 (by omega) (fun q => by omega)]; exact a5
  · show v1 = _
    rw [e1, a6, ← restR_clear hI ha hc]
    exact (restR_cong ((upd_ne _ (by omega))) (fun q _ => er q)).symm
  · intro q hq hw
    rw [many_tw] at hq
    rw [e4] at hw
    rw [er q]
    by_cases z : q = a ∨ q = c
    · rw [tw_rest z]; decide
    · exfalso
      rcases wrB_out a (by omega) c (by omega) x hx y hy q (by omega) with e | e | e
      · exact z (Or.inl e)
      · exact z (Or.inr e)
      · rw [e] at hw
        exact Bool.noConfusion hw
  · rw [n _ (by omega) (fun q => by omega), n _ (by omega) (fun q => by omega)]; exact a8 d hd
  · rw [many_tw] at hq
    simp only [ix]
    rw [n _ (by omega) (fun q => by omega), n _ (by omega) (fun q => by omega), n _ (by omega) (fun q => by omega), n _ (by omega) (fun q => by omega), n _ (by omega) (fun q => by omega)]
    exact a9 q hq
theorem sub_n0 (x : Int32) : x - nI 0 = x := Int32.sub_zero x
theorem wrB_0 : ∀ a, a < 6 → ∀ c, c < 6 → (nI 1 <<< (nI a &&& 31)) ||| (nI 1 <<< (nI c &&& 31)) = wrB a c 0 0 := by decide +kernel
set_option maxRecDepth 100000 in
set_option maxHeartbeats 800000 in
theorem c_playTwo_0 (b : Int32) (X Y Z : DX) (im : Int32) (S : Nat → SX) (g h : Nat → Int32) (r : Nat → Int32) (hR : Rel b X r) (hI : Iv r) (h4 : r 4 = nI 0) (a c : Nat) (ha : a < many r) (hc : c < many r) (hac : ¬ a = c) : Ctr yX4_playTwo cX4_playTwo 8 none 6 0 0 [.ref 0, .int (nI a), .int (nI c), .int (nI 0)] (mW X Y Z im S g h) (fun v hh => v = none ∧ ∃ Y3, hh = mW X Y3 Z im S (upd g 0 (hbV r a c a 0 0)) (upd h 0 (hbV r a c c 0 0))) := by
  have hm6 := hI.1.2
  refine Ctr.of rfl (Nat.le_of_ble_eq_true rfl) ⟨clS_of rfl, mW_cl _ _ _ _ _ _ _⟩ (fun K F X0 => ?_)
  show Go K 0 0 0 [(0, .ref 0), (1, .int (nI a)), (2, .int (nI c)), (3, .int (nI 0))] [] (mW X Y Z im S g h)
  refine g_iload_n (pc := 0) F dX4_playTwo_0 rfl ?_
  refine g_iconst (pc := 1) F dX4_playTwo_1 (v := nI 2) rfl ?_
  refine g_iand (pc := 2) F dX4_playTwo_2 ?_
  refine g_if_eq (pc := 3) F dX4_playTwo_3 (tgt := 10) rfl (fun c_3 => ?_) (fun c_3 => absurd (by decide) c_3)
  refine g_iconst (pc := 10) F dX4_playTwo_10 (v := nI 0) rfl ?_
  refine g_istore (pc := 11) F dX4_playTwo_11 (by decide) ?_
  refine g_iload_n (pc := 13) F dX4_playTwo_13 rfl ?_
  refine g_iconst (pc := 14) F dX4_playTwo_14 (v := nI 1) rfl ?_
  refine g_iand (pc := 15) F dX4_playTwo_15 ?_
  refine g_if_eq (pc := 16) F dX4_playTwo_16 (tgt := 23) rfl (fun c_16 => ?_) (fun c_16 => absurd (by decide) c_16)
  refine g_iconst (pc := 23) F dX4_playTwo_23 (v := nI 0) rfl ?_
  refine g_istore (pc := 24) F dX4_playTwo_24 (by decide) ?_
  refine g_aload_n (pc := 26) F dX4_playTwo_26 rfl ?_
  refine g_getf (pc := 27) F fl_X4_16 dX4_playTwo_27 rfl rfl ?_
  refine g_aload_n (pc := 30) F dX4_playTwo_30 rfl ?_
  refine g_getf (pc := 31) F fl_X4_12 dX4_playTwo_31 rfl rfl ?_
  refine h_callV (pc := 34) F (c_becomes b Y X r hR hI h4) mi_X0_becomes kv_X4_57 rfl rfl dX4_playTwo_34 [9, 10, 11, 12, 13, 14, 15, 16, 1, 2, 3, 4, 5, 6, 7, 8] sub_mn (by decide) (by decide) rfl rfl (Nat.le_of_ble_eq_true rfl) (by decide) (by decide) ?_
  rintro _ _ ⟨rfl, Y2, rfl, hY2⟩ -
  rw [place_mn]
  refine g_aload_n (pc := 37) F dX4_playTwo_37 rfl ?_
  refine g_getf (pc := 38) F fl_X4_16 dX4_playTwo_38 rfl rfl ?_
  refine g_dup (pc := 41) F dX4_playTwo_41 rfl ?_
  refine g_getf (pc := 42) F fl_X4_97 dX4_playTwo_42 rfl rfl ?_
  refine g_iconst (pc := 45) F dX4_playTwo_45 (v := nI 1) rfl ?_
  refine g_iload_n (pc := 46) F dX4_playTwo_46 rfl ?_
  refine g_ishl (pc := 47) F dX4_playTwo_47 ?_
  refine g_iconst (pc := 48) F dX4_playTwo_48 (v := nI 1) rfl ?_
  refine g_iload_n (pc := 49) F dX4_playTwo_49 rfl ?_
  refine g_ishl (pc := 50) F dX4_playTwo_50 ?_
  refine g_ior (pc := 51) F dX4_playTwo_51 ?_
  refine g_iconst (pc := 52) F dX4_playTwo_52 (v := (-1 : Int32)) (by decide) ?_
  refine g_ixor (pc := 53) F dX4_playTwo_53 ?_
  refine g_iand (pc := 54) F dX4_playTwo_54 ?_
  refine g_putf (pc := 55) F fl_X4_97 dX4_playTwo_55 rfl (Nat.le_of_ble_eq_true rfl) ?_
  refine g_aload_n (pc := 58) F dX4_playTwo_58 rfl ?_
  refine g_getf (pc := 59) F fl_X4_16 dX4_playTwo_59 rfl rfl ?_
  refine g_iload (pc := 62) F dX4_playTwo_62 rfl ?_
  refine g_if_eq (pc := 64) F dX4_playTwo_64 (tgt := 71) rfl (fun c_64 => ?_) (fun c_64 => absurd (by decide) c_64)
  refine g_iconst (pc := 71) F dX4_playTwo_71 (v := nI 1) rfl ?_
  refine g_iload_n (pc := 72) F dX4_playTwo_72 rfl ?_
  refine g_ishl (pc := 73) F dX4_playTwo_73 ?_
  refine g_iload (pc := 74) F dX4_playTwo_74 rfl ?_
  refine g_if_eq (pc := 76) F dX4_playTwo_76 (tgt := 83) rfl (fun c_76 => ?_) (fun c_76 => absurd (by decide) c_76)
  refine g_iconst (pc := 83) F dX4_playTwo_83 (v := nI 1) rfl ?_
  refine g_iload_n (pc := 84) F dX4_playTwo_84 rfl ?_
  refine g_ishl (pc := 85) F dX4_playTwo_85 ?_
  refine g_ior (pc := 86) F dX4_playTwo_86 ?_
  refine g_putf (pc := 87) F fl_X4_291 dX4_playTwo_87 rfl (Nat.le_of_ble_eq_true rfl) ?_
  show Go K 0 0 90 _ _ (mW X (sWr (sR Y2 (dR Y2 &&& (((nI 1 <<< (nI a &&& 31)) ||| (nI 1 <<< (nI c &&& 31))) ^^^ (-1)))) ((nI 1 <<< (nI a &&& 31)) ||| (nI 1 <<< (nI c &&& 31)))) Z im S g h)
  refine g_aload_n (pc := 90) F dX4_playTwo_90 rfl ?_
  refine g_getf (pc := 91) F fl_X4_16 dX4_playTwo_91 rfl rfl ?_
  refine g_iconst (pc := 94) F dX4_playTwo_94 (v := nI 5) rfl ?_
  refine h_callV (pc := 95) F (c_passDays _ _ (twR r a c 0 0) _ 5 (Rel_tw hY2 hI ha hc (by decide) (by decide) rfl (wrB_0 a (by omega) c (by omega))) (Iv_tw hI) rfl (by omega)) mi_X0_passDays kv_X4_170 rfl rfl dX4_playTwo_95 [9, 10, 11, 12, 13, 14, 15, 16] sub_mind (by decide) (by decide) rfl rfl (Nat.le_of_ble_eq_true rfl) (by decide) (by decide) ?_
  rintro _ _ ⟨rfl, Y3, rfl, hY3⟩ -
  rw [place_mind]
  have eM1 : dB Y3 a = daysR (twR r a c 0 0) 5 (ix a 4) := (hY3.2.2.2 a (by rw [many_of (daysR_ok (Iv_tw hI) 5).2.1, many_tw]; exact ha)).2.2.2.2
  have eM2 : dB Y3 c = daysR (twR r a c 0 0) 5 (ix c 4) := (hY3.2.2.2 c (by rw [many_of (daysR_ok (Iv_tw hI) 5).2.1, many_tw]; exact hc)).2.2.2.2
  have eX1 : dB X a = r (ix a 4) := (hR.2.2.2 a ha).2.2.2.2
  have eX2 : dB X c = r (ix c 4) := (hR.2.2.2 c hc).2.2.2.2
  refine g_iload (pc := 98) F dX4_playTwo_98 rfl ?_
  refine g_if_ne (pc := 100) F dX4_playTwo_100 (tgt := 113) rfl (fun c_100 => absurd (by decide) c_100) (fun c_100 => ?_)
  refine g_iload (pc := 103) F dX4_playTwo_103 rfl ?_
  refine g_if_eq (pc := 105) F dX4_playTwo_105 (tgt := 113) rfl (fun c_105 => ?_) (fun c_105 => absurd (by decide) c_105)
  refine g_iconst (pc := 113) F dX4_playTwo_113 (v := nI 0) rfl ?_
  refine g_istore (pc := 114) F dX4_playTwo_114 (by decide) ?_
  refine g_iload (pc := 116) F dX4_playTwo_116 rfl ?_
  refine g_if_ne (pc := 118) F dX4_playTwo_118 (tgt := 131) rfl (fun c_118 => absurd (by decide) c_118) (fun c_118 => ?_)
  refine g_iload (pc := 121) F dX4_playTwo_121 rfl ?_
  refine g_if_eq (pc := 123) F dX4_playTwo_123 (tgt := 131) rfl (fun c_123 => ?_) (fun c_123 => absurd (by decide) c_123)
  refine g_iconst (pc := 131) F dX4_playTwo_131 (v := nI 0) rfl ?_
  refine g_istore (pc := 132) F dX4_playTwo_132 (by decide) ?_
  refine g_aload_n (pc := 134) F dX4_playTwo_134 rfl ?_
  refine g_getf (pc := 135) F fl_X4_32 dX4_playTwo_135 rfl rfl ?_
  refine g_iload_n (pc := 138) F dX4_playTwo_138 rfl ?_
  refine g_aload_n (pc := 139) F dX4_playTwo_139 rfl ?_
  refine g_getf (pc := 140) F fl_X4_16 dX4_playTwo_140 rfl rfl ?_
  refine g_getf (pc := 143) F fl_X4_94 dX4_playTwo_143 rfl rfl ?_
  refine g_iload_n (pc := 146) F dX4_playTwo_146 rfl ?_
  refine g_iald2 (pc := 147) F dX4_playTwo_147 rfl rfl (by first | omega | (simp only [ix]; omega)) (by decide) ?_
  refine g_aload_n (pc := 148) F dX4_playTwo_148 rfl ?_
  refine g_getf (pc := 149) F fl_X4_12 dX4_playTwo_149 rfl rfl ?_
  refine g_getf (pc := 152) F fl_X4_94 dX4_playTwo_152 rfl rfl ?_
  refine g_iload_n (pc := 155) F dX4_playTwo_155 rfl ?_
  refine g_iald2 (pc := 156) F dX4_playTwo_156 rfl rfl (by first | omega | (simp only [ix]; omega)) (by decide) ?_
  refine g_isub (pc := 157) F dX4_playTwo_157 ?_
  refine g_iload (pc := 158) F dX4_playTwo_158 rfl ?_
  refine g_isub (pc := 160) F dX4_playTwo_160 ?_
  refine g_iast2 (pc := 161) F dX4_playTwo_161 rfl rfl (by first | omega | (simp only [ix]; omega)) (by decide) ?_
  refine g_aload_n (pc := 162) F dX4_playTwo_162 rfl ?_
  refine g_getf (pc := 163) F fl_X4_36 dX4_playTwo_163 rfl rfl ?_
  refine g_iload_n (pc := 166) F dX4_playTwo_166 rfl ?_
  refine g_aload_n (pc := 167) F dX4_playTwo_167 rfl ?_
  refine g_getf (pc := 168) F fl_X4_16 dX4_playTwo_168 rfl rfl ?_
  refine g_getf (pc := 171) F fl_X4_94 dX4_playTwo_171 rfl rfl ?_
  refine g_iload_n (pc := 174) F dX4_playTwo_174 rfl ?_
  refine g_iald2 (pc := 175) F dX4_playTwo_175 rfl rfl (by first | omega | (simp only [ix]; omega)) (by decide) ?_
  refine g_aload_n (pc := 176) F dX4_playTwo_176 rfl ?_
  refine g_getf (pc := 177) F fl_X4_12 dX4_playTwo_177 rfl rfl ?_
  refine g_getf (pc := 180) F fl_X4_94 dX4_playTwo_180 rfl rfl ?_
  refine g_iload_n (pc := 183) F dX4_playTwo_183 rfl ?_
  refine g_iald2 (pc := 184) F dX4_playTwo_184 rfl rfl (by first | omega | (simp only [ix]; omega)) (by decide) ?_
  refine g_isub (pc := 185) F dX4_playTwo_185 ?_
  refine g_iload (pc := 186) F dX4_playTwo_186 rfl ?_
  refine g_isub (pc := 188) F dX4_playTwo_188 ?_
  refine g_iast2 (pc := 189) F dX4_playTwo_189 rfl rfl (by first | omega | (simp only [ix]; omega)) (by decide) ?_
  exact g_vret (pc := 190) F X0 dX4_playTwo_190 (Nat.le_of_ble_eq_true rfl) (Nat.le_of_ble_eq_true rfl) rfl ⟨rfl, Y3, congrArg (fun z : Int32 × Int32 => mW X Y3 Z im S (upd g 0 z.1) (upd h 0 z.2)) (show (((dB Y3 a - dB X a) - nI 0, (dB Y3 c - dB X c) - nI 0) : Int32 × Int32) = (hbV r a c a 0 0, hbV r a c c 0 0) from Prod.ext (show (dB Y3 a - dB X a) - nI 0 = hbV r a c a 0 0 from by rw [eM1, eX1, sub_n0]; exact (if_neg (fun z => z.elim (fun z => absurd z.2 (by decide)) (fun z => z.1 rfl))).symm) (show (dB Y3 c - dB X c) - nI 0 = hbV r a c c 0 0 from by rw [eM2, eX2, sub_n0]; exact (if_neg (fun z => z.elim (fun z => hac z.1.symm) (fun z => absurd z.2 (by decide)))).symm))⟩

theorem wrB_1 : ∀ a, a < 6 → ∀ c, c < 6 → (nI 1 <<< (nI a &&& 31)) ||| (nI 0) = wrB a c 0 1 := by decide +kernel
set_option maxRecDepth 100000 in
set_option maxHeartbeats 800000 in
theorem c_playTwo_1 (b : Int32) (X Y Z : DX) (im : Int32) (S : Nat → SX) (g h : Nat → Int32) (r : Nat → Int32) (hR : Rel b X r) (hI : Iv r) (h4 : r 4 = nI 0) (a c : Nat) (ha : a < many r) (hc : c < many r) (hac : ¬ a = c) : Ctr yX4_playTwo cX4_playTwo 8 none 6 0 0 [.ref 0, .int (nI a), .int (nI c), .int (nI 1)] (mW X Y Z im S g h) (fun v hh => v = none ∧ ∃ Y3, hh = mW X Y3 Z im S (upd g 1 (hbV r a c a 0 1)) (upd h 1 (hbV r a c c 0 1))) := by
  have hm6 := hI.1.2
  refine Ctr.of rfl (Nat.le_of_ble_eq_true rfl) ⟨clS_of rfl, mW_cl _ _ _ _ _ _ _⟩ (fun K F X0 => ?_)
  show Go K 0 0 0 [(0, .ref 0), (1, .int (nI a)), (2, .int (nI c)), (3, .int (nI 1))] [] (mW X Y Z im S g h)
  refine g_iload_n (pc := 0) F dX4_playTwo_0 rfl ?_
  refine g_iconst (pc := 1) F dX4_playTwo_1 (v := nI 2) rfl ?_
  refine g_iand (pc := 2) F dX4_playTwo_2 ?_
  refine g_if_eq (pc := 3) F dX4_playTwo_3 (tgt := 10) rfl (fun c_3 => ?_) (fun c_3 => absurd (by decide) c_3)
  refine g_iconst (pc := 10) F dX4_playTwo_10 (v := nI 0) rfl ?_
  refine g_istore (pc := 11) F dX4_playTwo_11 (by decide) ?_
  refine g_iload_n (pc := 13) F dX4_playTwo_13 rfl ?_
  refine g_iconst (pc := 14) F dX4_playTwo_14 (v := nI 1) rfl ?_
  refine g_iand (pc := 15) F dX4_playTwo_15 ?_
  refine g_if_eq (pc := 16) F dX4_playTwo_16 (tgt := 23) rfl (fun c_16 => absurd c_16 (by decide)) (fun c_16 => ?_)
  refine g_iconst (pc := 19) F dX4_playTwo_19 (v := nI 1) rfl ?_
  refine g_goto (pc := 20) F dX4_playTwo_20 (tgt := 24) rfl ?_
  refine g_istore (pc := 24) F dX4_playTwo_24 (by decide) ?_
  refine g_aload_n (pc := 26) F dX4_playTwo_26 rfl ?_
  refine g_getf (pc := 27) F fl_X4_16 dX4_playTwo_27 rfl rfl ?_
  refine g_aload_n (pc := 30) F dX4_playTwo_30 rfl ?_
  refine g_getf (pc := 31) F fl_X4_12 dX4_playTwo_31 rfl rfl ?_
  refine h_callV (pc := 34) F (c_becomes b Y X r hR hI h4) mi_X0_becomes kv_X4_57 rfl rfl dX4_playTwo_34 [9, 10, 11, 12, 13, 14, 15, 16, 1, 2, 3, 4, 5, 6, 7, 8] sub_mn (by decide) (by decide) rfl rfl (Nat.le_of_ble_eq_true rfl) (by decide) (by decide) ?_
  rintro _ _ ⟨rfl, Y2, rfl, hY2⟩ -
  rw [place_mn]
  refine g_aload_n (pc := 37) F dX4_playTwo_37 rfl ?_
  refine g_getf (pc := 38) F fl_X4_16 dX4_playTwo_38 rfl rfl ?_
  refine g_dup (pc := 41) F dX4_playTwo_41 rfl ?_
  refine g_getf (pc := 42) F fl_X4_97 dX4_playTwo_42 rfl rfl ?_
  refine g_iconst (pc := 45) F dX4_playTwo_45 (v := nI 1) rfl ?_
  refine g_iload_n (pc := 46) F dX4_playTwo_46 rfl ?_
  refine g_ishl (pc := 47) F dX4_playTwo_47 ?_
  refine g_iconst (pc := 48) F dX4_playTwo_48 (v := nI 1) rfl ?_
  refine g_iload_n (pc := 49) F dX4_playTwo_49 rfl ?_
  refine g_ishl (pc := 50) F dX4_playTwo_50 ?_
  refine g_ior (pc := 51) F dX4_playTwo_51 ?_
  refine g_iconst (pc := 52) F dX4_playTwo_52 (v := (-1 : Int32)) (by decide) ?_
  refine g_ixor (pc := 53) F dX4_playTwo_53 ?_
  refine g_iand (pc := 54) F dX4_playTwo_54 ?_
  refine g_putf (pc := 55) F fl_X4_97 dX4_playTwo_55 rfl (Nat.le_of_ble_eq_true rfl) ?_
  refine g_aload_n (pc := 58) F dX4_playTwo_58 rfl ?_
  refine g_getf (pc := 59) F fl_X4_16 dX4_playTwo_59 rfl rfl ?_
  refine g_iload (pc := 62) F dX4_playTwo_62 rfl ?_
  refine g_if_eq (pc := 64) F dX4_playTwo_64 (tgt := 71) rfl (fun c_64 => ?_) (fun c_64 => absurd (by decide) c_64)
  refine g_iconst (pc := 71) F dX4_playTwo_71 (v := nI 1) rfl ?_
  refine g_iload_n (pc := 72) F dX4_playTwo_72 rfl ?_
  refine g_ishl (pc := 73) F dX4_playTwo_73 ?_
  refine g_iload (pc := 74) F dX4_playTwo_74 rfl ?_
  refine g_if_eq (pc := 76) F dX4_playTwo_76 (tgt := 83) rfl (fun c_76 => absurd c_76 (by decide)) (fun c_76 => ?_)
  refine g_iconst (pc := 79) F dX4_playTwo_79 (v := nI 0) rfl ?_
  refine g_goto (pc := 80) F dX4_playTwo_80 (tgt := 86) rfl ?_
  refine g_ior (pc := 86) F dX4_playTwo_86 ?_
  refine g_putf (pc := 87) F fl_X4_291 dX4_playTwo_87 rfl (Nat.le_of_ble_eq_true rfl) ?_
  show Go K 0 0 90 _ _ (mW X (sWr (sR Y2 (dR Y2 &&& (((nI 1 <<< (nI a &&& 31)) ||| (nI 1 <<< (nI c &&& 31))) ^^^ (-1)))) ((nI 1 <<< (nI a &&& 31)) ||| (nI 0))) Z im S g h)
  refine g_aload_n (pc := 90) F dX4_playTwo_90 rfl ?_
  refine g_getf (pc := 91) F fl_X4_16 dX4_playTwo_91 rfl rfl ?_
  refine g_iconst (pc := 94) F dX4_playTwo_94 (v := nI 5) rfl ?_
  refine h_callV (pc := 95) F (c_passDays _ _ (twR r a c 0 1) _ 5 (Rel_tw hY2 hI ha hc (by decide) (by decide) rfl (wrB_1 a (by omega) c (by omega))) (Iv_tw hI) rfl (by omega)) mi_X0_passDays kv_X4_170 rfl rfl dX4_playTwo_95 [9, 10, 11, 12, 13, 14, 15, 16] sub_mind (by decide) (by decide) rfl rfl (Nat.le_of_ble_eq_true rfl) (by decide) (by decide) ?_
  rintro _ _ ⟨rfl, Y3, rfl, hY3⟩ -
  rw [place_mind]
  have eM1 : dB Y3 a = daysR (twR r a c 0 1) 5 (ix a 4) := (hY3.2.2.2 a (by rw [many_of (daysR_ok (Iv_tw hI) 5).2.1, many_tw]; exact ha)).2.2.2.2
  have eM2 : dB Y3 c = daysR (twR r a c 0 1) 5 (ix c 4) := (hY3.2.2.2 c (by rw [many_of (daysR_ok (Iv_tw hI) 5).2.1, many_tw]; exact hc)).2.2.2.2
  have eX1 : dB X a = r (ix a 4) := (hR.2.2.2 a ha).2.2.2.2
  have eX2 : dB X c = r (ix c 4) := (hR.2.2.2 c hc).2.2.2.2
  refine g_iload (pc := 98) F dX4_playTwo_98 rfl ?_
  refine g_if_ne (pc := 100) F dX4_playTwo_100 (tgt := 113) rfl (fun c_100 => absurd (by decide) c_100) (fun c_100 => ?_)
  refine g_iload (pc := 103) F dX4_playTwo_103 rfl ?_
  refine g_if_eq (pc := 105) F dX4_playTwo_105 (tgt := 113) rfl (fun c_105 => absurd c_105 (by decide)) (fun c_105 => ?_)
  refine g_bipush (pc := 108) F dX4_playTwo_108 (v := nI 20) rfl ?_
  refine g_goto (pc := 110) F dX4_playTwo_110 (tgt := 114) rfl ?_
  refine g_istore (pc := 114) F dX4_playTwo_114 (by decide) ?_
  refine g_iload (pc := 116) F dX4_playTwo_116 rfl ?_
  refine g_if_ne (pc := 118) F dX4_playTwo_118 (tgt := 131) rfl (fun c_118 => ?_) (fun c_118 => absurd c_118 (by decide))
  refine g_iconst (pc := 131) F dX4_playTwo_131 (v := nI 0) rfl ?_
  refine g_istore (pc := 132) F dX4_playTwo_132 (by decide) ?_
  refine g_aload_n (pc := 134) F dX4_playTwo_134 rfl ?_
  refine g_getf (pc := 135) F fl_X4_32 dX4_playTwo_135 rfl rfl ?_
  refine g_iload_n (pc := 138) F dX4_playTwo_138 rfl ?_
  refine g_aload_n (pc := 139) F dX4_playTwo_139 rfl ?_
  refine g_getf (pc := 140) F fl_X4_16 dX4_playTwo_140 rfl rfl ?_
  refine g_getf (pc := 143) F fl_X4_94 dX4_playTwo_143 rfl rfl ?_
  refine g_iload_n (pc := 146) F dX4_playTwo_146 rfl ?_
  refine g_iald2 (pc := 147) F dX4_playTwo_147 rfl rfl (by first | omega | (simp only [ix]; omega)) (by decide) ?_
  refine g_aload_n (pc := 148) F dX4_playTwo_148 rfl ?_
  refine g_getf (pc := 149) F fl_X4_12 dX4_playTwo_149 rfl rfl ?_
  refine g_getf (pc := 152) F fl_X4_94 dX4_playTwo_152 rfl rfl ?_
  refine g_iload_n (pc := 155) F dX4_playTwo_155 rfl ?_
  refine g_iald2 (pc := 156) F dX4_playTwo_156 rfl rfl (by first | omega | (simp only [ix]; omega)) (by decide) ?_
  refine g_isub (pc := 157) F dX4_playTwo_157 ?_
  refine g_iload (pc := 158) F dX4_playTwo_158 rfl ?_
  refine g_isub (pc := 160) F dX4_playTwo_160 ?_
  refine g_iast2 (pc := 161) F dX4_playTwo_161 rfl rfl (by first | omega | (simp only [ix]; omega)) (by decide) ?_
  refine g_aload_n (pc := 162) F dX4_playTwo_162 rfl ?_
  refine g_getf (pc := 163) F fl_X4_36 dX4_playTwo_163 rfl rfl ?_
  refine g_iload_n (pc := 166) F dX4_playTwo_166 rfl ?_
  refine g_aload_n (pc := 167) F dX4_playTwo_167 rfl ?_
  refine g_getf (pc := 168) F fl_X4_16 dX4_playTwo_168 rfl rfl ?_
  refine g_getf (pc := 171) F fl_X4_94 dX4_playTwo_171 rfl rfl ?_
  refine g_iload_n (pc := 174) F dX4_playTwo_174 rfl ?_
  refine g_iald2 (pc := 175) F dX4_playTwo_175 rfl rfl (by first | omega | (simp only [ix]; omega)) (by decide) ?_
  refine g_aload_n (pc := 176) F dX4_playTwo_176 rfl ?_
  refine g_getf (pc := 177) F fl_X4_12 dX4_playTwo_177 rfl rfl ?_
  refine g_getf (pc := 180) F fl_X4_94 dX4_playTwo_180 rfl rfl ?_
  refine g_iload_n (pc := 183) F dX4_playTwo_183 rfl ?_
  refine g_iald2 (pc := 184) F dX4_playTwo_184 rfl rfl (by first | omega | (simp only [ix]; omega)) (by decide) ?_
  refine g_isub (pc := 185) F dX4_playTwo_185 ?_
  refine g_iload (pc := 186) F dX4_playTwo_186 rfl ?_
  refine g_isub (pc := 188) F dX4_playTwo_188 ?_
  refine g_iast2 (pc := 189) F dX4_playTwo_189 rfl rfl (by first | omega | (simp only [ix]; omega)) (by decide) ?_
  exact g_vret (pc := 190) F X0 dX4_playTwo_190 (Nat.le_of_ble_eq_true rfl) (Nat.le_of_ble_eq_true rfl) rfl ⟨rfl, Y3, congrArg (fun z : Int32 × Int32 => mW X Y3 Z im S (upd g 1 z.1) (upd h 1 z.2)) (show (((dB Y3 a - dB X a) - nI 20, (dB Y3 c - dB X c) - nI 0) : Int32 × Int32) = (hbV r a c a 0 1, hbV r a c c 0 1) from Prod.ext (show (dB Y3 a - dB X a) - nI 20 = hbV r a c a 0 1 from by rw [eM1, eX1]; exact (if_pos (Or.inl ⟨rfl, rfl, rfl⟩)).symm) (show (dB Y3 c - dB X c) - nI 0 = hbV r a c c 0 1 from by rw [eM2, eX2, sub_n0]; exact (if_neg (fun z => z.elim (fun z => hac z.1.symm) (fun z => absurd z.2 (by decide)))).symm))⟩

theorem wrB_2 : ∀ a, a < 6 → ∀ c, c < 6 → (nI 0) ||| (nI 1 <<< (nI c &&& 31)) = wrB a c 1 0 := by decide +kernel
set_option maxRecDepth 100000 in
set_option maxHeartbeats 800000 in
theorem c_playTwo_2 (b : Int32) (X Y Z : DX) (im : Int32) (S : Nat → SX) (g h : Nat → Int32) (r : Nat → Int32) (hR : Rel b X r) (hI : Iv r) (h4 : r 4 = nI 0) (a c : Nat) (ha : a < many r) (hc : c < many r) (hac : ¬ a = c) : Ctr yX4_playTwo cX4_playTwo 8 none 6 0 0 [.ref 0, .int (nI a), .int (nI c), .int (nI 2)] (mW X Y Z im S g h) (fun v hh => v = none ∧ ∃ Y3, hh = mW X Y3 Z im S (upd g 2 (hbV r a c a 1 0)) (upd h 2 (hbV r a c c 1 0))) := by
  have hm6 := hI.1.2
  refine Ctr.of rfl (Nat.le_of_ble_eq_true rfl) ⟨clS_of rfl, mW_cl _ _ _ _ _ _ _⟩ (fun K F X0 => ?_)
  show Go K 0 0 0 [(0, .ref 0), (1, .int (nI a)), (2, .int (nI c)), (3, .int (nI 2))] [] (mW X Y Z im S g h)
  refine g_iload_n (pc := 0) F dX4_playTwo_0 rfl ?_
  refine g_iconst (pc := 1) F dX4_playTwo_1 (v := nI 2) rfl ?_
  refine g_iand (pc := 2) F dX4_playTwo_2 ?_
  refine g_if_eq (pc := 3) F dX4_playTwo_3 (tgt := 10) rfl (fun c_3 => absurd c_3 (by decide)) (fun c_3 => ?_)
  refine g_iconst (pc := 6) F dX4_playTwo_6 (v := nI 1) rfl ?_
  refine g_goto (pc := 7) F dX4_playTwo_7 (tgt := 11) rfl ?_
  refine g_istore (pc := 11) F dX4_playTwo_11 (by decide) ?_
  refine g_iload_n (pc := 13) F dX4_playTwo_13 rfl ?_
  refine g_iconst (pc := 14) F dX4_playTwo_14 (v := nI 1) rfl ?_
  refine g_iand (pc := 15) F dX4_playTwo_15 ?_
  refine g_if_eq (pc := 16) F dX4_playTwo_16 (tgt := 23) rfl (fun c_16 => ?_) (fun c_16 => absurd (by decide) c_16)
  refine g_iconst (pc := 23) F dX4_playTwo_23 (v := nI 0) rfl ?_
  refine g_istore (pc := 24) F dX4_playTwo_24 (by decide) ?_
  refine g_aload_n (pc := 26) F dX4_playTwo_26 rfl ?_
  refine g_getf (pc := 27) F fl_X4_16 dX4_playTwo_27 rfl rfl ?_
  refine g_aload_n (pc := 30) F dX4_playTwo_30 rfl ?_
  refine g_getf (pc := 31) F fl_X4_12 dX4_playTwo_31 rfl rfl ?_
  refine h_callV (pc := 34) F (c_becomes b Y X r hR hI h4) mi_X0_becomes kv_X4_57 rfl rfl dX4_playTwo_34 [9, 10, 11, 12, 13, 14, 15, 16, 1, 2, 3, 4, 5, 6, 7, 8] sub_mn (by decide) (by decide) rfl rfl (Nat.le_of_ble_eq_true rfl) (by decide) (by decide) ?_
  rintro _ _ ⟨rfl, Y2, rfl, hY2⟩ -
  rw [place_mn]
  refine g_aload_n (pc := 37) F dX4_playTwo_37 rfl ?_
  refine g_getf (pc := 38) F fl_X4_16 dX4_playTwo_38 rfl rfl ?_
  refine g_dup (pc := 41) F dX4_playTwo_41 rfl ?_
  refine g_getf (pc := 42) F fl_X4_97 dX4_playTwo_42 rfl rfl ?_
  refine g_iconst (pc := 45) F dX4_playTwo_45 (v := nI 1) rfl ?_
  refine g_iload_n (pc := 46) F dX4_playTwo_46 rfl ?_
  refine g_ishl (pc := 47) F dX4_playTwo_47 ?_
  refine g_iconst (pc := 48) F dX4_playTwo_48 (v := nI 1) rfl ?_
  refine g_iload_n (pc := 49) F dX4_playTwo_49 rfl ?_
  refine g_ishl (pc := 50) F dX4_playTwo_50 ?_
  refine g_ior (pc := 51) F dX4_playTwo_51 ?_
  refine g_iconst (pc := 52) F dX4_playTwo_52 (v := (-1 : Int32)) (by decide) ?_
  refine g_ixor (pc := 53) F dX4_playTwo_53 ?_
  refine g_iand (pc := 54) F dX4_playTwo_54 ?_
  refine g_putf (pc := 55) F fl_X4_97 dX4_playTwo_55 rfl (Nat.le_of_ble_eq_true rfl) ?_
  refine g_aload_n (pc := 58) F dX4_playTwo_58 rfl ?_
  refine g_getf (pc := 59) F fl_X4_16 dX4_playTwo_59 rfl rfl ?_
  refine g_iload (pc := 62) F dX4_playTwo_62 rfl ?_
  refine g_if_eq (pc := 64) F dX4_playTwo_64 (tgt := 71) rfl (fun c_64 => absurd c_64 (by decide)) (fun c_64 => ?_)
  refine g_iconst (pc := 67) F dX4_playTwo_67 (v := nI 0) rfl ?_
  refine g_goto (pc := 68) F dX4_playTwo_68 (tgt := 74) rfl ?_
  refine g_iload (pc := 74) F dX4_playTwo_74 rfl ?_
  refine g_if_eq (pc := 76) F dX4_playTwo_76 (tgt := 83) rfl (fun c_76 => ?_) (fun c_76 => absurd (by decide) c_76)
  refine g_iconst (pc := 83) F dX4_playTwo_83 (v := nI 1) rfl ?_
  refine g_iload_n (pc := 84) F dX4_playTwo_84 rfl ?_
  refine g_ishl (pc := 85) F dX4_playTwo_85 ?_
  refine g_ior (pc := 86) F dX4_playTwo_86 ?_
  refine g_putf (pc := 87) F fl_X4_291 dX4_playTwo_87 rfl (Nat.le_of_ble_eq_true rfl) ?_
  show Go K 0 0 90 _ _ (mW X (sWr (sR Y2 (dR Y2 &&& (((nI 1 <<< (nI a &&& 31)) ||| (nI 1 <<< (nI c &&& 31))) ^^^ (-1)))) ((nI 0) ||| (nI 1 <<< (nI c &&& 31)))) Z im S g h)
  refine g_aload_n (pc := 90) F dX4_playTwo_90 rfl ?_
  refine g_getf (pc := 91) F fl_X4_16 dX4_playTwo_91 rfl rfl ?_
  refine g_iconst (pc := 94) F dX4_playTwo_94 (v := nI 5) rfl ?_
  refine h_callV (pc := 95) F (c_passDays _ _ (twR r a c 1 0) _ 5 (Rel_tw hY2 hI ha hc (by decide) (by decide) rfl (wrB_2 a (by omega) c (by omega))) (Iv_tw hI) rfl (by omega)) mi_X0_passDays kv_X4_170 rfl rfl dX4_playTwo_95 [9, 10, 11, 12, 13, 14, 15, 16] sub_mind (by decide) (by decide) rfl rfl (Nat.le_of_ble_eq_true rfl) (by decide) (by decide) ?_
  rintro _ _ ⟨rfl, Y3, rfl, hY3⟩ -
  rw [place_mind]
  have eM1 : dB Y3 a = daysR (twR r a c 1 0) 5 (ix a 4) := (hY3.2.2.2 a (by rw [many_of (daysR_ok (Iv_tw hI) 5).2.1, many_tw]; exact ha)).2.2.2.2
  have eM2 : dB Y3 c = daysR (twR r a c 1 0) 5 (ix c 4) := (hY3.2.2.2 c (by rw [many_of (daysR_ok (Iv_tw hI) 5).2.1, many_tw]; exact hc)).2.2.2.2
  have eX1 : dB X a = r (ix a 4) := (hR.2.2.2 a ha).2.2.2.2
  have eX2 : dB X c = r (ix c 4) := (hR.2.2.2 c hc).2.2.2.2
  refine g_iload (pc := 98) F dX4_playTwo_98 rfl ?_
  refine g_if_ne (pc := 100) F dX4_playTwo_100 (tgt := 113) rfl (fun c_100 => ?_) (fun c_100 => absurd c_100 (by decide))
  refine g_iconst (pc := 113) F dX4_playTwo_113 (v := nI 0) rfl ?_
  refine g_istore (pc := 114) F dX4_playTwo_114 (by decide) ?_
  refine g_iload (pc := 116) F dX4_playTwo_116 rfl ?_
  refine g_if_ne (pc := 118) F dX4_playTwo_118 (tgt := 131) rfl (fun c_118 => absurd (by decide) c_118) (fun c_118 => ?_)
  refine g_iload (pc := 121) F dX4_playTwo_121 rfl ?_
  refine g_if_eq (pc := 123) F dX4_playTwo_123 (tgt := 131) rfl (fun c_123 => absurd c_123 (by decide)) (fun c_123 => ?_)
  refine g_bipush (pc := 126) F dX4_playTwo_126 (v := nI 20) rfl ?_
  refine g_goto (pc := 128) F dX4_playTwo_128 (tgt := 132) rfl ?_
  refine g_istore (pc := 132) F dX4_playTwo_132 (by decide) ?_
  refine g_aload_n (pc := 134) F dX4_playTwo_134 rfl ?_
  refine g_getf (pc := 135) F fl_X4_32 dX4_playTwo_135 rfl rfl ?_
  refine g_iload_n (pc := 138) F dX4_playTwo_138 rfl ?_
  refine g_aload_n (pc := 139) F dX4_playTwo_139 rfl ?_
  refine g_getf (pc := 140) F fl_X4_16 dX4_playTwo_140 rfl rfl ?_
  refine g_getf (pc := 143) F fl_X4_94 dX4_playTwo_143 rfl rfl ?_
  refine g_iload_n (pc := 146) F dX4_playTwo_146 rfl ?_
  refine g_iald2 (pc := 147) F dX4_playTwo_147 rfl rfl (by first | omega | (simp only [ix]; omega)) (by decide) ?_
  refine g_aload_n (pc := 148) F dX4_playTwo_148 rfl ?_
  refine g_getf (pc := 149) F fl_X4_12 dX4_playTwo_149 rfl rfl ?_
  refine g_getf (pc := 152) F fl_X4_94 dX4_playTwo_152 rfl rfl ?_
  refine g_iload_n (pc := 155) F dX4_playTwo_155 rfl ?_
  refine g_iald2 (pc := 156) F dX4_playTwo_156 rfl rfl (by first | omega | (simp only [ix]; omega)) (by decide) ?_
  refine g_isub (pc := 157) F dX4_playTwo_157 ?_
  refine g_iload (pc := 158) F dX4_playTwo_158 rfl ?_
  refine g_isub (pc := 160) F dX4_playTwo_160 ?_
  refine g_iast2 (pc := 161) F dX4_playTwo_161 rfl rfl (by first | omega | (simp only [ix]; omega)) (by decide) ?_
  refine g_aload_n (pc := 162) F dX4_playTwo_162 rfl ?_
  refine g_getf (pc := 163) F fl_X4_36 dX4_playTwo_163 rfl rfl ?_
  refine g_iload_n (pc := 166) F dX4_playTwo_166 rfl ?_
  refine g_aload_n (pc := 167) F dX4_playTwo_167 rfl ?_
  refine g_getf (pc := 168) F fl_X4_16 dX4_playTwo_168 rfl rfl ?_
  refine g_getf (pc := 171) F fl_X4_94 dX4_playTwo_171 rfl rfl ?_
  refine g_iload_n (pc := 174) F dX4_playTwo_174 rfl ?_
  refine g_iald2 (pc := 175) F dX4_playTwo_175 rfl rfl (by first | omega | (simp only [ix]; omega)) (by decide) ?_
  refine g_aload_n (pc := 176) F dX4_playTwo_176 rfl ?_
  refine g_getf (pc := 177) F fl_X4_12 dX4_playTwo_177 rfl rfl ?_
  refine g_getf (pc := 180) F fl_X4_94 dX4_playTwo_180 rfl rfl ?_
  refine g_iload_n (pc := 183) F dX4_playTwo_183 rfl ?_
  refine g_iald2 (pc := 184) F dX4_playTwo_184 rfl rfl (by first | omega | (simp only [ix]; omega)) (by decide) ?_
  refine g_isub (pc := 185) F dX4_playTwo_185 ?_
  refine g_iload (pc := 186) F dX4_playTwo_186 rfl ?_
  refine g_isub (pc := 188) F dX4_playTwo_188 ?_
  refine g_iast2 (pc := 189) F dX4_playTwo_189 rfl rfl (by first | omega | (simp only [ix]; omega)) (by decide) ?_
  exact g_vret (pc := 190) F X0 dX4_playTwo_190 (Nat.le_of_ble_eq_true rfl) (Nat.le_of_ble_eq_true rfl) rfl ⟨rfl, Y3, congrArg (fun z : Int32 × Int32 => mW X Y3 Z im S (upd g 2 z.1) (upd h 2 z.2)) (show (((dB Y3 a - dB X a) - nI 0, (dB Y3 c - dB X c) - nI 20) : Int32 × Int32) = (hbV r a c a 1 0, hbV r a c c 1 0) from Prod.ext (show (dB Y3 a - dB X a) - nI 0 = hbV r a c a 1 0 from by rw [eM1, eX1, sub_n0]; exact (if_neg (fun z => z.elim (fun z => absurd z.2 (by decide)) (fun z => z.1 rfl))).symm) (show (dB Y3 c - dB X c) - nI 20 = hbV r a c c 1 0 from by rw [eM2, eX2]; exact (if_pos (Or.inr ⟨fun z => hac z.symm, rfl, rfl⟩)).symm))⟩

theorem wrB_3 : ∀ a, a < 6 → ∀ c, c < 6 → (nI 0) ||| (nI 0) = wrB a c 1 1 := by decide +kernel
set_option maxRecDepth 100000 in
set_option maxHeartbeats 800000 in
theorem c_playTwo_3 (b : Int32) (X Y Z : DX) (im : Int32) (S : Nat → SX) (g h : Nat → Int32) (r : Nat → Int32) (hR : Rel b X r) (hI : Iv r) (h4 : r 4 = nI 0) (a c : Nat) (ha : a < many r) (hc : c < many r) (hac : ¬ a = c) : Ctr yX4_playTwo cX4_playTwo 8 none 6 0 0 [.ref 0, .int (nI a), .int (nI c), .int (nI 3)] (mW X Y Z im S g h) (fun v hh => v = none ∧ ∃ Y3, hh = mW X Y3 Z im S (upd g 3 (hbV r a c a 1 1)) (upd h 3 (hbV r a c c 1 1))) := by
  have hm6 := hI.1.2
  refine Ctr.of rfl (Nat.le_of_ble_eq_true rfl) ⟨clS_of rfl, mW_cl _ _ _ _ _ _ _⟩ (fun K F X0 => ?_)
  show Go K 0 0 0 [(0, .ref 0), (1, .int (nI a)), (2, .int (nI c)), (3, .int (nI 3))] [] (mW X Y Z im S g h)
  refine g_iload_n (pc := 0) F dX4_playTwo_0 rfl ?_
  refine g_iconst (pc := 1) F dX4_playTwo_1 (v := nI 2) rfl ?_
  refine g_iand (pc := 2) F dX4_playTwo_2 ?_
  refine g_if_eq (pc := 3) F dX4_playTwo_3 (tgt := 10) rfl (fun c_3 => absurd c_3 (by decide)) (fun c_3 => ?_)
  refine g_iconst (pc := 6) F dX4_playTwo_6 (v := nI 1) rfl ?_
  refine g_goto (pc := 7) F dX4_playTwo_7 (tgt := 11) rfl ?_
  refine g_istore (pc := 11) F dX4_playTwo_11 (by decide) ?_
  refine g_iload_n (pc := 13) F dX4_playTwo_13 rfl ?_
  refine g_iconst (pc := 14) F dX4_playTwo_14 (v := nI 1) rfl ?_
  refine g_iand (pc := 15) F dX4_playTwo_15 ?_
  refine g_if_eq (pc := 16) F dX4_playTwo_16 (tgt := 23) rfl (fun c_16 => absurd c_16 (by decide)) (fun c_16 => ?_)
  refine g_iconst (pc := 19) F dX4_playTwo_19 (v := nI 1) rfl ?_
  refine g_goto (pc := 20) F dX4_playTwo_20 (tgt := 24) rfl ?_
  refine g_istore (pc := 24) F dX4_playTwo_24 (by decide) ?_
  refine g_aload_n (pc := 26) F dX4_playTwo_26 rfl ?_
  refine g_getf (pc := 27) F fl_X4_16 dX4_playTwo_27 rfl rfl ?_
  refine g_aload_n (pc := 30) F dX4_playTwo_30 rfl ?_
  refine g_getf (pc := 31) F fl_X4_12 dX4_playTwo_31 rfl rfl ?_
  refine h_callV (pc := 34) F (c_becomes b Y X r hR hI h4) mi_X0_becomes kv_X4_57 rfl rfl dX4_playTwo_34 [9, 10, 11, 12, 13, 14, 15, 16, 1, 2, 3, 4, 5, 6, 7, 8] sub_mn (by decide) (by decide) rfl rfl (Nat.le_of_ble_eq_true rfl) (by decide) (by decide) ?_
  rintro _ _ ⟨rfl, Y2, rfl, hY2⟩ -
  rw [place_mn]
  refine g_aload_n (pc := 37) F dX4_playTwo_37 rfl ?_
  refine g_getf (pc := 38) F fl_X4_16 dX4_playTwo_38 rfl rfl ?_
  refine g_dup (pc := 41) F dX4_playTwo_41 rfl ?_
  refine g_getf (pc := 42) F fl_X4_97 dX4_playTwo_42 rfl rfl ?_
  refine g_iconst (pc := 45) F dX4_playTwo_45 (v := nI 1) rfl ?_
  refine g_iload_n (pc := 46) F dX4_playTwo_46 rfl ?_
  refine g_ishl (pc := 47) F dX4_playTwo_47 ?_
  refine g_iconst (pc := 48) F dX4_playTwo_48 (v := nI 1) rfl ?_
  refine g_iload_n (pc := 49) F dX4_playTwo_49 rfl ?_
  refine g_ishl (pc := 50) F dX4_playTwo_50 ?_
  refine g_ior (pc := 51) F dX4_playTwo_51 ?_
  refine g_iconst (pc := 52) F dX4_playTwo_52 (v := (-1 : Int32)) (by decide) ?_
  refine g_ixor (pc := 53) F dX4_playTwo_53 ?_
  refine g_iand (pc := 54) F dX4_playTwo_54 ?_
  refine g_putf (pc := 55) F fl_X4_97 dX4_playTwo_55 rfl (Nat.le_of_ble_eq_true rfl) ?_
  refine g_aload_n (pc := 58) F dX4_playTwo_58 rfl ?_
  refine g_getf (pc := 59) F fl_X4_16 dX4_playTwo_59 rfl rfl ?_
  refine g_iload (pc := 62) F dX4_playTwo_62 rfl ?_
  refine g_if_eq (pc := 64) F dX4_playTwo_64 (tgt := 71) rfl (fun c_64 => absurd c_64 (by decide)) (fun c_64 => ?_)
  refine g_iconst (pc := 67) F dX4_playTwo_67 (v := nI 0) rfl ?_
  refine g_goto (pc := 68) F dX4_playTwo_68 (tgt := 74) rfl ?_
  refine g_iload (pc := 74) F dX4_playTwo_74 rfl ?_
  refine g_if_eq (pc := 76) F dX4_playTwo_76 (tgt := 83) rfl (fun c_76 => absurd c_76 (by decide)) (fun c_76 => ?_)
  refine g_iconst (pc := 79) F dX4_playTwo_79 (v := nI 0) rfl ?_
  refine g_goto (pc := 80) F dX4_playTwo_80 (tgt := 86) rfl ?_
  refine g_ior (pc := 86) F dX4_playTwo_86 ?_
  refine g_putf (pc := 87) F fl_X4_291 dX4_playTwo_87 rfl (Nat.le_of_ble_eq_true rfl) ?_
  show Go K 0 0 90 _ _ (mW X (sWr (sR Y2 (dR Y2 &&& (((nI 1 <<< (nI a &&& 31)) ||| (nI 1 <<< (nI c &&& 31))) ^^^ (-1)))) ((nI 0) ||| (nI 0))) Z im S g h)
  refine g_aload_n (pc := 90) F dX4_playTwo_90 rfl ?_
  refine g_getf (pc := 91) F fl_X4_16 dX4_playTwo_91 rfl rfl ?_
  refine g_iconst (pc := 94) F dX4_playTwo_94 (v := nI 5) rfl ?_
  refine h_callV (pc := 95) F (c_passDays _ _ (twR r a c 1 1) _ 5 (Rel_tw hY2 hI ha hc (by decide) (by decide) rfl (wrB_3 a (by omega) c (by omega))) (Iv_tw hI) rfl (by omega)) mi_X0_passDays kv_X4_170 rfl rfl dX4_playTwo_95 [9, 10, 11, 12, 13, 14, 15, 16] sub_mind (by decide) (by decide) rfl rfl (Nat.le_of_ble_eq_true rfl) (by decide) (by decide) ?_
  rintro _ _ ⟨rfl, Y3, rfl, hY3⟩ -
  rw [place_mind]
  have eM1 : dB Y3 a = daysR (twR r a c 1 1) 5 (ix a 4) := (hY3.2.2.2 a (by rw [many_of (daysR_ok (Iv_tw hI) 5).2.1, many_tw]; exact ha)).2.2.2.2
  have eM2 : dB Y3 c = daysR (twR r a c 1 1) 5 (ix c 4) := (hY3.2.2.2 c (by rw [many_of (daysR_ok (Iv_tw hI) 5).2.1, many_tw]; exact hc)).2.2.2.2
  have eX1 : dB X a = r (ix a 4) := (hR.2.2.2 a ha).2.2.2.2
  have eX2 : dB X c = r (ix c 4) := (hR.2.2.2 c hc).2.2.2.2
  refine g_iload (pc := 98) F dX4_playTwo_98 rfl ?_
  refine g_if_ne (pc := 100) F dX4_playTwo_100 (tgt := 113) rfl (fun c_100 => ?_) (fun c_100 => absurd c_100 (by decide))
  refine g_iconst (pc := 113) F dX4_playTwo_113 (v := nI 0) rfl ?_
  refine g_istore (pc := 114) F dX4_playTwo_114 (by decide) ?_
  refine g_iload (pc := 116) F dX4_playTwo_116 rfl ?_
  refine g_if_ne (pc := 118) F dX4_playTwo_118 (tgt := 131) rfl (fun c_118 => ?_) (fun c_118 => absurd c_118 (by decide))
  refine g_iconst (pc := 131) F dX4_playTwo_131 (v := nI 0) rfl ?_
  refine g_istore (pc := 132) F dX4_playTwo_132 (by decide) ?_
  refine g_aload_n (pc := 134) F dX4_playTwo_134 rfl ?_
  refine g_getf (pc := 135) F fl_X4_32 dX4_playTwo_135 rfl rfl ?_
  refine g_iload_n (pc := 138) F dX4_playTwo_138 rfl ?_
  refine g_aload_n (pc := 139) F dX4_playTwo_139 rfl ?_
  refine g_getf (pc := 140) F fl_X4_16 dX4_playTwo_140 rfl rfl ?_
  refine g_getf (pc := 143) F fl_X4_94 dX4_playTwo_143 rfl rfl ?_
  refine g_iload_n (pc := 146) F dX4_playTwo_146 rfl ?_
  refine g_iald2 (pc := 147) F dX4_playTwo_147 rfl rfl (by first | omega | (simp only [ix]; omega)) (by decide) ?_
  refine g_aload_n (pc := 148) F dX4_playTwo_148 rfl ?_
  refine g_getf (pc := 149) F fl_X4_12 dX4_playTwo_149 rfl rfl ?_
  refine g_getf (pc := 152) F fl_X4_94 dX4_playTwo_152 rfl rfl ?_
  refine g_iload_n (pc := 155) F dX4_playTwo_155 rfl ?_
  refine g_iald2 (pc := 156) F dX4_playTwo_156 rfl rfl (by first | omega | (simp only [ix]; omega)) (by decide) ?_
  refine g_isub (pc := 157) F dX4_playTwo_157 ?_
  refine g_iload (pc := 158) F dX4_playTwo_158 rfl ?_
  refine g_isub (pc := 160) F dX4_playTwo_160 ?_
  refine g_iast2 (pc := 161) F dX4_playTwo_161 rfl rfl (by first | omega | (simp only [ix]; omega)) (by decide) ?_
  refine g_aload_n (pc := 162) F dX4_playTwo_162 rfl ?_
  refine g_getf (pc := 163) F fl_X4_36 dX4_playTwo_163 rfl rfl ?_
  refine g_iload_n (pc := 166) F dX4_playTwo_166 rfl ?_
  refine g_aload_n (pc := 167) F dX4_playTwo_167 rfl ?_
  refine g_getf (pc := 168) F fl_X4_16 dX4_playTwo_168 rfl rfl ?_
  refine g_getf (pc := 171) F fl_X4_94 dX4_playTwo_171 rfl rfl ?_
  refine g_iload_n (pc := 174) F dX4_playTwo_174 rfl ?_
  refine g_iald2 (pc := 175) F dX4_playTwo_175 rfl rfl (by first | omega | (simp only [ix]; omega)) (by decide) ?_
  refine g_aload_n (pc := 176) F dX4_playTwo_176 rfl ?_
  refine g_getf (pc := 177) F fl_X4_12 dX4_playTwo_177 rfl rfl ?_
  refine g_getf (pc := 180) F fl_X4_94 dX4_playTwo_180 rfl rfl ?_
  refine g_iload_n (pc := 183) F dX4_playTwo_183 rfl ?_
  refine g_iald2 (pc := 184) F dX4_playTwo_184 rfl rfl (by first | omega | (simp only [ix]; omega)) (by decide) ?_
  refine g_isub (pc := 185) F dX4_playTwo_185 ?_
  refine g_iload (pc := 186) F dX4_playTwo_186 rfl ?_
  refine g_isub (pc := 188) F dX4_playTwo_188 ?_
  refine g_iast2 (pc := 189) F dX4_playTwo_189 rfl rfl (by first | omega | (simp only [ix]; omega)) (by decide) ?_
  exact g_vret (pc := 190) F X0 dX4_playTwo_190 (Nat.le_of_ble_eq_true rfl) (Nat.le_of_ble_eq_true rfl) rfl ⟨rfl, Y3, congrArg (fun z : Int32 × Int32 => mW X Y3 Z im S (upd g 3 z.1) (upd h 3 z.2)) (show (((dB Y3 a - dB X a) - nI 0, (dB Y3 c - dB X c) - nI 0) : Int32 × Int32) = (hbV r a c a 1 1, hbV r a c c 1 1) from Prod.ext (show (dB Y3 a - dB X a) - nI 0 = hbV r a c a 1 1 from by rw [eM1, eX1, sub_n0]; exact (if_neg (fun z => z.elim (fun z => absurd z.2 (by decide)) (fun z => z.1 rfl))).symm) (show (dB Y3 c - dB X c) - nI 0 = hbV r a c c 1 1 from by rw [eM2, eX2, sub_n0]; exact (if_neg (fun z => z.elim (fun z => hac z.1.symm) (fun z => absurd z.2 (by decide)))).symm))⟩

theorem c_playTwo (b : Int32) (X Y Z : DX) (im : Int32) (S : Nat → SX) (g h : Nat → Int32) (r : Nat → Int32) (hR : Rel b X r) (hI : Iv r) (h4 : r 4 = nI 0) (a c : Nat) (ha : a < many r) (hc : c < many r) (hac : ¬ a = c) (p : Nat) (hp : p < 4) : Ctr yX4_playTwo cX4_playTwo 8 none 6 0 0 [.ref 0, .int (nI a), .int (nI c), .int (nI p)] (mW X Y Z im S g h) (fun v hh => v = none ∧ ∃ Y3, hh = mW X Y3 Z im S (upd g p (hbV r a c a (p / 2) (p % 2))) (upd h p (hbV r a c c (p / 2) (p % 2)))) := by
  rcases (show p = 0 ∨ p = 1 ∨ p = 2 ∨ p = 3 by omega) with rfl | rfl | rfl | rfl
  · exact c_playTwo_0 b X Y Z im S g h r hR hI h4 a c ha hc hac
  · exact c_playTwo_1 b X Y Z im S g h r hR hI h4 a c ha hc hac
  · exact c_playTwo_2 b X Y Z im S g h r hR hI h4 a c ha hc hac
  · exact c_playTwo_3 b X Y Z im S g h r hR hI h4 a c ha hc hac
def xr2 (i : Nat) : Nat := if i < 2 then i + 2 else i - 2
def xr1 (i : Nat) : Nat := if i % 2 = 0 then i + 1 else i - 1
theorem xr2_ok : ∀ i, i < 4 → (nI i ^^^ nI 2 = nI (xr2 i) ∧ xr2 i < 4) ∧ xr2 i / 2 = 1 - i / 2 ∧ xr2 i % 2 = i % 2 := by decide
theorem xr1_ok : ∀ i, i < 4 → (nI i ^^^ nI 1 = nI (xr1 i) ∧ xr1 i < 4) ∧ xr1 i / 2 = i / 2 ∧ xr1 i % 2 = 1 - i % 2 := by decide
theorem tw_ans : ∀ i, i < 4 → nI 10 * (nI i >>> (nI 1 &&& 31)) + (nI i &&& nI 1) = nI (10 * (i / 2) + i % 2) := by decide
set_option maxRecDepth 100000 in
set_option maxHeartbeats 800000 in
theorem c_two (b : Int32) (X Y Z : DX) (im : Int32) (S : Nat → SX) (g h : Nat → Int32) (r : Nat → Int32) (hR : Rel b X r) (hI : Iv r) (h4 : r 4 = nI 0) (xa xc : Int32) : Ctr yX4_two cX4_two 6 (some .int) 7 0 0 [.ref 0, .int xa, .int xc] (mW X Y Z im S g h) (Look (.int (S_two r xa xc)) X Z im S) := by
  refine Ctr.of rfl (Nat.le_of_ble_eq_true rfl) ⟨clS_of rfl, mW_cl _ _ _ _ _ _ _⟩ (fun K F X0 => ?_)
  show Go K 0 0 0 [(0, .ref 0), (1, .int xa), (2, .int xc)] [] (mW X Y Z im S g h)
  refine g_aload_n (pc := 0) F dX4_two_0 rfl ?_
  refine g_iload_n (pc := 1) F dX4_two_1 rfl ?_
  refine i_readV (pc := 2) F (c_isCorporal b X Y Z im S g h r _ hR hI) mi_X4_isCorporal kv_X4_78 rfl rfl dX4_two_2 (by decide) (by decide) rfl (Nat.le_of_ble_eq_true rfl) (by decide) (by decide) ?_
  refine g_ifeq_d (pc := 5) F dX4_two_5 (tgt := 21) rfl (fun c_5 => ?_) (fun c_5 => ?_)
  · refine g_iconst (pc := 21) F dX4_two_21 (v := (-1 : Int32)) (by decide) ?_
    exact g_iret (pc := 22) F X0 dX4_two_22 (Nat.le_of_ble_eq_true rfl) (Nat.le_of_ble_eq_true rfl) rfl (by first
      | exact ⟨congrArg (fun z => some (Value.int z)) (if_neg (fun z => c_5 z.1)).symm, Y, g, h, rfl⟩
      | exact ⟨congrArg (fun z => some (Value.int z)) (if_neg (fun z => c_13 z.2.1)).symm, Y, g, h, rfl⟩
      | exact ⟨congrArg (fun z => some (Value.int z)) (if_neg (fun z => z.2.2 c_18)).symm, Y, g, h, rfl⟩
      | fail)
  · refine g_aload_n (pc := 8) F dX4_two_8 rfl ?_
    refine g_iload_n (pc := 9) F dX4_two_9 rfl ?_
    refine i_readV (pc := 10) F (c_isCorporal b X Y Z im S g h r _ hR hI) mi_X4_isCorporal kv_X4_78 rfl rfl dX4_two_10 (by decide) (by decide) rfl (Nat.le_of_ble_eq_true rfl) (by decide) (by decide) ?_
    refine g_ifeq_d (pc := 13) F dX4_two_13 (tgt := 21) rfl (fun c_13 => ?_) (fun c_13 => ?_)
    · refine g_iconst (pc := 21) F dX4_two_21 (v := (-1 : Int32)) (by decide) ?_
      exact g_iret (pc := 22) F X0 dX4_two_22 (Nat.le_of_ble_eq_true rfl) (Nat.le_of_ble_eq_true rfl) rfl (by first
      | exact ⟨congrArg (fun z => some (Value.int z)) (if_neg (fun z => c_5 z.1)).symm, Y, g, h, rfl⟩
      | exact ⟨congrArg (fun z => some (Value.int z)) (if_neg (fun z => c_13 z.2.1)).symm, Y, g, h, rfl⟩
      | exact ⟨congrArg (fun z => some (Value.int z)) (if_neg (fun z => z.2.2 c_18)).symm, Y, g, h, rfl⟩
      | fail)
    · refine g_iload_n (pc := 16) F dX4_two_16 rfl ?_
      refine g_iload_n (pc := 17) F dX4_two_17 rfl ?_
      refine g_ic_ne (pc := 18) F dX4_two_18 (tgt := 23) rfl (fun c_18 => ?_) (fun c_18 => ?_)
      · have hm6 := hI.1.2
        obtain ⟨a, ha, rfl⟩ := one_ex hI c_5
        obtain ⟨c, hc, rfl⟩ := one_ex hI c_13
        have hac : ¬ a = c := fun z => c_18 (congrArg nI z)
        have hS2 := S_two_y (by omega) (by omega) c_5 c_13 c_18
        refine g_iconst (pc := 23) F dX4_two_23 (v := nI 0) rfl ?_
        refine g_istore_n (pc := 24) F dX4_two_24 (by decide) ?_
        have L : ∀ i, i ≤ 4 → ∀ Ya ga ha2, (∀ q, q < i → ga q = hbV r a c a (q / 2) (q % 2) ∧ ha2 q = hbV r a c c (q / 2) (q % 2)) → Go K 0 0 25 [(0, .ref 0), (1, .int (nI a)), (2, .int (nI c)), (3, .int (nI (i)))] [] (mW X Ya Z im S ga ha2) := loop_up (P := fun i => ∀ Ya ga ha2, (∀ q, q < i → ga q = hbV r a c a (q / 2) (q % 2) ∧ ha2 q = hbV r a c c (q / 2) (q % 2)) → Go K 0 0 25 [(0, .ref 0), (1, .int (nI a)), (2, .int (nI c)), (3, .int (nI (i)))] [] (mW X Ya Z im S ga ha2)) (fun i hiL ih => by
          intro Ya ga ha2 hg
          refine g_iload_n (pc := 25) F dX4_two_25 rfl ?_
          refine g_aload_n (pc := 26) F dX4_two_26 rfl ?_
          refine g_getf (pc := 27) F fl_X4_32 dX4_two_27 rfl rfl ?_
          refine g_alen (pc := 30) F dX4_two_30 rfl (v := nI 4) rfl ?_
          refine g_icN_ge (pc := 31) F dX4_two_31 (tgt := 47) rfl rfl rfl (by omega) (by omega) (fun c_31 => ?_) (fun c_31 => ?_)
          · obtain rfl : i = 4 := by omega
            refine g_iconst (pc := 47) F dX4_two_47 (v := nI 0) rfl ?_
            refine g_istore_n (pc := 48) F dX4_two_48 (by decide) ?_
            have L2 : ∀ i, i ≤ 4 → S_two r (nI a) (nI c) = twS r a c (4 - i) i → Go K 0 0 49 [(0, .ref 0), (1, .int (nI a)), (2, .int (nI c)), (3, .int (nI (i)))] [] (mW X Ya Z im S ga ha2) := loop_up (P := fun i => S_two r (nI a) (nI c) = twS r a c (4 - i) i → Go K 0 0 49 [(0, .ref 0), (1, .int (nI a)), (2, .int (nI c)), (3, .int (nI (i)))] [] (mW X Ya Z im S ga ha2)) (fun i hiL2 ih2 => by
              intro he
              refine g_iload_n (pc := 49) F dX4_two_49 rfl ?_
              refine g_aload_n (pc := 50) F dX4_two_50 rfl ?_
              refine g_getf (pc := 51) F fl_X4_32 dX4_two_51 rfl rfl ?_
              refine g_alen (pc := 54) F dX4_two_54 rfl (v := nI 4) rfl ?_
              refine g_icN_ge (pc := 55) F dX4_two_55 (tgt := 133) rfl rfl rfl (by omega) (by omega) (fun c_55 => ?_) (fun c_55 => ?_)
              · obtain rfl : i = 4 := by omega
                refine g_bipush (pc := 133) F dX4_two_133 (v := (-4 : Int32)) (by decide) ?_
                exact g_iret (pc := 135) F X0 dX4_two_135 (Nat.le_of_ble_eq_true rfl) (Nat.le_of_ble_eq_true rfl) rfl ⟨congrArg (fun z => some (Value.int z)) (show (-4) = S_two r (nI a) (nI c) from he.symm), Ya, ga, ha2, rfl⟩
              · have hi4 : i < 4 := c_55
                obtain ⟨⟨x1, x2⟩, x3, x4⟩ := xr2_ok i hi4
                obtain ⟨⟨y1, y2⟩, y3, y4⟩ := xr1_ok i hi4
                have e1 := (hg i hi4).1
                have e3 := (hg i hi4).2
                have e2 : ga (xr2 i) = hbV r a c a (1 - i / 2) (i % 2) := by rw [(hg _ x2).1, x3, x4]
                have e4 : ha2 (xr1 i) = hbV r a c c (i / 2) (1 - i % 2) := by rw [(hg _ y2).2, y3, y4]
                refine g_aload_n (pc := 58) F dX4_two_58 rfl ?_
                refine g_getf (pc := 59) F fl_X4_32 dX4_two_59 rfl rfl ?_
                refine g_iload_n (pc := 62) F dX4_two_62 rfl ?_
                refine g_iald2 (pc := 63) F dX4_two_63 rfl rfl hi4 (by decide) ?_
                refine g_aload_n (pc := 64) F dX4_two_64 rfl ?_
                refine g_getf (pc := 65) F fl_X4_32 dX4_two_65 rfl rfl ?_
                refine g_iload_n (pc := 68) F dX4_two_68 rfl ?_
                refine g_iconst (pc := 69) F dX4_two_69 (v := nI 2) rfl ?_
                refine g_ixor (pc := 70) F dX4_two_70 ?_
                refine g_iald2 (pc := 71) F dX4_two_71 rfl x1 x2 (by decide) ?_
                refine g_ic_lt (pc := 72) F dX4_two_72 (tgt := 79) rfl (fun c_72 => ?_) (fun c_72 => ?_)
                · refine g_iconst (pc := 79) F dX4_two_79 (v := nI 0) rfl ?_
                  refine g_istore (pc := 80) F dX4_two_80 (by decide) ?_
                  refine g_aload_n (pc := 82) F dX4_two_82 rfl ?_
                  refine g_getf (pc := 83) F fl_X4_36 dX4_two_83 rfl rfl ?_
                  refine g_iload_n (pc := 86) F dX4_two_86 rfl ?_
                  refine g_iald2 (pc := 87) F dX4_two_87 rfl rfl hi4 (by decide) ?_
                  refine g_aload_n (pc := 88) F dX4_two_88 rfl ?_
                  refine g_getf (pc := 89) F fl_X4_36 dX4_two_89 rfl rfl ?_
                  refine g_iload_n (pc := 92) F dX4_two_92 rfl ?_
                  refine g_iconst (pc := 93) F dX4_two_93 (v := nI 1) rfl ?_
                  refine g_ixor (pc := 94) F dX4_two_94 ?_
                  refine g_iald2 (pc := 95) F dX4_two_95 rfl y1 y2 (by decide) ?_
                  refine g_ic_lt (pc := 96) F dX4_two_96 (tgt := 103) rfl (fun c_96 => ?_) (fun c_96 => ?_)
                  · refine g_iconst (pc := 103) F dX4_two_103 (v := nI 0) rfl ?_
                    refine g_istore (pc := 104) F dX4_two_104 (by decide) ?_
                    refine g_iload (pc := 106) F dX4_two_106 rfl ?_
                    refine g_if_eq (pc := 108) F dX4_two_108 (tgt := 127) rfl (fun c_108 => ?_) (fun c_108 => absurd (by decide) c_108)
                    refine g_iincN (pc := 127) F dX4_two_127 rfl (by decide) ?_
                    refine g_goto (pc := 130) F dX4_two_130 (tgt := 49) rfl ?_
                    refine g_less [0, 1, 2, 3] rfl ?_
                    exact ih2 c_55 (tw_no c_55 he (by first | exact (fun z => z.1 (by rw [e1, e2] at c_72; exact c_72)) | exact (fun z => z.2 (by rw [e3, e4] at c_96; exact c_96)) | fail))
                  · refine g_iconst (pc := 99) F dX4_two_99 (v := nI 1) rfl ?_
                    refine g_goto (pc := 100) F dX4_two_100 (tgt := 104) rfl ?_
                    refine g_istore (pc := 104) F dX4_two_104 (by decide) ?_
                    refine g_iload (pc := 106) F dX4_two_106 rfl ?_
                    refine g_if_eq (pc := 108) F dX4_two_108 (tgt := 127) rfl (fun c_108 => ?_) (fun c_108 => absurd (by decide) c_108)
                    refine g_iincN (pc := 127) F dX4_two_127 rfl (by decide) ?_
                    refine g_goto (pc := 130) F dX4_two_130 (tgt := 49) rfl ?_
                    refine g_less [0, 1, 2, 3] rfl ?_
                    exact ih2 c_55 (tw_no c_55 he (by first | exact (fun z => z.1 (by rw [e1, e2] at c_72; exact c_72)) | exact (fun z => z.2 (by rw [e3, e4] at c_96; exact c_96)) | fail))
                · refine g_iconst (pc := 75) F dX4_two_75 (v := nI 1) rfl ?_
                  refine g_goto (pc := 76) F dX4_two_76 (tgt := 80) rfl ?_
                  refine g_istore (pc := 80) F dX4_two_80 (by decide) ?_
                  refine g_aload_n (pc := 82) F dX4_two_82 rfl ?_
                  refine g_getf (pc := 83) F fl_X4_36 dX4_two_83 rfl rfl ?_
                  refine g_iload_n (pc := 86) F dX4_two_86 rfl ?_
                  refine g_iald2 (pc := 87) F dX4_two_87 rfl rfl hi4 (by decide) ?_
                  refine g_aload_n (pc := 88) F dX4_two_88 rfl ?_
                  refine g_getf (pc := 89) F fl_X4_36 dX4_two_89 rfl rfl ?_
                  refine g_iload_n (pc := 92) F dX4_two_92 rfl ?_
                  refine g_iconst (pc := 93) F dX4_two_93 (v := nI 1) rfl ?_
                  refine g_ixor (pc := 94) F dX4_two_94 ?_
                  refine g_iald2 (pc := 95) F dX4_two_95 rfl y1 y2 (by decide) ?_
                  refine g_ic_lt (pc := 96) F dX4_two_96 (tgt := 103) rfl (fun c_96 => ?_) (fun c_96 => ?_)
                  · refine g_iconst (pc := 103) F dX4_two_103 (v := nI 0) rfl ?_
                    refine g_istore (pc := 104) F dX4_two_104 (by decide) ?_
                    refine g_iload (pc := 106) F dX4_two_106 rfl ?_
                    refine g_if_eq (pc := 108) F dX4_two_108 (tgt := 127) rfl (fun c_108 => absurd c_108 (by decide)) (fun c_108 => ?_)
                    refine g_iload (pc := 111) F dX4_two_111 rfl ?_
                    refine g_if_eq (pc := 113) F dX4_two_113 (tgt := 127) rfl (fun c_113 => ?_) (fun c_113 => absurd (by decide) c_113)
                    refine g_iincN (pc := 127) F dX4_two_127 rfl (by decide) ?_
                    refine g_goto (pc := 130) F dX4_two_130 (tgt := 49) rfl ?_
                    refine g_less [0, 1, 2, 3] rfl ?_
                    exact ih2 c_55 (tw_no c_55 he (by first | exact (fun z => z.1 (by rw [e1, e2] at c_72; exact c_72)) | exact (fun z => z.2 (by rw [e3, e4] at c_96; exact c_96)) | fail))
                  · refine g_iconst (pc := 99) F dX4_two_99 (v := nI 1) rfl ?_
                    refine g_goto (pc := 100) F dX4_two_100 (tgt := 104) rfl ?_
                    refine g_istore (pc := 104) F dX4_two_104 (by decide) ?_
                    refine g_iload (pc := 106) F dX4_two_106 rfl ?_
                    refine g_if_eq (pc := 108) F dX4_two_108 (tgt := 127) rfl (fun c_108 => absurd c_108 (by decide)) (fun c_108 => ?_)
                    refine g_iload (pc := 111) F dX4_two_111 rfl ?_
                    refine g_if_eq (pc := 113) F dX4_two_113 (tgt := 127) rfl (fun c_113 => absurd c_113 (by decide)) (fun c_113 => ?_)
                    refine g_bipush (pc := 116) F dX4_two_116 (v := nI 10) rfl ?_
                    refine g_iload_n (pc := 118) F dX4_two_118 rfl ?_
                    refine g_iconst (pc := 119) F dX4_two_119 (v := nI 1) rfl ?_
                    refine g_ishr (pc := 120) F dX4_two_120 ?_
                    refine g_imul (pc := 121) F dX4_two_121 ?_
                    refine g_iload_n (pc := 122) F dX4_two_122 rfl ?_
                    refine g_iconst (pc := 123) F dX4_two_123 (v := nI 1) rfl ?_
                    refine g_iand (pc := 124) F dX4_two_124 ?_
                    refine g_iadd (pc := 125) F dX4_two_125 ?_
                    exact g_iret (pc := 126) F X0 dX4_two_126 (Nat.le_of_ble_eq_true rfl) (Nat.le_of_ble_eq_true rfl) rfl ⟨congrArg (fun z => some (Value.int z)) ((tw_ans i hi4).trans (tw_yes hi4 he ⟨by rw [e1, e2] at c_72; exact c_72, by rw [e3, e4] at c_96; exact c_96⟩).symm), Ya, ga, ha2, rfl⟩)
            exact L2 0 (Nat.zero_le _) hS2
          · refine g_aload_n (pc := 34) F dX4_two_34 rfl ?_
            refine g_iload_n (pc := 35) F dX4_two_35 rfl ?_
            refine g_iload_n (pc := 36) F dX4_two_36 rfl ?_
            refine g_iload_n (pc := 37) F dX4_two_37 rfl ?_
            refine i_callV (pc := 38) F (c_playTwo b X Ya Z im S ga ha2 r hR hI h4 a c ha hc hac i (by omega)) mi_X4_playTwo kv_X4_216 rfl rfl dX4_two_38 (by decide) (by decide) rfl (Nat.le_of_ble_eq_true rfl) (by decide) (by decide) ?_
            rintro _ _ ⟨rfl, Y3, rfl⟩ -
            refine g_iincN (pc := 41) F dX4_two_41 rfl (by decide) ?_
            refine g_goto (pc := 44) F dX4_two_44 (tgt := 25) rfl ?_
            refine ih c_31 Y3 _ _ (fun q hq => ?_)
            by_cases e : q = i
            · rw [e, upd_at, upd_at]; exact ⟨rfl, rfl⟩
            · rw [upd_ne _ e, upd_ne _ e]; exact hg q (by omega))
        exact L 0 (Nat.zero_le _) Y g h (fun q hq => absurd hq (Nat.not_lt_zero q))
      · refine g_iconst (pc := 21) F dX4_two_21 (v := (-1 : Int32)) (by decide) ?_
        exact g_iret (pc := 22) F X0 dX4_two_22 (Nat.le_of_ble_eq_true rfl) (Nat.le_of_ble_eq_true rfl) rfl (by first
      | exact ⟨congrArg (fun z => some (Value.int z)) (if_neg (fun z => c_5 z.1)).symm, Y, g, h, rfl⟩
      | exact ⟨congrArg (fun z => some (Value.int z)) (if_neg (fun z => c_13 z.2.1)).symm, Y, g, h, rfl⟩
      | exact ⟨congrArg (fun z => some (Value.int z)) (if_neg (fun z => z.2.2 c_18)).symm, Y, g, h, rfl⟩
      | fail)

