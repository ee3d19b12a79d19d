/-! the reference's isDone, desert -/
def IP (B : Nat → Int32) (p : Nat) (s : Nat → Int32) (Wd : (Nat → Int32) → Hp) : Option Value → Hp → Prop := fun v hh => v = some (.int (bI (decide (efP B p s)))) ∧ ∃ s2, hh = Wd s2 ∧ (efP B p s → s2 = efR B p s) ∧ (¬ efP B p s → s2 = s)
theorem ip_n {B : Nat → Int32} {p : Nat} {s : Nat → Int32} {Wd : (Nat → Int32) → Hp} (h : ¬ efP B p s) : IP B p s Wd (some (.int (nI 0))) (Wd s) := ⟨congrArg (fun z => some (Value.int z)) (bI_n h), s, rfl, fun z => absurd z h, fun _ => rfl⟩
theorem ip_y {B : Nat → Int32} {p : Nat} {s s2 : Nat → Int32} {Wd : (Nat → Int32) → Hp} (h : efP B p s) (e : s2 = efR B p s) : IP B p s Wd (some (.int (nI 1))) (Wd s2) := ⟨congrArg (fun z => some (Value.int z)) (bI_y h), s2, rfl, fun _ => e, fun z => absurd h z⟩
theorem one_iff {a n : Nat} (ha : a < 100) (hn : n ≤ 100) : (nI 0 ≤ nI a ∧ nI a ≤ nI n - nI 1) ↔ a < n := by
  constructor
  · intro z
    obtain ⟨q, hq, e⟩ := lt_ex (by omega) z
    have := (nI_eq (by omega) (by omega)).mp e
    omega
  · exact fun z => pl_in z hn
set_option maxRecDepth 100000 in
set_option maxHeartbeats 4000000 in
theorem m_isDone (s m ig ws : Nat → Int32) (hg : Int32) (T : TX) (V : VX) (hI : Iv s) (B : Nat → Int32) (p : Nat) (hl : letP (B p)) (hV : NU B p V.1) : Ctr yX5_isDone cX5_isDone 4 (some .boolean) 6 0 0 [.ref 0, .int (B p)] (rW s m ig ws hg T V) (IP B p s (fun s2 => rW s2 m ig ws hg T V)) := by
  have hm6 := hI.1.2
  have hd1 := dgt_le (B (p + 1))
  have hd4 := dgt_le (B (p + 4))
  have hn2 := numN_le B (p + 1) 2
  have h10 : (10 : Nat) ^ 2 = 100 := rfl
  refine Ctr.of rfl (Nat.le_of_ble_eq_true rfl) ⟨clS_of rfl, clH_of rfl⟩ (fun K F X0 => ?_)
  show Go K 0 0 0 [(0, .ref 0), (1, .int (B p))] [] (rW s m ig ws hg T V)
  refine g_aload_n (pc := 0) F dX5_isDone_0 rfl ?_
  refine g_getf (pc := 1) F fl_X5_22 dX5_isDone_1 rfl rfl ?_
  refine g_iconst (pc := 4) F dX5_isDone_4 (v := nI 0) rfl ?_
  refine g_iald2 (pc := 5) F dX5_isDone_5 rfl rfl (by first | omega | (simp only [ix]; omega)) (by decide) ?_
  refine g_istore_n (pc := 6) F dX5_isDone_6 (by decide) ?_
  refine g_aload_n (pc := 7) F dX5_isDone_7 rfl ?_
  refine g_getf (pc := 8) F fl_X5_22 dX5_isDone_8 rfl rfl ?_
  refine g_iconst (pc := 11) F dX5_isDone_11 (v := nI 1) rfl ?_
  refine g_iald2 (pc := 12) F dX5_isDone_12 rfl rfl (by first | omega | (simp only [ix]; omega)) (by decide) ?_
  refine g_istore_n (pc := 13) F dX5_isDone_13 (by decide) ?_
  refine g_iload_n (pc := 14) F dX5_isDone_14 rfl ?_
  rcases hl with e | e | e | e | e | e | e
  · obtain ⟨h0, h1, h2, h3⟩ := hV.1 e
    rw [h0, h1]
    refine g_lookIn (pc := 15) F dX5_isDone_15 (by decide) e (by decide) (off := 57) (by decide) (tgt := 72) rfl ?_
    refine g_iload_n (pc := 72) F dX5_isDone_72 rfl ?_
    refine g_bipush (pc := 73) F dX5_isDone_73 (v := nI 8) rfl ?_
    refine g_icN_ge (pc := 75) F dX5_isDone_75 (tgt := 99) rfl rfl rfl (by omega) (by omega) (fun c_75 => ?_) (fun c_75 => ?_)
    · refine g_iconst (pc := 99) F dX5_isDone_99 (v := nI 0) rfl ?_
      exact g_zret (pc := 100) F X0 dX5_isDone_100 (by first | exact bI_nar _ | rfl) (Nat.le_of_ble_eq_true rfl) (Nat.le_of_ble_eq_true rfl) rfl (ip_n (Wd := (fun s2 => rW s2 m ig ws hg T V)) (fun z => by have z2 := (ef_c e).2.mp z; first | exact absurd z2.1 (by omega) | exact absurd z2.2.1 (by omega) | exact six_eq hI c_96 z2.2.2 | fail))
    · refine g_aload_n (pc := 78) F dX5_isDone_78 rfl ?_
      refine g_getf (pc := 79) F fl_X5_22 dX5_isDone_79 rfl rfl ?_
      refine g_iconst (pc := 82) F dX5_isDone_82 (v := nI 3) rfl ?_
      refine g_iald2 (pc := 83) F dX5_isDone_83 rfl rfl (by first | omega | (simp only [ix]; omega)) (by decide) ?_
      rw [h3]
      refine g_iconst (pc := 84) F dX5_isDone_84 (v := nI 1) rfl ?_
      refine g_icN_gt (pc := 85) F dX5_isDone_85 (tgt := 99) rfl rfl rfl (by omega) (by omega) (fun c_85 => ?_) (fun c_85 => ?_)
      · refine g_iconst (pc := 99) F dX5_isDone_99 (v := nI 0) rfl ?_
        exact g_zret (pc := 100) F X0 dX5_isDone_100 (by first | exact bI_nar _ | rfl) (Nat.le_of_ble_eq_true rfl) (Nat.le_of_ble_eq_true rfl) rfl (ip_n (Wd := (fun s2 => rW s2 m ig ws hg T V)) (fun z => by have z2 := (ef_c e).2.mp z; first | exact absurd z2.1 (by omega) | exact absurd z2.2.1 (by omega) | exact six_eq hI c_96 z2.2.2 | fail))
      · refine g_aload_n (pc := 88) F dX5_isDone_88 rfl ?_
        refine g_getf (pc := 89) F fl_X5_9 dX5_isDone_89 rfl rfl ?_
        refine g_iconst (pc := 92) F dX5_isDone_92 (v := nI 0) rfl ?_
        refine g_iald2 (pc := 93) F dX5_isDone_93 rfl rfl (by first | omega | (simp only [ix]; omega)) (by decide) ?_
        refine g_bipush (pc := 94) F dX5_isDone_94 (v := nI 6) rfl ?_
        refine g_ic_ne (pc := 96) F dX5_isDone_96 (tgt := 101) rfl (fun c_96 => ?_) (fun c_96 => ?_)
        · refine g_aload_n (pc := 101) F dX5_isDone_101 rfl ?_
          refine g_iload_n (pc := 102) F dX5_isDone_102 rfl ?_
          refine g_iload_n (pc := 103) F dX5_isDone_103 rfl ?_
          refine g_aload_n (pc := 104) F dX5_isDone_104 rfl ?_
          refine g_getf (pc := 105) F fl_X5_22 dX5_isDone_105 rfl rfl ?_
          refine g_iconst (pc := 108) F dX5_isDone_108 (v := nI 2) rfl ?_
          refine g_iald2 (pc := 109) F dX5_isDone_109 rfl rfl (by first | omega | (simp only [ix]; omega)) (by decide) ?_
          rw [h2]
          refine g_aload_n (pc := 110) F dX5_isDone_110 rfl ?_
          refine g_getf (pc := 111) F fl_X5_22 dX5_isDone_111 rfl rfl ?_
          refine g_iconst (pc := 114) F dX5_isDone_114 (v := nI 3) rfl ?_
          refine g_iald2 (pc := 115) F dX5_isDone_115 rfl rfl (by first | omega | (simp only [ix]; omega)) (by decide) ?_
          rw [h3]
          refine i_callV (pc := 116) F (m_adds s m ig ws hg T V hI (six_ne hI c_96) _ _ _ _) mi_X5_adds kv_X5_116 rfl rfl dX5_isDone_116 (by decide) (by decide) rfl (Nat.le_of_ble_eq_true rfl) (by decide) (by decide) ?_
          rintro _ _ ⟨rfl, rfl⟩ -
          refine g_iconst (pc := 119) F dX5_isDone_119 (v := nI 1) rfl ?_
          exact g_zret (pc := 120) F X0 dX5_isDone_120 (by first | exact bI_nar _ | rfl) (Nat.le_of_ble_eq_true rfl) (Nat.le_of_ble_eq_true rfl) rfl (ip_y (Wd := (fun s2 => rW s2 m ig ws hg T V)) ((ef_c e).2.mpr ⟨by omega, by omega, six_ne hI c_96⟩) (ef_c e).1.symm)
        · refine g_iconst (pc := 99) F dX5_isDone_99 (v := nI 0) rfl ?_
          exact g_zret (pc := 100) F X0 dX5_isDone_100 (by first | exact bI_nar _ | rfl) (Nat.le_of_ble_eq_true rfl) (Nat.le_of_ble_eq_true rfl) rfl (ip_n (Wd := (fun s2 => rW s2 m ig ws hg T V)) (fun z => by have z2 := (ef_c e).2.mp z; first | exact absurd z2.1 (by omega) | exact absurd z2.2.1 (by omega) | exact six_eq hI c_96 z2.2.2 | fail))
  · obtain ⟨h0, h1⟩ := hV.2.1 e
    rw [h0, h1]
    refine g_lookIn (pc := 15) F dX5_isDone_15 (by decide) e (by decide) (off := 106) (by decide) (tgt := 121) rfl ?_
    refine g_aload_n (pc := 121) F dX5_isDone_121 rfl ?_
    refine g_getf (pc := 122) F fl_X5_9 dX5_isDone_122 rfl rfl ?_
    refine g_iload_n (pc := 125) F dX5_isDone_125 rfl ?_
    refine g_iload_n (pc := 126) F dX5_isDone_126 rfl ?_
    refine h_callS (pc := 127) F (c_fillsIn s _ (dgt (B (p + 1))) _ rfl (by omega)) mi_X5_fillsIn ks_X5_120 dX5_isDone_127 [1] rfl (by decide) (by decide) rfl rfl (Nat.le_of_ble_eq_true rfl) (by decide) (by decide) ?_
    rintro _ _ ⟨rfl, rfl⟩ -
    refine g_iconst (pc := 130) F dX5_isDone_130 (v := nI 1) rfl ?_
    exact g_zret (pc := 131) F X0 dX5_isDone_131 (by first | exact bI_nar _ | rfl) (Nat.le_of_ble_eq_true rfl) (Nat.le_of_ble_eq_true rfl) rfl (ip_y (Wd := (fun s2 => rW s2 m ig ws hg T V)) (ef_g e).2 (ef_g e).1.symm)
  · have h0 := hV.2.2.2 e
    rw [h0]
    refine g_lookOut (pc := 15) F dX5_isDone_15 (by decide) ?_ (tgt := 186) rfl ?_
    · intro q hq
      rcases List.mem_cons.mp hq with rfl | hq
      · exact ⟨99, rfl, by decide, nI_nq (by decide) (by decide) (by decide) e⟩
      rcases List.mem_cons.mp hq with rfl | hq
      · exact ⟨101, rfl, by decide, nI_nq (by decide) (by decide) (by decide) e⟩
      rcases List.mem_cons.mp hq with rfl | hq
      · exact ⟨102, rfl, by decide, nI_nq (by decide) (by decide) (by decide) e⟩
      rcases List.mem_cons.mp hq with rfl | hq
      · exact ⟨103, rfl, by decide, nI_nq (by decide) (by decide) (by decide) e⟩
      rcases List.mem_cons.mp hq with rfl | hq
      · exact ⟨114, rfl, by decide, nI_nq (by decide) (by decide) (by decide) e⟩
      rcases List.mem_cons.mp hq with rfl | hq
      · exact ⟨119, rfl, by decide, nI_nq (by decide) (by decide) (by decide) e⟩
      exact absurd hq List.not_mem_nil
    refine g_iload_n (pc := 186) F dX5_isDone_186 rfl ?_
    refine g_iconst (pc := 187) F dX5_isDone_187 (v := nI 1) rfl ?_
    refine g_bipush (pc := 188) F dX5_isDone_188 (v := nI 60) rfl ?_
    refine h_readS (pc := 190) F (c_isIn _ _ _) mi_X5_isIn ks_X5_43 dX5_isDone_190 [] rfl (by decide) (by decide) rfl rfl (Nat.le_of_ble_eq_true rfl) trivial (by decide) (by decide) ?_
    refine g_ifeq_d (pc := 193) F dX5_isDone_193 (tgt := 210) rfl (fun c_193 => ?_) (fun c_193 => ?_)
    · refine g_iconst (pc := 210) F dX5_isDone_210 (v := nI 0) rfl ?_
      exact g_zret (pc := 211) F X0 dX5_isDone_211 (by first | exact bI_nar _ | rfl) (Nat.le_of_ble_eq_true rfl) (Nat.le_of_ble_eq_true rfl) rfl (ip_n (Wd := (fun s2 => rW s2 m ig ws hg T V)) (fun z => by have z2 := (ef_d e).2.mp z; first | exact c_193 z2.1 | exact c_207 z2.2 | fail))
    · refine g_aload_n (pc := 196) F dX5_isDone_196 rfl ?_
      refine g_getf (pc := 197) F fl_X5_9 dX5_isDone_197 rfl rfl ?_
      refine g_iconst (pc := 200) F dX5_isDone_200 (v := nI 1) rfl ?_
      refine g_iald2 (pc := 201) F dX5_isDone_201 rfl rfl (by first | omega | (simp only [ix]; omega)) (by decide) ?_
      refine g_iload_n (pc := 202) F dX5_isDone_202 rfl ?_
      refine g_iadd (pc := 203) F dX5_isDone_203 ?_
      refine g_sipush (pc := 204) F dX5_isDone_204 (v := nI 999) rfl ?_
      refine g_ic_le (pc := 207) F dX5_isDone_207 (tgt := 212) rfl (fun c_207 => ?_) (fun c_207 => ?_)
      · refine g_aload_n (pc := 212) F dX5_isDone_212 rfl ?_
        refine g_getf (pc := 213) F fl_X5_9 dX5_isDone_213 rfl rfl ?_
        refine g_iload_n (pc := 216) F dX5_isDone_216 rfl ?_
        refine h_callS (pc := 217) F (c_daysOn s _ (numN B (p + 1) 2) hI rfl (by omega)) mi_X5_daysOn ks_X5_130 dX5_isDone_217 [1] rfl (by decide) (by decide) rfl rfl (Nat.le_of_ble_eq_true rfl) (by decide) (by decide) ?_
        rintro _ _ ⟨rfl, rfl⟩ -
        refine g_iconst (pc := 220) F dX5_isDone_220 (v := nI 1) rfl ?_
        exact g_zret (pc := 221) F X0 dX5_isDone_221 (by first | exact bI_nar _ | rfl) (Nat.le_of_ble_eq_true rfl) (Nat.le_of_ble_eq_true rfl) rfl (ip_y (Wd := (fun s2 => rW s2 m ig ws hg T V)) ((ef_d e).2.mpr ⟨c_193, c_207⟩) (ef_d e).1.symm)
      · refine g_iconst (pc := 210) F dX5_isDone_210 (v := nI 0) rfl ?_
        exact g_zret (pc := 211) F X0 dX5_isDone_211 (by first | exact bI_nar _ | rfl) (Nat.le_of_ble_eq_true rfl) (Nat.le_of_ble_eq_true rfl) rfl (ip_n (Wd := (fun s2 => rW s2 m ig ws hg T V)) (fun z => by have z2 := (ef_d e).2.mp z; first | exact c_193 z2.1 | exact c_207 z2.2 | fail))
  · have h0 := hV.2.2.1 (Or.inl e)
    rw [h0]
    refine g_lookIn (pc := 15) F dX5_isDone_15 (by decide) e (by decide) (off := 126) (by decide) (tgt := 141) rfl ?_
    refine g_aload_n (pc := 141) F dX5_isDone_141 rfl ?_
    refine g_getf (pc := 142) F fl_X5_9 dX5_isDone_142 rfl rfl ?_
    refine g_iconst (pc := 145) F dX5_isDone_145 (v := nI 2) rfl ?_
    refine g_iload_n (pc := 146) F dX5_isDone_146 rfl ?_
    refine g_ineg (pc := 147) F dX5_isDone_147 ?_
    refine g_iast2 (pc := 148) F dX5_isDone_148 rfl rfl (by first | omega | (simp only [ix]; omega)) (by decide) ?_
    refine g_iconst (pc := 149) F dX5_isDone_149 (v := nI 1) rfl ?_
    exact g_zret (pc := 150) F X0 dX5_isDone_150 (by first | exact bI_nar _ | rfl) (Nat.le_of_ble_eq_true rfl) (Nat.le_of_ble_eq_true rfl) rfl (ip_y (Wd := (fun s2 => rW s2 m ig ws hg T V)) (ef_e e).2 (ef_e e).1.symm)
  · have h0 := hV.2.2.1 (Or.inr (Or.inl e))
    rw [h0]
    refine g_lookIn (pc := 15) F dX5_isDone_15 (by decide) e (by decide) (off := 136) (by decide) (tgt := 151) rfl ?_
    refine g_aload_n (pc := 151) F dX5_isDone_151 rfl ?_
    refine g_iload_n (pc := 152) F dX5_isDone_152 rfl ?_
    refine i_readV (pc := 153) F (m_isOne s m ig ws hg T V _ hI) mi_X5_isOne kv_X5_123 rfl rfl dX5_isDone_153 (by decide) (by decide) rfl (Nat.le_of_ble_eq_true rfl) (by decide) (by decide) ?_
    refine g_ifne_d (pc := 156) F dX5_isDone_156 (tgt := 161) rfl (fun c_156 => ?_) (fun c_156 => ?_)
    · have ham := (one_iff (by omega) (by omega)).mp c_156
      refine g_aload_n (pc := 161) F dX5_isDone_161 rfl ?_
      refine g_getf (pc := 162) F fl_X5_9 dX5_isDone_162 rfl rfl ?_
      refine g_iload_n (pc := 165) F dX5_isDone_165 rfl ?_
      refine g_iconst (pc := 166) F dX5_isDone_166 (v := nI 5) rfl ?_
      refine h_readS (pc := 167) F (c_of (dgt (B (p + 1))) 5) mi_X5_of ks_X5_47 dX5_isDone_167 [] rfl (by decide) (by decide) rfl rfl (Nat.le_of_ble_eq_true rfl) trivial (by decide) (by decide) ?_
      refine g_dup2 (pc := 170) F dX5_isDone_170 rfl rfl ?_
      refine g_iald2 (pc := 171) F dX5_isDone_171 rfl rfl (by first | omega | (simp only [ix]; omega)) (by decide) ?_
      refine g_iconst (pc := 172) F dX5_isDone_172 (v := nI 1) rfl ?_
      refine g_ixor (pc := 173) F dX5_isDone_173 ?_
      refine g_iast2 (pc := 174) F dX5_isDone_174 rfl rfl (by first | omega | (simp only [ix]; omega)) (by decide) ?_
      refine g_iconst (pc := 175) F dX5_isDone_175 (v := nI 1) rfl ?_
      exact g_zret (pc := 176) F X0 dX5_isDone_176 (by first | exact bI_nar _ | rfl) (Nat.le_of_ble_eq_true rfl) (Nat.le_of_ble_eq_true rfl) rfl (ip_y (Wd := (fun s2 => rW s2 m ig ws hg T V)) ((ef_r e).2.mpr ham) (ef_r e).1.symm)
    · have ham : ¬ dgt (B (p + 1)) < many s := fun z => c_156 ((one_iff (by omega) (by omega)).mpr z)
      refine g_iconst (pc := 159) F dX5_isDone_159 (v := nI 0) rfl ?_
      exact g_zret (pc := 160) F X0 dX5_isDone_160 (by first | exact bI_nar _ | rfl) (Nat.le_of_ble_eq_true rfl) (Nat.le_of_ble_eq_true rfl) rfl (ip_n (Wd := (fun s2 => rW s2 m ig ws hg T V)) (fun z => ham ((ef_r e).2.mp z)))
  · have h0 := hV.2.2.1 (Or.inr (Or.inr e))
    rw [h0]
    refine g_lookIn (pc := 15) F dX5_isDone_15 (by decide) e (by decide) (off := 117) (by decide) (tgt := 132) rfl ?_
    refine g_aload_n (pc := 132) F dX5_isDone_132 rfl ?_
    refine g_getf (pc := 133) F fl_X5_9 dX5_isDone_133 rfl rfl ?_
    refine g_iconst (pc := 136) F dX5_isDone_136 (v := nI 2) rfl ?_
    refine g_iload_n (pc := 137) F dX5_isDone_137 rfl ?_
    refine g_iast2 (pc := 138) F dX5_isDone_138 rfl rfl (by first | omega | (simp only [ix]; omega)) (by decide) ?_
    refine g_iconst (pc := 139) F dX5_isDone_139 (v := nI 1) rfl ?_
    exact g_zret (pc := 140) F X0 dX5_isDone_140 (by first | exact bI_nar _ | rfl) (Nat.le_of_ble_eq_true rfl) (Nat.le_of_ble_eq_true rfl) rfl (ip_y (Wd := (fun s2 => rW s2 m ig ws hg T V)) (ef_w e).2 (ef_w e).1.symm)
  · skip
    refine g_lookIn (pc := 15) F dX5_isDone_15 (by decide) e (by decide) (off := 162) (by decide) (tgt := 177) rfl ?_
    refine g_aload_n (pc := 177) F dX5_isDone_177 rfl ?_
    refine g_getf (pc := 178) F fl_X5_9 dX5_isDone_178 rfl rfl ?_
    refine h_callS (pc := 181) F (c_floods s hI) mi_X5_floods ks_X5_126 dX5_isDone_181 [1] rfl (by decide) (by decide) rfl rfl (Nat.le_of_ble_eq_true rfl) (by decide) (by decide) ?_
    rintro _ _ ⟨rfl, rfl⟩ -
    refine g_iconst (pc := 184) F dX5_isDone_184 (v := nI 1) rfl ?_
    exact g_zret (pc := 185) F X0 dX5_isDone_185 (by first | exact bI_nar _ | rfl) (Nat.le_of_ble_eq_true rfl) (Nat.le_of_ble_eq_true rfl) rfl (ip_y (Wd := (fun s2 => rW s2 m ig ws hg T V)) (ef_f e).2 (ef_f e).1.symm)

