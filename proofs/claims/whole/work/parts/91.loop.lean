/-! the law's helper called; the loop -/
theorem gl_run0 {sb : Nat} {K : Cx} {own : String} {cc : ByteArray} {nL fr mc ms k n pc : Nat} {ls : List (Nat × Value)} {st rest : List Value} {hp : Hp} (F : Fx K own cc nL fr mc ms) {chp : Hp} {is : List Nat} {mc' ms' : Nat} {Qp : Option Value → Hp → Prop} (hs : Sub hp is chp) (hnd : va_nd is = true) (hrest : ∀ v ∈ rest, v ∈ st)
    (hrun : match K with
      | (p, l, e, R, s, m, args, below, meth, c, D, cA, A, _, nL', n0, ad0) => ∀ (ad : Nat → Nat) (H : Heap) (locs : List Loc) (LS : Array Slot), (∀ j, j < n0 → ad j = ad0 j) → va_P D vwCl (wM ad cA hp) H → va_D A (wM ad cA hp) → va_S A s.heap H locs → lv_has LS nL' ((0, .ref sb) :: lM ad ls) →
        va_Run p l e R s m args below meth c H locs k n mc' ms' (F0 m pc LS (st.map (vM ad))) (rest.map (vM ad)) (CQ D cA (fun j => ad (is.getD j 0)) chp H.size Qp 0) (va_A (wM (fun j => ad (is.getD j 0)) cA chp) H.size))
    (kk : ∀ (v : Option Value) (hp2 : Hp), Qp v hp2 → hp2.length = chp.length → GL sb K (k + mc') (n + ms') (pc + 3) ls ((v.map (vM (rho is hp.length))).toList ++ rest) (place hp is hp2)) : GL sb K k n pc ls st hp := by
  obtain ⟨p, l, e, R, s, m, args, below, meth, c, D, cA, A, Q, nL', n0, ad0⟩ := K
  obtain ⟨hx, hb, hml, hnl, hown, hts, hK, hA, hfr, hlo, hmc, hms⟩ := F
  intro hcl h0 ad H locs LS h1 h2 h3 h4 h5 T hT X
  obtain ⟨v, st₀, t, T', L, g0, X', hL, e1, e2, ⟨⟨u, hp2, ad2, e3, q, hlen, hcv, hch, hag, hP, hD⟩, hz, hkeep⟩, go⟩ := hrun ad H locs LS h1 h2 h3 h4 h5 T hT X
  have hA' : ∀ q, H.size ≤ q → A q := fun q h => hA q (Nat.le_trans h4.1 h)
  rw [g0] at hz hkeep
  have hlt : ∀ i ∈ is, i < hp.length := by
    intro i hi
    obtain ⟨j, hj⟩ := List.getElem?_of_mem hi
    obtain ⟨e, -, he⟩ := hs.up hj
    exact (List.getElem?_eq_some_iff.mp he).1
  have hL' := hs.len
  obtain ⟨hP', hD'⟩ := place_back (A := A) (H1 := T'.heap) hs hnd hcl.2.2 h2 h3 hA' hlen hag (by rw [e1]; exact hP) hD (fun q a b => by rw [e1]; exact hkeep q a b)
  have hag3 : ∀ j, j < hp.length → ad3 ad ad2 hp.length is.length j = ad j := fun j hj => by simp [ad3, hj]
  have hr := ad3_rho (ad := ad) (hp := hp) (ad2 := ad2) hlt (fun j hj => hag j (by omega))
  have hS' : va_S A s.heap T'.heap (locs ++ L) := by
    refine ⟨Nat.le_trans h4.1 (by rw [e1]; exact hz), fun q a b => ?_, fun q hq => ?_⟩
    · rw [e1, hkeep q (Nat.lt_of_lt_of_le a h4.1) (fun z => b (sub_A hs h3 hA' q z))]
      exact h4.2.1 q a b
    · rcases List.mem_append.mp hq with h | h
      · exact h4.2.2 q h
      · exact sub_A hs h3 hA' _ (hL q h)
  have hcl' : clAll ls ((u.map (vM (rho is hp.length))).toList ++ rest) (place hp is hp2) := by
    have hl3 := place_len hp is hp2
    refine ⟨fun x hx => clV_mono (hcl.1 x hx) (by rw [hl3]; omega), fun x hx => ?_, place_cl hlt (by omega) hcl.2.2 hch⟩
    rcases List.mem_append.mp hx with hx | hx
    · cases u with
      | none => simp at hx
      | some w =>
        simp at hx
        subst hx
        exact clV_rho (chp := hp2) hlt (by rw [hl3]; omega) (by rw [hl3]; omega) (hcv w rfl)
    · exact clV_mono (hcl.2.1 x (hrest x hx)) (by rw [hl3]; omega)
  have hn0' : ∀ j, j < n0 → ad3 ad ad2 hp.length is.length j = ad0 j := fun j hj => (hag3 j (Nat.lt_of_lt_of_le hj h0)).trans (h1 j hj)
  have hls : lM (ad3 ad ad2 hp.length is.length) ls = lM ad ls := List.map_congr_left (fun x hx => by rw [vM_cong (hcl.1 x hx) hag3])
  have hst : ((u.map (vM (rho is hp.length))).toList ++ rest).map (vM (ad3 ad ad2 hp.length is.length)) = v.toList ++ rest.map (vM ad) := by
    rw [List.map_append]
    congr 1
    · have e4 : v = u.map (vM ad2) := by
        have := e3
        cases this
        rfl
      rw [e4]
      cases u with
      | none => rfl
      | some w =>
        show [vM _ (vM _ w)] = [vM ad2 w]
        rw [vM_vM, show (fun k => ad3 ad ad2 hp.length is.length (rho is hp.length k)) = ad2 from funext hr]
    · exact List.map_congr_left (fun x hx => vM_cong (hcl.2.1 x (hrest x hx)) hag3)
  have G := kk u hp2 q hlen hcl' (by rw [place_len]; omega) (ad3 ad ad2 hp.length is.length) T'.heap (locs ++ L) LS hn0' hP' hD' hS' (by rw [hls]; exact h5)
  rw [hst] at G
  obtain ⟨t2, a1, b1⟩ := G T' rfl X'
  exact ⟨t2, go t2 a1, b1⟩

abbrev LawX (K : Cx) : Prop := match K with
  | (_, l, _, _, s, _, _, _, _, _, _, _, A, _, _, _, _) => l.stackTraces = false ∧ XW A s
theorem el_good : GoodIn TB (va_wsS RL 188 yL_element (.codeWith yL_element cL_element 5 (some .int) lTab :: TB)) := by
  have ok : ∀ w ∈ TB, w ∈ TB ∧ ((w.onTables && w.keeps) = true ∨ ∃ ty, w = .arrayClass ty) := fun w hw => ⟨hw, good_of_word (List.mem_filter.mp hw).2⟩
  intro w hw
  unfold va_wsS at hw
  rcases List.mem_append.mp hw with hw | hw
  · rcases List.mem_cons.mp hw with rfl | hw
    · exact ok _ ks_L_188.1
    rcases List.mem_cons.mp hw with rfl | hw
    · exact ok _ ks_L_188.2
    rcases List.mem_cons.mp hw with rfl | hw
    · exact ok _ (TB_in (by decide +kernel) rfl)
    exact absurd hw List.not_mem_nil
  · rcases List.mem_cons.mp hw with rfl | hw
    · exact ok _ (TB_in (by decide +kernel) rfl)
    · exact ok _ hw
theorem gl_callEl {sb : Nat} {K : Cx} {fr mc ms k n pc : Nat} {ls : List (Nat × Value)} {st : List Value} {hp : Hp} (F : Fx K RL cL_law 8 fr mc ms) {cas : List Value} {chp : Hp} {Qp : Option Value → Hp → Prop} (C : LCt 8 cas chp Qp) (hX : LawX K) (d : decode cL_law pc = .ok (.invokestatic 188, 3)) (is : List Nat) (rest : List Value) (hfr : 8 < fr) (hs : Sub hp is chp) (hnd : va_nd is = true) (hln : cas.length = 4) (hst : st = (cas.map (vM (fun k => is.getD k 0))).reverse ++ rest) (hcat : (rest.map fun v => v.category).sum ≤ 8) (hkc : k + 1 ≤ mc) (hkn : n + 6 ≤ ms)
    (kk : ∀ (v : Option Value) (hp2 : Hp), Qp v hp2 → hp2.length = chp.length → GL sb K (k + 1) (n + 6) (pc + 3) ls ((v.map (vM (rho is hp.length))).toList ++ rest) (place hp is hp2)) : GL sb K k n pc ls st hp := by
  refine gl_run0 (mc' := 1) (ms' := 6) F hs hnd (rest_in hst) ?_ kk
  obtain ⟨p, l, e, R, s, m, args, below, meth, c, D, cA, A, Q, nL', n0, ad0⟩ := K
  obtain ⟨hx, hb, hml, hnl, hown, hts, hK, hA, hfr2, hlo, hmc, hms⟩ := F
  obtain ⟨hfl, hXW⟩ := hX
  intro ad H locs LS h1 h2 h3 h4 h5
  subst hnl
  have hA' : ∀ q, H.size ≤ q → A q := fun q h => hA q (Nat.le_trans h4.1 h)
  exact vx_runSW (As := cas.map (vM (fun j => ad (is.getD j 0)))) (n := 4) ⟨hx, hb, hml, hown, hts⟩ (C.2 l hfl D cA (fun j => ad (is.getD j 0)) H.size) (vx_cwSW 4 hts el_good rfl rfl rfl ⟨by decide, by decide, by decide +kernel⟩ ⟨by show 8 + 1 ≤ _; omega, by show 8 + (5 + 11) + 40 * 8 ≤ _; omega⟩) ⟨xBlind _ _ _ _ _ _, fun U hU hW => ⟨rfl, by rw [hU], by rw [hU]; exact sub_P hs h2, hK.moved hW, (sub_D hs hnd h3).weaken (fun _ _ _ _ => trivial), hXW.at h4 hU hW (sub_A hs h3 hA')⟩⟩ rfl ((List.length_map _).trans hln) h5.1 (stack_eq hst) (lv_room (by rw [sum_cat]; exact hcat)) d ⟨by omega, by omega⟩
set_option maxRecDepth 100000 in
set_option maxHeartbeats 800000 in
theorem m_thrown (s m ig ws : Nat → Int32) (hg : Int32) (T : TX) (V : VX) (hI : Iv s) : RCtr yX5_thrown cX5_thrown 1 (some .int) 7 [.ref 0] (rW s m ig ws hg T V) (.int V.2.2.2.2.2) := by
  refine Ctr.of rfl (Nat.le_of_ble_eq_true rfl) ⟨clS_of rfl, clH_of rfl⟩ (fun K F X0 => ?_)
  show Go K 0 0 0 [(0, .ref 0)] [] (rW s m ig ws hg T V)
  refine g_aload_n (pc := 0) F dX5_thrown_0 rfl ?_
  refine g_getf (pc := 1) F fl_X5_215 dX5_thrown_1 rfl rfl ?_
  exact g_iret (pc := 4) F X0 dX5_thrown_4 (Nat.le_of_ble_eq_true rfl) (Nat.le_of_ble_eq_true rfl) rfl ⟨rfl, rfl⟩

set_option maxRecDepth 100000 in
set_option maxHeartbeats 4000000 in
theorem LC_element {sb L : Nat} {xs : Nat → Int32} {K : Cx} {mc ms k n : Nat} (F : Fx K RL cL_law 8 10 mc ms) (S : ScrX sb L xs K) (hL : L ≤ 3072) (hX : LawX K) (hk : k + 1 ≤ mc) (hn : n + 6 ≤ ms) {i : Nat} (hi : i + 5 < L) {r ii : Nat → Int32} {hg : Int32} {T : TX} {hp hq : Hp} {o : Nat → Int64} (hG : GI r ii hg T) (hc : CWd r ii hg T hp) (hr : RWd r ii hg T hq)
    (kk : ∀ (r ii : Nat → Int32) (hg : Int32) (T : TX) (hp hq : Hp) (o : Nat → Int64), GI r ii hg T → CWd r ii hg T hp → RWd r ii hg T hq → GL sb K (k + 1) (n + 6) 1772 (LL i) [] (LW hp hq o)) : GL sb K k n 1582 (LL i) [] (LW hp hq o) := by
  obtain ⟨fq, e2⟩ := hr.obj
  have C1 := l_element hG hc (xs (i + 1)) (xs (i + 2)) o
  obtain ⟨m, ws, V, rfl⟩ := id hr
  have C2 := m_element r m ii ws hg T V hG.1.1 hG.2.2.1 (xs (i + 1)) (xs (i + 2))
  refine gl_aload_n (pc := 1582) F dL_law_1582 rfl ?_
  refine gl_sk (pc := 1583) F S hL (j := 1) (by omega) dL_law_1583 dL_law_1584 dL_law_1586 rfl dL_law_1587 dL_law_1588 rfl ?_
  refine gl_sk (pc := 1589) F S hL (j := 2) (by omega) dL_law_1589 dL_law_1590 dL_law_1592 rfl dL_law_1593 dL_law_1594 rfl ?_
  refine gl_aload_n (pc := 1595) F dL_law_1595 rfl ?_
  refine gl_callEl (pc := 1596) F C1 hX dL_law_1596 (List.range 44 ++ [56]) [] (by decide) (Sub_el hc.len hr.len hc.cl) lw_nd rfl ?_ (Nat.le_of_ble_eq_true rfl) hk hn ?_
  · rfl
  rintro _ _ ⟨rfl, o2, rfl, eo⟩ -
  rw [place_el hc.len hr.len hc.cl]
  show GL sb K (k + 1) (n + 6) 1599 (LL i) [.int (E_thr T (xs (i + 1)) (xs (i + 2)))] (LW hp (rW r m ii ws hg T V) o2)
  refine gl_istore (pc := 1599) F dL_law_1599 (by decide) (by decide) ?_
  refine gl_aload_n (pc := 1601) F dL_law_1601 rfl ?_
  refine gl_sk (pc := 1602) F S hL (j := 1) (by omega) dL_law_1602 dL_law_1603 dL_law_1605 rfl dL_law_1606 dL_law_1607 rfl ?_
  refine gl_sk (pc := 1608) F S hL (j := 2) (by omega) dL_law_1608 dL_law_1609 dL_law_1611 rfl dL_law_1612 dL_law_1613 rfl ?_
  refine gl_callV (pc := 1614) F C2 mi_X5_element kv_L_193 dL_law_1614 rfl rfl (List.range' 44 12) [] (by decide) (by decide) (Sub_mid hc.len hr.len hr.cl) (rg_nd 44 12) rfl (Nat.le_of_ble_eq_true rfl) hk hn ?_
  rintro _ hq2 ⟨rfl, m2, V2, rfl, ev⟩ hlenq
  have hr2 : RWd r ii hg T (rW r m2 ii ws hg T V2) := ⟨_, _, _, rfl⟩
  rw [show place (LW hp (rW r m ii ws hg T V) o2) (List.range' 44 12) (rW r m2 ii ws hg T V2) = LW hp (rW r m2 ii ws hg T V2) o2 from place_mid hc.len hr.len hlenq hr2.cl]
  show GL sb K (k + 1) (n + 6) 1617 [(1, .ref 0), (2, .ref 44), (3, .ref 56), (4, .int (nI i)), (5, .int (E_thr T (xs (i + 1)) (xs (i + 2))))] [.long (E_val T (xs (i + 1)) (xs (i + 2)))] (LW hp (rW r m2 ii ws hg T V2) o2)
  generalize E_thr T (xs (i + 1)) (xs (i + 2)) = eT at eo ev ⊢
  generalize E_val T (xs (i + 1)) (xs (i + 2)) = eV at eo ⊢
  refine gl_lstore (pc := 1617) F dL_law_1617 (by decide) (by decide) ?_
  refine gl_aload_n (pc := 1619) F dL_law_1619 rfl ?_
  refine gl_callV (pc := 1620) F (m_thrown r m2 ii ws hg T V2 hG.1.1) mi_X5_thrown kv_L_194 dL_law_1620 rfl rfl (List.range' 44 12) [] (by decide) (by decide) (Sub_mid hc.len hr2.len hr2.cl) (rg_nd 44 12) rfl (Nat.le_of_ble_eq_true rfl) hk hn ?_
  rintro _ hq2 ⟨rfl, rfl⟩ hlenq
  rw [show place (LW hp (rW r m2 ii ws hg T V2) o2) (List.range' 44 12) (rW r m2 ii ws hg T V2) = LW hp (rW r m2 ii ws hg T V2) o2 from place_mid hc.len hr2.len hlenq hr2.cl]
  rw [ev]
  show GL sb K (k + 1) (n + 6) 1623 [(1, .ref 0), (2, .ref 44), (3, .ref 56), (4, .int (nI i)), (5, .int eT), (6, .long eV)] [.int eT] (LW hp (rW r m2 ii ws hg T V2) o2)
  refine gl_iload (pc := 1623) F dL_law_1623 rfl ?_
  refine gl_ic_eq (pc := 1625) F dL_law_1625 (tgt := 1630) rfl (fun _ => ?_) (fun z => absurd rfl z)
  refine gl_iload (pc := 1630) F dL_law_1630 rfl ?_
  have done : GL sb K (k + 1) (n + 6) 1646 [(1, .ref 0), (2, .ref 44), (3, .ref 56), (4, .int (nI i)), (5, .int eT), (6, .long eV)] [] (LW hp (rW r m2 ii ws hg T V2) o2) := by
    refine gl_goto (pc := 1646) F dL_law_1646 (tgt := 1772) rfl ?_
    refine gl_less [0, 1, 2, 3] rfl ?_
    exact kk _ _ _ _ _ _ _ hG hc hr2
  refine gl_if_ne (pc := 1632) F dL_law_1632 (tgt := 1646) rfl (fun _ => done) (fun z => ?_)
  refine gl_aload_n (pc := 1635) F dL_law_1635 rfl ?_
  refine gl_iconst (pc := 1636) F dL_law_1636 (v := nI 0) rfl ?_
  refine gl_lald (pc := 1637) F dL_law_1637 (LW_56 hc.len hr2.len) (nI_in (by decide) (by decide)) ?_
  refine gl_lload (pc := 1638) F dL_law_1638 rfl ?_
  refine gl_lcmp (pc := 1640) F dL_law_1640 ?_
  refine gl_if_eq (pc := 1641) F dL_law_1641 (tgt := 1646) rfl (fun _ => done) (fun z2 => absurd ?_ z2)
  have e0 : o2 (nI 0).toNatClampNeg = eV := eo z
  rw [e0]
  exact lcmp_self _

theorem gl_tableIn2 {sb : Nat} {K : Cx} {own : String} {cc : ByteArray} {nL fr mc ms k n pc : Nat} {ls : List (Nat × Value)} {st : List Value} {hp : Hp} (F : Fx K own cc nL fr mc ms) {dflt lo hi : Int} {offs : Array Int} {len j : Nat} {x : Int32} {off : Int} {tgt : Nat} (d : decode cc pc = .ok (.tableswitch dflt lo hi offs, len)) (hx : x = nI j) (h6 : ¬ (nI j).toInt < lo) (h7 : ¬ hi < (nI j).toInt) (ho : offs[((nI j).toInt - lo).toNat]? = some off) (ht : (pc : Int) + off = (tgt : Int)) (kk : GL sb K k n tgt ls st hp) : GL sb K k n pc ls (.int x :: st) hp := by
  subst hx
  exact gl_tableIn F d h6 h7 ho ht kk
theorem law_head {i L : Nat} (hL : L ≤ 3072) (hi : i ≤ L) (h : ¬ nI L - nI 6 < nI i) : i + 5 < L := by
  have e1 := ti_n L (by omega)
  have e2 := ti_n 6 (by decide)
  have e3 := ti_n i (by omega)
  have e4 : (nI L - nI 6).toInt = (L : Int) - 6 := by rw [ti_sub (by omega) (by omega), e1, e2]; rfl
  rw [ti_lt, e4, e3] at h
  omega
set_option maxRecDepth 100000 in
set_option maxHeartbeats 4000000 in
theorem law_loop {sb L : Nat} {xs : Nat → Int32} {K : Cx} (F : Fx K RL cL_law 8 10 601024 7293034) (S : ScrX sb L xs K) (hX : LawX K) (hL : L ≤ 3072) (E : ∀ (q : Nat) (ls : List (Nat × Value)) (hp : Hp), q ≤ 512 → GL sb K (57 + q) (2166 + 6 * q) 1779 ls [.int (nI 1)] hp) : ∀ (f q : Nat) {r ii : Nat → Int32} {hg : Int32} {T : TX} {hp hq : Hp} {o : Nat → Int64}, L < 6 * (q + f) → 6 * q ≤ L → GI r ii hg T → CWd r ii hg T hp → RWd r ii hg T hq → GL sb K (57 + q) (2166 + 6 * q) 23 (LL (6 * q)) [] (LW hp hq o)
  | 0, q, _, _, _, _, _, _, _, h, h2, _, _, _ => absurd h (by omega)
  | f + 1, q, r, ii, hg, T, hp, hq, o, h, h2, hG, hc, hr => by
    refine gl_iload (pc := 23) F dL_law_23 rfl ?_
    refine gl_slen (pc := 25) F S dL_law_25 dL_law_26 ?_
    refine gl_bipush (pc := 27) F dL_law_27 (v := nI 6) rfl ?_
    refine gl_isub (pc := 29) F dL_law_29 ?_
    refine gl_ic_gt (pc := 30) F dL_law_30 (tgt := 1778) rfl (fun _ => ?_) (fun c => ?_)
    · refine gl_iconst (pc := 1778) F dL_law_1778 (v := nI 1) rfl ?_
      exact E q _ _ (by omega)
    have hi := law_head hL h2 c
    refine gl_s0 (pc := 33) F S hL (by omega) dL_law_33 dL_law_34 dL_law_36 rfl ?_
    refine gl_bipush (pc := 37) F dL_law_37 (v := nI 63) rfl ?_
    refine gl_iand (pc := 39) F dL_law_39 ?_
    generalize xs (6 * q) &&& nI 63 = x
    have go : ∀ (r ii : Nat → Int32) (hg : Int32) (T : TX) (hp hq : Hp) (o : Nat → Int64), GI r ii hg T → CWd r ii hg T hp → RWd r ii hg T hq → GL sb K (57 + q + 1) (2166 + 6 * q + 6) 1772 (LL (6 * q)) [] (LW hp hq o) := by
      intro r ii hg T hp hq o hG hc hr
      refine gl_iinc (pc := 1772) F dL_law_1772 rfl (nI_add (6 * q) 6) (by decide) (by decide) ?_
      refine gl_goto (pc := 1775) F dL_law_1775 (tgt := 23) rfl ?_
      exact law_loop F S hX hL E f (q + 1) (by omega) (by omega) hG hc hr
    have go2 : ∀ (r ii : Nat → Int32) (hg : Int32) (T : TX) (hp hq : Hp) (o : Nat → Int64), GI r ii hg T → CWd r ii hg T hp → RWd r ii hg T hq → GL sb K (57 + q) (2166 + 6 * q) 1772 (LL (6 * q)) [] (LW hp hq o) := fun r ii hg T hp hq o hG hc hr => gl_wid (Nat.le_succ _) (Nat.le_add_right _ _) (go r ii hg T hp hq o hG hc hr)
    rcases sw_cases 0 43 x (by decide) with ⟨j, j1, j2, hx⟩ | ho
    · rcases (show j = 0 ∨ j = 1 ∨ j = 2 ∨ j = 3 ∨ j = 4 ∨ j = 5 ∨ j = 6 ∨ j = 7 ∨ j = 8 ∨ j = 9 ∨ j = 10 ∨ j = 11 ∨ j = 12 ∨ j = 13 ∨ j = 14 ∨ j = 15 ∨ j = 16 ∨ j = 17 ∨ j = 18 ∨ j = 19 ∨ j = 20 ∨ j = 21 ∨ j = 22 ∨ j = 23 ∨ j = 24 ∨ j = 25 ∨ j = 26 ∨ j = 27 ∨ j = 28 ∨ j = 29 ∨ j = 30 ∨ j = 31 ∨ j = 32 ∨ j = 33 ∨ j = 34 ∨ j = 35 ∨ j = 36 ∨ j = 37 ∨ j = 38 ∨ j = 39 ∨ j = 40 ∨ j = 41 ∨ j = 42 ∨ j = 43 by omega) with rfl | rfl | rfl | rfl | rfl | rfl | rfl | rfl | rfl | rfl | rfl | rfl | rfl | rfl | rfl | rfl | rfl | rfl | rfl | rfl | rfl | rfl | rfl | rfl | rfl | rfl | rfl | rfl | rfl | rfl | rfl | rfl | rfl | rfl | rfl | rfl | rfl | rfl | rfl | rfl | rfl | rfl | rfl | rfl
      · exact gl_tableIn2 (pc := 40) F dL_law_40 hx (by decide) (by decide) (tgt := 232) rfl rfl (LC_desert F S hL (by omega) (by omega) hi hG hc hr go2)
      · exact gl_tableIn2 (pc := 40) F dL_law_40 hx (by decide) (by decide) (tgt := 257) rfl rfl (LC_corporal F S hL (by omega) (by omega) hi hG hc hr go2)
      · exact gl_tableIn2 (pc := 40) F dL_law_40 hx (by decide) (by decide) (tgt := 294) rfl rfl (LC_dip F S hL (by omega) (by omega) hi hG hc hr go2)
      · exact gl_tableIn2 (pc := 40) F dL_law_40 hx (by decide) (by decide) (tgt := 331) rfl rfl (LC_comes F S hL (by omega) (by omega) hi hG hc hr go2)
      · exact gl_tableIn2 (pc := 40) F dL_law_40 hx (by decide) (by decide) (tgt := 380) rfl rfl (LC_fills F S hL (by omega) (by omega) hi hG hc hr go2)
      · exact gl_tableIn2 (pc := 40) F dL_law_40 hx (by decide) (by decide) (tgt := 417) rfl rfl (LC_blows F S hL (by omega) (by omega) hi hG hc hr go2)
      · exact gl_tableIn2 (pc := 40) F dL_law_40 hx (by decide) (by decide) (tgt := 442) rfl rfl (LC_rests F S hL (by omega) (by omega) hi hG hc hr go2)
      · exact gl_tableIn2 (pc := 40) F dL_law_40 hx (by decide) (by decide) (tgt := 467) rfl rfl (LC_moves F S hL (by omega) (by omega) hi hG hc hr go2)
      · exact gl_tableIn2 (pc := 40) F dL_law_40 hx (by decide) (by decide) (tgt := 504) rfl rfl (LC_flood F S hL (by omega) (by omega) hi hG hc hr go2)
      · exact gl_tableIn2 (pc := 40) F dL_law_40 hx (by decide) (by decide) (tgt := 517) rfl rfl (LC_days F S hL (by omega) (by omega) hi hG hc hr go2)
      · exact gl_tableIn2 (pc := 40) F dL_law_40 hx (by decide) (by decide) (tgt := 542) rfl rfl (LC_corporalThen F S hL (by omega) (by omega) hi hG hc hr go2)
      · exact gl_tableIn2 (pc := 40) F dL_law_40 hx (by decide) (by decide) (tgt := 591) rfl rfl (LC_dipThen F S hL (by omega) (by omega) hi hG hc hr go2)
      · exact gl_tableIn2 (pc := 40) F dL_law_40 hx (by decide) (by decide) (tgt := 640) rfl rfl (LC_dipsDone F S hL (by omega) (by omega) hi hG hc hr go2)
      · exact gl_tableIn2 (pc := 40) F dL_law_40 hx (by decide) (by decide) (tgt := 665) rfl rfl (LC_ends F S hL (by omega) (by omega) hi hG hc hr go2)
      · exact gl_tableIn2 (pc := 40) F dL_law_40 hx (by decide) (by decide) (tgt := 690) rfl rfl (LC_meet F S hL (by omega) (by omega) hi hG hc hr go2)
      · exact gl_tableIn2 (pc := 40) F dL_law_40 hx (by decide) (by decide) (tgt := 727) rfl rfl (LC_line F S hL (by omega) (by omega) hi hG hc hr go2)
      · exact gl_tableIn2 (pc := 40) F dL_law_40 hx (by decide) (by decide) (tgt := 752) rfl rfl (LC_treaty F S hL (by omega) (by omega) hi hG hc hr go2)
      · exact gl_tableIn2 (pc := 40) F dL_law_40 hx (by decide) (by decide) (tgt := 777) rfl rfl (LC_bestWind F S hL (by omega) (by omega) hi hG hc hr go2)
      · exact gl_tableIn2 (pc := 40) F dL_law_40 hx (by decide) (by decide) (tgt := 814) rfl rfl (LC_send F S hL (by omega) (by omega) hi hG hc hr go2)
      · exact gl_tableIn2 (pc := 40) F dL_law_40 hx (by decide) (by decide) (tgt := 863) rfl rfl (LC_idle F S hL (by omega) (by omega) hi hG hc hr go2)
      · exact gl_tableIn2 (pc := 40) F dL_law_40 hx (by decide) (by decide) (tgt := 888) rfl rfl (LC_slowest F S hL (by omega) (by omega) hi hG hc hr go2)
      · exact gl_tableIn2 (pc := 40) F dL_law_40 hx (by decide) (by decide) (tgt := 913) rfl rfl (LC_lost F S hL (by omega) (by omega) hi hG hc hr go2)
      · exact gl_tableIn2 (pc := 40) F dL_law_40 hx (by decide) (by decide) (tgt := 938) rfl rfl (LC_heap F S hL (by omega) (by omega) hi hG hc hr go2)
      · exact gl_tableIn2 (pc := 40) F dL_law_40 hx (by decide) (by decide) (tgt := 975) rfl rfl (LC_begin F S hL (by omega) (by omega) hi hG hc hr go2)
      · exact gl_tableIn2 (pc := 40) F dL_law_40 hx (by decide) (by decide) (tgt := 1012) rfl rfl (LC_pairs F S hL (by omega) (by omega) hi hG hc hr go2)
      · exact gl_tableIn2 (pc := 40) F dL_law_40 hx (by decide) (by decide) (tgt := 1025) rfl rfl (LC_even F S hL (by omega) (by omega) hi hG hc hr go2)
      · exact gl_tableIn2 (pc := 40) F dL_law_40 hx (by decide) (by decide) (tgt := 1050) rfl rfl (LC_howMany F S hL (by omega) (by omega) hi hG hc hr go2)
      · exact gl_tableIn2 (pc := 40) F dL_law_40 hx (by decide) (by decide) (tgt := 1099) rfl rfl (LC_whatIs F S hL (by omega) (by omega) hi hG hc hr go2)
      · exact gl_tableIn2 (pc := 40) F dL_law_40 hx (by decide) (by decide) (tgt := 1148) rfl rfl (LC_two F S hL (by omega) (by omega) hi hG hc hr go2)
      · exact gl_tableIn2 (pc := 40) F dL_law_40 hx (by decide) (by decide) (tgt := 1185) rfl rfl (LC_storm F S hL (by omega) (by omega) hi hG hc hr go2)
      · exact gl_tableIn2 (pc := 40) F dL_law_40 hx (by decide) (by decide) (tgt := 1247) rfl rfl (LC_mean F S hL (by omega) (by omega) hi hG hc hr go2)
      · exact gl_tableIn2 (pc := 40) F dL_law_40 hx (by decide) (by decide) (tgt := 1273) rfl rfl (LC_forged F S hL (by omega) (by omega) hi hG hc hr go2)
      · exact gl_tableIn2 (pc := 40) F dL_law_40 hx (by decide) (by decide) (tgt := 1298) rfl rfl (LC_judge F S hL (by omega) (by omega) hi hG hc hr go2)
      · exact gl_tableIn2 (pc := 40) F dL_law_40 hx (by decide) (by decide) (tgt := 1323) rfl rfl (LC_deserts F S hL (by omega) (by omega) hi hG hc hr go2)
      · exact gl_tableIn2 (pc := 40) F dL_law_40 hx (by decide) (by decide) (tgt := 1372) rfl rfl (LC_image F S hL (by omega) (by omega) hi hG hc hr go2)
      · exact gl_tableIn2 (pc := 40) F dL_law_40 hx (by decide) (by decide) (tgt := 1385) rfl rfl (LC_restore F S hL (by omega) (by omega) hi hG hc hr go2)
      · exact gl_tableIn2 (pc := 40) F dL_law_40 hx (by decide) (by decide) (tgt := 1398) rfl rfl (LC_count F S hL (by omega) (by omega) hi hG hc hr go2)
      · exact gl_tableIn2 (pc := 40) F dL_law_40 hx (by decide) (by decide) (tgt := 1423) rfl rfl (LC_keep F S hL (by omega) (by omega) hi hG hc hr go2)
      · exact gl_tableIn2 (pc := 40) F dL_law_40 hx (by decide) (by decide) (tgt := 1484) rfl rfl (LC_row F S hL (by omega) (by omega) hi hG hc hr go2)
      · exact gl_tableIn2 (pc := 40) F dL_law_40 hx (by decide) (by decide) (tgt := 1533) rfl rfl (LC_put F S hL (by omega) (by omega) hi hG hc hr go2)
      · exact gl_tableIn2 (pc := 40) F dL_law_40 hx (by decide) (by decide) (tgt := 1582) rfl rfl (LC_element F S hL hX (by omega) (by omega) hi hG hc hr go)
      · exact gl_tableIn2 (pc := 40) F dL_law_40 hx (by decide) (by decide) (tgt := 1649) rfl rfl (LC_copy F S hL (by omega) (by omega) hi hG hc hr go2)
      · exact gl_tableIn2 (pc := 40) F dL_law_40 hx (by decide) (by decide) (tgt := 1722) rfl rfl (LC_cost F S hL (by omega) (by omega) hi hG hc hr go2)
      · exact gl_tableIn2 (pc := 40) F dL_law_40 hx (by decide) (by decide) (tgt := 1747) rfl rfl (LC_toss F S hL (by omega) (by omega) hi hG hc hr go2)
    · exact gl_tableOut (pc := 40) F dL_law_40 ho (tgt := 1772) rfl (go2 _ _ _ _ _ _ _ hG hc hr)

