/-! what a throw stands on -/
abbrev xIA : String := "java/lang/IllegalArgumentException"
abbrev xIS : String := "java/lang/IllegalStateException"
abbrev xNm : List String := ["java/lang/RuntimeException", "java/lang/Exception"]
def xB : List Cond := [.declares (Bundle.initS "java/lang/RuntimeException"), .declares (Bundle.initS "java/lang/Exception"), .declares (Bundle.initS Bundle.tN), .castable xIA xIA, .castable xIS xIS]
def XW (A : Nat → Prop) (U : State) : Prop := (∀ w ∈ xB, va_Nw w U) ∧ vx_Zq Bundle.tN "UNASSIGNED_STACK" Bundle.steD A U U.heap ∧ vx_Zq Bundle.tN "SUPPRESSED_SENTINEL" Bundle.listD A U U.heap ∧ (∃ a, vk_R RX4 263 "no such shelf" a U) ∧ (∃ a, vk_R RX4 270 "no row, or no such place in it" a U) ∧ va_Nc xIS xIA U
theorem xB_on : ∀ w ∈ xB, w.onTables = true := by decide +kernel
theorem xB_warm {s U : State} (hW : s.WarmedH U.vm) (h : ∀ w ∈ xB, va_Nw w s) : ∀ w ∈ xB, va_Nw w U := by
  have h1 := h (.declares (Bundle.initS "java/lang/RuntimeException")) List.mem_cons_self
  have h2 := h (.declares (Bundle.initS "java/lang/Exception")) (List.mem_cons_of_mem _ List.mem_cons_self)
  have h3 := h (.declares (Bundle.initS Bundle.tN)) (List.mem_cons_of_mem _ (List.mem_cons_of_mem _ List.mem_cons_self))
  have h4 := h (.castable xIA xIA) (List.mem_cons_of_mem _ (List.mem_cons_of_mem _ (List.mem_cons_of_mem _ List.mem_cons_self)))
  have h5 := h (.castable xIS xIS) (List.mem_cons_of_mem _ (List.mem_cons_of_mem _ (List.mem_cons_of_mem _ (List.mem_cons_of_mem _ List.mem_cons_self))))
  intro w hw
  rcases List.mem_cons.mp hw with rfl | hw
  · exact va_Nw.warmD hW h1
  rcases List.mem_cons.mp hw with rfl | hw
  · exact va_Nw.warmD hW h2
  rcases List.mem_cons.mp hw with rfl | hw
  · exact va_Nw.warmD hW h3
  rcases List.mem_cons.mp hw with rfl | hw
  · exact va_Nw.warmC hW h4
  rcases List.mem_cons.mp hw with rfl | hw
  · exact va_Nw.warmC hW h5
  exact absurd hw List.not_mem_nil
theorem XW.at {A B : Nat → Prop} {s U : State} {H : Heap} {locs : List Loc} (h : XW A s) (hS : va_S A s.heap H locs) (hU : U.heap = H) (hW : s.WarmedH U.vm) (hAB : ∀ q, B q → A q) : XW B U := by
  obtain ⟨h1, h2, h3, ⟨a1, h4⟩, ⟨a2, h5⟩, h6⟩ := h
  refine ⟨xB_warm hW h1, ?_, ?_, ⟨a1, vk_R.warm hW h4⟩, ⟨a2, vk_R.warm hW h5⟩, va_Nc.moved hW.alike h6⟩
  · rw [hU]
    exact vx_Zq.narrow (vx_Zq.moved hW.alike (vx_Zq.kept h2 hS.2.1)) hAB
  · rw [hU]
    exact vx_Zq.narrow (vx_Zq.moved hW.alike (vx_Zq.kept h3 hS.2.1)) hAB
theorem XW.calling {A : Nat → Prop} {U : State} {g : JFrame} {mk : MethodId} {a : Array Value} (h : XW A U) : XW A (U.calling g mk a) := by
  obtain ⟨h1, h2, h3, ⟨a1, h4⟩, ⟨a2, h5⟩, h6⟩ := h
  exact ⟨fun w hw => va_Nw.same (u := U) (U := U.calling g mk a) (xB_on w hw) rfl (h1 w hw), vx_Zq.moved (u := U) (U := U.calling g mk a) (Vm.Alike.refl U.vm) h2, vx_Zq.moved (u := U) (U := U.calling g mk a) (Vm.Alike.refl U.vm) h3, ⟨a1, vk_R.same (u := U) (U := U.calling g mk a) rfl h4⟩, ⟨a2, vk_R.same (u := U) (U := U.calling g mk a) rfl h5⟩, va_Nc.moved (u := U) (U := U.calling g mk a) (Vm.Alike.refl U.vm) h6⟩
abbrev xPc (as : List Value) (D : va_G) (cA : FieldType → ClassId) (ad : Nat → Nat) (hp : Hp) (sz : Nat) : Array Value → State → Prop := va_Pc (as.map (vM ad)) (fun U => U.heap.size = sz ∧ va_P D vwCl (wM ad cA hp) U.heap ∧ KK D cA U ∧ va_D (fun _ => True) (wM ad cA hp) ∧ XW (va_A (wM ad cA hp) sz) U)
theorem xBlind (as : List Value) (D : va_G) (cA : FieldType → ClassId) (ad : Nat → Nat) (hp : Hp) (sz : Nat) : FrameBlind (xPc as D cA ad hp sz) := fun a U g mk q => by
  obtain ⟨q0, q1, qP, qK, qD, qX⟩ := q
  exact ⟨q0, q1, qP, ⟨va_K.moved (u := U) (U := U.calling g mk a) (Vm.Alike.refl U.vm) qK.1, fun z hz => va_Nw.same rfl rfl (qK.2.1 z hz), va_AO.moved (u := U) (U := U.calling g mk a) (Vm.Alike.refl U.vm) qK.2.2⟩, qD, qX.calling⟩
def XC (D : va_G) (cA : FieldType → ClassId) (ad : Nat → Nat) (hp : Hp) (sz : Nat) (PX : String → Prop) : String → State → State → Prop := fun E st t => PX E ∧ va_P D vwCl (wM ad cA hp) t.heap ∧ va_F (va_A (wM ad cA hp) sz) st t
/-- a method that returns with Qp or throws what PX says, and then has changed nothing -/
def XCt (y : MethodName) (cc : ByteArray) (nL : Nat) (ret : Option FieldType) (fr : Nat) (as : List Value) (hp : Hp) (Qp : Option Value → Hp → Prop) (PX : String → Prop) : Prop :=
  (clS hp.length as ∧ clH hp.length hp) ∧ ∀ (l : Launch), l.stackTraces = false → ∀ (D : va_G) (cA : FieldType → ClassId) (ad : Nat → Nat) (sz : Nat), vx_Met l y (.code y cc nL ret :: TB) { frames := fr, cells := 1, slots := 6, locals := 40 * fr } (xPc as D cA ad hp sz) (fun _ => CQ D cA ad hp sz Qp 0) (XC D cA ad hp sz PX) 1 6 (va_A (wM ad cA hp) sz)
def RX (K : Cx) (ret : Option FieldType) (hp0 : Hp) (Qp : Option Value → Hp → Prop) (PX : String → Prop) : Prop := match K with
  | (_, l, _, _, s, _, args, below, meth, c, D, cA, A, Q, _, n0, ad0) => meth.sig.returnType = ret ∧ meth.locks = false ∧ l.stackTraces = false ∧ (∀ x ∈ c.exceptionTable.toList, False) ∧ XW A s ∧ n0 = hp0.length ∧ clH hp0.length hp0 ∧ A = va_A (wM ad0 cA hp0) s.heap.size ∧ Q = vx_MQ below (fun _ => CQ D cA ad0 hp0 s.heap.size Qp 0) (XC D cA ad0 hp0 s.heap.size PX) args s 1 6 A
theorem XCt.of {y : MethodName} {cc : ByteArray} {nL : Nat} {ret : Option FieldType} {fr : Nat} {as : List Value} {hp : Hp} {Qp : Option Value → Hp → Prop} {PX : String → Prop} (hy : plainName y.cls = true) (hn : (lg_sl as).length ≤ nL) (hc : clS hp.length as ∧ clH hp.length hp)
    (body : ∀ K : Cx, Fx K y.cls cc nL fr 1 6 → RX K ret hp Qp PX → Go K 0 0 0 (lv_args 0 as) [] hp) : XCt y cc nL ret fr as hp Qp PX := by
  refine ⟨hc, fun l hfl D cA ad sz => ?_⟩
  refine vx_ofW (cc := cc) (maxL := nL) (ret := ret) hy rfl ?_
  intro p e s m args below meth c s₁ B hml htab hv
  obtain ⟨rfl, hsz, hP, hK, hD0, hXW⟩ := hv
  subst hsz
  have hts := atoms_spec (ws := .code y cc nL ret :: TB) B.pre
  have hD := hD0.self (sz := s.heap.size)
  have hl := lv_entry (as.map (vM ad)) (n := nL) (by rw [lg_sl_map]; exact hn)
  rw [lg_entry_eq]
  generalize (lg_sl (as.map (vM ad)) ++ List.replicate (nL - (lg_sl (as.map (vM ad))).length) Slot.unset).toArray = LS at hl ⊢
  rw [lv_args_map] at hl
  have G := body (p, l, e, (headSpec (.code y cc nL ret :: TB) { frames := fr, cells := 1, slots := 6, locals := 40 * fr }).room, s, m, (as.map (vM ad)).toArray, below, meth, c, D, cA, va_A (wM ad cA hp) s.heap.size, vx_MQ below (fun _ => CQ D cA ad hp s.heap.size Qp 0) (XC D cA ad hp s.heap.size PX) (as.map (vM ad)).toArray s 1 6 (va_A (wM ad cA hp) s.heap.size), nL, hp.length, ad)
    ⟨B.exec, B.bytes, hml, rfl, findClass_of_methodNamed B.named, fun w hw => hts w (List.mem_cons_of_mem _ hw), hK, fun q h => Or.inr h, Nat.le_refl _, Nat.le_refl _, Nat.le_refl _, Nat.le_refl _⟩
    ⟨B.returns, B.notSynchronized, hfl, htab, hXW, rfl, hc.2, rfl, rfl⟩
  exact G ⟨fun q hq => hc.1 _ (lv_args_val _ _ _ hq), fun v hv => absurd hv List.not_mem_nil, hc.2⟩ (Nat.le_refl _) ad s.heap [] LS (fun _ _ => rfl) hP hD va_S.rf hl
section EndsX
variable {K : Cx} {own : String} {cc : ByteArray} {nL fr k n pc : Nat} {ls : List (Nat × Value)} {hp hp0 : Hp} {Qp : Option Value → Hp → Prop} {PX : String → Prop}
theorem gx_lret (F : Fx K own cc nL fr 1 6) (X : RX K (some .long) hp0 Qp PX) {v : Int64} (d : decode cc pc = .ok (.lreturn, 1)) (hk : k ≤ 1) (hn : n ≤ 6) (hl : hp.length = hp0.length) (q : Qp (some (.long v)) hp) : Go K k n pc ls [.long v] hp := by
  obtain ⟨p, l, e, R, s, m, args, below, meth, c, D, cA, A, Q, nL', n0, ad0⟩ := K
  obtain ⟨hx, hb, -⟩ := F
  obtain ⟨hr, hlocks, hfl, htab, hXW, rfl, hc0, rfl, rfl⟩ := X
  intro hcl h0 ad H locs LS h1 h2 h3 h4 h5
  refine W.widen hk hn ?_
  refine vx_ret ?_
  exact W.lret hx hb hr (fun t ht hW => ⟨⟨some (.long v), hp, ad, rfl, q, hl, fun w hw => by cases hw; exact trivial, hcl.2.2, h1, by rw [ht]; exact h2, h3⟩, h4.F ht⟩) h4.2.2 d hlocks
theorem gx_throw {ret : Option FieldType} (F : Fx K RX4 cc nL 7 1 6) (X : RX K ret hp Qp PX) {ik is ic : Nat} {cls text : String} (hcls : Bundle.fit cls = true) (hk : Cond.classLink RX4 ik cls ∈ TB) (hini : Cond.initialized cls ∈ TB) (g1 : ∀ w ∈ (vx_atS RX4 ic cls xNm).filter goodWord, w ∈ TB) (g2 : ∀ w ∈ (vx_atS RX4 ic cls xNm).filter (fun w => !goodWord w), w ∈ xB) (hgood : ∀ w ∈ Cond.classLink RX4 ik cls :: Cond.initialized cls :: vx_atS RX4 ic cls xNm, vx_ot w = true) (hstr : ∀ A U, XW A U → ∃ a, vk_R RX4 is text a U)
    (d0 : decode cc pc = .ok (.new ik, 3)) (d3 : decode cc (pc + 3) = .ok (.dup, 1)) (d4 : decode cc (pc + 4) = .ok (.ldc_w is, 3)) (d7 : decode cc (pc + 7) = .ok (.invokespecial ic, 3)) (d10 : decode cc (pc + 10) = .ok (.athrow, 1)) (hPX : PX cls) : Go K 0 0 pc ls [] hp := by
  obtain ⟨p, l, e, R, s, m, args, below, meth, c, D, cA, A, Q, nL', n0, ad0⟩ := K
  obtain ⟨hx, hb, hml, hnl, hown, hts, hK, hA, hfr, hlo, hmc, hms⟩ := F
  obtain ⟨hr, hlocks, hfl, htab, hXW, rfl, hc0, rfl, rfl⟩ := X
  intro hcl h0 ad H locs LS h1 h2 h3 h4 h5
  subst hnl
  obtain ⟨a, ha⟩ := hstr _ _ hXW
  have ew : wM ad0 cA hp = wM ad cA hp := wM_cg hcl.2.2 (fun k hk => (h1 k hk).symm)
  refine vx_throwSW (names := xNm) (own := RX4) (A := va_A (wM ad0 cA hp) s.heap.size) hx hb hfl hown hcls (by decide +kernel) (hts _ hk) (hts _ hini) ha (vx_hat (fun w hw => hts w (g1 w hw)) g2 (fun w hw => va_Nw.use (xB_on w hw) (hXW.1 w hw))) hgood hXW.2.1 hXW.2.2.1 h4 (h5.1.trans hml.symm) d0 d3 d4 d7 d10 (fun x hx => (htab x hx).elim) (show 2 + 3 < R.frames by omega) (show 0 + (13 * (2 + 1) + 43) ≤ R.locals by omega) (by omega) (by omega) hlocks ?_ h4.2.2 (Nat.le_refl 1) (Nat.le_refl 6)
  intro t hv hs hq
  refine ⟨hPX, ?_, Nat.le_trans h4.1 hs, fun q a b => (hq q (Nat.lt_of_lt_of_le a h4.1)).trans (h4.2.1 q a b)⟩
  rw [ew]
  exact h2.kept (fun k q hk => hq q.1 ((h2 k q hk).lt))
end EndsX
theorem xIA_g1 : ∀ w ∈ (vx_atS RX4 265 xIA xNm).filter goodWord, w ∈ TB := fun w hw => TB_in ((show ∀ w ∈ (vx_atS RX4 265 xIA xNm).filter goodWord, w ∈ lw_tbl by decide +kernel) w hw) (List.mem_filter.mp hw).2
theorem xIA_g2 : ∀ w ∈ (vx_atS RX4 265 xIA xNm).filter (fun w => !goodWord w), w ∈ xB := by decide +kernel
theorem xIA_g3 : ∀ w ∈ Cond.classLink RX4 261 xIA :: Cond.initialized xIA :: vx_atS RX4 265 xIA xNm, vx_ot w = true := by decide +kernel
theorem xIA_k : Cond.classLink RX4 261 xIA ∈ TB := TB_in (by decide +kernel) rfl
theorem xIA_i : Cond.initialized xIA ∈ TB := TB_in (by decide +kernel) rfl
theorem xIS_g1 : ∀ w ∈ (vx_atS RX4 272 xIS xNm).filter goodWord, w ∈ TB := fun w hw => TB_in ((show ∀ w ∈ (vx_atS RX4 272 xIS xNm).filter goodWord, w ∈ lw_tbl by decide +kernel) w hw) (List.mem_filter.mp hw).2
theorem xIS_g2 : ∀ w ∈ (vx_atS RX4 272 xIS xNm).filter (fun w => !goodWord w), w ∈ xB := by decide +kernel
theorem xIS_g3 : ∀ w ∈ Cond.classLink RX4 268 xIS :: Cond.initialized xIS :: vx_atS RX4 272 xIS xNm, vx_ot w = true := by decide +kernel
theorem xIS_k : Cond.classLink RX4 268 xIS ∈ TB := TB_in (by decide +kernel) rfl
theorem xIS_i : Cond.initialized xIS ∈ TB := TB_in (by decide +kernel) rfl
set_option maxRecDepth 100000 in
set_option maxHeartbeats 4000000 in
theorem x_element_no (b : Int32) (X Y Z : DX) (im : Int32) (S : Nat → SX) (g h : Nat → Int32) (r : Nat → Int32) (hR : Rel b X r) (hI : Iv r) (h4 : r 4 = nI 0) (T : TX) (hS : RS S T) (x d : Int32) (hd : ¬ shP d) : XCt yX4_element cX4_element 4 (some .long) 7 [.ref 0, .int d, .int x] (mW X Y Z im S g h) (fun v hh => E_thr T d x = nI 0 ∧ v = some (.long (E_val T d x)) ∧ hh = mW X Y Z im S g h) (fun E => (E = xIA ∧ E_thr T d x = nI 1) ∨ (E = xIS ∧ E_thr T d x = nI 2)) := by
  refine XCt.of rfl (Nat.le_of_ble_eq_true rfl) ⟨clS_of rfl, mW_cl _ _ _ _ _ _ _⟩ (fun K F X0 => ?_)
  show Go K 0 0 0 [(0, .ref 0), (1, .int d), (2, .int x)] [] (mW X Y Z im S g h)
  refine g_aload_n (pc := 0) F dX4_element_0 rfl ?_
  refine g_iload_n (pc := 1) F dX4_element_1 rfl ?_
  refine i_readV (pc := 2) F (c_shelfNone X Y Z im S g h _ hd) mi_X4_shelfOrNull kv_X4_40 rfl rfl dX4_element_2 (by decide) (by decide) rfl (Nat.le_of_ble_eq_true rfl) (by decide) (by decide) ?_
  refine g_astore_nN (pc := 5) F dX4_element_5 (by decide) ?_
  refine g_aload_nN (pc := 6) F dX4_element_6 rfl ?_
  refine g_ifnonnullN (pc := 7) F dX4_element_7 ?_
  exact gx_throw (pc := 10) F X0 (cls := xIA) (by decide +kernel) xIA_k xIA_i xIA_g1 xIA_g2 xIA_g3 (fun A U h => h.2.2.2.1) dX4_element_10 dX4_element_13 dX4_element_14 dX4_element_17 dX4_element_20 (Or.inl ⟨rfl, (E_n1 hd).1⟩)

set_option maxRecDepth 100000 in
set_option maxHeartbeats 4000000 in
theorem x_element_in (b : Int32) (X Y Z : DX) (im : Int32) (S : Nat → SX) (g h : Nat → Int32) (r : Nat → Int32) (hR : Rel b X r) (hI : Iv r) (h4 : r 4 = nI 0) (T : TX) (hS : RS S T) (x d : Int32) (j : Nat) (hd : d = nI j) (hj : j < 8) : XCt yX4_element cX4_element 4 (some .long) 7 [.ref 0, .int d, .int x] (mW X Y Z im S g h) (fun v hh => E_thr T d x = nI 0 ∧ v = some (.long (E_val T d x)) ∧ hh = mW X Y Z im S g h) (fun E => (E = xIA ∧ E_thr T d x = nI 1) ∨ (E = xIS ∧ E_thr T d x = nI 2)) := by
  subst hd
  have hw0 : sH (S j) = tH T j := (hS j hj).1.1
  obtain ⟨n9, hn9, en1, en2⟩ := (hS j hj).2.2.2.1
  refine XCt.of rfl (Nat.le_of_ble_eq_true rfl) ⟨clS_of rfl, mW_cl _ _ _ _ _ _ _⟩ (fun K F X0 => ?_)
  show Go K 0 0 0 [(0, .ref 0), (1, .int (nI j)), (2, .int x)] [] (mW X Y Z im S g h)
  refine g_aload_n (pc := 0) F dX4_element_0 rfl ?_
  refine g_iload_n (pc := 1) F dX4_element_1 rfl ?_
  refine i_readV (pc := 2) F (c_shelfSome X Y Z im S g h _ j rfl hj) mi_X4_shelfOrNull kv_X4_40 rfl rfl dX4_element_2 (by decide) (by decide) rfl (Nat.le_of_ble_eq_true rfl) (by decide) (by decide) ?_
  refine g_astore_n (pc := 5) F dX4_element_5 (by decide) ?_
  refine g_aload_n (pc := 6) F dX4_element_6 rfl ?_
  refine g_ifnonnull (pc := 7) F dX4_element_7 (tgt := 21) rfl ?_
  refine g_aload_n (pc := 21) F dX4_element_21 rfl ?_
  refine g_getf (pc := 22) F fl_X4_44 dX4_element_22 (mW_sh hj) rfl ?_
  refine g_iconst (pc := 25) F dX4_element_25 (v := nI 2) rfl ?_
  refine g_ic_ne (pc := 26) F dX4_element_26 (tgt := 37) rfl (fun c_26 => gx_throw (pc := 37) F X0 (cls := xIS) (by decide +kernel) xIS_k xIS_i xIS_g1 xIS_g2 xIS_g3 (fun A U h => h.2.2.2.2.1) dX4_element_37 dX4_element_40 dX4_element_41 dX4_element_44 dX4_element_47 (Or.inr ⟨rfl, (E_n2 hj (fun z => c_26 (hw0.trans z.1))).1⟩)) (fun c_26 => ?_)
  refine g_aload_n (pc := 29) F dX4_element_29 rfl ?_
  refine g_iload_n (pc := 30) F dX4_element_30 rfl ?_
  refine h_readV (pc := 31) F (c_hasPlace (S j) _) mi_X2_hasPlace kv_X4_255 rfl rfl dX4_element_31 [28 + 2 * j, 28 + 2 * j + 1] (mW_sub hj) (by decide) (by decide) (mW_nd hj) rfl (Nat.le_of_ble_eq_true rfl) trivial (by decide) (by decide) ?_
  refine g_ifne_d (pc := 34) F dX4_element_34 (tgt := 48) rfl (fun c_34 => ?_) (fun c_34 => gx_throw (pc := 37) F X0 (cls := xIS) (by decide +kernel) xIS_k xIS_i xIS_g1 xIS_g2 xIS_g3 (fun A U h => h.2.2.2.2.1) dX4_element_37 dX4_element_40 dX4_element_41 dX4_element_44 dX4_element_47 (Or.inr ⟨rfl, (E_n2 hj (fun z => c_34 (by rw [en2]; exact (plP_iff en1).mp z.2))).1⟩))
  have c34 : nI 0 ≤ x ∧ x ≤ nI n9 - nI 1 := by rw [en2] at c_34; exact c_34
  obtain ⟨q, hq, rfl⟩ := lt_ex (by omega) c34
  refine g_aload_n (pc := 48) F dX4_element_48 rfl ?_
  refine g_getf (pc := 49) F fl_X4_231 dX4_element_49 (mW_sh hj) rfl ?_
  refine g_iload_n (pc := 52) F dX4_element_52 rfl ?_
  refine g_iald2 (pc := 53) F dX4_element_53 (mW_el hj) rfl (by first | omega | (simp only [ix]; omega)) (by decide) ?_
  refine g_i2l (pc := 54) F dX4_element_54 ?_
  exact gx_lret (pc := 55) F X0 dX4_element_55 (Nat.le_of_ble_eq_true rfl) (Nat.le_of_ble_eq_true rfl) rfl ⟨(E_y hj (by omega) (hw0.symm.trans c_26) ((plP_iff en1).mpr c34)).1, congrArg (fun z => some (Value.long z)) ((congrArg Int32.toInt64 ((hS j hj).2.2.2.2.1 q (by omega))).trans (E_y hj (by omega) (hw0.symm.trans c_26) ((plP_iff en1).mpr c34)).2.symm), rfl⟩

theorem x_element (b : Int32) (X Y Z : DX) (im : Int32) (S : Nat → SX) (g h : Nat → Int32) (r : Nat → Int32) (hR : Rel b X r) (hI : Iv r) (h4 : r 4 = nI 0) (T : TX) (hS : RS S T) (x d : Int32) : XCt yX4_element cX4_element 4 (some .long) 7 [.ref 0, .int d, .int x] (mW X Y Z im S g h) (fun v hh => E_thr T d x = nI 0 ∧ v = some (.long (E_val T d x)) ∧ hh = mW X Y Z im S g h) (fun E => (E = xIA ∧ E_thr T d x = nI 1) ∨ (E = xIS ∧ E_thr T d x = nI 2)) := by
  by_cases hd : shP d
  · obtain ⟨j, hj, e⟩ := sh_ex hd
    exact x_element_in b X Y Z im S g h r hR hI h4 T hS x d j e hj
  · exact x_element_no b X Y Z im S g h r hR hI h4 T hS x d hd
theorem xd_element {r i : Nat → Int32} {hi : Int32} {T : TX} {hp : Hp} (hG : GI r i hi T) (hc : CWd r i hi T hp) (d x : Int32) : XCt yX4_element cX4_element 4 (some .long) 7 [.ref 0, .int d, .int x] hp (fun v hh => E_thr T d x = nI 0 ∧ v = some (.long (E_val T d x)) ∧ hh = hp) (fun E => (E = xIA ∧ E_thr T d x = nI 1) ∨ (E = xIS ∧ E_thr T d x = nI 2)) := by
  obtain ⟨b, X, Y, Z, S, g, h, rfl, hR, hS, -⟩ := hc
  exact x_element b X Y Z hi S g h r hR hG.1.1 hG.1.2 T hS x d
theorem go_runX {K : Cx} {own : String} {cc : ByteArray} {nL fr mc ms k n pc : Nat} {ls : List (Nat × Value)} {st rest : List Value} {hp : Hp} (F : Fx K own cc nL fr mc ms) {chp : Hp} {is : List Nat} {mc' ms' : Nat} {Qp : Option Value → Hp → Prop} {PX : String → Prop} (hcc : clH chp.length chp) (hs : Sub hp is chp) (hnd : va_nd is = true) (hrest : ∀ v ∈ rest, v ∈ st)
    (hrun : match K with
      | (p, l, e, R, s, m, args, below, meth, c, D, cA, A, _, nL', n0, ad0) => ∀ (ad : Nat → Nat) (H : Heap) (locs : List Loc) (LS : Array Slot), (∀ j, j < n0 → ad j = ad0 j) → va_P D vwCl (wM ad cA hp) H → va_D A (wM ad cA hp) → va_S A s.heap H locs → lv_has LS nL' (lM ad ls) →
        vx_Run p l e R s m args below meth c H locs k n mc' ms' (F0 m pc LS (st.map (vM ad))) (rest.map (vM ad)) (CQ D cA (fun j => ad (is.getD j 0)) chp H.size Qp 0) (XC D cA (fun j => ad (is.getD j 0)) chp H.size PX) (va_A (wM (fun j => ad (is.getD j 0)) cA chp) H.size))
    (kx : match K with
      | (p, l, e, R, s, m, args, below, meth, c, D, cA, A, Q, nL', n0, ad0) => ∀ (ad : Nat → Nat) (H : Heap) (locs : List Loc) (LS : Array Slot) (E : String) (ce : Cell) (q : Addr), (∀ j, j < n0 → ad j = ad0 j) → va_P D vwCl (wM ad cA hp) H → va_D A (wM ad cA hp) → va_S A s.heap H locs → lv_has LS nL' (lM ad ls) → PX E → H[q]? = some ce → ce.vm = .none → s.vm.findClass E = some ce.cls →
        vx_W p l e R s m args below meth c H locs (k + mc') (n + ms') Q (F0 m pc LS (rest.map (vM ad))) q)
    (kk : ∀ (v : Option Value) (hp2 : Hp), Qp v hp2 → hp2.length = chp.length → Go K (k + mc') (n + ms') (pc + 3) ls ((v.map (vM (rho is hp.length))).toList ++ rest) (place hp is hp2)) : Go K k n pc ls st hp := by
  obtain ⟨p, l, e, R, s, m, args, below, meth, c, D, cA, A, Q, nL', n0, ad0⟩ := K
  obtain ⟨hx, hb, hml, hnl, hown, hts, hK, hA, hfr, hlo, hmc, hms⟩ := F
  intro hcl h0 ad H locs LS h1 h2 h3 h4 h5 T hT X
  rcases hrun ad H locs LS h1 h2 h3 h4 h5 T hT X with ⟨v, st₀, t, T', L, g0, X', hL, e1, e2, ⟨⟨u, hp2, ad2, e3, q, hlen, hcv, hch, hag, hP, hD⟩, hz, hkeep⟩, go⟩ | ⟨qa, st₀, t, T', L, E, ce, g0, X', hL, e1, e2, hXC, hce, hcv, hcl9, go⟩
  · have hA' : ∀ q, H.size ≤ q → A q := fun q h => hA q (Nat.le_trans h4.1 h)
    rw [g0] at hz hkeep
    have hlt : ∀ i ∈ is, i < hp.length := by
      intro i hi
      obtain ⟨j, hj⟩ := List.getElem?_of_mem hi
      obtain ⟨e, -, he⟩ := hs.up hj
      exact (List.getElem?_eq_some_iff.mp he).1
    have hL' := hs.len
    obtain ⟨hP', hD'⟩ := place_back (A := A) (H1 := T'.heap) hs hnd hcl.2.2 h2 h3 hA' hlen hag (by rw [e1]; exact hP) hD (fun q a b => by rw [e1]; exact hkeep q a b)
    have hag3 : ∀ j, j < hp.length → ad3 ad ad2 hp.length is.length j = ad j := fun j hj => by simp [ad3, hj]
    have hr := ad3_rho (ad := ad) (hp := hp) (ad2 := ad2) hlt (fun j hj => hag j (by omega))
    have hS' : va_S A s.heap T'.heap (locs ++ L) := by
      refine ⟨Nat.le_trans h4.1 (by rw [e1]; exact hz), fun q a b => ?_, fun q hq => ?_⟩
      · rw [e1, hkeep q (Nat.lt_of_lt_of_le a h4.1) (fun z => b (sub_A hs h3 hA' q z))]
        exact h4.2.1 q a b
      · rcases List.mem_append.mp hq with h | h
        · exact h4.2.2 q h
        · exact sub_A hs h3 hA' _ (hL q h)
    have hcl' : clAll ls ((u.map (vM (rho is hp.length))).toList ++ rest) (place hp is hp2) := by
      have hl3 := place_len hp is hp2
      refine ⟨fun x hx => clV_mono (hcl.1 x hx) (by rw [hl3]; omega), fun x hx => ?_, place_cl hlt (by omega) hcl.2.2 hch⟩
      rcases List.mem_append.mp hx with hx | hx
      · cases u with
        | none => simp at hx
        | some w =>
          simp at hx
          subst hx
          exact clV_rho (chp := hp2) hlt (by rw [hl3]; omega) (by rw [hl3]; omega) (hcv w rfl)
      · exact clV_mono (hcl.2.1 x (hrest x hx)) (by rw [hl3]; omega)
    have hn0' : ∀ j, j < n0 → ad3 ad ad2 hp.length is.length j = ad0 j := fun j hj => (hag3 j (Nat.lt_of_lt_of_le hj h0)).trans (h1 j hj)
    have hls : lM (ad3 ad ad2 hp.length is.length) ls = lM ad ls := List.map_congr_left (fun x hx => by rw [vM_cong (hcl.1 x hx) hag3])
    have hst : ((u.map (vM (rho is hp.length))).toList ++ rest).map (vM (ad3 ad ad2 hp.length is.length)) = v.toList ++ rest.map (vM ad) := by
      rw [List.map_append]
      congr 1
      · have e4 : v = u.map (vM ad2) := by
          have := e3
          cases this
          rfl
        rw [e4]
        cases u with
        | none => rfl
        | some w =>
          show [vM _ (vM _ w)] = [vM ad2 w]
          rw [vM_vM, show (fun k => ad3 ad ad2 hp.length is.length (rho is hp.length k)) = ad2 from funext hr]
      · exact List.map_congr_left (fun x hx => vM_cong (hcl.2.1 x (hrest x hx)) hag3)
    have G := kk u hp2 q hlen hcl' (by rw [place_len]; omega) (ad3 ad ad2 hp.length is.length) T'.heap (locs ++ L) LS hn0' hP' hD' hS' (by rw [hls]; exact h5)
    rw [hst] at G
    obtain ⟨t2, a1, b1⟩ := G T' rfl X'
    exact ⟨t2, go t2 a1, b1⟩
  · have hA' : ∀ q, H.size ≤ q → A q := fun q h => hA q (Nat.le_trans h4.1 h)
    obtain ⟨hPX, hP, hz, hkeep⟩ := hXC
    rw [g0] at hz hkeep
    have hlt : ∀ i ∈ is, i < hp.length := by
      intro i hi
      obtain ⟨j, hj⟩ := List.getElem?_of_mem hi
      obtain ⟨e, -, he⟩ := hs.up hj
      exact (List.getElem?_eq_some_iff.mp he).1
    have hL' := hs.len
    obtain ⟨hP', hD'⟩ := place_back (A := A) (H1 := T'.heap) (g := 0) (ad2 := fun j => ad (is.getD j 0)) (chp2 := chp) hs hnd hcl.2.2 h2 h3 hA' rfl (fun j hj => rfl) (by rw [e1]; exact hP) ((sub_D hs hnd h3).self) (fun q a b => by rw [e1]; exact hkeep q a b)
    rw [place_same hs hcc hnd] at hP' hD'
    have ew : wM (ad3 ad (fun j => ad (is.getD j 0)) hp.length is.length) cA hp = wM ad cA hp := wM_cg hcl.2.2 (fun k hk => by simp [ad3, hk])
    rw [ew] at hP' hD'
    have hS' : va_S A s.heap T'.heap (locs ++ L) := by
      refine ⟨Nat.le_trans h4.1 (by rw [e1]; exact hz), fun q a b => ?_, fun q hq => ?_⟩
      · rw [e1, hkeep q (Nat.lt_of_lt_of_le a h4.1) (fun z => b (sub_A hs h3 hA' q z))]
        exact h4.2.1 q a b
      · rcases List.mem_append.mp hq with h | h
        · exact h4.2.2 q h
        · exact sub_A hs h3 hA' _ (hL q h)
    obtain ⟨t2, a1, b1⟩ := kx ad T'.heap (locs ++ L) LS E ce qa h1 hP' hD' hS' h5 hPX (by rw [e1]; exact hce) hcv hcl9 T' rfl X'
    exact ⟨t2, go.trans a1, b1⟩
section CallX
variable {K : Cx} {own : String} {cc : ByteArray} {nL fr mc ms k n pc : Nat} {ls : List (Nat × Value)} {st : List Value} {hp : Hp}
  {y : MethodName} {cc' : ByteArray} {nL' fr' idx : Nat} {ret' : Option FieldType} {cas : List Value} {chp : Hp} {Qp : Option Value → Hp → Prop} {PX : String → Prop}
theorem hx_callV (F : Fx K own cc nL fr mc ms) {r0 ci : Nat} {fs : List Value} {T : u_T} {N : Nat} (C : XCt y cc' nL' ret' fr' (.ref r0 :: cas) chp Qp PX) (hX : match K with
      | (_, l, _, _, s, _, _, _, _, _, _, _, A, _, _, _, _) => l.stackTraces = false ∧ XW A s) (hi : Mi y cc' nL' ret' cas.length) (hk : KV own idx y) (d : decode cc pc = .ok (.invokevirtual idx, 3)) (hr : chp[r0]? = some (.inr (ci, fs))) (hc : vwCl[ci]? = some (y.cls, T, N)) (is : List Nat) (rest : List Value) (hfr : fr' < fr) (hl : nL' ≤ 21) (hs : Sub hp is chp) (hnd : va_nd is = true) (hst : st = ((.ref r0 :: cas).map (vM (fun k => is.getD k 0))).reverse ++ rest) (hcat : (rest.map fun v => v.category).sum ≤ 8) (hkc : k + 1 ≤ mc) (hkn : n + 6 ≤ ms)
    (kx : match K with
      | (p, l, e, R, s, m, args, below, meth, c, D, cA, A, Q, nL', n0, ad0) => ∀ (ad : Nat → Nat) (H : Heap) (locs : List Loc) (LS : Array Slot) (E : String) (ce : Cell) (q : Addr), (∀ j, j < n0 → ad j = ad0 j) → va_P D vwCl (wM ad cA hp) H → va_D A (wM ad cA hp) → va_S A s.heap H locs → lv_has LS nL' (lM ad ls) → PX E → H[q]? = some ce → ce.vm = .none → s.vm.findClass E = some ce.cls →
        vx_W p l e R s m args below meth c H locs (k + 1) (n + 6) Q (F0 m pc LS (rest.map (vM ad))) q)
    (kk : ∀ (v : Option Value) (hp2 : Hp), Qp v hp2 → hp2.length = chp.length → Go K (k + 1) (n + 6) (pc + 3) ls ((v.map (vM (rho is hp.length))).toList ++ rest) (place hp is hp2)) : Go K k n pc ls st hp := by
  refine go_runX (mc' := 1) (ms' := 6) F C.1.2 hs hnd (rest_in hst) ?_ kx kk
  obtain ⟨p, l, e, R, s, m, args, below, meth, c, D, cA, A, Q, nL', n0, ad0⟩ := K
  obtain ⟨hx, hb, hml, hnl, hown, hts, hK, hA, hfr2, hlo, hmc, hms⟩ := F
  obtain ⟨hfl, hXW⟩ := hX
  intro ad H locs LS h1 h2 h3 h4 h5
  subst hnl
  have hA' : ∀ q, H.size ≤ q → A q := fun q h => hA q (Nat.le_trans h4.1 h)
  have hst2 := stack_eq (ad := ad) hst
  rw [List.map_cons, List.reverse_cons, List.append_assoc] at hst2
  exact vx_runV (C := y.cls) (As := cas.map (vM (fun j => ad (is.getD j 0)))) (n := cas.length) ⟨hx, hb, hml, hown, hts⟩ (C.2 l hfl D cA (fun j => ad (is.getD j 0)) H.size) ⟨callB_of cas.length hts (TB_good hi.1) rfl rfl rfl (hts _ hi.2.1) (hts _ hk.1) hi.2.2 ⟨by show fr' + 1 ≤ _; omega, by show _ + 40 * fr' ≤ _; omega⟩, hts _ hk.2.1, hts _ hk.2.2⟩ ⟨xBlind _ _ _ _ _ _, va_recv hK.1 (sub_P hs h2) hc (wM_get hr), fun U hU hW => ⟨rfl, by rw [hU], by rw [hU]; exact sub_P hs h2, hK.moved hW, (sub_D hs hnd h3).weaken (fun _ _ _ _ => trivial), hXW.at h4 hU hW (sub_A hs h3 hA')⟩⟩ rfl (List.length_map _) h5.1 hst2 (lv_room (by rw [sum_cat]; exact hcat)) d ⟨by omega, by omega⟩
end CallX
/-! the law's helper -/
abbrev lTab : List (Nat × Nat × Nat × Nat) := [(0, 9, 12, 13), (0, 9, 16, 15)]
def LCt (fr : Nat) (as : List Value) (hp : Hp) (Qp : Option Value → Hp → Prop) : Prop :=
  (clS hp.length as ∧ clH hp.length hp) ∧ ∀ (l : Launch), l.stackTraces = false → ∀ (D : va_G) (cA : FieldType → ClassId) (ad : Nat → Nat) (sz : Nat), Met l yL_element (.codeWith yL_element cL_element 5 (some .int) lTab :: TB) { frames := fr, cells := 1, slots := 6, locals := 40 * fr } (xPc as D cA ad hp sz) (fun _ => CQ D cA ad hp sz Qp 0) 1 6 (va_A (wM ad cA hp) sz)
def LX (K : Cx) (hp0 : Hp) (Qp : Option Value → Hp → Prop) : Prop := match K with
  | (_, l, _, _, s, _, args, below, meth, c, D, cA, A, Q, _, n0, ad0) => meth.sig.returnType = some .int ∧ meth.locks = false ∧ l.stackTraces = false ∧ c.exceptionTable.toList = tableOf lTab ∧ XW A s ∧ n0 = hp0.length ∧ clH hp0.length hp0 ∧ A = va_A (wM ad0 cA hp0) s.heap.size ∧ Q = MQ below (fun _ => CQ D cA ad0 hp0 s.heap.size Qp 0) args s 1 6 A
theorem LCt.of {fr : Nat} {as : List Value} {hp : Hp} {Qp : Option Value → Hp → Prop} (hn : (lg_sl as).length ≤ 5) (hc : clS hp.length as ∧ clH hp.length hp)
    (body : ∀ K : Cx, Fx K RL cL_element 5 fr 1 6 → LX K hp Qp → Go K 0 0 0 (lv_args 0 as) [] hp) : LCt fr as hp Qp := by
  refine ⟨hc, fun l hfl D cA ad sz => ?_⟩
  refine va_MetW (cc := cL_element) (maxL := 5) (ret := some .int) (hh := lTab) rfl rfl ?_
  intro p e s m args below meth c s₁ B hml hv
  obtain ⟨rfl, hsz, hP, hK, hD0, hXW⟩ := hv
  subst hsz
  have hts := atoms_spec (ws := .codeWith yL_element cL_element 5 (some .int) lTab :: TB) B.pre
  have htab := vx_table (x := yL_element) B (hts _ List.mem_cons_self)
  have hD := hD0.self (sz := s.heap.size)
  have hl := lv_entry (as.map (vM ad)) (n := 5) (by rw [lg_sl_map]; exact hn)
  rw [lg_entry_eq]
  generalize (lg_sl (as.map (vM ad)) ++ List.replicate (5 - (lg_sl (as.map (vM ad))).length) Slot.unset).toArray = LS at hl ⊢
  rw [lv_args_map] at hl
  have G := body (p, l, e, (headSpec (.codeWith yL_element cL_element 5 (some .int) lTab :: TB) { frames := fr, cells := 1, slots := 6, locals := 40 * fr }).room, s, m, (as.map (vM ad)).toArray, below, meth, c, D, cA, va_A (wM ad cA hp) s.heap.size, MQ below (fun _ => CQ D cA ad hp s.heap.size Qp 0) (as.map (vM ad)).toArray s 1 6 (va_A (wM ad cA hp) s.heap.size), 5, hp.length, ad)
    ⟨B.exec, B.bytes, hml, rfl, findClass_of_methodNamed B.named, fun w hw => hts w (List.mem_cons_of_mem _ hw), hK, fun q h => Or.inr h, Nat.le_refl _, Nat.le_refl _, Nat.le_refl _, Nat.le_refl _⟩
    ⟨B.returns, B.notSynchronized, hfl, htab, hXW, rfl, hc.2, rfl, rfl⟩
  exact G ⟨fun q hq => hc.1 _ (lv_args_val _ _ _ hq), fun v hv => absurd hv List.not_mem_nil, hc.2⟩ (Nat.le_refl _) ad s.heap [] LS (fun _ _ => rfl) hP hD va_S.rf hl
theorem lx_iret {K : Cx} {own : String} {cc : ByteArray} {nL fr k n pc : Nat} {ls : List (Nat × Value)} {hp hp0 : Hp} {Qp : Option Value → Hp → Prop} (F : Fx K own cc nL fr 1 6) (X : LX K hp0 Qp) {v : Int32} (d : decode cc pc = .ok (.ireturn, 1)) (hk : k ≤ 1) (hn : n ≤ 6) (hl : hp.length = hp0.length) (q : Qp (some (.int v)) hp) : Go K k n pc ls [.int v] hp := by
  obtain ⟨p, l, e, R, s, m, args, below, meth, c, D, cA, A, Q, nL', n0, ad0⟩ := K
  obtain ⟨hx, hb, -⟩ := F
  obtain ⟨hr, hlocks, hfl, htab, hXW, rfl, hc0, rfl, rfl⟩ := X
  intro hcl h0 ad H locs LS h1 h2 h3 h4 h5
  refine W.widen hk hn ?_
  exact W.iret hx hb hr (fun t ht hW => ⟨⟨some (.int v), hp, ad, rfl, q, hl, fun w hw => by cases hw; exact trivial, hcl.2.2, h1, by rw [ht]; exact h2, h3⟩, h4.F ht⟩) h4.2.2 d hlocks
theorem kcl_13 : Cond.classLink RL 13 xIA ∈ TB := TB_in (by decide +kernel) rfl
theorem kcl_15 : Cond.classLink RL 15 xIS ∈ TB := TB_in (by decide +kernel) rfl
theorem xB_4 : Cond.castable xIA xIA ∈ xB := by decide +kernel
theorem xB_5 : Cond.castable xIS xIS ∈ xB := by decide +kernel
theorem lx_kx {K : Cx} {ls : List (Nat × Value)} {rest : List Value} {hp : Hp} {Qp : Option Value → Hp → Prop} {PX : String → Prop} (F : Fx K RL cL_element 5 8 1 6) (X : LX K hp Qp) (hq : ∀ E, PX E → (E = xIA ∧ Qp (some (.int (nI 1))) hp) ∨ (E = xIS ∧ Qp (some (.int (nI 2))) hp)) : match K with
      | (p, l, e, R, s, m, args, below, meth, c, D, cA, A, Q, nL', n0, ad0) => ∀ (ad : Nat → Nat) (H : Heap) (locs : List Loc) (LS : Array Slot) (E : String) (ce : Cell) (q : Addr), (∀ j, j < n0 → ad j = ad0 j) → va_P D vwCl (wM ad cA hp) H → va_D A (wM ad cA hp) → va_S A s.heap H locs → lv_has LS nL' (lM ad ls) → PX E → H[q]? = some ce → ce.vm = .none → s.vm.findClass E = some ce.cls →
        vx_W p l e R s m args below meth c H locs (0 + 1) (0 + 6) Q (F0 m 5 LS (rest.map (vM ad))) q := by
  obtain ⟨p, l, e, R, s, m, args, below, meth, c, D, cA, A, Q, nL', n0, ad0⟩ := K
  obtain ⟨hx, hb, hml, hnl, hown, hts, hK, hA, hfr2, hlo, hmc, hms⟩ := F
  obtain ⟨hr, hlocks, hfl, htab, hXW, rfl, hc0, rfl, rfl⟩ := X
  intro ad H locs LS E ce q h1 h2 h3 h4 h5 hPX hce hcv hcl9
  subst hnl
  rcases hq E hPX with ⟨rfl, hQ⟩ | ⟨rfl, hQ⟩
  · refine vx_catch (own := RL) (name := xIA) (E := xIA) hown [] ⟨0, 9, 12, 13⟩ [⟨0, 9, 16, 15⟩] htab (fun z hz => absurd hz List.not_mem_nil) (by decide) (by decide) (hts _ kcl_13) (va_Nw.use rfl (hXW.1 _ xB_4)) hce hcv hcl9 ?_
    refine lv_astore (lv' := [(4, .ref q)]) hx hb dL_element_12 (lv_memb (l' := []) h5 (fun z hz => absurd hz List.not_mem_nil)) (by decide) rfl (fun LS2 g => ?_)
    refine lv_iconst (v := nI 1) hx hb dL_element_14 rfl ?_
    exact W.iret hx hb hr (fun t ht hW => ⟨⟨some (.int (nI 1)), hp, ad, rfl, hQ, rfl, fun w hw => by cases hw; exact trivial, hc0, h1, by rw [ht]; exact h2, h3⟩, h4.F ht⟩) h4.2.2 dL_element_15 hlocks
  · refine vx_catch (own := RL) (name := xIS) (E := xIS) hown [⟨0, 9, 12, 13⟩] ⟨0, 9, 16, 15⟩ [] htab (fun z hz => ?_) (by decide) (by decide) (hts _ kcl_15) (va_Nw.use rfl (hXW.1 _ xB_5)) hce hcv hcl9 ?_
    · rw [List.mem_singleton.mp hz]
      exact Or.inr ⟨by decide, xIA, hts _ kcl_13, hXW.2.2.2.2.2⟩
    refine lv_astore (lv' := [(4, .ref q)]) hx hb dL_element_16 (lv_memb (l' := []) h5 (fun z hz => absurd hz List.not_mem_nil)) (by decide) rfl (fun LS2 g => ?_)
    refine lv_iconst (v := nI 2) hx hb dL_element_18 rfl ?_
    exact W.iret hx hb hr (fun t ht hW => ⟨⟨some (.int (nI 2)), hp, ad, rfl, hQ, rfl, fun w hw => by cases hw; exact trivial, hc0, h1, by rw [ht]; exact h2, h3⟩, h4.F ht⟩) h4.2.2 dL_element_19 hlocks
theorem CWd.obj0 {r i : Nat → Int32} {hi : Int32} {T : TX} {hp : Hp} (h : CWd r i hi T hp) : (∃ fs, hp[0]? = some (.inr (2, fs))) ∧ hp.length = 44 ∧ clH hp.length hp := by
  obtain ⟨b, X, Y, Z, S, g, h, rfl, -⟩ := h
  exact ⟨⟨_, rfl⟩, rfl, mW_cl _ _ _ _ _ _ _⟩
set_option maxRecDepth 100000 in
set_option maxHeartbeats 800000 in
theorem l_element {r i : Nat → Int32} {hi : Int32} {T : TX} {hp : Hp} (hG : GI r i hi T) (hc : CWd r i hi T hp) (d x : Int32) (o : Nat → Int64) : LCt 8 [.ref 0, .int d, .int x, .ref 44] (hp ++ [oC o]) (fun v hh => v = some (.int (E_thr T d x)) ∧ ∃ o2, hh = hp ++ [oC o2] ∧ (E_thr T d x = nI 0 → o2 0 = E_val T d x)) := by
  obtain ⟨⟨fs, e0⟩, hlen, hcl⟩ := hc.obj0
  have hc45 := clH_45 (o := o) hlen hcl
  have h45 : (hp ++ [oC o]).length = 45 := by rw [List.length_append, hlen]; rfl
  refine LCt.of (Nat.le_of_ble_eq_true rfl) ⟨by rw [h45]; exact clS_of rfl, hc45⟩ (fun K F X0 => ?_)
  show Go K 0 0 0 [(0, .ref 0), (1, .int d), (2, .int x), (3, .ref 44)] [] (hp ++ [oC o])
  refine g_aload_n (pc := 0) F dL_element_0 rfl ?_
  refine g_iconst (pc := 1) F dL_element_1 (v := nI 0) rfl ?_
  refine g_aload_n (pc := 2) F dL_element_2 rfl ?_
  refine g_iload_n (pc := 3) F dL_element_3 rfl ?_
  refine g_iload_n (pc := 4) F dL_element_4 rfl ?_
  have hX : match K with
      | (_, l, _, _, s, _, _, _, _, _, _, _, A, _, _, _, _) => l.stackTraces = false ∧ XW A s := by
    obtain ⟨p, l, e, R, s, m, args, below, meth, c, D, cA, A, Q, nL', n0, ad0⟩ := K
    exact ⟨X0.2.2.1, X0.2.2.2.2.1⟩
  have hsub := Sub_pre (rest := [oC o]) hcl
  refine hx_callV (pc := 5) F (xd_element hG hc d x) hX mi_X4_element kv_L_7 dL_element_5 e0 rfl (List.range hp.length) [.int (nI 0), .ref 44] (by decide) (by decide) hsub (nd_range _) ?_ (Nat.le_of_ble_eq_true rfl) (by decide) (by decide) (lx_kx F X0 ?_) ?_
  · show _ = ([Value.int x, Value.int d, Value.ref ((List.range hp.length).getD 0 0)] : List Value) ++ _
    rw [getD_range (by omega)]
    rfl
  · rintro E (⟨rfl, e⟩ | ⟨rfl, e⟩)
    · exact Or.inl ⟨rfl, congrArg (fun z => some (Value.int z)) e.symm, o, rfl, fun z => absurd (e.symm.trans z) (by decide)⟩
    · exact Or.inr ⟨rfl, congrArg (fun z => some (Value.int z)) e.symm, o, rfl, fun z => absurd (e.symm.trans z) (by decide)⟩
  rintro _ hp2 ⟨e, rfl, rfl⟩ -
  rw [place_pre rfl hcl]
  show Go K 1 6 8 [(0, .ref 0), (1, .int d), (2, .int x), (3, .ref 44)] [.long (E_val T d x), .int (nI 0), .ref 44] (hp2 ++ [oC o])
  have e44 : (hp2 ++ [oC o])[44]? = some (oC o) := by
    refine (List.getElem?_append_right (by omega)).trans ?_
    rw [hlen]
    rfl
  refine g_last (pc := 8) F dL_element_8 e44 (nI_in (by decide) (by decide)) ?_
  have es : (hp2 ++ [oC o]).set 44 (oC (vp_updL o (nI 0).toNatClampNeg (E_val T d x))) = hp2 ++ [oC (vp_updL o (nI 0).toNatClampNeg (E_val T d x))] := by
    rw [List.set_append_right _ _ (by omega), hlen]
    rfl
  rw [es]
  refine g_goto (pc := 9) F dL_element_9 (tgt := 20) rfl ?_
  refine g_iconst (pc := 20) F dL_element_20 (v := nI 0) rfl ?_
  exact lx_iret (pc := 21) F X0 dL_element_21 (Nat.le_refl 1) (Nat.le_refl 6) (by rw [List.length_append, List.length_append]; rfl) ⟨congrArg (fun z => some (Value.int z)) e.symm, _, rfl, fun _ => by rfl⟩
/-! the call of the law's helper -/
