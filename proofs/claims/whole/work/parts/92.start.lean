/-! the law's start -/
theorem nest_tbl : ∀ q ∈ nest, Cond.methodLinkNest q.1 q.2.1 q.2.2.1 q.2.2.2 ∈ lw_tbl := by decide +kernel
theorem xB_tbl : ∀ w ∈ xB, w ∈ lw_tbl := by decide +kernel
theorem law_KK {args : Array Value} {s : State} (hts : ∀ w ∈ lw_tbl, w.before args s = true) : ∃ (D : va_G) (cA : FieldType → ClassId), KK D cA s := by
  have hTB : ∀ w ∈ TB, w.before args s = true := fun w hw => hts w (List.mem_filter.mp hw).1
  obtain ⟨c0, i0, h0⟩ := u_known hTB fc_X0.2.1 (hTB _ kinst_X0)
  obtain ⟨c1, i1, h1⟩ := u_known hTB fc_X2.2.1 (hTB _ kinst_X2)
  obtain ⟨c2, i2, h2⟩ := u_known hTB fc_X4.2.1 (hTB _ kinst_X4)
  obtain ⟨c3, i3, h3⟩ := u_known hTB fc_X5.2.1 (hTB _ kinst_X5)
  obtain ⟨a1, k1, p1, f1, g1, e1⟩ := Cond.arrayClass_spec (hts (.arrayClass .int) (by decide +kernel))
  obtain ⟨a2, k2, p2, f2, g2, e2⟩ := Cond.arrayClass_spec (hts (.arrayClass .long) (by decide +kernel))
  have hao := hts (.arrayOver (.object RX2)) (by decide +kernel)
  obtain ⟨p3, a3, k3, m1, m2, g3, e3, f3⟩ := Cond.arrayOver_spec hao
  refine ⟨(fun k => match k with | 0 => c0 | 1 => c1 | 2 => c2 | _ => c3, fun k => match k with | 0 => i0 | 1 => i1 | 2 => i2 | _ => i3), fun ty => match ty with | .int => a1 | .long => a2 | _ => a3, ⟨?_, ?_⟩, ?_, va_AO.of hao⟩
  · intro k q hq
    match k, hq with
    | 0, hq => cases hq; exact h0
    | 1, hq => cases hq; exact h1
    | 2, hq => cases hq; exact h2
    | 3, hq => cases hq; exact h3
    | k + 4, hq => simp [vwCl] at hq
  · intro k q hq
    match k, hq with
    | 0, hq => cases hq; exact ⟨fun n z => ⟨(fun k h => by cases h), k1, g1, p1, e1⟩, f1⟩
    | 1, hq => cases hq; exact ⟨fun n z => ⟨(fun k h => by cases h), k2, g2, p2, e2⟩, f2⟩
    | 2, hq => cases hq; exact ⟨fun n z => ⟨(fun k h => by cases h), k3, g3, p3, e3⟩, k3, p3, g3, e3, m1, f3⟩
    | k + 3, hq => simp at hq
  · intro q hq
    exact va_Nw.of rfl (hts _ (nest_tbl q hq))
theorem law_XW {b : Nat} {s : State} (hts : ∀ w ∈ lw_tbl, w.before #[Value.ref b] s = true) (hgv : (Jvm.Cond.and given_1 narrow_1).before #[Value.ref b] s = true) : XW (fun q => s.heap.size ≤ q) s := by
  have hs := flat_of_before _ hgv
  refine ⟨fun w hw => va_Nw.of (xB_on w hw) (hts w (xB_tbl w hw)), vx_Zqof (hts (.laysStatic Bundle.tN "UNASSIGNED_STACK" Bundle.steD) (by decide +kernel)) (hts (.initialized Bundle.tN) (by decide +kernel)) (hs (.isRef (.static Bundle.tN "UNASSIGNED_STACK" Bundle.steD)) (by decide +kernel)) (fun a h => Nat.not_le.mpr h), vx_Zqof (hts (.laysStatic Bundle.tN "SUPPRESSED_SENTINEL" Bundle.listD) (by decide +kernel)) (hts (.initialized Bundle.tN) (by decide +kernel)) (hs (.isRef (.static Bundle.tN "SUPPRESSED_SENTINEL" Bundle.listD)) (by decide +kernel)) (fun a h => Nat.not_le.mpr h), ?_, ?_, va_Nc.of (hs (.not (.castable xIS xIA)) (by decide +kernel))⟩
  · obtain ⟨a, z1, z2, z3, h1, -⟩ := Cond.exactly_spec (hs (.exactly (.string RX4 263) "java/lang/String") (by decide +kernel))
    exact ⟨a, vk_R.of (hts (.stringRef RX4 263 "no such shelf") (by decide +kernel)) h1⟩
  · obtain ⟨a, z1, z2, z3, h1, -⟩ := Cond.exactly_spec (hs (.exactly (.string RX4 270) "java/lang/String") (by decide +kernel))
    exact ⟨a, vk_R.of (hts (.stringRef RX4 270 "no row, or no such place in it") (by decide +kernel)) h1⟩
theorem Sub_end {a : Hp} {x y : Ce} {N : Nat} (hN : a.length = N) (h : eH (fun k => [N].getD k 0) x = y) : Sub (a ++ [y]) [N] [x] := by
  subst hN
  show [some (eH (fun k => [a.length].getD k 0) x)] = [(a ++ [y])[a.length]?]
  rw [h, List.getElem?_append_right (Nat.le_refl _), Nat.sub_self]
  rfl
theorem place_any {x : Ce} {h2 : Hp} (hne : ¬ h2 = []) (h : clH h2.length h2) : place [x] [0] h2 = h2 := by
  cases h2 with
  | nil => exact absurd rfl hne
  | cons e t => exact place_one h
theorem place_anyE {a : Hp} {x : Ce} {h2 : Hp} {N : Nat} (hne : ¬ h2 = []) (hN : a.length = N) (h : clH h2.length h2) : place (a ++ [x]) [N] h2 = a ++ h2.map (eH (fun k => N + k)) := by
  cases h2 with
  | nil => exact absurd rfl hne
  | cons e t => exact place_end hN h
set_option maxRecDepth 100000 in
set_option maxHeartbeats 800000 in
theorem law_body {sb L : Nat} {xs : Nat → Int32} {K : Cx} (F : Fx K RL cL_law 8 10 601024 7293034) (S : ScrX sb L xs K) (hX : LawX K) (hL : L ≤ 3072) (E : ∀ (q : Nat) (ls : List (Nat × Value)) (hp : Hp), q ≤ 512 → GL sb K (57 + q) (2166 + 6 * q) 1779 ls [.int (nI 1)] hp) : GL sb K 0 0 0 [] [] [] := by
  refine gl_newO (pc := 0) F fc_X4 dL_law_0 kcl_L_8 kinst_X4 kini_X4 (fs := nX4) nX4_ok rfl (Nat.le_of_ble_eq_true rfl) (Nat.le_of_ble_eq_true rfl) ?_
  show GL sb K 1 7 3 [] [.ref 0] [.inr (2, nX4)]
  refine gl_dup (pc := 3) F dL_law_3 rfl ?_
  refine gl_callI (pc := 4) F c_initM mi_X4_init ki_L_17 dL_law_4 [0] [.ref 0] (by decide) (by decide) rfl (by decide) rfl (Nat.le_of_ble_eq_true rfl) (Nat.le_of_ble_eq_true rfl) (Nat.le_of_ble_eq_true rfl) ?_
  rintro _ W0 ⟨rfl, e0⟩ -
  have hc : CWd (rI 10) z0 0 T00 W0 := by rw [e0]; exact start_CWd
  clear e0
  rw [place_any (fun z => absurd (hc.len.symm.trans (congrArg List.length z)) (by decide)) hc.cl]
  show GL sb K 44 1060 7 [] [.ref 0] W0
  have hl := hc.len
  refine gl_astore_n (pc := 7) F dL_law_7 (by decide) (by decide) ?_
  refine gl_newO (pc := 8) F fc_X5 dL_law_8 kcl_L_18 kinst_X5 kini_X5 (fs := nX5) nX5_ok rfl (Nat.le_of_ble_eq_true rfl) (Nat.le_of_ble_eq_true rfl) ?_
  rw [hl]
  show GL sb K 45 1077 11 [(1, .ref 0)] [.ref 44] (W0 ++ [.inr (3, nX5)])
  refine gl_dup (pc := 11) F dL_law_11 rfl ?_
  refine gl_callI (pc := 12) F c_initR mi_X5_init ki_L_20 dL_law_12 [44] [.ref 44] (by decide) (by decide) (Sub_end hl rfl) (by decide) rfl (Nat.le_of_ble_eq_true rfl) (Nat.le_of_ble_eq_true rfl) (Nat.le_of_ble_eq_true rfl) ?_
  rintro _ W1 ⟨rfl, e1⟩ -
  have hr : RWd (rI 10) z0 0 T00 W1 := by rw [e1]; exact start_RWd
  clear e1
  rw [place_anyE (fun z => absurd (hr.len.symm.trans (congrArg List.length z)) (by decide)) hl hr.cl]
  show GL sb K 56 2165 15 [(1, .ref 0)] [.ref 44] (W0 ++ W1.map (eH (fun k => 44 + k)))
  have hl2 : (W0 ++ W1.map (eH (fun k => 44 + k))).length = 56 := LW_hz hl hr.len
  refine gl_astore_n (pc := 15) F dL_law_15 (by decide) (by decide) ?_
  refine gl_iconst (pc := 16) F dL_law_16 (v := nI 1) rfl ?_
  refine gl_newL (pc := 17) F dL_law_17 (by decide) rfl (by decide) (Nat.le_of_ble_eq_true rfl) (Nat.le_of_ble_eq_true rfl) ?_
  rw [hl2, List.append_assoc]
  show GL sb K 57 2166 19 [(1, .ref 0), (2, .ref 44)] [.ref 56] (LW W0 W1 (fun _ => 0))
  refine gl_astore_n (pc := 19) F dL_law_19 (by decide) (by decide) ?_
  refine gl_iconst (pc := 20) F dL_law_20 (v := nI 0) rfl ?_
  refine gl_istore (pc := 21) F dL_law_21 (by decide) (by decide) ?_
  exact law_loop F S hX hL E 513 0 (by omega) (Nat.zero_le _) start_GI hc hr
