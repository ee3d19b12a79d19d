/-! the law's world and its rows -/
theorem eH_cg {f g : Nat → Nat} {n : Nat} {e : Ce} (h : clE n e) (hfg : ∀ k, k < n → f k = g k) : eH f e = eH g e := by
  rcases e with ⟨ty, m, a⟩ | ⟨c, fs⟩
  · rcases a with x | x | x | x | x <;> try rfl
    have e : (fun j => (x j).map f) = fun j => (x j).map g := by
      funext j
      cases hj : x j with
      | none => rfl
      | some k => exact congrArg some (hfg _ (h j k hj))
    simp only [eH, aM, e]
  · simp only [eH]
    congr 2
    exact List.map_congr_left (fun v hv => vM_cong (h v hv) hfg)
abbrev oC (o : Nat → Int64) : Ce := .inl (.long, 1, .inr (.inl o))
def LW (hp hq : Hp) (o : Nat → Int64) : Hp := hp ++ (hq.map (eH (fun k => 44 + k)) ++ [oC o])
theorem rg_get {N n k : Nat} (h : k < n) : (List.range' N n)[k]? = some (N + k) := by
  rw [List.getElem?_range' h, Nat.one_mul]
theorem rg_getD {N n k z : Nat} (h : k < n) : (List.range' N n).getD k z = N + k := by
  rw [List.getD_eq_getElem?_getD, rg_get h]
  rfl
theorem rg_nd (N n : Nat) : va_nd (List.range' N n) = true := by
  have key : ∀ l : List Nat, l.Nodup → va_nd l = true := by
    intro l
    induction l with
    | nil => exact fun _ => rfl
    | cons a t ih =>
      intro h
      have h2 := List.nodup_cons.mp h
      simp only [va_nd, Bool.and_eq_true]
      exact ⟨by simpa using h2.1, ih h2.2⟩
  exact key _ List.nodup_range'
theorem rg_mem {N n k : Nat} : k ∈ List.range' N n ↔ N ≤ k ∧ k < N + n := by
  rw [List.mem_range'_1]
theorem Sub_mid {a b c : Hp} {N n : Nat} (hN : a.length = N) (hn : b.length = n) (h : clH b.length b) : Sub (a ++ (b.map (eH (fun k => N + k)) ++ c)) (List.range' N n) b := by
  subst hN
  subst hn
  unfold Sub
  apply List.ext_getElem?
  intro k
  rw [List.getElem?_map, List.getElem?_map]
  by_cases hk : k < b.length
  · have e1 : b[k]? = some b[k] := List.getElem?_eq_getElem hk
    rw [rg_get hk, e1]
    show some (some _) = some ((a ++ (b.map (eH (fun k => a.length + k)) ++ c))[a.length + k]?)
    rw [List.getElem?_append_right (by omega), Nat.add_sub_cancel_left, List.getElem?_append_left (by rw [List.length_map]; exact hk), List.getElem?_map, e1]
    show some (some _) = some (some _)
    rw [eH_cg (h _ (List.getElem_mem hk)) (fun j hj => rg_getD hj)]
  · rw [List.getElem?_eq_none (by omega), List.getElem?_eq_none (by rw [List.length_range']; omega)]
    rfl
theorem place_mid {a b c b2 : Hp} {N n : Nat} (hN : a.length = N) (hn : b.length = n) (hl : b2.length = b.length) (h : clH b2.length b2) : place (a ++ (b.map (eH (fun k => N + k)) ++ c)) (List.range' N n) b2 = a ++ (b2.map (eH (fun k => N + k)) ++ c) := by
  subst hN
  subst hn
  have hm : b2.map (eH (rho (List.range' a.length b.length) (a ++ (b.map (eH (fun k => a.length + k)) ++ c)).length)) = b2.map (eH (fun k => a.length + k)) := List.map_congr_left (fun e he => eH_cg (h e he) (fun j hj => rg_getD (by omega)))
  unfold place
  rw [hm, List.drop_eq_nil_of_le (by rw [List.length_range']; omega), List.map_nil, List.append_nil]
  apply List.ext_getElem?
  intro k
  by_cases h1 : k < a.length
  · rw [putAll_off _ _ _ (fun q => by have := (rg_mem.mp q).1; omega), List.getElem?_append_left h1, List.getElem?_append_left h1]
  · by_cases h2 : k < a.length + b.length
    · obtain ⟨j, rfl⟩ : ∃ j, k = a.length + j := ⟨k - a.length, by omega⟩
      rw [putAll_at (List.range' a.length b.length) _ _ j (rg_nd _ _) (rg_get (by omega)) (by rw [List.length_append, List.length_append, List.length_map]; omega) (by rw [List.length_range', List.length_map]; omega)]
      rw [List.getElem?_append_right (by omega), Nat.add_sub_cancel_left, List.getElem?_append_left (by rw [List.length_map]; omega)]
    · rw [putAll_off _ _ _ (fun q => by have := (rg_mem.mp q).2; omega), List.getElem?_append_right (by omega), List.getElem?_append_right (by rw [List.length_map]; omega), List.getElem?_append_right (by omega), List.getElem?_append_right (by rw [List.length_map]; omega), List.length_map, List.length_map, hl]
/-- the row for a long answer, with the class's cells: the law's own helper -/
theorem lw_get {k : Nat} (h : k < 44) : (List.range 44 ++ [56])[k]? = some k := by
  rw [List.getElem?_append_left (by rw [List.length_range]; exact h)]
  exact List.getElem?_range h
theorem lw_is {k z : Nat} (h : k < 44) : (List.range 44 ++ [56]).getD k z = k := by
  rw [List.getD_eq_getElem?_getD, lw_get h]
  rfl
theorem lw_nd : va_nd (List.range 44 ++ [56]) = true := by decide +kernel
theorem lw_mem {k : Nat} : k ∈ List.range 44 ++ [56] ↔ k < 44 ∨ k = 56 := by
  rw [List.mem_append, List.mem_range, List.mem_singleton]
theorem clH_45 {hp : Hp} {o : Nat → Int64} (hl : hp.length = 44) (h : clH hp.length hp) : clH (hp ++ [oC o]).length (hp ++ [oC o]) := by
  intro e he
  rcases List.mem_append.mp he with he | he
  · exact clE_mono (h e he) (by rw [List.length_append]; exact Nat.le_add_right _ _)
  · rw [List.mem_singleton.mp he]
    trivial
theorem LW_hz {hp hq : Hp} (hl : hp.length = 44) (hlq : hq.length = 12) : (hp ++ hq.map (eH (fun k => 44 + k))).length = 56 := by rw [List.length_append, List.length_map, hl, hlq]
theorem LW_56 {hp hq : Hp} {o : Nat → Int64} (hl : hp.length = 44) (hlq : hq.length = 12) : (LW hp hq o)[56]? = some (oC o) := by
  unfold LW
  rw [← List.append_assoc]
  refine (List.getElem?_append_right (Nat.le_of_eq (LW_hz hl hlq))).trans ?_
  rw [LW_hz hl hlq]
  rfl
theorem Sub_el {hp hq : Hp} {o : Nat → Int64} (hl : hp.length = 44) (hlq : hq.length = 12) (h : clH hp.length hp) : Sub (LW hp hq o) (List.range 44 ++ [56]) (hp ++ [oC o]) := by
  unfold Sub LW
  apply List.ext_getElem?
  intro k
  rw [List.getElem?_map, List.getElem?_map]
  by_cases hk : k < 44
  · have hk' : k < hp.length := by omega
    have e1 : hp[k]? = some hp[k] := List.getElem?_eq_getElem hk'
    rw [lw_get hk, List.getElem?_append_left hk', e1]
    show some (some _) = some ((hp ++ (hq.map (eH (fun k => 44 + k)) ++ [oC o]))[k]?)
    rw [List.getElem?_append_left hk', e1, eH_id (h _ (List.getElem_mem hk')) (fun j hj => lw_is (by omega))]
  · by_cases hk2 : k = 44
    · subst hk2
      have e2 : (hp ++ [oC o])[44]? = some (oC o) := by rw [List.getElem?_append_right (by omega), hl]; rfl
      rw [e2, show (List.range 44 ++ [56])[44]? = some 56 from rfl]
      show some (some _) = some ((LW hp hq o)[56]?)
      rw [LW_56 hl hlq]
      rfl
    · rw [List.getElem?_eq_none (by rw [List.length_append]; show _ + 1 ≤ k; omega), List.getElem?_eq_none (by rw [List.length_append, List.length_range]; show 44 + 1 ≤ k; omega)]
      rfl
theorem LW_ne {hp hq : Hp} {o o2 : Nat → Int64} {k : Nat} (hl : hp.length = 44) (hlq : hq.length = 12) (h : ¬ k = 56) : (LW hp hq o)[k]? = (LW hp hq o2)[k]? := by
  have hz := LW_hz hl hlq
  unfold LW
  rw [← List.append_assoc, ← List.append_assoc]
  by_cases h3 : k < 56
  · exact (List.getElem?_append_left (by rw [hz]; exact h3)).trans (List.getElem?_append_left (by rw [hz]; exact h3)).symm
  · exact (List.getElem?_eq_none (by rw [List.length_append, hz]; show 56 + 1 ≤ k; omega)).trans (List.getElem?_eq_none (by rw [List.length_append, hz]; show 56 + 1 ≤ k; omega)).symm
theorem place_el {hp hq : Hp} {o o2 : Nat → Int64} (hl : hp.length = 44) (hlq : hq.length = 12) (h : clH hp.length hp) : place (LW hp hq o) (List.range 44 ++ [56]) (hp ++ [oC o2]) = LW hp hq o2 := by
  have hm : (hp ++ [oC o2]).map (eH (rho (List.range 44 ++ [56]) (LW hp hq o).length)) = hp ++ [oC o2] := by
    rw [List.map_append, show hp.map (eH (rho (List.range 44 ++ [56]) (LW hp hq o).length)) = hp from (List.map_congr_left (fun e he => eH_id (h e he) (fun j hj => lw_is (by omega)))).trans (List.map_id hp)]
    rfl
  have hz : (hp ++ [oC o2]).length = 45 := by rw [List.length_append, hl]; rfl
  unfold place
  rw [hm, List.drop_eq_nil_of_le (by rw [hz]; exact Nat.le_refl 45), List.map_nil, List.append_nil]
  have hw : (LW hp hq o).length = 57 := by unfold LW; rw [List.length_append, List.length_append, List.length_map, hl, hlq]; rfl
  apply List.ext_getElem?
  intro k
  by_cases h1 : k < 44
  · rw [putAll_at _ _ _ k lw_nd (lw_get h1) (by omega) (by rw [hz]; exact Nat.le_refl 45)]
    unfold LW
    exact (List.getElem?_append_left (by omega)).trans (List.getElem?_append_left (by omega)).symm
  · by_cases h2 : k = 56
    · subst h2
      rw [putAll_at _ _ _ 44 lw_nd rfl (by omega) (by rw [hz]; exact Nat.le_refl 45), LW_56 hl hlq]
      refine (List.getElem?_append_right (by omega)).trans ?_
      rw [hl]
      rfl
    · rw [putAll_off _ _ _ (fun q => by rcases lw_mem.mp q with q | q <;> omega)]
      exact LW_ne hl hlq h2
theorem putAll_nil (hp es : Hp) : putAll hp [] es = hp := by cases es <;> rfl
/-- what is made new, put in its place -/
theorem place_one {x e : Ce} {t : Hp} (h : clH (e :: t).length (e :: t)) : place [x] [0] (e :: t) = e :: t := by
  have hr : ∀ k, k < (e :: t).length → rho [0] 1 k = k := by
    intro k _
    unfold rho
    match k with
    | 0 => rfl
    | k + 1 => show 1 + (k + 1 - 1) = k + 1; omega
  have hm : (e :: t).map (eH (rho [0] 1)) = e :: t := (List.map_congr_left (fun e he => eH_id (h e he) hr)).trans (List.map_id _)
  have ht : t.map (eH (rho [0] 1)) = t := by
    have := congrArg List.tail hm
    exact this
  show putAll [x] [0] ((e :: t).map (eH (rho [0] 1))) ++ ((e :: t).drop 1).map (eH (rho [0] 1)) = e :: t
  rw [hm]
  show putAll [e] [] t ++ t.map (eH (rho [0] 1)) = e :: t
  rw [putAll_nil, ht]
  rfl
theorem place_end {a : Hp} {x e : Ce} {t : Hp} {N : Nat} (hN : a.length = N) (h : clH (e :: t).length (e :: t)) : place (a ++ [x]) [N] (e :: t) = a ++ (e :: t).map (eH (fun k => N + k)) := by
  subst hN
  have hr : ∀ k, k < (e :: t).length → rho [a.length] (a ++ [x]).length k = a.length + k := by
    intro k _
    unfold rho
    match k with
    | 0 => rfl
    | k + 1 =>
      show (a ++ [x]).length + (k + 1 - 1) = a.length + (k + 1)
      rw [List.length_append]
      show a.length + 1 + (k + 1 - 1) = _
      omega
  have hm : (e :: t).map (eH (rho [a.length] (a ++ [x]).length)) = (e :: t).map (eH (fun k => a.length + k)) := List.map_congr_left (fun z hz => eH_cg (h z hz) hr)
  have ht : t.map (eH (rho [a.length] (a ++ [x]).length)) = t.map (eH (fun k => a.length + k)) := congrArg List.tail hm
  have h0 : eH (rho [a.length] (a ++ [x]).length) e = eH (fun k => a.length + k) e := eH_cg (h e List.mem_cons_self) hr
  show putAll (a ++ [x]) [a.length] ((e :: t).map (eH (rho [a.length] (a ++ [x]).length))) ++ ((e :: t).drop 1).map (eH (rho [a.length] (a ++ [x]).length)) = _
  rw [hm]
  show (putAll (a ++ [x]) [a.length] (eH (fun k => a.length + k) e :: t.map (eH (fun k => a.length + k)))) ++ t.map (eH (rho [a.length] (a ++ [x]).length)) = _
  rw [ht]
  show (putAll ((a ++ [x]).set a.length (eH (fun k => a.length + k) e)) [] (t.map (eH (fun k => a.length + k)))) ++ t.map (eH (fun k => a.length + k)) = _
  rw [putAll_nil, List.set_append_right _ _ (Nat.le_refl _), Nat.sub_self]
  show (a ++ [eH (fun k => a.length + k) e]) ++ t.map (eH (fun k => a.length + k)) = a ++ (eH (fun k => a.length + k) e :: t.map (eH (fun k => a.length + k)))
  rw [List.append_assoc]
  rfl
/-- the law's script -/
def ScrX (sb L : Nat) (xs : Nat → Int32) (K : Cx) : Prop := match K with
  | (_, _, _, _, s, _, _, _, _, _, _, _, A, _, _, _, _) => va_X sb L xs s s.heap ∧ sb < s.heap.size ∧ ¬ A sb
section LawRows
variable {sb L : Nat} {xs : Nat → Int32} {K : Cx} {own : String} {cc : ByteArray} {nL fr mc ms k n pc : Nat} {ls : List (Nat × Value)} {st : List Value} {hp : Hp}
theorem nI_vp {i L : Nat} (h : i < L) (hL : L ≤ 3072) : vp_in (nI i) L := nI_in h (by omega)
theorem gl_s0 (F : Fx K own cc nL fr mc ms) (S : ScrX sb L xs K) (hL : L ≤ 3072) {i : Nat} (hi : i < L) (d0 : decode cc pc = .ok (.aload_n 0, 1)) (d1 : decode cc (pc + 1) = .ok (.iload 4, 2)) (d3 : decode cc (pc + 3) = .ok (.iaload, 1)) (hv : look ls 4 = some (.int (nI i))) (kk : GL sb K k n (pc + 4) ls (.int (xs i) :: st) hp) : GL sb K k n pc ls st hp := by
  obtain ⟨p, l, e, R, s, m, args, below, meth, c, D, cA, A, Q, nL', n0, ad0⟩ := K
  obtain ⟨hx, hb, hml, hnl, hown, hts, hK, hA, hfr, hlo, hmc, hms⟩ := F
  obtain ⟨hX, hbl, hbA⟩ := S
  intro hcl h0 ad H locs LS h1 h2 h3 h4 h5
  refine lv_aload_n hx hb d0 rfl (h5.2.2 _ List.mem_cons_self) ?_
  refine lv_iload hx hb d1 (lv_look (lv_tl h5) hv) ?_
  refine va_sld hx hb hX hbl hbA h4 (nI_vp hi hL) d3 ?_
  rw [nI_clamp (show i < 2 ^ 31 by omega)]
  exact kk (⟨hcl.1, clS_push trivial hcl.2.1, hcl.2.2⟩) h0 ad H locs LS h1 h2 h3 h4 h5
theorem gl_sk (F : Fx K own cc nL fr mc ms) (S : ScrX sb L xs K) (hL : L ≤ 3072) {i j : Nat} (hi : i + j < L) {a : Int} (d0 : decode cc pc = .ok (.aload_n 0, 1)) (d1 : decode cc (pc + 1) = .ok (.iload 4, 2)) (d3 : decode cc (pc + 3) = .ok (.iconst a, 1)) (ha : Int32.ofInt a = nI j) (d4 : decode cc (pc + 4) = .ok (.iadd, 1)) (d5 : decode cc (pc + 5) = .ok (.iaload, 1)) (hv : look ls 4 = some (.int (nI i))) (kk : GL sb K k n (pc + 6) ls (.int (xs (i + j)) :: st) hp) : GL sb K k n pc ls st hp := by
  obtain ⟨p, l, e, R, s, m, args, below, meth, c, D, cA, A, Q, nL', n0, ad0⟩ := K
  obtain ⟨hx, hb, hml, hnl, hown, hts, hK, hA, hfr, hlo, hmc, hms⟩ := F
  obtain ⟨hX, hbl, hbA⟩ := S
  intro hcl h0 ad H locs LS h1 h2 h3 h4 h5
  refine lv_aload_n hx hb d0 rfl (h5.2.2 _ List.mem_cons_self) ?_
  refine lv_iload hx hb d1 (lv_look (lv_tl h5) hv) ?_
  refine lv_iconst hx hb d3 ha ?_
  refine lv_iadd hx hb d4 ?_
  rw [nI_add]
  refine va_sld hx hb hX hbl hbA h4 (nI_vp hi hL) d5 ?_
  rw [nI_clamp (show i + j < 2 ^ 31 by omega)]
  exact kk (⟨hcl.1, clS_push trivial hcl.2.1, hcl.2.2⟩) h0 ad H locs LS h1 h2 h3 h4 h5
theorem gl_slen (F : Fx K own cc nL fr mc ms) (S : ScrX sb L xs K) (d0 : decode cc pc = .ok (.aload_n 0, 1)) (d1 : decode cc (pc + 1) = .ok (.arraylength, 1)) (kk : GL sb K k n (pc + 2) ls (.int (nI L) :: st) hp) : GL sb K k n pc ls st hp := by
  obtain ⟨p, l, e, R, s, m, args, below, meth, c, D, cA, A, Q, nL', n0, ad0⟩ := K
  obtain ⟨hx, hb, hml, hnl, hown, hts, hK, hA, hfr, hlo, hmc, hms⟩ := F
  obtain ⟨hX, hbl, hbA⟩ := S
  intro hcl h0 ad H locs LS h1 h2 h3 h4 h5
  refine lv_aload_n hx hb d0 rfl (h5.2.2 _ List.mem_cons_self) ?_
  refine va_slen hx hb hX hbl hbA h4 d1 ?_
  exact kk (⟨hcl.1, clS_push trivial hcl.2.1, hcl.2.2⟩) h0 ad H locs LS h1 h2 h3 h4 h5
theorem gl_wid {k2 n2 : Nat} (h1 : k ≤ k2) (h2 : n ≤ n2) (kk : GL sb K k2 n2 pc ls st hp) : GL sb K k n pc ls st hp := by
  obtain ⟨p, l, e, R, s, m, args, below, meth, c, D, cA, A, Q, nL', n0, ad0⟩ := K
  intro hcl h0 ad H locs LS q1 q2 q3 q4 q5
  exact W.widen h1 h2 (kk hcl h0 ad H locs LS q1 q2 q3 q4 q5)
/-- locals that are no longer read -/
theorem gl_less {ls2 : List (Nat × Value)} (ks : List Nat) (h : lv_pick ls ks = ls2) (kk : GL sb K k n pc ls2 st hp) : GL sb K k n pc ls st hp := by
  obtain ⟨p, l, e, R, s, m, args, below, meth, c, D, cA, A, Q, nL', n0, ad0⟩ := K
  have hm : ∀ q ∈ ls2, q ∈ ls := by
    intro q hq
    rw [← h] at hq
    obtain ⟨i, -, hi⟩ := List.mem_filterMap.mp hq
    exact List.mem_of_getElem? hi
  intro hcl h0 ad H locs LS h1 h2 h3 h4 h5
  refine kk ⟨fun q hq => hcl.1 q (hm q hq), hcl.2⟩ h0 ad H locs LS h1 h2 h3 h4 (lv_memb h5 (fun q hq => ?_))
  rcases List.mem_cons.mp hq with rfl | hq
  · exact List.mem_cons_self
  · obtain ⟨z, hz, rfl⟩ := List.mem_map.mp hq
    exact List.mem_cons_of_mem _ (List.mem_map.mpr ⟨z, hm z hz, rfl⟩)
end LawRows
