/-! calls on a callee's world that is the caller's first cells -/
/-- what every call comes to, with what is known of the callee's cells -/
theorem go_runC {K : Cx} {own : String} {cc : ByteArray} {nL fr mc ms k n pc : Nat} {ls : List (Nat × Value)} {st rest : List Value} {hp : Hp} (F : Fx K own cc nL fr mc ms) {chp : Hp} {is : List Nat} {mc' ms' : Nat} {Qp : Option Value → Hp → Prop} (hs : Sub hp is chp) (hnd : va_nd is = true) (hrest : ∀ v ∈ rest, v ∈ st)
    (hrun : match K with
      | (p, l, e, R, s, m, args, below, meth, c, D, cA, A, _, nL', n0, ad0) => ∀ (ad : Nat → Nat) (H : Heap) (locs : List Loc) (LS : Array Slot), (∀ j, j < n0 → ad j = ad0 j) → va_P D vwCl (wM ad cA hp) H → va_D A (wM ad cA hp) → va_S A s.heap H locs → lv_has LS nL' (lM ad ls) →
        va_Run p l e R s m args below meth c H locs k n mc' ms' (F0 m pc LS (st.map (vM ad))) (rest.map (vM ad)) (CQ D cA (fun j => ad (is.getD j 0)) chp H.size Qp mc') (va_A (wM (fun j => ad (is.getD j 0)) cA chp) H.size))
    (kk : ∀ (v : Option Value) (hp2 : Hp), Qp v hp2 → hp2.length = chp.length + mc' → (∀ w, v = some w → clV hp2.length w) → clH hp2.length hp2 → Go K (k + mc') (n + ms') (pc + 3) ls ((v.map (vM (rho is hp.length))).toList ++ rest) (place hp is hp2)) : Go K k n pc ls st hp := by
  obtain ⟨p, l, e, R, s, m, args, below, meth, c, D, cA, A, Q, nL', n0, ad0⟩ := K
  obtain ⟨hx, hb, hml, hnl, hown, hts, hK, hA, hfr, hlo, hmc, hms⟩ := F
  intro hcl h0 ad H locs LS h1 h2 h3 h4 h5 T hT X
  obtain ⟨v, st₀, t, T', L, g0, X', hL, e1, e2, ⟨⟨u, hp2, ad2, e3, q, hlen, hcv, hch, hag, hP, hD⟩, hz, hkeep⟩, go⟩ := hrun ad H locs LS h1 h2 h3 h4 h5 T hT X
  have hA' : ∀ q, H.size ≤ q → A q := fun q h => hA q (Nat.le_trans h4.1 h)
  rw [g0] at hz hkeep
  have hlt : ∀ i ∈ is, i < hp.length := by
    intro i hi
    obtain ⟨j, hj⟩ := List.getElem?_of_mem hi
    obtain ⟨e, -, he⟩ := hs.up hj
    exact (List.getElem?_eq_some_iff.mp he).1
  have hL' := hs.len
  obtain ⟨hP', hD'⟩ := place_back (A := A) (H1 := T'.heap) hs hnd hcl.2.2 h2 h3 hA' hlen hag (by rw [e1]; exact hP) hD (fun q a b => by rw [e1]; exact hkeep q a b)
  have hag3 : ∀ j, j < hp.length → ad3 ad ad2 hp.length is.length j = ad j := fun j hj => by simp [ad3, hj]
  have hr := ad3_rho (ad := ad) (hp := hp) (ad2 := ad2) hlt (fun j hj => hag j (by omega))
  have hS' : va_S A s.heap T'.heap (locs ++ L) := by
    refine ⟨Nat.le_trans h4.1 (by rw [e1]; exact hz), fun q a b => ?_, fun q hq => ?_⟩
    · rw [e1, hkeep q (Nat.lt_of_lt_of_le a h4.1) (fun z => b (sub_A hs h3 hA' q z))]
      exact h4.2.1 q a b
    · rcases List.mem_append.mp hq with h | h
      · exact h4.2.2 q h
      · exact sub_A hs h3 hA' _ (hL q h)
  have hcl' : clAll ls ((u.map (vM (rho is hp.length))).toList ++ rest) (place hp is hp2) := by
    have hl3 := place_len hp is hp2
    refine ⟨fun x hx => clV_mono (hcl.1 x hx) (by rw [hl3]; omega), fun x hx => ?_, place_cl hlt (by omega) hcl.2.2 hch⟩
    rcases List.mem_append.mp hx with hx | hx
    · cases u with
      | none => simp at hx
      | some w =>
        simp at hx
        subst hx
        exact clV_rho (chp := hp2) hlt (by rw [hl3]; omega) (by rw [hl3]; omega) (hcv w rfl)
    · exact clV_mono (hcl.2.1 x (hrest x hx)) (by rw [hl3]; omega)
  have hn0' : ∀ j, j < n0 → ad3 ad ad2 hp.length is.length j = ad0 j := fun j hj => (hag3 j (Nat.lt_of_lt_of_le hj h0)).trans (h1 j hj)
  have hls : lM (ad3 ad ad2 hp.length is.length) ls = lM ad ls := List.map_congr_left (fun x hx => by rw [vM_cong (hcl.1 x hx) hag3])
  have hst : ((u.map (vM (rho is hp.length))).toList ++ rest).map (vM (ad3 ad ad2 hp.length is.length)) = v.toList ++ rest.map (vM ad) := by
    rw [List.map_append]
    congr 1
    · have e4 : v = u.map (vM ad2) := by
        have := e3
        cases this
        rfl
      rw [e4]
      cases u with
      | none => rfl
      | some w =>
        show [vM _ (vM _ w)] = [vM ad2 w]
        rw [vM_vM, show (fun k => ad3 ad ad2 hp.length is.length (rho is hp.length k)) = ad2 from funext hr]
    · exact List.map_congr_left (fun x hx => vM_cong (hcl.2.1 x (hrest x hx)) hag3)
  have G := kk u hp2 q hlen hcv hch hcl' (by rw [place_len]; omega) (ad3 ad ad2 hp.length is.length) T'.heap (locs ++ L) LS hn0' hP' hD' hS' (by rw [hls]; exact h5)
  rw [hst] at G
  obtain ⟨t2, a1, b1⟩ := G T' rfl X'
  exact ⟨t2, go t2 a1, b1⟩

theorem getD_range {n k z : Nat} (h : k < n) : (List.range n).getD k z = k := by
  rw [List.getD_eq_getElem?_getD, List.getElem?_range h]
  rfl
theorem vM_id {f : Nat → Nat} {n : Nat} {v : Value} (h : clV n v) (hf : ∀ k, k < n → f k = k) : vM f v = v := by
  cases v <;> first | rfl | exact congrArg Value.ref (hf _ h)
theorem eH_id {f : Nat → Nat} {n : Nat} {e : Ce} (h : clE n e) (hf : ∀ k, k < n → f k = k) : eH f e = e := by
  rcases e with ⟨ty, m, a⟩ | ⟨c, fs⟩
  · rcases a with x | x | x | x | x <;> try rfl
    have e : (fun j => (x j).map f) = x := by
      funext j
      cases hj : x j with
      | none => rfl
      | some k => exact congrArg some (hf _ (h j k hj))
    simp only [eH, aM, e]
  · simp only [eH]
    congr 2
    exact (List.map_congr_left (fun v hv => vM_id (h v hv) hf)).trans (List.map_id fs)
theorem Sub_pre {a rest : Hp} (h : clH a.length a) : Sub (a ++ rest) (List.range a.length) a := by
  unfold Sub
  apply List.ext_getElem?
  intro k
  rw [List.getElem?_map, List.getElem?_map]
  by_cases hk : k < a.length
  · have e1 : a[k]? = some a[k] := List.getElem?_eq_getElem hk
    rw [List.getElem?_range hk, e1]
    show some (some _) = some ((a ++ rest)[k]?)
    rw [List.getElem?_append_left hk, e1, eH_id (h _ (List.getElem_mem hk)) (fun j hj => getD_range hj)]
  · rw [List.getElem?_eq_none (by omega), List.getElem?_eq_none (by rw [List.length_range]; omega)]
    rfl
theorem nd_range (n : Nat) : va_nd (List.range n) = true := by
  have key : ∀ l : List Nat, l.Nodup → va_nd l = true := by
    intro l
    induction l with
    | nil => exact fun _ => rfl
    | cons a t ih =>
      intro h
      have h2 := List.nodup_cons.mp h
      simp only [va_nd, Bool.and_eq_true]
      exact ⟨by simpa using h2.1, ih h2.2⟩
  exact key _ List.nodup_range
theorem place_pre {a rest a2 : Hp} (hl : a2.length = a.length) (h : clH a2.length a2) : place (a ++ rest) (List.range a.length) a2 = a2 ++ rest := by
  have hr : ∀ k, k < a2.length → rho (List.range a.length) (a ++ rest).length k = k := fun k hk => getD_range (by omega)
  have hm : a2.map (eH (rho (List.range a.length) (a ++ rest).length)) = a2 := (List.map_congr_left (fun e he => eH_id (h e he) hr)).trans (List.map_id a2)
  unfold place
  rw [hm, List.drop_eq_nil_of_le (by rw [List.length_range]; omega), List.map_nil, List.append_nil]
  apply List.ext_getElem?
  intro k
  by_cases hk : k < a.length
  · rw [putAll_at (List.range a.length) (a ++ rest) a2 k (nd_range _) (List.getElem?_range hk) (by rw [List.length_append]; omega) (by rw [List.length_range]; omega), List.getElem?_append_left (by omega)]
  · rw [putAll_off _ _ _ (fun q => hk (List.mem_range.mp q)), List.getElem?_append_right (by omega), List.getElem?_append_right (by omega), hl]
section CallP
variable {K : Cx} {own : String} {cc : ByteArray} {nL fr mc ms k n pc : Nat} {ls : List (Nat × Value)} {st : List Value} {a rest : Hp}
  {y : MethodName} {cc' : ByteArray} {nL' fr' idx : Nat} {ret' : Option FieldType} {cas : List Value} {Qp : Option Value → Hp → Prop} {r : Value}
/-- an instance method, on the first cells; the receiver is the callee's cell r0 -/
theorem p_callV (F : Fx K own cc nL fr mc ms) {r0 ci : Nat} {fs : List Value} {T : u_T} {N : Nat} (C : Ctr y cc' nL' ret' fr' 0 0 (.ref r0 :: cas) a Qp) (hi : Mi y cc' nL' ret' cas.length) (hk : KV own idx y) (hr : a[r0]? = some (.inr (ci, fs))) (hc : vwCl[ci]? = some (y.cls, T, N)) (d : decode cc pc = .ok (.invokevirtual idx, 3)) (hfr : fr' < fr) (hl : nL' ≤ 21) (hst : (.ref r0 :: cas).reverse ++ st.drop (cas.length + 1) = st) (hcat : ((st.drop (cas.length + 1)).map fun v => v.category).sum ≤ 8) (hkc : k ≤ mc) (hkn : n ≤ ms)
    (kk : ∀ (v : Option Value) (a2 : Hp), Qp v a2 → a2.length = a.length → Go K k n (pc + 3) ls (v.toList ++ st.drop (cas.length + 1)) (a2 ++ rest)) : Go K k n pc ls st (a ++ rest) := by
  have hs := Sub_pre (rest := rest) C.1.2
  have hnd := nd_range a.length
  have hid : ∀ v ∈ (Value.ref r0 :: cas), vM (fun k => (List.range a.length).getD k 0) v = v := fun v hv => vM_id (C.1.1 v hv) (fun k hk => getD_range hk)
  have hst' : st = ((Value.ref r0 :: cas).map (vM (fun k => (List.range a.length).getD k 0))).reverse ++ st.drop (cas.length + 1) := by
    rw [(List.map_congr_left hid).trans (List.map_id _)]
    exact hst.symm
  refine go_runC (mc' := 0) (ms' := 0) (Qp := Qp) F hs hnd (rest_in hst') ?_ (fun v hp2 q hlen hcv hch => ?_)
  · obtain ⟨p, l, e, R, s, m, args, below, meth, c, D, cA, A, Q, nL', n0, ad0⟩ := K
    obtain ⟨hx, hb, hml, hnl, hown, hts, hK, hA, hfr2, hlo, hmc, hms⟩ := F
    intro ad H locs LS h1 h2 h3 h4 h5
    subst hnl
    have hst2 := stack_eq (ad := ad) hst'
    rw [List.map_cons, List.reverse_cons, List.append_assoc] at hst2
    exact va_runV (C := y.cls) (As := cas.map (vM (fun j => ad ((List.range a.length).getD j 0)))) (n := cas.length) ⟨hx, hb, hml, hown, hts⟩ (C.2 l D cA (fun j => ad ((List.range a.length).getD j 0)) H.size) ⟨callB_of cas.length hts (TB_good hi.1) rfl rfl rfl (hts _ hi.2.1) (hts _ hk.1) hi.2.2 ⟨by show fr' + 1 ≤ _; omega, by show _ + 40 * fr' ≤ _; omega⟩, hts _ hk.2.1, hts _ hk.2.2⟩ ⟨frameBlind _ _ _ _ _, va_recv hK.1 (sub_P hs h2) hc (wM_get hr), fun U hU hW => ⟨rfl, by rw [hU], by rw [hU]; exact sub_P hs h2, hK.moved hW, (sub_D hs hnd h3).weaken (fun _ _ _ _ => trivial)⟩⟩ rfl (List.length_map _) h5.1 hst2 (lv_room (by rw [sum_cat]; exact hcat)) d ⟨by omega, by omega⟩
  · rw [place_pre hlen hch]
    have e : v.map (vM (rho (List.range a.length) (a ++ rest).length)) = v := by
      cases v with
      | none => rfl
      | some w => exact congrArg some (vM_id (hcv w rfl) (fun k hk => getD_range (by omega)))
    rw [e]
    exact kk v hp2 q hlen
theorem p_readV (F : Fx K own cc nL fr mc ms) {r0 ci : Nat} {fs : List Value} {T : u_T} {N : Nat} (C : RCtr y cc' nL' ret' fr' (.ref r0 :: cas) a r) (hi : Mi y cc' nL' ret' cas.length) (hk : KV own idx y) (hr : a[r0]? = some (.inr (ci, fs))) (hc : vwCl[ci]? = some (y.cls, T, N)) (d : decode cc pc = .ok (.invokevirtual idx, 3)) (hfr : fr' < fr) (hl : nL' ≤ 21) (hst : (.ref r0 :: cas).reverse ++ st.drop (cas.length + 1) = st) (hcat : ((st.drop (cas.length + 1)).map fun v => v.category).sum ≤ 8) (hkc : k ≤ mc) (hkn : n ≤ ms)
    (kk : Go K k n (pc + 3) ls (r :: st.drop (cas.length + 1)) (a ++ rest)) : Go K k n pc ls st (a ++ rest) :=
  p_callV F C hi hk hr hc d hfr hl hst hcat hkc hkn (fun v a2 q _ => by
    obtain ⟨rfl, rfl⟩ := q
    exact kk)
/-- all cells -/
theorem i_callV (F : Fx K own cc nL fr mc ms) {r0 ci : Nat} {fs : List Value} {T : u_T} {N : Nat} (C : Ctr y cc' nL' ret' fr' 0 0 (.ref r0 :: cas) a Qp) (hi : Mi y cc' nL' ret' cas.length) (hk : KV own idx y) (hr : a[r0]? = some (.inr (ci, fs))) (hc : vwCl[ci]? = some (y.cls, T, N)) (d : decode cc pc = .ok (.invokevirtual idx, 3)) (hfr : fr' < fr) (hl : nL' ≤ 21) (hst : (.ref r0 :: cas).reverse ++ st.drop (cas.length + 1) = st) (hcat : ((st.drop (cas.length + 1)).map fun v => v.category).sum ≤ 8) (hkc : k ≤ mc) (hkn : n ≤ ms)
    (kk : ∀ (v : Option Value) (a2 : Hp), Qp v a2 → a2.length = a.length → Go K k n (pc + 3) ls (v.toList ++ st.drop (cas.length + 1)) a2) : Go K k n pc ls st a := by
  have h := p_callV (rest := []) F C hi hk hr hc d hfr hl hst hcat hkc hkn (fun v a2 q hl => by rw [List.append_nil]; exact kk v a2 q hl)
  rwa [List.append_nil] at h
theorem i_readV (F : Fx K own cc nL fr mc ms) {r0 ci : Nat} {fs : List Value} {T : u_T} {N : Nat} (C : RCtr y cc' nL' ret' fr' (.ref r0 :: cas) a r) (hi : Mi y cc' nL' ret' cas.length) (hk : KV own idx y) (hr : a[r0]? = some (.inr (ci, fs))) (hc : vwCl[ci]? = some (y.cls, T, N)) (d : decode cc pc = .ok (.invokevirtual idx, 3)) (hfr : fr' < fr) (hl : nL' ≤ 21) (hst : (.ref r0 :: cas).reverse ++ st.drop (cas.length + 1) = st) (hcat : ((st.drop (cas.length + 1)).map fun v => v.category).sum ≤ 8) (hkc : k ≤ mc) (hkn : n ≤ ms)
    (kk : Go K k n (pc + 3) ls (r :: st.drop (cas.length + 1)) a) : Go K k n pc ls st a :=
  i_callV F C hi hk hr hc d hfr hl hst hcat hkc hkn (fun v a2 q _ => by
    obtain ⟨rfl, rfl⟩ := q
    exact kk)
end CallP
