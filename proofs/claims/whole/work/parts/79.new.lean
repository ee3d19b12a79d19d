/-! what is made new: objects and arrays take the handle behind the last -/
def adX (ad : Nat → Nat) (N q : Nat) : Nat → Nat := fun k => if k = N then q else ad k
theorem adX_old {ad : Nat → Nat} {N q k : Nat} (h : k < N) : ad k = adX ad N q k := by
  unfold adX
  rw [if_neg (Nat.ne_of_lt h)]
theorem adX_new (ad : Nat → Nat) (N q : Nat) : adX ad N q N = q := by
  unfold adX
  rw [if_pos rfl]
theorem wM_cg {f g : Nat → Nat} {cA : FieldType → ClassId} {hp : Hp} (h : clH hp.length hp) (hfg : ∀ k, k < hp.length → f k = g k) : wM f cA hp = wM g cA hp := by
  apply List.ext_getElem?
  intro i
  simp only [wM, List.getElem?_mapIdx]
  cases hi : hp[i]? with
  | none => rfl
  | some e => exact congrArg some (Prod.ext (hfg i (List.getElem?_eq_some_iff.mp hi).1) (eM_cong (clH_get h hi) hfg))
theorem wM_push {ad : Nat → Nat} {cA : FieldType → ClassId} {hp : Hp} {q : Nat} {e : Ce} (h : clH hp.length hp) (he : clE hp.length e) : wM (adX ad hp.length q) cA (hp ++ [e]) = wM ad cA hp ++ [(q, eM ad cA e)] := by
  rw [wM_cg (f := ad) (g := adX ad hp.length q) h (fun k hk => adX_old hk), eM_cong (f := ad) (g := adX ad hp.length q) he (fun k hk => adX_old hk)]
  unfold wM
  rw [List.mapIdx_append]
  congr 1
  show [(adX ad hp.length q (0 + hp.length), eM (adX ad hp.length q) cA e)] = _
  rw [Nat.zero_add, adX_new]
theorem lM_cg {f g : Nat → Nat} {n : Nat} {ls : List (Nat × Value)} (h : clL n ls) (hfg : ∀ k, k < n → f k = g k) : lM f ls = lM g ls := List.map_congr_left (fun q hq => Prod.ext rfl (vM_cong (h q hq) hfg))
theorem sM_cg {f g : Nat → Nat} {n : Nat} {st : List Value} (h : clS n st) (hfg : ∀ k, k < n → f k = g k) : st.map (vM f) = st.map (vM g) := List.map_congr_left (fun v hv => vM_cong (h v hv) hfg)
theorem clAll_push {ls : List (Nat × Value)} {st : List Value} {hp : Hp} {e : Ce} (h : clL hp.length ls) (hs : clS hp.length st) (hh : clH hp.length hp) (he : clE hp.length e) : clAll ls (.ref hp.length :: st) (hp ++ [e]) := by
  have hl : (hp ++ [e]).length = hp.length + 1 := by rw [List.length_append]; rfl
  unfold clAll
  rw [hl]
  refine ⟨fun q hq => clV_mono (h q hq) (Nat.le_succ _), clS_push (Nat.lt_succ_self hp.length) (fun v hv => clV_mono (hs v hv) (Nat.le_succ _)), fun x hx => ?_⟩
  rcases List.mem_append.mp hx with g | g
  · exact clE_mono (hh x g) (Nat.le_succ _)
  · rw [List.mem_singleton.mp g]
    exact clE_mono he (Nat.le_succ _)
section News
variable {own : String} {cc : ByteArray} {nL fr mc ms k n pc : Nat} {ls : List (Nat × Value)} {st : List Value} {hp : Hp}
theorem g_newI {K : Cx} (F : Fx K own cc nL fr mc ms) {x : Int32} {N : Nat} (d : decode cc pc = .ok (.newarray .int, 2)) (hn : ¬ x < 0) (hN : x.toNatClampNeg = N) (hbt : N * 4 ≤ 536870912) (hkc : k + 1 ≤ mc) (hkn : n + N ≤ ms) (kk : Go K (k + 1) (n + N) (pc + 2) ls (.ref hp.length :: st) (hp ++ [.inl (.int, N, .inl (fun _ => 0))])) : Go K k n pc ls (.int x :: st) hp := by
  obtain ⟨p, l, e, R, s, m, args, below, meth, c, D, cA, A, Q, nL', n0, ad0⟩ := K
  obtain ⟨hx, hb, hml, hnl, hown, hts, hK, hA, hfr, hlo, hmc, hms⟩ := F
  intro hcl h0 ad H locs LS h1 h2 h3 h4 h5
  refine va_newa (atype := .int) (ty := .int) (a0 := (N, .inl (fun _ => 0))) hx hb (hts _ karr_int) rfl hK.1 h2 h3 h4 hA (fun _ => rfl) hn hN hbt (Nat.le_trans hkc hmc) (Nat.le_trans hkn hms) d (fun q cA2 H1 z1 z2 z3 z4 => ?_)
  have ec : cA2 = cA .int := Option.some.inj ((show _ = some cA2 from (z1.2 3 _ rfl).2).symm.trans (show _ = some (cA .int) from (hK.1.2 0 _ rfl).2))
  subst ec
  have hE : clE hp.length (.inl (.int, N, .inl (fun _ => 0))) := trivial
  have ew := wM_push (ad := ad) (cA := cA) (q := q) hcl.2.2 hE
  have hS := clS_tail hcl.2.1
  have es : (Value.ref hp.length :: st).map (vM (adX ad hp.length q)) = .ref q :: st.map (vM ad) := by
    rw [sM_cg (f := ad) hS (fun k hk => adX_old (q := q) hk)]
    show Value.ref (adX ad hp.length q hp.length) :: _ = _
    rw [adX_new]
  have r := kk (clAll_push hcl.1 hS hcl.2.2 hE) (by rw [List.length_append]; exact Nat.le_add_right_of_le h0) (adX ad hp.length q) H1 locs LS (fun j hj => (adX_old (Nat.lt_of_lt_of_le hj h0)).symm.trans (h1 j hj)) (by rw [ew]; exact z2) (by rw [ew]; exact z3) z4 (by rw [← lM_cg (f := ad) hcl.1 (fun k hk => adX_old (q := q) hk)]; exact h5)
  rw [es] at r
  exact r
theorem g_newL {K : Cx} (F : Fx K own cc nL fr mc ms) {x : Int32} {N : Nat} (d : decode cc pc = .ok (.newarray .long, 2)) (hn : ¬ x < 0) (hN : x.toNatClampNeg = N) (hbt : N * 8 ≤ 536870912) (hkc : k + 1 ≤ mc) (hkn : n + N ≤ ms) (kk : Go K (k + 1) (n + N) (pc + 2) ls (.ref hp.length :: st) (hp ++ [.inl (.long, N, .inr (.inl (fun _ => 0)))])) : Go K k n pc ls (.int x :: st) hp := by
  obtain ⟨p, l, e, R, s, m, args, below, meth, c, D, cA, A, Q, nL', n0, ad0⟩ := K
  obtain ⟨hx, hb, hml, hnl, hown, hts, hK, hA, hfr, hlo, hmc, hms⟩ := F
  intro hcl h0 ad H locs LS h1 h2 h3 h4 h5
  refine va_newa (atype := .long) (ty := .long) (a0 := (N, .inr (.inl (fun _ => 0)))) hx hb (hts _ karr_long) rfl hK.1 h2 h3 h4 hA (fun _ => rfl) hn hN hbt (Nat.le_trans hkc hmc) (Nat.le_trans hkn hms) d (fun q cA2 H1 z1 z2 z3 z4 => ?_)
  have ec : cA2 = cA .long := Option.some.inj ((show _ = some cA2 from (z1.2 3 _ rfl).2).symm.trans (show _ = some (cA .long) from (hK.1.2 1 _ rfl).2))
  subst ec
  have hE : clE hp.length (.inl (.long, N, .inr (.inl (fun _ => 0)))) := trivial
  have ew := wM_push (ad := ad) (cA := cA) (q := q) hcl.2.2 hE
  have hS := clS_tail hcl.2.1
  have es : (Value.ref hp.length :: st).map (vM (adX ad hp.length q)) = .ref q :: st.map (vM ad) := by
    rw [sM_cg (f := ad) hS (fun k hk => adX_old (q := q) hk)]
    show Value.ref (adX ad hp.length q hp.length) :: _ = _
    rw [adX_new]
  have r := kk (clAll_push hcl.1 hS hcl.2.2 hE) (by rw [List.length_append]; exact Nat.le_add_right_of_le h0) (adX ad hp.length q) H1 locs LS (fun j hj => (adX_old (Nat.lt_of_lt_of_le hj h0)).symm.trans (h1 j hj)) (by rw [ew]; exact z2) (by rw [ew]; exact z3) z4 (by rw [← lM_cg (f := ad) hcl.1 (fun k hk => adX_old (q := q) hk)]; exact h5)
  rw [es] at r
  exact r
theorem g_newQ {K : Cx} (F : Fx K own cc nL fr mc ms) {x : Int32} {N idx : Nat} (d : decode cc pc = .ok (.anewarray idx, 3)) (hlk : Cond.classLink own idx RX2 ∈ TB) (hn : ¬ x < 0) (hN : x.toNatClampNeg = N) (hbt : N * 4 ≤ 536870912) (hkc : k + 1 ≤ mc) (hkn : n + N ≤ ms) (kk : Go K (k + 1) (n + N) (pc + 3) ls (.ref hp.length :: st) (hp ++ [.inl (.object RX2, N, .inr (.inr (.inr (.inr (fun _ => none)))))])) : Go K k n pc ls (.int x :: st) hp := by
  obtain ⟨p, l, e, R, s, m, args, below, meth, c, D, cA, A, Q, nL', n0, ad0⟩ := K
  obtain ⟨hx, hb, hml, hnl, hown, hts, hK, hA, hfr, hlo, hmc, hms⟩ := F
  intro hcl h0 ad H locs LS h1 h2 h3 h4 h5
  refine va_newq (C := RX2) hx hb hown (hts _ hlk) hK.2.2 hK.1 h2 h3 h4 hA hn hN hbt (Nat.le_trans hkc hmc) (Nat.le_trans hkn hms) d (fun q cA2 H1 z1 z2 z3 z4 => ?_)
  have ec : cA2 = cA (.object RX2) := by
    obtain ⟨_, _, _, _, _, y1⟩ := (z1.2 3 _ rfl).2
    obtain ⟨_, _, _, _, _, y2⟩ := (hK.1.2 2 _ rfl).2
    exact Option.some.inj (y1.symm.trans y2)
  subst ec
  have hE : clE hp.length (.inl (.object RX2, N, .inr (.inr (.inr (.inr (fun _ => none)))))) := fun j k hj => by cases hj
  have ew := wM_push (ad := ad) (cA := cA) (q := q) hcl.2.2 hE
  have hS := clS_tail hcl.2.1
  have es : (Value.ref hp.length :: st).map (vM (adX ad hp.length q)) = .ref q :: st.map (vM ad) := by
    rw [sM_cg (f := ad) hS (fun k hk => adX_old (q := q) hk)]
    show Value.ref (adX ad hp.length q hp.length) :: _ = _
    rw [adX_new]
  have r := kk (clAll_push hcl.1 hS hcl.2.2 hE) (by rw [List.length_append]; exact Nat.le_add_right_of_le h0) (adX ad hp.length q) H1 locs LS (fun j hj => (adX_old (Nat.lt_of_lt_of_le hj h0)).symm.trans (h1 j hj)) (by rw [ew]; exact z2) (by rw [ew]; exact z3) z4 (by rw [← lM_cg (f := ad) hcl.1 (fun k hk => adX_old (q := q) hk)]; exact h5)
  rw [es] at r
  exact r
def nrf (v : Value) : Bool := match v with
  | .ref _ => false
  | _ => true
theorem nrf_vM {v : Value} (ad : Nat → Nat) (h : nrf v = true) : vM ad v = v := by
  cases v <;> first | rfl | cases h
theorem nrf_cl {v : Value} (n : Nat) (h : nrf v = true) : clV n v := by
  cases v <;> first | trivial | cases h
theorem g_newO {K : Cx} (F : Fx K own cc nL fr mc ms) {C : String} {T : u_T} {N ci idx : Nat} {t : Nat → FieldType} (f : Fc ci C T N t) (d : decode cc pc = .ok (.new idx, 3)) (hlk : Cond.classLink own idx C ∈ TB) (hi1 : Cond.instantiable C N ∈ TB) (hi2 : Cond.initialized C ∈ TB) {fs : List Value} (hfs : ∀ j, j < N → defaultValue (t j) = vp_V fs j) (hnr : fs.all nrf = true) (hkc : k + 1 ≤ mc) (hkn : n + N ≤ ms) (kk : Go K (k + 1) (n + N) (pc + 3) ls (.ref hp.length :: st) (hp ++ [.inr (ci, fs)])) : Go K k n pc ls st hp := by
  obtain ⟨p, l, e, R, s, m, args, below, meth, c, D, cA, A, Q, nL', n0, ad0⟩ := K
  obtain ⟨hx, hb, hml, hnl, hown, hts, hK, hA, hfr, hlo, hmc, hms⟩ := F
  intro hcl h0 ad H locs LS h1 h2 h3 h4 h5
  obtain ⟨f1, f2, f3, f4⟩ := f
  have hE : clE hp.length (.inr (ci, fs)) := fun v hv => nrf_cl _ (List.all_eq_true.mp hnr v hv)
  have em : fs.map (vM ad) = fs := (List.map_congr_left (fun v hv => nrf_vM ad (List.all_eq_true.mp hnr v hv))).trans (List.map_id fs)
  refine va_new (Ts := TB) hx hb hts f2 t f3 hown (hts _ hlk) (hts _ hi1) (hts _ hi2) hK.1 h2 h3 h4 hA f1 hfs (Nat.le_trans hkc hmc) (Nat.le_trans hkn hms) d (fun q H1 z2 z3 z4 => ?_)
  have ew : wM (adX ad hp.length q) cA (hp ++ [.inr (ci, fs)]) = wM ad cA hp ++ [(q, .inr (ci, fs))] := by
    rw [wM_push (ad := ad) (cA := cA) (q := q) hcl.2.2 hE]
    show _ ++ [(q, Sum.inr (ci, fs.map (vM ad)))] = _
    rw [em]
  have hS := hcl.2.1
  have es : (Value.ref hp.length :: st).map (vM (adX ad hp.length q)) = .ref q :: st.map (vM ad) := by
    rw [sM_cg (f := ad) hS (fun k hk => adX_old (q := q) hk)]
    show Value.ref (adX ad hp.length q hp.length) :: _ = _
    rw [adX_new]
  have r := kk (clAll_push hcl.1 hS hcl.2.2 hE) (by rw [List.length_append]; exact Nat.le_add_right_of_le h0) (adX ad hp.length q) H1 locs LS (fun j hj => (adX_old (Nat.lt_of_lt_of_le hj h0)).symm.trans (h1 j hj)) (by rw [ew]; exact z2) (by rw [ew]; exact z3) z4 (by rw [← lM_cg (f := ad) hcl.1 (fun k hk => adX_old (q := q) hk)]; exact h5)
  rw [es] at r
  exact r
theorem g_putF {K : Cx} (F : Fx K own cc nL fr mc ms) {ret : Option FieldType} {hp0 : Hp} {Qp : Option Value → Hp → Prop} (X : Rx K "<init>" ret hp0 Qp mc ms) {idx ci j q a : Nat} {ty : FieldType} {fs : List Value} (f : FL own idx ci j ty true) (d : decode cc pc = .ok (.putfield idx, 3)) (he : hp[q]? = some (.inr (ci, fs))) (hj : j < fs.length) (hty : ∀ a : Nat, narrow ty (.ref a) = .ref a ∧ fits ty (.ref a) = true) (hown2 : (vwCl[ci]?).map (fun z => z.1) = some own) (kk : Go K k n (pc + 3) ls st (hp.set q (.inr (ci, fs.set j (.ref a))))) : Go K k n pc ls (.ref a :: .ref q :: st) hp := by
  obtain ⟨p, l, e, R, s, m, args, below, meth, c, D, cA, A, Q, nL', n0, ad0⟩ := K
  obtain ⟨hx, hb, hml, hnl, hown, hts, hK, hA, hfr, hlo, hmc, hms⟩ := F
  intro hcl h0 ad H locs LS h1 h2 h3 h4 h5
  obtain ⟨C, T, N, t, ⟨f1, f2, f3, f4⟩, g1, g2, g3, g4, g5⟩ := f
  have hC : C = own := by
    rw [f1] at hown2
    exact Option.some.inj hown2
  have e : (wM ad cA hp).set q (ad q, .inr (ci, (fs.map (vM ad)).set j (Value.ref (ad a)))) = wM ad cA (hp.set q (.inr (ci, fs.set j (.ref a)))) := by
    rw [show Value.ref (ad a) = vM ad (.ref a) from rfl, ← List.map_set]
    exact wM_set q (.inr (ci, fs.set j (.ref a)))
  refine va_putF (Ts := TB) (ty := ty) (v := .ref (ad a)) hx hb hts f2 t f3 f4 hown hK.1 h2 h3 h4 q (wM_get he) f1 j g1 (hts _ g3) (fun x hx => by rw [g2] at hx; exact hx) g5 X.2.2.1 (g2.trans hC) (g4 ▸ f3 j g1) (hty _).1 (hty _).2 (by rw [List.length_map]; exact hj) d (fun H1 locs1 a1 a2 a3 => ?_)
  rw [e] at a1 a2
  have hlen : (hp.set q (.inr (ci, fs.set j (.ref a)))).length = hp.length := List.length_set
  refine kk ?_ (by rw [hlen]; exact h0) ad H1 locs1 LS h1 a1 a2 a3 h5
  unfold clAll
  rw [hlen]
  exact ⟨hcl.1, clS_tail (clS_tail hcl.2.1), clH_set (fun x hx => (List.mem_or_eq_of_mem_set hx).elim (clH_get hcl.2.2 he x) (fun z => z ▸ clS_head hcl.2.1)) hcl.2.2⟩
theorem g_astS {K : Cx} (F : Fx K own cc nL fr mc ms) {q qk a : Nat} {f : Nat → Option Nat} {vs : List Value} {i : Int32} (d : decode cc pc = .ok (.aastore, 1)) (ha : hp[q]? = some (.inl (.object RX2, a, .inr (.inr (.inr (.inr f)))))) (hv : hp[qk]? = some (.inr (1, vs))) (hi : vp_in i a) (kk : Go K k n (pc + 1) ls st (hp.set q (.inl (.object RX2, a, .inr (.inr (.inr (.inr (va_up f i.toNatClampNeg (some qk)))))))) ) : Go K k n pc ls (.ref qk :: .int i :: .ref q :: st) hp := by
  obtain ⟨p, l, e, R, s, m, args, below, meth, c, D, cA, A, Q, nL', n0, ad0⟩ := K
  obtain ⟨hx, hb, hml, hnl, hown, hts, hK, hA, hfr, hlo, hmc, hms⟩ := F
  intro hcl h0 ad H locs LS h1 h2 h3 h4 h5
  refine va_astq (r := (RX2, TX2, 6)) hx hb hK.1 h2 h3 h4 q 2 qk 1 (wM_get ha) rfl (wM_get hv) rfl hi d (fun H1 locs1 a1 a2 a3 => ?_)
  have ef : va_up (fun j => (f j).map ad) i.toNatClampNeg (some (ad qk)) = fun j => (va_up f i.toNatClampNeg (some qk) j).map ad := by
    funext j
    unfold va_up
    split <;> rfl
  have e : (wM ad cA hp).set q (ad q, .inl (cA (.object RX2), a, .inr (.inr (.inr (.inr (va_up (fun j => (f j).map ad) i.toNatClampNeg (some (ad qk)))))))) = wM ad cA (hp.set q (.inl (.object RX2, a, .inr (.inr (.inr (.inr (va_up f i.toNatClampNeg (some qk)))))))) := by
    rw [ef]
    exact wM_set q (.inl (.object RX2, a, .inr (.inr (.inr (.inr (va_up f i.toNatClampNeg (some qk)))))))
  have a1' : va_P D vwCl (wM ad cA (hp.set q (.inl (.object RX2, a, .inr (.inr (.inr (.inr (va_up f i.toNatClampNeg (some qk))))))))) H1 := e ▸ a1
  have a2' : va_D A (wM ad cA (hp.set q (.inl (.object RX2, a, .inr (.inr (.inr (.inr (va_up f i.toNatClampNeg (some qk))))))))) := e ▸ a2
  refine kk ?_ (by rw [List.length_set]; exact h0) ad H1 locs1 LS h1 a1' a2' a3 h5
  unfold clAll
  rw [List.length_set]
  refine ⟨hcl.1, clS_tail (clS_tail (clS_tail hcl.2.1)), clH_set ?_ hcl.2.2⟩
  intro j z hz
  unfold va_up at hz
  by_cases g : j = i.toNatClampNeg
  · rw [if_pos g] at hz
    cases hz
    exact clS_head hcl.2.1
  · rw [if_neg g] at hz
    exact clH_get hcl.2.2 ha j z hz
end News
