/-! the law's walk: as Go, and the script's address is kept in place 0 -/
def GL (sb : Nat) (K : Cx) (k n pc : Nat) (ls : List (Nat × Value)) (st : List Value) (hp : Hp) : Prop := match K with
  | (p, l, e, R, s, m, args, below, meth, c, D, cA, A, Q, nL, n0, ad0) => clAll ls st hp → n0 ≤ hp.length → ∀ (ad : Nat → Nat) (H : Heap) (locs : List Loc) (LS : Array Slot), (∀ j, j < n0 → ad j = ad0 j) → va_P D vwCl (wM ad cA hp) H → va_D A (wM ad cA hp) → va_S A s.heap H locs → lv_has LS nL ((0, .ref sb) :: lM ad ls) → W p l e R s m args below meth c H locs k n Q (F0 m pc LS (st.map (vM ad)))
theorem lv_tl {LS : Array Slot} {nL : Nat} {q : Nat × Value} {l : List (Nat × Value)} (h : lv_has LS nL (q :: l)) : lv_has LS nL l := lv_memb h (fun _ hx => List.mem_cons_of_mem _ hx)
theorem lM_putS {ad : Nat → Nat} {ls : List (Nat × Value)} {i sb : Nat} {v : Value} (hi0 : 0 < i) : ∀ q ∈ (0, Value.ref sb) :: lM ad (put1 ls i v), q ∈ (i, vM ad v) :: ((0, Value.ref sb) :: lM ad ls).filter (fun q => !(q.1 == i) && !(q.1 + 1 == i && q.2.category == 2)) := by
  intro q hq
  rcases List.mem_cons.mp hq with rfl | hq
  · refine List.mem_cons_of_mem _ (List.mem_filter.mpr ⟨List.mem_cons_self, ?_⟩)
    have h1 : (0 == i) = false := beq_eq_false_iff_ne.mpr (Nat.ne_of_lt hi0)
    have h2 : ((Value.ref sb).category == 2) = false := rfl
    show (!(0 == i) && !(0 + 1 == i && (Value.ref sb).category == 2)) = true
    rw [h1, h2, Bool.and_false]
    rfl
  · rcases List.mem_cons.mp (lM_put1 q hq) with h | h
    · rw [h]
      exact List.mem_cons_self
    · obtain ⟨g1, g2⟩ := List.mem_filter.mp h
      exact List.mem_cons_of_mem _ (List.mem_filter.mpr ⟨List.mem_cons_of_mem _ g1, g2⟩)
theorem lM_putS2 {ad : Nat → Nat} {ls : List (Nat × Value)} {i sb : Nat} {v : Value} (hi0 : 0 < i) : ∀ q ∈ (0, Value.ref sb) :: lM ad (put2 ls i v), q ∈ (i, vM ad v) :: ((0, Value.ref sb) :: lM ad ls).filter (fun q => !(q.1 == i) && (!(q.1 == i + 1) && !(q.1 + 1 == i && q.2.category == 2))) := by
  intro q hq
  rcases List.mem_cons.mp hq with rfl | hq
  · refine List.mem_cons_of_mem _ (List.mem_filter.mpr ⟨List.mem_cons_self, ?_⟩)
    have h1 : (0 == i) = false := beq_eq_false_iff_ne.mpr (Nat.ne_of_lt hi0)
    have h2 : ((Value.ref sb).category == 2) = false := rfl
    have h3 : (0 == i + 1) = false := beq_eq_false_iff_ne.mpr (Nat.ne_of_lt (Nat.succ_pos i))
    show (!(0 == i) && (!(0 == i + 1) && !(0 + 1 == i && (Value.ref sb).category == 2))) = true
    rw [h1, h2, h3, Bool.and_false]
    rfl
  · rcases List.mem_cons.mp (lM_put2 q hq) with h | h
    · rw [h]
      exact List.mem_cons_self
    · obtain ⟨g1, g2⟩ := List.mem_filter.mp h
      exact List.mem_cons_of_mem _ (List.mem_filter.mpr ⟨List.mem_cons_of_mem _ g1, g2⟩)
theorem gl_iconst {sb : Nat} {K : Cx} {own : String} {cc : ByteArray} {nL fr mc ms k n pc : Nat} {ls : List (Nat × Value)} {st : List Value} {hp : Hp} (F : Fx K own cc nL fr mc ms) {a : Int} {v : Int32} (d : decode cc pc = .ok (.iconst a, 1)) (hv : Int32.ofInt a = v) (kk : GL sb K k n (pc + 1) (ls) (.int v :: st) (hp)) : GL sb K k n (pc) (ls) (st) (hp) := by
  obtain ⟨p, l, e, R, s, m, args, below, meth, c, D, cA, A, Q, nL', n0, ad0⟩ := K
  obtain ⟨hx, hb, hml, hnl, hown, hts, hK, hA, hfr, hlo, hmc, hms⟩ := F
  intro hcl h0 ad H locs LS h1 h2 h3 h4 h5
  exact lv_iconst hx hb d hv (kk (⟨hcl.1, clS_push trivial hcl.2.1, hcl.2.2⟩) h0 ad H locs LS h1 h2 h3 h4 h5)
theorem gl_bipush {sb : Nat} {K : Cx} {own : String} {cc : ByteArray} {nL fr mc ms k n pc : Nat} {ls : List (Nat × Value)} {st : List Value} {hp : Hp} (F : Fx K own cc nL fr mc ms) {a : Int} {v : Int32} (d : decode cc pc = .ok (.bipush a, 2)) (hv : (Int8.ofInt a).toInt32 = v) (kk : GL sb K k n (pc + 2) (ls) (.int v :: st) (hp)) : GL sb K k n (pc) (ls) (st) (hp) := by
  obtain ⟨p, l, e, R, s, m, args, below, meth, c, D, cA, A, Q, nL', n0, ad0⟩ := K
  obtain ⟨hx, hb, hml, hnl, hown, hts, hK, hA, hfr, hlo, hmc, hms⟩ := F
  intro hcl h0 ad H locs LS h1 h2 h3 h4 h5
  exact lv_bipush hx hb d hv (kk (⟨hcl.1, clS_push trivial hcl.2.1, hcl.2.2⟩) h0 ad H locs LS h1 h2 h3 h4 h5)
theorem gl_iadd {sb : Nat} {K : Cx} {own : String} {cc : ByteArray} {nL fr mc ms k n pc : Nat} {ls : List (Nat × Value)} {st : List Value} {hp : Hp} (F : Fx K own cc nL fr mc ms) {x y : Int32} (d : decode cc pc = .ok (.iadd, 1)) (kk : GL sb K k n (pc + 1) (ls) (.int (x + y) :: st) (hp)) : GL sb K k n (pc) (ls) (.int y :: .int x :: st) (hp) := by
  obtain ⟨p, l, e, R, s, m, args, below, meth, c, D, cA, A, Q, nL', n0, ad0⟩ := K
  obtain ⟨hx, hb, hml, hnl, hown, hts, hK, hA, hfr, hlo, hmc, hms⟩ := F
  intro hcl h0 ad H locs LS h1 h2 h3 h4 h5
  exact lv_iadd hx hb d (kk (⟨hcl.1, clS_push trivial (clS_tail (clS_tail hcl.2.1)), hcl.2.2⟩) h0 ad H locs LS h1 h2 h3 h4 h5)
theorem gl_isub {sb : Nat} {K : Cx} {own : String} {cc : ByteArray} {nL fr mc ms k n pc : Nat} {ls : List (Nat × Value)} {st : List Value} {hp : Hp} (F : Fx K own cc nL fr mc ms) {x y : Int32} (d : decode cc pc = .ok (.isub, 1)) (kk : GL sb K k n (pc + 1) (ls) (.int (x - y) :: st) (hp)) : GL sb K k n (pc) (ls) (.int y :: .int x :: st) (hp) := by
  obtain ⟨p, l, e, R, s, m, args, below, meth, c, D, cA, A, Q, nL', n0, ad0⟩ := K
  obtain ⟨hx, hb, hml, hnl, hown, hts, hK, hA, hfr, hlo, hmc, hms⟩ := F
  intro hcl h0 ad H locs LS h1 h2 h3 h4 h5
  exact lv_isub hx hb d (kk (⟨hcl.1, clS_push trivial (clS_tail (clS_tail hcl.2.1)), hcl.2.2⟩) h0 ad H locs LS h1 h2 h3 h4 h5)
theorem gl_iand {sb : Nat} {K : Cx} {own : String} {cc : ByteArray} {nL fr mc ms k n pc : Nat} {ls : List (Nat × Value)} {st : List Value} {hp : Hp} (F : Fx K own cc nL fr mc ms) {x y : Int32} (d : decode cc pc = .ok (.iand, 1)) (kk : GL sb K k n (pc + 1) (ls) (.int (x &&& y) :: st) (hp)) : GL sb K k n (pc) (ls) (.int y :: .int x :: st) (hp) := by
  obtain ⟨p, l, e, R, s, m, args, below, meth, c, D, cA, A, Q, nL', n0, ad0⟩ := K
  obtain ⟨hx, hb, hml, hnl, hown, hts, hK, hA, hfr, hlo, hmc, hms⟩ := F
  intro hcl h0 ad H locs LS h1 h2 h3 h4 h5
  exact lv_iand hx hb d (kk (⟨hcl.1, clS_push trivial (clS_tail (clS_tail hcl.2.1)), hcl.2.2⟩) h0 ad H locs LS h1 h2 h3 h4 h5)
theorem gl_ic_eq {sb : Nat} {K : Cx} {own : String} {cc : ByteArray} {nL fr mc ms k n pc : Nat} {ls : List (Nat × Value)} {st : List Value} {hp : Hp} (F : Fx K own cc nL fr mc ms) {x y : Int32} {off : Int} {tgt : Nat} (d : decode cc pc = .ok (.if_icmp .eq off, 3)) (ht : (pc : Int) + off = (tgt : Int)) (kt : x = y → GL sb K k n tgt ls st hp) (kf : ¬ x = y → GL sb K k n (pc + 3) ls st hp) : GL sb K k n pc ls (.int y :: .int x :: st) hp := by
  obtain ⟨p, l, e, R, s, m, args, below, meth, c, D, cA, A, Q, nL', n0, ad0⟩ := K
  obtain ⟨hx, hb, hml, hnl, hown, hts, hK, hA, hfr, hlo, hmc, hms⟩ := F
  intro hcl h0 ad H locs LS h1 h2 h3 h4 h5
  exact lv_icmp_eq hx hb d ht (fun q => kt q (⟨hcl.1, clS_tail (clS_tail hcl.2.1), hcl.2.2⟩) h0 ad H locs LS h1 h2 h3 h4 h5) (fun q => kf q (⟨hcl.1, clS_tail (clS_tail hcl.2.1), hcl.2.2⟩) h0 ad H locs LS h1 h2 h3 h4 h5)
theorem gl_ic_gt {sb : Nat} {K : Cx} {own : String} {cc : ByteArray} {nL fr mc ms k n pc : Nat} {ls : List (Nat × Value)} {st : List Value} {hp : Hp} (F : Fx K own cc nL fr mc ms) {x y : Int32} {off : Int} {tgt : Nat} (d : decode cc pc = .ok (.if_icmp .gt off, 3)) (ht : (pc : Int) + off = (tgt : Int)) (kt : y < x → GL sb K k n tgt ls st hp) (kf : ¬ y < x → GL sb K k n (pc + 3) ls st hp) : GL sb K k n pc ls (.int y :: .int x :: st) hp := by
  obtain ⟨p, l, e, R, s, m, args, below, meth, c, D, cA, A, Q, nL', n0, ad0⟩ := K
  obtain ⟨hx, hb, hml, hnl, hown, hts, hK, hA, hfr, hlo, hmc, hms⟩ := F
  intro hcl h0 ad H locs LS h1 h2 h3 h4 h5
  exact lv_icmp_gt hx hb d ht (fun q => kt q (⟨hcl.1, clS_tail (clS_tail hcl.2.1), hcl.2.2⟩) h0 ad H locs LS h1 h2 h3 h4 h5) (fun q => kf q (⟨hcl.1, clS_tail (clS_tail hcl.2.1), hcl.2.2⟩) h0 ad H locs LS h1 h2 h3 h4 h5)
theorem gl_ic_ne {sb : Nat} {K : Cx} {own : String} {cc : ByteArray} {nL fr mc ms k n pc : Nat} {ls : List (Nat × Value)} {st : List Value} {hp : Hp} (F : Fx K own cc nL fr mc ms) {x y : Int32} {off : Int} {tgt : Nat} (d : decode cc pc = .ok (.if_icmp .ne off, 3)) (ht : (pc : Int) + off = (tgt : Int)) (kt : ¬ x = y → GL sb K k n tgt ls st hp) (kf : x = y → GL sb K k n (pc + 3) ls st hp) : GL sb K k n pc ls (.int y :: .int x :: st) hp := by
  obtain ⟨p, l, e, R, s, m, args, below, meth, c, D, cA, A, Q, nL', n0, ad0⟩ := K
  obtain ⟨hx, hb, hml, hnl, hown, hts, hK, hA, hfr, hlo, hmc, hms⟩ := F
  intro hcl h0 ad H locs LS h1 h2 h3 h4 h5
  exact lv_icmp_ne hx hb d ht (fun q => kt q (⟨hcl.1, clS_tail (clS_tail hcl.2.1), hcl.2.2⟩) h0 ad H locs LS h1 h2 h3 h4 h5) (fun q => kf q (⟨hcl.1, clS_tail (clS_tail hcl.2.1), hcl.2.2⟩) h0 ad H locs LS h1 h2 h3 h4 h5)
theorem gl_if_eq {sb : Nat} {K : Cx} {own : String} {cc : ByteArray} {nL fr mc ms k n pc : Nat} {ls : List (Nat × Value)} {st : List Value} {hp : Hp} (F : Fx K own cc nL fr mc ms) {x : Int32} {off : Int} {tgt : Nat} (d : decode cc pc = .ok (.ifCond .eq off, 3)) (ht : (pc : Int) + off = (tgt : Int)) (kt : x = 0 → GL sb K k n tgt ls st hp) (kf : ¬ x = 0 → GL sb K k n (pc + 3) ls st hp) : GL sb K k n pc ls (.int x :: st) hp := by
  obtain ⟨p, l, e, R, s, m, args, below, meth, c, D, cA, A, Q, nL', n0, ad0⟩ := K
  obtain ⟨hx, hb, hml, hnl, hown, hts, hK, hA, hfr, hlo, hmc, hms⟩ := F
  intro hcl h0 ad H locs LS h1 h2 h3 h4 h5
  exact lv_if_eq hx hb d ht (fun q => kt q (⟨hcl.1, clS_tail hcl.2.1, hcl.2.2⟩) h0 ad H locs LS h1 h2 h3 h4 h5) (fun q => kf q (⟨hcl.1, clS_tail hcl.2.1, hcl.2.2⟩) h0 ad H locs LS h1 h2 h3 h4 h5)
theorem gl_if_ne {sb : Nat} {K : Cx} {own : String} {cc : ByteArray} {nL fr mc ms k n pc : Nat} {ls : List (Nat × Value)} {st : List Value} {hp : Hp} (F : Fx K own cc nL fr mc ms) {x : Int32} {off : Int} {tgt : Nat} (d : decode cc pc = .ok (.ifCond .ne off, 3)) (ht : (pc : Int) + off = (tgt : Int)) (kt : ¬ x = 0 → GL sb K k n tgt ls st hp) (kf : x = 0 → GL sb K k n (pc + 3) ls st hp) : GL sb K k n pc ls (.int x :: st) hp := by
  obtain ⟨p, l, e, R, s, m, args, below, meth, c, D, cA, A, Q, nL', n0, ad0⟩ := K
  obtain ⟨hx, hb, hml, hnl, hown, hts, hK, hA, hfr, hlo, hmc, hms⟩ := F
  intro hcl h0 ad H locs LS h1 h2 h3 h4 h5
  exact lv_if_ne hx hb d ht (fun q => kt q (⟨hcl.1, clS_tail hcl.2.1, hcl.2.2⟩) h0 ad H locs LS h1 h2 h3 h4 h5) (fun q => kf q (⟨hcl.1, clS_tail hcl.2.1, hcl.2.2⟩) h0 ad H locs LS h1 h2 h3 h4 h5)
theorem gl_lcmp {sb : Nat} {K : Cx} {own : String} {cc : ByteArray} {nL fr mc ms k n pc : Nat} {ls : List (Nat × Value)} {st : List Value} {hp : Hp} (F : Fx K own cc nL fr mc ms) {x y : Int64} (d : decode cc pc = .ok (.lcmp, 1)) (kk : GL sb K k n (pc + 1) (ls) (.int (lg_cmp x y) :: st) (hp)) : GL sb K k n (pc) (ls) (.long y :: .long x :: st) (hp) := by
  obtain ⟨p, l, e, R, s, m, args, below, meth, c, D, cA, A, Q, nL', n0, ad0⟩ := K
  obtain ⟨hx, hb, hml, hnl, hown, hts, hK, hA, hfr, hlo, hmc, hms⟩ := F
  intro hcl h0 ad H locs LS h1 h2 h3 h4 h5
  exact W.lcmp hx hb d (kk (⟨hcl.1, clS_push trivial (clS_tail (clS_tail hcl.2.1)), hcl.2.2⟩) h0 ad H locs LS h1 h2 h3 h4 h5)
theorem gl_i2l {sb : Nat} {K : Cx} {own : String} {cc : ByteArray} {nL fr mc ms k n pc : Nat} {ls : List (Nat × Value)} {st : List Value} {hp : Hp} (F : Fx K own cc nL fr mc ms) {x : Int32} (d : decode cc pc = .ok (.i2l, 1)) (kk : GL sb K k n (pc + 1) (ls) (.long (x.toInt64) :: st) (hp)) : GL sb K k n (pc) (ls) (.int x :: st) (hp) := by
  obtain ⟨p, l, e, R, s, m, args, below, meth, c, D, cA, A, Q, nL', n0, ad0⟩ := K
  obtain ⟨hx, hb, hml, hnl, hown, hts, hK, hA, hfr, hlo, hmc, hms⟩ := F
  intro hcl h0 ad H locs LS h1 h2 h3 h4 h5
  exact lv_i2l hx hb d rfl (kk (⟨hcl.1, clS_push trivial (clS_tail hcl.2.1), hcl.2.2⟩) h0 ad H locs LS h1 h2 h3 h4 h5)
theorem gl_lconst {sb : Nat} {K : Cx} {own : String} {cc : ByteArray} {nL fr mc ms k n pc : Nat} {ls : List (Nat × Value)} {st : List Value} {hp : Hp} (F : Fx K own cc nL fr mc ms) {a : Fin 2} {v : Int64} (d : decode cc pc = .ok (.lconst a, 1)) (hv : Int64.ofNat (a : Nat) = v) (kk : GL sb K k n (pc + 1) (ls) (.long v :: st) (hp)) : GL sb K k n (pc) (ls) (st) (hp) := by
  obtain ⟨p, l, e, R, s, m, args, below, meth, c, D, cA, A, Q, nL', n0, ad0⟩ := K
  obtain ⟨hx, hb, hml, hnl, hown, hts, hK, hA, hfr, hlo, hmc, hms⟩ := F
  intro hcl h0 ad H locs LS h1 h2 h3 h4 h5
  exact lv_lconst hx hb d hv (kk (⟨hcl.1, clS_push trivial hcl.2.1, hcl.2.2⟩) h0 ad H locs LS h1 h2 h3 h4 h5)
theorem gl_iload {sb : Nat} {K : Cx} {own : String} {cc : ByteArray} {nL fr mc ms k n pc : Nat} {ls : List (Nat × Value)} {st : List Value} {hp : Hp} (F : Fx K own cc nL fr mc ms) {i : Nat} {x : Int32} (d : decode cc pc = .ok (.iload i, 2)) (hv : look ls i = some (.int x)) (kk : GL sb K k n (pc + 2) (ls) (.int x :: st) (hp)) : GL sb K k n (pc) (ls) (st) (hp) := by
  obtain ⟨p, l, e, R, s, m, args, below, meth, c, D, cA, A, Q, nL', n0, ad0⟩ := K
  obtain ⟨hx, hb, hml, hnl, hown, hts, hK, hA, hfr, hlo, hmc, hms⟩ := F
  intro hcl h0 ad H locs LS h1 h2 h3 h4 h5
  exact lv_iload hx hb d (lv_look (lv_tl h5) hv) (kk (⟨hcl.1, clS_push (hcl.1 _ (look_mem hv)) hcl.2.1, hcl.2.2⟩) h0 ad H locs LS h1 h2 h3 h4 h5)
theorem gl_aload_n {sb : Nat} {K : Cx} {own : String} {cc : ByteArray} {nL fr mc ms k n pc : Nat} {ls : List (Nat × Value)} {st : List Value} {hp : Hp} (F : Fx K own cc nL fr mc ms) {i : Fin 4} {x : Nat} (d : decode cc pc = .ok (.aload_n i, 1)) (hv : look ls (i : Nat) = some (.ref x)) (kk : GL sb K k n (pc + 1) (ls) (.ref x :: st) (hp)) : GL sb K k n (pc) (ls) (st) (hp) := by
  obtain ⟨p, l, e, R, s, m, args, below, meth, c, D, cA, A, Q, nL', n0, ad0⟩ := K
  obtain ⟨hx, hb, hml, hnl, hown, hts, hK, hA, hfr, hlo, hmc, hms⟩ := F
  intro hcl h0 ad H locs LS h1 h2 h3 h4 h5
  exact lv_aload_n hx hb d rfl (lv_look (lv_tl h5) hv) (kk (⟨hcl.1, clS_push (hcl.1 _ (look_mem hv)) hcl.2.1, hcl.2.2⟩) h0 ad H locs LS h1 h2 h3 h4 h5)
theorem gl_istore {sb : Nat} {K : Cx} {own : String} {cc : ByteArray} {nL fr mc ms k n pc : Nat} {ls : List (Nat × Value)} {st : List Value} {hp : Hp} (F : Fx K own cc nL fr mc ms) {i : Nat} {x : Int32} (d : decode cc pc = .ok (.istore i, 2)) (hi : i < nL) (hi0 : 0 < i) (kk : GL sb K k n (pc + 2) (put1 ls i (.int x)) (st) (hp)) : GL sb K k n (pc) (ls) (.int x :: st) (hp) := by
  obtain ⟨p, l, e, R, s, m, args, below, meth, c, D, cA, A, Q, nL', n0, ad0⟩ := K
  obtain ⟨hx, hb, hml, hnl, hown, hts, hK, hA, hfr, hlo, hmc, hms⟩ := F
  intro hcl h0 ad H locs LS h1 h2 h3 h4 h5
  subst hnl
  exact lv_istore hx hb d h5 hi rfl (fun LS2 g => kk (⟨clL_put1 (clS_head hcl.2.1) hcl.1, clS_tail hcl.2.1, hcl.2.2⟩) h0 ad H locs LS2 h1 h2 h3 h4 (lv_memb g (lM_putS hi0)))
theorem gl_astore_n {sb : Nat} {K : Cx} {own : String} {cc : ByteArray} {nL fr mc ms k n pc : Nat} {ls : List (Nat × Value)} {st : List Value} {hp : Hp} (F : Fx K own cc nL fr mc ms) {i : Fin 4} {x : Nat} (d : decode cc pc = .ok (.astore_n i, 1)) (hi : (i : Nat) < nL) (hi0 : 0 < (i : Nat)) (kk : GL sb K k n (pc + 1) (put1 ls (i : Nat) (.ref x)) (st) (hp)) : GL sb K k n (pc) (ls) (.ref x :: st) (hp) := by
  obtain ⟨p, l, e, R, s, m, args, below, meth, c, D, cA, A, Q, nL', n0, ad0⟩ := K
  obtain ⟨hx, hb, hml, hnl, hown, hts, hK, hA, hfr, hlo, hmc, hms⟩ := F
  intro hcl h0 ad H locs LS h1 h2 h3 h4 h5
  subst hnl
  exact lv_astore_n hx hb d rfl h5 hi rfl (fun LS2 g => kk (⟨clL_put1 (clS_head hcl.2.1) hcl.1, clS_tail hcl.2.1, hcl.2.2⟩) h0 ad H locs LS2 h1 h2 h3 h4 (lv_memb g (lM_putS hi0)))
theorem gl_iinc {sb : Nat} {K : Cx} {own : String} {cc : ByteArray} {nL fr mc ms k n pc : Nat} {ls : List (Nat × Value)} {st : List Value} {hp : Hp} (F : Fx K own cc nL fr mc ms) {i : Nat} {a : Int} {x v : Int32} (d : decode cc pc = .ok (.iinc i a, 3)) (hv : look ls i = some (.int x)) (hw : x + Int32.ofInt a = v) (hi : i < nL) (hi0 : 0 < i) (kk : GL sb K k n (pc + 3) (put1 ls i (.int v)) (st) (hp)) : GL sb K k n (pc) (ls) (st) (hp) := by
  obtain ⟨p, l, e, R, s, m, args, below, meth, c, D, cA, A, Q, nL', n0, ad0⟩ := K
  obtain ⟨hx, hb, hml, hnl, hown, hts, hK, hA, hfr, hlo, hmc, hms⟩ := F
  intro hcl h0 ad H locs LS h1 h2 h3 h4 h5
  subst hnl
  obtain ⟨j, hj⟩ := List.getElem?_of_mem (List.mem_cons_of_mem (0, Value.ref sb) (lM_mem (ad := ad) (look_mem hv)))
  exact lv_iinc (k := j) hx hb d h5 hj hw hi rfl (fun LS2 g => kk ⟨clL_put1 trivial hcl.1, hcl.2.1, hcl.2.2⟩ h0 ad H locs LS2 h1 h2 h3 h4 (lv_memb g (lM_putS hi0)))
theorem gl_dup {sb : Nat} {K : Cx} {own : String} {cc : ByteArray} {nL fr mc ms k n pc : Nat} {ls : List (Nat × Value)} {st : List Value} {hp : Hp} (F : Fx K own cc nL fr mc ms) {v : Value} (d : decode cc pc = .ok (.dup, 1)) (hv : v.category = 1) (kk : GL sb K k n (pc + 1) (ls) (v :: v :: st) (hp)) : GL sb K k n (pc) (ls) (v :: st) (hp) := by
  obtain ⟨p, l, e, R, s, m, args, below, meth, c, D, cA, A, Q, nL', n0, ad0⟩ := K
  obtain ⟨hx, hb, hml, hnl, hown, hts, hK, hA, hfr, hlo, hmc, hms⟩ := F
  intro hcl h0 ad H locs LS h1 h2 h3 h4 h5
  exact lv_dup hx hb d ((vM_cat ad v).trans hv) (kk (⟨hcl.1, clS_push (clS_head hcl.2.1) hcl.2.1, hcl.2.2⟩) h0 ad H locs LS h1 h2 h3 h4 h5)
theorem gl_goto {sb : Nat} {K : Cx} {own : String} {cc : ByteArray} {nL fr mc ms k n pc : Nat} {ls : List (Nat × Value)} {st : List Value} {hp : Hp} (F : Fx K own cc nL fr mc ms) {off : Int} {tgt : Nat} (d : decode cc pc = .ok (.goto off, 3)) (ht : (pc : Int) + off = (tgt : Int)) (kk : GL sb K k n (tgt) (ls) (st) (hp)) : GL sb K k n (pc) (ls) (st) (hp) := by
  obtain ⟨p, l, e, R, s, m, args, below, meth, c, D, cA, A, Q, nL', n0, ad0⟩ := K
  obtain ⟨hx, hb, hml, hnl, hown, hts, hK, hA, hfr, hlo, hmc, hms⟩ := F
  intro hcl h0 ad H locs LS h1 h2 h3 h4 h5
  exact lv_goto hx hb d ht (kk hcl h0 ad H locs LS h1 h2 h3 h4 h5)
theorem gl_tableOut {sb : Nat} {K : Cx} {own : String} {cc : ByteArray} {nL fr mc ms k n pc : Nat} {ls : List (Nat × Value)} {st : List Value} {hp : Hp} (F : Fx K own cc nL fr mc ms) {dflt lo hi : Int} {offs : Array Int} {len : Nat} {x : Int32} {tgt : Nat} (d : decode cc pc = .ok (.tableswitch dflt lo hi offs, len)) (h : x.toInt < lo ∨ hi < x.toInt) (ht : (pc : Int) + dflt = (tgt : Int)) (kk : GL sb K k n (tgt) (ls) (st) (hp)) : GL sb K k n (pc) (ls) (.int x :: st) (hp) := by
  obtain ⟨p, l, e, R, s, m, args, below, meth, c, D, cA, A, Q, nL', n0, ad0⟩ := K
  obtain ⟨hx, hb, hml, hnl, hown, hts, hK, hA, hfr, hlo, hmc, hms⟩ := F
  intro hcl h0 ad H locs LS h1 h2 h3 h4 h5
  exact lv_tableOut hx hb d h ht (kk (⟨hcl.1, clS_tail hcl.2.1, hcl.2.2⟩) h0 ad H locs LS h1 h2 h3 h4 h5)
theorem gl_tableIn {sb : Nat} {K : Cx} {own : String} {cc : ByteArray} {nL fr mc ms k n pc : Nat} {ls : List (Nat × Value)} {st : List Value} {hp : Hp} (F : Fx K own cc nL fr mc ms) {dflt lo hi : Int} {offs : Array Int} {len : Nat} {x : Int32} {off : Int} {tgt : Nat} (d : decode cc pc = .ok (.tableswitch dflt lo hi offs, len)) (h6 : ¬ x.toInt < lo) (h7 : ¬ hi < x.toInt) (ho : offs[(x.toInt - lo).toNat]? = some off) (ht : (pc : Int) + off = (tgt : Int)) (kk : GL sb K k n (tgt) (ls) (st) (hp)) : GL sb K k n (pc) (ls) (.int x :: st) (hp) := by
  obtain ⟨p, l, e, R, s, m, args, below, meth, c, D, cA, A, Q, nL', n0, ad0⟩ := K
  obtain ⟨hx, hb, hml, hnl, hown, hts, hK, hA, hfr, hlo, hmc, hms⟩ := F
  intro hcl h0 ad H locs LS h1 h2 h3 h4 h5
  exact lv_tableIn hx hb d h6 h7 ho ht (kk (⟨hcl.1, clS_tail hcl.2.1, hcl.2.2⟩) h0 ad H locs LS h1 h2 h3 h4 h5)
theorem gl_lald {sb : Nat} {K : Cx} {own : String} {cc : ByteArray} {nL fr mc ms k n pc : Nat} {ls : List (Nat × Value)} {st : List Value} {hp : Hp} (F : Fx K own cc nL fr mc ms) {q a : Nat} {f : Nat → Int64} {i : Int32} (d : decode cc pc = .ok (.laload, 1)) (ha : hp[q]? = some (.inl (.long, a, .inr (.inl f)))) (hi : vp_in i a) (kk : GL sb K k n (pc + 1) (ls) (.long (f i.toNatClampNeg) :: st) (hp)) : GL sb K k n (pc) (ls) (.int i :: .ref q :: st) (hp) := by
  obtain ⟨p, l, e, R, s, m, args, below, meth, c, D, cA, A, Q, nL', n0, ad0⟩ := K
  obtain ⟨hx, hb, hml, hnl, hown, hts, hK, hA, hfr, hlo, hmc, hms⟩ := F
  intro hcl h0 ad H locs LS h1 h2 h3 h4 h5
  exact va_lald hx hb hK.1 h2 q 1 (wM_get ha) rfl hi d (kk (⟨hcl.1, clS_push trivial (clS_tail (clS_tail hcl.2.1)), hcl.2.2⟩) h0 ad H locs LS h1 h2 h3 h4 h5)
theorem gl_lload {sb : Nat} {K : Cx} {own : String} {cc : ByteArray} {nL fr mc ms k n pc : Nat} {ls : List (Nat × Value)} {st : List Value} {hp : Hp} (F : Fx K own cc nL fr mc ms) {i : Nat} {x : Int64} (d : decode cc pc = .ok (.lload i, 2)) (hv : look ls i = some (.long x)) (kk : GL sb K k n (pc + 2) (ls) (.long x :: st) (hp)) : GL sb K k n (pc) (ls) (st) (hp) := by
  obtain ⟨p, l, e, R, s, m, args, below, meth, c, D, cA, A, Q, nL', n0, ad0⟩ := K
  obtain ⟨hx, hb, hml, hnl, hown, hts, hK, hA, hfr, hlo, hmc, hms⟩ := F
  intro hcl h0 ad H locs LS h1 h2 h3 h4 h5
  exact lv_lload hx hb d (lv_look (lv_tl h5) hv) (kk (⟨hcl.1, clS_push (hcl.1 _ (look_mem hv)) hcl.2.1, hcl.2.2⟩) h0 ad H locs LS h1 h2 h3 h4 h5)
theorem gl_lstore {sb : Nat} {K : Cx} {own : String} {cc : ByteArray} {nL fr mc ms k n pc : Nat} {ls : List (Nat × Value)} {st : List Value} {hp : Hp} (F : Fx K own cc nL fr mc ms) {i : Nat} {x : Int64} (d : decode cc pc = .ok (.lstore i, 2)) (hi : i + 1 < nL) (hi0 : 0 < i) (kk : GL sb K k n (pc + 2) (put2 ls i (.long x)) (st) (hp)) : GL sb K k n (pc) (ls) (.long x :: st) (hp) := by
  obtain ⟨p, l, e, R, s, m, args, below, meth, c, D, cA, A, Q, nL', n0, ad0⟩ := K
  obtain ⟨hx, hb, hml, hnl, hown, hts, hK, hA, hfr, hlo, hmc, hms⟩ := F
  intro hcl h0 ad H locs LS h1 h2 h3 h4 h5
  subst hnl
  exact lv_lstore hx hb d h5 hi rfl (fun LS2 g => kk (⟨clL_put2 (clS_head hcl.2.1) hcl.1, clS_tail hcl.2.1, hcl.2.2⟩) h0 ad H locs LS2 h1 h2 h3 h4 (lv_memb g (lM_putS2 hi0)))
theorem gl_run {sb : Nat} {K : Cx} {own : String} {cc : ByteArray} {nL fr mc ms k n pc : Nat} {ls : List (Nat × Value)} {st rest : List Value} {hp : Hp} (F : Fx K own cc nL fr mc ms) {chp : Hp} {is : List Nat} {mc' ms' : Nat} {Qp : Option Value → Hp → Prop} (hs : Sub hp is chp) (hnd : va_nd is = true) (hrest : ∀ v ∈ rest, v ∈ st)
    (hrun : match K with
      | (p, l, e, R, s, m, args, below, meth, c, D, cA, A, _, nL', n0, ad0) => ∀ (ad : Nat → Nat) (H : Heap) (locs : List Loc) (LS : Array Slot), (∀ j, j < n0 → ad j = ad0 j) → va_P D vwCl (wM ad cA hp) H → va_D A (wM ad cA hp) → va_S A s.heap H locs → lv_has LS nL' ((0, .ref sb) :: lM ad ls) →
        va_Run p l e R s m args below meth c H locs k n mc' ms' (F0 m pc LS (st.map (vM ad))) (rest.map (vM ad)) (CQ D cA (fun j => ad (is.getD j 0)) chp H.size Qp mc') (va_A (wM (fun j => ad (is.getD j 0)) cA chp) H.size))
    (kk : ∀ (v : Option Value) (hp2 : Hp), Qp v hp2 → hp2.length = chp.length + mc' → GL sb K (k + mc') (n + ms') (pc + 3) ls ((v.map (vM (rho is hp.length))).toList ++ rest) (place hp is hp2)) : GL sb K k n pc ls st hp := by
  obtain ⟨p, l, e, R, s, m, args, below, meth, c, D, cA, A, Q, nL', n0, ad0⟩ := K
  obtain ⟨hx, hb, hml, hnl, hown, hts, hK, hA, hfr, hlo, hmc, hms⟩ := F
  intro hcl h0 ad H locs LS h1 h2 h3 h4 h5 T hT X
  obtain ⟨v, st₀, t, T', L, g0, X', hL, e1, e2, ⟨⟨u, hp2, ad2, e3, q, hlen, hcv, hch, hag, hP, hD⟩, hz, hkeep⟩, go⟩ := hrun ad H locs LS h1 h2 h3 h4 h5 T hT X
  have hA' : ∀ q, H.size ≤ q → A q := fun q h => hA q (Nat.le_trans h4.1 h)
  rw [g0] at hz hkeep
  have hlt : ∀ i ∈ is, i < hp.length := by
    intro i hi
    obtain ⟨j, hj⟩ := List.getElem?_of_mem hi
    obtain ⟨e, -, he⟩ := hs.up hj
    exact (List.getElem?_eq_some_iff.mp he).1
  have hL' := hs.len
  obtain ⟨hP', hD'⟩ := place_back (A := A) (H1 := T'.heap) hs hnd hcl.2.2 h2 h3 hA' hlen hag (by rw [e1]; exact hP) hD (fun q a b => by rw [e1]; exact hkeep q a b)
  have hag3 : ∀ j, j < hp.length → ad3 ad ad2 hp.length is.length j = ad j := fun j hj => by simp [ad3, hj]
  have hr := ad3_rho (ad := ad) (hp := hp) (ad2 := ad2) hlt (fun j hj => hag j (by omega))
  have hS' : va_S A s.heap T'.heap (locs ++ L) := by
    refine ⟨Nat.le_trans h4.1 (by rw [e1]; exact hz), fun q a b => ?_, fun q hq => ?_⟩
    · rw [e1, hkeep q (Nat.lt_of_lt_of_le a h4.1) (fun z => b (sub_A hs h3 hA' q z))]
      exact h4.2.1 q a b
    · rcases List.mem_append.mp hq with h | h
      · exact h4.2.2 q h
      · exact sub_A hs h3 hA' _ (hL q h)
  have hcl' : clAll ls ((u.map (vM (rho is hp.length))).toList ++ rest) (place hp is hp2) := by
    have hl3 := place_len hp is hp2
    refine ⟨fun x hx => clV_mono (hcl.1 x hx) (by rw [hl3]; omega), fun x hx => ?_, place_cl hlt (by omega) hcl.2.2 hch⟩
    rcases List.mem_append.mp hx with hx | hx
    · cases u with
      | none => simp at hx
      | some w =>
        simp at hx
        subst hx
        exact clV_rho (chp := hp2) hlt (by rw [hl3]; omega) (by rw [hl3]; omega) (hcv w rfl)
    · exact clV_mono (hcl.2.1 x (hrest x hx)) (by rw [hl3]; omega)
  have hn0' : ∀ j, j < n0 → ad3 ad ad2 hp.length is.length j = ad0 j := fun j hj => (hag3 j (Nat.lt_of_lt_of_le hj h0)).trans (h1 j hj)
  have hls : lM (ad3 ad ad2 hp.length is.length) ls = lM ad ls := List.map_congr_left (fun x hx => by rw [vM_cong (hcl.1 x hx) hag3])
  have hst : ((u.map (vM (rho is hp.length))).toList ++ rest).map (vM (ad3 ad ad2 hp.length is.length)) = v.toList ++ rest.map (vM ad) := by
    rw [List.map_append]
    congr 1
    · have e4 : v = u.map (vM ad2) := by
        have := e3
        cases this
        rfl
      rw [e4]
      cases u with
      | none => rfl
      | some w =>
        show [vM _ (vM _ w)] = [vM ad2 w]
        rw [vM_vM, show (fun k => ad3 ad ad2 hp.length is.length (rho is hp.length k)) = ad2 from funext hr]
    · exact List.map_congr_left (fun x hx => vM_cong (hcl.2.1 x (hrest x hx)) hag3)
  have G := kk u hp2 q hlen hcl' (by rw [place_len]; omega) (ad3 ad ad2 hp.length is.length) T'.heap (locs ++ L) LS hn0' hP' hD' hS' (by rw [hls]; exact h5)
  rw [hst] at G
  obtain ⟨t2, a1, b1⟩ := G T' rfl X'
  exact ⟨t2, go t2 a1, b1⟩
section CallL
variable {K : Cx} {own : String} {cc : ByteArray} {nL fr mc ms k n pc : Nat} {ls : List (Nat × Value)} {st : List Value} {hp : Hp}
  {y : MethodName} {cc' : ByteArray} {nL' fr' mc' ms' idx : Nat} {ret' : Option FieldType} {cas : List Value} {chp : Hp} {Qp : Option Value → Hp → Prop}
theorem gl_callS {sb : Nat} (F : Fx K own cc nL fr mc ms) (C : Ctr y cc' nL' ret' fr' mc' ms' cas chp Qp) (hi : Mi y cc' nL' ret' cas.length) (hk : KS own idx y) (d : decode cc pc = .ok (.invokestatic idx, 3)) (is : List Nat) (rest : List Value) (hfr : fr' < fr) (hl : nL' ≤ 21) (hs : Sub hp is chp) (hnd : va_nd is = true) (hst : st = (cas.map (vM (fun k => is.getD k 0))).reverse ++ rest) (hcat : (rest.map fun v => v.category).sum ≤ 8) (hkc : k + mc' ≤ mc) (hkn : n + ms' ≤ ms)
    (kk : ∀ (v : Option Value) (hp2 : Hp), Qp v hp2 → hp2.length = chp.length + mc' → GL sb K (k + mc') (n + ms') (pc + 3) ls ((v.map (vM (rho is hp.length))).toList ++ rest) (place hp is hp2)) : GL sb K k n pc ls st hp := by
  refine gl_run F hs hnd (rest_in hst) ?_ kk
  obtain ⟨p, l, e, R, s, m, args, below, meth, c, D, cA, A, Q, nL', n0, ad0⟩ := K
  obtain ⟨hx, hb, hml, hnl, hown, hts, hK, hA, hfr2, hlo, hmc, hms⟩ := F
  intro ad H locs LS h1 h2 h3 h4 h5
  subst hnl
  refine va_runS (As := cas.map (vM (fun j => ad (is.getD j 0)))) (n := cas.length) ⟨hx, hb, hml, hown, hts⟩ (C.2 l D cA (fun j => ad (is.getD j 0)) H.size) ⟨callB_of cas.length hts (TB_good hi.1) rfl rfl rfl (hts _ hi.2.1) (hts _ hk.1) hi.2.2 ⟨by show fr' + 1 ≤ _; omega, by show _ + 40 * fr' ≤ _; omega⟩, hts _ hk.2⟩ ⟨frameBlind _ _ _ _ _, fun U hU hW => ⟨rfl, by rw [hU], by rw [hU]; exact sub_P hs h2, hK.moved hW, (sub_D hs hnd h3).weaken (fun _ _ _ _ => trivial)⟩⟩ rfl (List.length_map _) h5.1 (stack_eq hst) (lv_room (by rw [sum_cat]; exact hcat)) d ⟨by omega, by omega⟩
theorem gl_callV {sb : Nat} (F : Fx K own cc nL fr mc ms) {r0 ci : Nat} {fs : List Value} {T : u_T} {N : Nat} (C : Ctr y cc' nL' ret' fr' mc' ms' (.ref r0 :: cas) chp Qp) (hi : Mi y cc' nL' ret' cas.length) (hk : KV own idx y) (d : decode cc pc = .ok (.invokevirtual idx, 3)) (hr : chp[r0]? = some (.inr (ci, fs))) (hc : vwCl[ci]? = some (y.cls, T, N)) (is : List Nat) (rest : List Value) (hfr : fr' < fr) (hl : nL' ≤ 21) (hs : Sub hp is chp) (hnd : va_nd is = true) (hst : st = ((.ref r0 :: cas).map (vM (fun k => is.getD k 0))).reverse ++ rest) (hcat : (rest.map fun v => v.category).sum ≤ 8) (hkc : k + mc' ≤ mc) (hkn : n + ms' ≤ ms)
    (kk : ∀ (v : Option Value) (hp2 : Hp), Qp v hp2 → hp2.length = chp.length + mc' → GL sb K (k + mc') (n + ms') (pc + 3) ls ((v.map (vM (rho is hp.length))).toList ++ rest) (place hp is hp2)) : GL sb K k n pc ls st hp := by
  refine gl_run F hs hnd (rest_in hst) ?_ kk
  obtain ⟨p, l, e, R, s, m, args, below, meth, c, D, cA, A, Q, nL', n0, ad0⟩ := K
  obtain ⟨hx, hb, hml, hnl, hown, hts, hK, hA, hfr2, hlo, hmc, hms⟩ := F
  intro ad H locs LS h1 h2 h3 h4 h5
  subst hnl
  have hst2 := stack_eq (ad := ad) hst
  rw [List.map_cons, List.reverse_cons, List.append_assoc] at hst2
  refine va_runV (C := y.cls) (As := cas.map (vM (fun j => ad (is.getD j 0)))) (n := cas.length) ⟨hx, hb, hml, hown, hts⟩ (C.2 l D cA (fun j => ad (is.getD j 0)) H.size) ⟨callB_of cas.length hts (TB_good hi.1) rfl rfl rfl (hts _ hi.2.1) (hts _ hk.1) hi.2.2 ⟨by show fr' + 1 ≤ _; omega, by show _ + 40 * fr' ≤ _; omega⟩, hts _ hk.2.1, hts _ hk.2.2⟩ ⟨frameBlind _ _ _ _ _, va_recv hK.1 (sub_P hs h2) hc (wM_get hr), fun U hU hW => ⟨rfl, by rw [hU], by rw [hU]; exact sub_P hs h2, hK.moved hW, (sub_D hs hnd h3).weaken (fun _ _ _ _ => trivial)⟩⟩ rfl (List.length_map _) h5.1 hst2 (lv_room (by rw [sum_cat]; exact hcat)) d ⟨by omega, by omega⟩
theorem gl_callI {sb : Nat} (F : Fx K own cc nL fr mc ms) {r0 : Nat} (C : Ctr y cc' nL' none fr' mc' ms' (.ref r0 :: cas) chp Qp) (hi : Mi y cc' nL' none cas.length) (hk : KI own idx y) (d : decode cc pc = .ok (.invokespecial idx, 3)) (is : List Nat) (rest : List Value) (hfr : fr' < fr) (hl : nL' ≤ 21) (hs : Sub hp is chp) (hnd : va_nd is = true) (hst : st = ((.ref r0 :: cas).map (vM (fun k => is.getD k 0))).reverse ++ rest) (hcat : (rest.map fun v => v.category).sum ≤ 8) (hkc : k + mc' ≤ mc) (hkn : n + ms' ≤ ms)
    (kk : ∀ (v : Option Value) (hp2 : Hp), Qp v hp2 → hp2.length = chp.length + mc' → GL sb K (k + mc') (n + ms') (pc + 3) ls ((v.map (vM (rho is hp.length))).toList ++ rest) (place hp is hp2)) : GL sb K k n pc ls st hp := by
  refine gl_run F hs hnd (rest_in hst) ?_ kk
  obtain ⟨p, l, e, R, s, m, args, below, meth, c, D, cA, A, Q, nL', n0, ad0⟩ := K
  obtain ⟨hx, hb, hml, hnl, hown, hts, hK, hA, hfr2, hlo, hmc, hms⟩ := F
  intro ad H locs LS h1 h2 h3 h4 h5
  subst hnl
  have hst2 := stack_eq (ad := ad) hst
  rw [List.map_cons, List.reverse_cons, List.append_assoc] at hst2
  refine va_runI (As := cas.map (vM (fun j => ad (is.getD j 0)))) (n := cas.length) ⟨hx, hb, hml, hown, hts⟩ (C.2 l D cA (fun j => ad (is.getD j 0)) H.size) ⟨callB_of cas.length hts (TB_good hi.1) rfl rfl rfl (hts _ hi.2.1) (hts _ hk.1) hi.2.2 ⟨by show fr' + 1 ≤ _; omega, by show _ + 40 * fr' ≤ _; omega⟩, hk.2.2, hts _ hk.2.1⟩ ⟨frameBlind _ _ _ _ _, fun U hU hW => ⟨rfl, by rw [hU], by rw [hU]; exact sub_P hs h2, hK.moved hW, (sub_D hs hnd h3).weaken (fun _ _ _ _ => trivial)⟩⟩ rfl (List.length_map _) h5.1 hst2 (lv_room (by rw [sum_cat]; exact hcat)) d ⟨by omega, by omega⟩
end CallL
theorem gl_runC {sb : Nat} {K : Cx} {own : String} {cc : ByteArray} {nL fr mc ms k n pc : Nat} {ls : List (Nat × Value)} {st rest : List Value} {hp : Hp} (F : Fx K own cc nL fr mc ms) {chp : Hp} {is : List Nat} {mc' ms' : Nat} {Qp : Option Value → Hp → Prop} (hs : Sub hp is chp) (hnd : va_nd is = true) (hrest : ∀ v ∈ rest, v ∈ st)
    (hrun : match K with
      | (p, l, e, R, s, m, args, below, meth, c, D, cA, A, _, nL', n0, ad0) => ∀ (ad : Nat → Nat) (H : Heap) (locs : List Loc) (LS : Array Slot), (∀ j, j < n0 → ad j = ad0 j) → va_P D vwCl (wM ad cA hp) H → va_D A (wM ad cA hp) → va_S A s.heap H locs → lv_has LS nL' ((0, .ref sb) :: lM ad ls) →
        va_Run p l e R s m args below meth c H locs k n mc' ms' (F0 m pc LS (st.map (vM ad))) (rest.map (vM ad)) (CQ D cA (fun j => ad (is.getD j 0)) chp H.size Qp mc') (va_A (wM (fun j => ad (is.getD j 0)) cA chp) H.size))
    (kk : ∀ (v : Option Value) (hp2 : Hp), Qp v hp2 → hp2.length = chp.length + mc' → (∀ w, v = some w → clV hp2.length w) → clH hp2.length hp2 → GL sb K (k + mc') (n + ms') (pc + 3) ls ((v.map (vM (rho is hp.length))).toList ++ rest) (place hp is hp2)) : GL sb K k n pc ls st hp := by
  obtain ⟨p, l, e, R, s, m, args, below, meth, c, D, cA, A, Q, nL', n0, ad0⟩ := K
  obtain ⟨hx, hb, hml, hnl, hown, hts, hK, hA, hfr, hlo, hmc, hms⟩ := F
  intro hcl h0 ad H locs LS h1 h2 h3 h4 h5 T hT X
  obtain ⟨v, st₀, t, T', L, g0, X', hL, e1, e2, ⟨⟨u, hp2, ad2, e3, q, hlen, hcv, hch, hag, hP, hD⟩, hz, hkeep⟩, go⟩ := hrun ad H locs LS h1 h2 h3 h4 h5 T hT X
  have hA' : ∀ q, H.size ≤ q → A q := fun q h => hA q (Nat.le_trans h4.1 h)
  rw [g0] at hz hkeep
  have hlt : ∀ i ∈ is, i < hp.length := by
    intro i hi
    obtain ⟨j, hj⟩ := List.getElem?_of_mem hi
    obtain ⟨e, -, he⟩ := hs.up hj
    exact (List.getElem?_eq_some_iff.mp he).1
  have hL' := hs.len
  obtain ⟨hP', hD'⟩ := place_back (A := A) (H1 := T'.heap) hs hnd hcl.2.2 h2 h3 hA' hlen hag (by rw [e1]; exact hP) hD (fun q a b => by rw [e1]; exact hkeep q a b)
  have hag3 : ∀ j, j < hp.length → ad3 ad ad2 hp.length is.length j = ad j := fun j hj => by simp [ad3, hj]
  have hr := ad3_rho (ad := ad) (hp := hp) (ad2 := ad2) hlt (fun j hj => hag j (by omega))
  have hS' : va_S A s.heap T'.heap (locs ++ L) := by
    refine ⟨Nat.le_trans h4.1 (by rw [e1]; exact hz), fun q a b => ?_, fun q hq => ?_⟩
    · rw [e1, hkeep q (Nat.lt_of_lt_of_le a h4.1) (fun z => b (sub_A hs h3 hA' q z))]
      exact h4.2.1 q a b
    · rcases List.mem_append.mp hq with h | h
      · exact h4.2.2 q h
      · exact sub_A hs h3 hA' _ (hL q h)
  have hcl' : clAll ls ((u.map (vM (rho is hp.length))).toList ++ rest) (place hp is hp2) := by
    have hl3 := place_len hp is hp2
    refine ⟨fun x hx => clV_mono (hcl.1 x hx) (by rw [hl3]; omega), fun x hx => ?_, place_cl hlt (by omega) hcl.2.2 hch⟩
    rcases List.mem_append.mp hx with hx | hx
    · cases u with
      | none => simp at hx
      | some w =>
        simp at hx
        subst hx
        exact clV_rho (chp := hp2) hlt (by rw [hl3]; omega) (by rw [hl3]; omega) (hcv w rfl)
    · exact clV_mono (hcl.2.1 x (hrest x hx)) (by rw [hl3]; omega)
  have hn0' : ∀ j, j < n0 → ad3 ad ad2 hp.length is.length j = ad0 j := fun j hj => (hag3 j (Nat.lt_of_lt_of_le hj h0)).trans (h1 j hj)
  have hls : lM (ad3 ad ad2 hp.length is.length) ls = lM ad ls := List.map_congr_left (fun x hx => by rw [vM_cong (hcl.1 x hx) hag3])
  have hst : ((u.map (vM (rho is hp.length))).toList ++ rest).map (vM (ad3 ad ad2 hp.length is.length)) = v.toList ++ rest.map (vM ad) := by
    rw [List.map_append]
    congr 1
    · have e4 : v = u.map (vM ad2) := by
        have := e3
        cases this
        rfl
      rw [e4]
      cases u with
      | none => rfl
      | some w =>
        show [vM _ (vM _ w)] = [vM ad2 w]
        rw [vM_vM, show (fun k => ad3 ad ad2 hp.length is.length (rho is hp.length k)) = ad2 from funext hr]
    · exact List.map_congr_left (fun x hx => vM_cong (hcl.2.1 x (hrest x hx)) hag3)
  have G := kk u hp2 q hlen hcv hch hcl' (by rw [place_len]; omega) (ad3 ad ad2 hp.length is.length) T'.heap (locs ++ L) LS hn0' hP' hD' hS' (by rw [hls]; exact h5)
  rw [hst] at G
  obtain ⟨t2, a1, b1⟩ := G T' rfl X'
  exact ⟨t2, go t2 a1, b1⟩
section CallPL
variable {K : Cx} {own : String} {cc : ByteArray} {nL fr mc ms k n pc : Nat} {ls : List (Nat × Value)} {st : List Value} {a rest : Hp}
  {y : MethodName} {cc' : ByteArray} {nL' fr' idx : Nat} {ret' : Option FieldType} {cas : List Value} {Qp : Option Value → Hp → Prop} {r : Value}
theorem gl_p_callV {sb : Nat} (F : Fx K own cc nL fr mc ms) {r0 ci : Nat} {fs : List Value} {T : u_T} {N : Nat} (C : Ctr y cc' nL' ret' fr' 0 0 (.ref r0 :: cas) a Qp) (hi : Mi y cc' nL' ret' cas.length) (hk : KV own idx y) (hr : a[r0]? = some (.inr (ci, fs))) (hc : vwCl[ci]? = some (y.cls, T, N)) (d : decode cc pc = .ok (.invokevirtual idx, 3)) (hfr : fr' < fr) (hl : nL' ≤ 21) (hst : (.ref r0 :: cas).reverse ++ st.drop (cas.length + 1) = st) (hcat : ((st.drop (cas.length + 1)).map fun v => v.category).sum ≤ 8) (hkc : k ≤ mc) (hkn : n ≤ ms)
    (kk : ∀ (v : Option Value) (a2 : Hp), Qp v a2 → a2.length = a.length → GL sb K k n (pc + 3) ls (v.toList ++ st.drop (cas.length + 1)) (a2 ++ rest)) : GL sb K k n pc ls st (a ++ rest) := by
  have hs := Sub_pre (rest := rest) C.1.2
  have hnd := nd_range a.length
  have hid : ∀ v ∈ (Value.ref r0 :: cas), vM (fun k => (List.range a.length).getD k 0) v = v := fun v hv => vM_id (C.1.1 v hv) (fun k hk => getD_range hk)
  have hst' : st = ((Value.ref r0 :: cas).map (vM (fun k => (List.range a.length).getD k 0))).reverse ++ st.drop (cas.length + 1) := by
    rw [(List.map_congr_left hid).trans (List.map_id _)]
    exact hst.symm
  refine gl_runC (mc' := 0) (ms' := 0) (Qp := Qp) F hs hnd (rest_in hst') ?_ (fun v hp2 q hlen hcv hch => ?_)
  · obtain ⟨p, l, e, R, s, m, args, below, meth, c, D, cA, A, Q, nL', n0, ad0⟩ := K
    obtain ⟨hx, hb, hml, hnl, hown, hts, hK, hA, hfr2, hlo, hmc, hms⟩ := F
    intro ad H locs LS h1 h2 h3 h4 h5
    subst hnl
    have hst2 := stack_eq (ad := ad) hst'
    rw [List.map_cons, List.reverse_cons, List.append_assoc] at hst2
    exact va_runV (C := y.cls) (As := cas.map (vM (fun j => ad ((List.range a.length).getD j 0)))) (n := cas.length) ⟨hx, hb, hml, hown, hts⟩ (C.2 l D cA (fun j => ad ((List.range a.length).getD j 0)) H.size) ⟨callB_of cas.length hts (TB_good hi.1) rfl rfl rfl (hts _ hi.2.1) (hts _ hk.1) hi.2.2 ⟨by show fr' + 1 ≤ _; omega, by show _ + 40 * fr' ≤ _; omega⟩, hts _ hk.2.1, hts _ hk.2.2⟩ ⟨frameBlind _ _ _ _ _, va_recv hK.1 (sub_P hs h2) hc (wM_get hr), fun U hU hW => ⟨rfl, by rw [hU], by rw [hU]; exact sub_P hs h2, hK.moved hW, (sub_D hs hnd h3).weaken (fun _ _ _ _ => trivial)⟩⟩ rfl (List.length_map _) h5.1 hst2 (lv_room (by rw [sum_cat]; exact hcat)) d ⟨by omega, by omega⟩
  · rw [place_pre hlen hch]
    have e : v.map (vM (rho (List.range a.length) (a ++ rest).length)) = v := by
      cases v with
      | none => rfl
      | some w => exact congrArg some (vM_id (hcv w rfl) (fun k hk => getD_range (by omega)))
    rw [e]
    exact kk v hp2 q hlen
end CallPL
section NewsL
variable {own : String} {cc : ByteArray} {nL fr mc ms k n pc : Nat} {ls : List (Nat × Value)} {st : List Value} {hp : Hp}
theorem gl_newO {sb : Nat} {K : Cx} (F : Fx K own cc nL fr mc ms) {C : String} {T : u_T} {N ci idx : Nat} {t : Nat → FieldType} (f : Fc ci C T N t) (d : decode cc pc = .ok (.new idx, 3)) (hlk : Cond.classLink own idx C ∈ TB) (hi1 : Cond.instantiable C N ∈ TB) (hi2 : Cond.initialized C ∈ TB) {fs : List Value} (hfs : ∀ j, j < N → defaultValue (t j) = vp_V fs j) (hnr : fs.all nrf = true) (hkc : k + 1 ≤ mc) (hkn : n + N ≤ ms) (kk : GL sb K (k + 1) (n + N) (pc + 3) ls (.ref hp.length :: st) (hp ++ [.inr (ci, fs)])) : GL sb K k n pc ls st hp := by
  obtain ⟨p, l, e, R, s, m, args, below, meth, c, D, cA, A, Q, nL', n0, ad0⟩ := K
  obtain ⟨hx, hb, hml, hnl, hown, hts, hK, hA, hfr, hlo, hmc, hms⟩ := F
  intro hcl h0 ad H locs LS h1 h2 h3 h4 h5
  obtain ⟨f1, f2, f3, f4⟩ := f
  have hE : clE hp.length (.inr (ci, fs)) := fun v hv => nrf_cl _ (List.all_eq_true.mp hnr v hv)
  have em : fs.map (vM ad) = fs := (List.map_congr_left (fun v hv => nrf_vM ad (List.all_eq_true.mp hnr v hv))).trans (List.map_id fs)
  refine va_new (Ts := TB) hx hb hts f2 t f3 hown (hts _ hlk) (hts _ hi1) (hts _ hi2) hK.1 h2 h3 h4 hA f1 hfs (Nat.le_trans hkc hmc) (Nat.le_trans hkn hms) d (fun q H1 z2 z3 z4 => ?_)
  have ew : wM (adX ad hp.length q) cA (hp ++ [.inr (ci, fs)]) = wM ad cA hp ++ [(q, .inr (ci, fs))] := by
    rw [wM_push (ad := ad) (cA := cA) (q := q) hcl.2.2 hE]
    show _ ++ [(q, Sum.inr (ci, fs.map (vM ad)))] = _
    rw [em]
  have hS := hcl.2.1
  have es : (Value.ref hp.length :: st).map (vM (adX ad hp.length q)) = .ref q :: st.map (vM ad) := by
    rw [sM_cg (f := ad) hS (fun k hk => adX_old (q := q) hk)]
    show Value.ref (adX ad hp.length q hp.length) :: _ = _
    rw [adX_new]
  have r := kk (clAll_push hcl.1 hS hcl.2.2 hE) (by rw [List.length_append]; exact Nat.le_add_right_of_le h0) (adX ad hp.length q) H1 locs LS (fun j hj => (adX_old (Nat.lt_of_lt_of_le hj h0)).symm.trans (h1 j hj)) (by rw [ew]; exact z2) (by rw [ew]; exact z3) z4 (by rw [← lM_cg (f := ad) hcl.1 (fun k hk => adX_old (q := q) hk)]; exact h5)
  rw [es] at r
  exact r
theorem gl_newL {sb : Nat} {K : Cx} (F : Fx K own cc nL fr mc ms) {x : Int32} {N : Nat} (d : decode cc pc = .ok (.newarray .long, 2)) (hn : ¬ x < 0) (hN : x.toNatClampNeg = N) (hbt : N * 8 ≤ 536870912) (hkc : k + 1 ≤ mc) (hkn : n + N ≤ ms) (kk : GL sb K (k + 1) (n + N) (pc + 2) ls (.ref hp.length :: st) (hp ++ [.inl (.long, N, .inr (.inl (fun _ => 0)))])) : GL sb K k n pc ls (.int x :: st) hp := by
  obtain ⟨p, l, e, R, s, m, args, below, meth, c, D, cA, A, Q, nL', n0, ad0⟩ := K
  obtain ⟨hx, hb, hml, hnl, hown, hts, hK, hA, hfr, hlo, hmc, hms⟩ := F
  intro hcl h0 ad H locs LS h1 h2 h3 h4 h5
  refine va_newa (atype := .long) (ty := .long) (a0 := (N, .inr (.inl (fun _ => 0)))) hx hb (hts _ karr_long) rfl hK.1 h2 h3 h4 hA (fun _ => rfl) hn hN hbt (Nat.le_trans hkc hmc) (Nat.le_trans hkn hms) d (fun q cA2 H1 z1 z2 z3 z4 => ?_)
  have ec : cA2 = cA .long := Option.some.inj ((show _ = some cA2 from (z1.2 3 _ rfl).2).symm.trans (show _ = some (cA .long) from (hK.1.2 1 _ rfl).2))
  subst ec
  have hE : clE hp.length (.inl (.long, N, .inr (.inl (fun _ => 0)))) := trivial
  have ew := wM_push (ad := ad) (cA := cA) (q := q) hcl.2.2 hE
  have hS := clS_tail hcl.2.1
  have es : (Value.ref hp.length :: st).map (vM (adX ad hp.length q)) = .ref q :: st.map (vM ad) := by
    rw [sM_cg (f := ad) hS (fun k hk => adX_old (q := q) hk)]
    show Value.ref (adX ad hp.length q hp.length) :: _ = _
    rw [adX_new]
  have r := kk (clAll_push hcl.1 hS hcl.2.2 hE) (by rw [List.length_append]; exact Nat.le_add_right_of_le h0) (adX ad hp.length q) H1 locs LS (fun j hj => (adX_old (Nat.lt_of_lt_of_le hj h0)).symm.trans (h1 j hj)) (by rw [ew]; exact z2) (by rw [ew]; exact z3) z4 (by rw [← lM_cg (f := ad) hcl.1 (fun k hk => adX_old (q := q) hk)]; exact h5)
  rw [es] at r
  exact r
end NewsL
