def bI (b : Bool) : Int32 := if b = true then nI 1 else nI 0
theorem bI_t : bI true = nI 1 := rfl
theorem bI_f : bI false = nI 0 := rfl
theorem bI_nar (b : Bool) : narrow .boolean (.int (bI b)) = .int (bI b) := by cases b <;> rfl
theorem bI_0 (b : Bool) : bI b = 0 ↔ b = false := by cases b <;> decide
theorem nI_lit (n : Nat) : (OfNat.ofNat n : Int32) = nI n := rfl
theorem g_iald2 {K : Cx} {own : String} {cc : ByteArray} {nL fr mc ms k n pc : Nat} {ls : List (Nat × Value)} {st : List Value} {hp : Hp} (F : Fx K own cc nL fr mc ms) {q a j : Nat} {f : Nat → Int32} {i : Int32} (d : decode cc pc = .ok (.iaload, 1)) (ha : hp[q]? = some (.inl (.int, a, .inl f))) (hi : i = nI j) (hj : j < a) (hb : a < 2 ^ 31) (kk : Go K k n (pc + 1) (ls) (.int (f j) :: st) (hp)) : Go K k n (pc) (ls) (.int i :: .ref q :: st) (hp) := by
  subst hi
  refine g_iald F d ha (vp_in_nI hj hb) ?_
  rw [nI_clamp (Nat.lt_trans hj hb)]
  exact kk
theorem g_iast2 {K : Cx} {own : String} {cc : ByteArray} {nL fr mc ms k n pc : Nat} {ls : List (Nat × Value)} {st : List Value} {hp : Hp} (F : Fx K own cc nL fr mc ms) {q a j : Nat} {f : Nat → Int32} {i x : Int32} (d : decode cc pc = .ok (.iastore, 1)) (ha : hp[q]? = some (.inl (.int, a, .inl f))) (hi : i = nI j) (hj : j < a) (hb : a < 2 ^ 31) (kk : Go K k n (pc + 1) (ls) (st) (hp.set q (.inl (.int, a, .inl (upd f j x))))) : Go K k n (pc) (ls) (.int x :: .int i :: .ref q :: st) (hp) := by
  subst hi
  refine g_iast F d ha (vp_in_nI hj hb) ?_
  rw [nI_clamp (Nat.lt_trans hj hb)]
  exact kk
theorem g_aald2 {K : Cx} {own : String} {cc : ByteArray} {nL fr mc ms k n pc : Nat} {ls : List (Nat × Value)} {st : List Value} {hp : Hp} (F : Fx K own cc nL fr mc ms) {q a j z : Nat} {f : Nat → Option Nat} {i : Int32} (d : decode cc pc = .ok (.aaload, 1)) (ha : hp[q]? = some (.inl (.object RX2, a, .inr (.inr (.inr (.inr f)))))) (hi : i = nI j) (hj : j < a) (hb : a < 2 ^ 31) (hv : f j = some z) (kk : Go K k n (pc + 1) (ls) (.ref z :: st) (hp)) : Go K k n (pc) (ls) (.int i :: .ref q :: st) (hp) := by
  subst hi
  exact g_aald F d ha (vp_in_nI hj hb) (by rw [nI_clamp (Nat.lt_trans hj hb)]; exact hv) kk
theorem g_iaddN {K : Cx} {own : String} {cc : ByteArray} {nL fr mc ms k n pc : Nat} {ls : List (Nat × Value)} {st : List Value} {hp : Hp} (F : Fx K own cc nL fr mc ms) {x y : Nat} (d : decode cc pc = .ok (.iadd, 1)) (kk : Go K k n (pc + 1) (ls) (.int (nI (x + y)) :: st) (hp)) : Go K k n (pc) (ls) (.int (nI y) :: .int (nI x) :: st) (hp) := g_iadd F d (by rw [nI_add]; exact kk)
theorem g_imulN {K : Cx} {own : String} {cc : ByteArray} {nL fr mc ms k n pc : Nat} {ls : List (Nat × Value)} {st : List Value} {hp : Hp} (F : Fx K own cc nL fr mc ms) {x y : Nat} (d : decode cc pc = .ok (.imul, 1)) (kk : Go K k n (pc + 1) (ls) (.int (nI (x * y)) :: st) (hp)) : Go K k n (pc) (ls) (.int (nI y) :: .int (nI x) :: st) (hp) := g_imul F d (by rw [pk_mul]; exact kk)
theorem g_isubN {K : Cx} {own : String} {cc : ByteArray} {nL fr mc ms k n pc : Nat} {ls : List (Nat × Value)} {st : List Value} {hp : Hp} (F : Fx K own cc nL fr mc ms) {x y : Nat} (d : decode cc pc = .ok (.isub, 1)) (hxy : y ≤ x) (kk : Go K k n (pc + 1) (ls) (.int (nI (x - y)) :: st) (hp)) : Go K k n (pc) (ls) (.int (nI y) :: .int (nI x) :: st) (hp) := g_isub F d (by rw [pk_sub hxy]; exact kk)
theorem g_idivN {K : Cx} {own : String} {cc : ByteArray} {nL fr mc ms k n pc : Nat} {ls : List (Nat × Value)} {st : List Value} {hp : Hp} (F : Fx K own cc nL fr mc ms) {x y : Nat} (d : decode cc pc = .ok (.idiv, 1)) (hx : x < 2 ^ 31) (hy : 0 < y) (hy2 : y < 2 ^ 31) (kk : Go K k n (pc + 1) (ls) (.int (nI (x / y)) :: st) (hp)) : Go K k n (pc) (ls) (.int (nI y) :: .int (nI x) :: st) (hp) := g_idiv F d (nI_ne0 hy hy2) (by rw [pk_div hx hy hy2]; exact kk)
theorem g_iremN {K : Cx} {own : String} {cc : ByteArray} {nL fr mc ms k n pc : Nat} {ls : List (Nat × Value)} {st : List Value} {hp : Hp} (F : Fx K own cc nL fr mc ms) {x y : Nat} (d : decode cc pc = .ok (.irem, 1)) (hx : x < 2 ^ 31) (hy : 0 < y) (hy2 : y < 2 ^ 31) (kk : Go K k n (pc + 1) (ls) (.int (nI (x % y)) :: st) (hp)) : Go K k n (pc) (ls) (.int (nI y) :: .int (nI x) :: st) (hp) := g_irem F d (nI_ne0 hy hy2) (by rw [pk_rem hx hy hy2]; exact kk)
theorem g_iincN {K : Cx} {own : String} {cc : ByteArray} {nL fr mc ms k n pc : Nat} {ls : List (Nat × Value)} {st : List Value} {hp : Hp} (F : Fx K own cc nL fr mc ms) {i a : Nat} (d : decode cc pc = .ok (.iinc i 1, 3)) (hv : look ls i = some (.int (nI a))) (hi : i < nL) (kk : Go K k n (pc + 3) (put1 ls i (.int (nI (a + 1)))) (st) (hp)) : Go K k n (pc) (ls) (st) (hp) := g_iinc F d hv (nI_1 a) hi kk
theorem g_iincD {K : Cx} {own : String} {cc : ByteArray} {nL fr mc ms k n pc : Nat} {ls : List (Nat × Value)} {st : List Value} {hp : Hp} (F : Fx K own cc nL fr mc ms) {i a : Nat} (d : decode cc pc = .ok (.iinc i (-1), 3)) (hv : look ls i = some (.int (nI (a + 1)))) (hi : i < nL) (kk : Go K k n (pc + 3) (put1 ls i (.int (nI a))) (st) (hp)) : Go K k n (pc) (ls) (st) (hp) := g_iinc F d hv (pk_m1 a) hi kk
theorem g_icN_eq {K : Cx} {own : String} {cc : ByteArray} {nL fr mc ms k n pc : Nat} {ls : List (Nat × Value)} {st : List Value} {hp : Hp} (F : Fx K own cc nL fr mc ms) {a b : Nat} {x y : Int32} {off : Int} {tgt : Nat} (d : decode cc pc = .ok (.if_icmp .eq off, 3)) (ht : (pc : Int) + off = (tgt : Int)) (hx : x = nI a) (hy : y = nI b) (ha : a < 2 ^ 31) (hb : b < 2 ^ 31) (kt : a = b → Go K k n tgt ls st hp) (kf : a ≠ b → Go K k n (pc + 3) ls st hp) : Go K k n pc ls (.int y :: .int x :: st) hp := by
  subst hx
  subst hy
  exact g_ic_eq F d ht (fun h => kt ((nI_eq ha hb).mp h)) (fun h => kf (fun z => h ((nI_eq ha hb).mpr z)))
theorem g_icN_ne {K : Cx} {own : String} {cc : ByteArray} {nL fr mc ms k n pc : Nat} {ls : List (Nat × Value)} {st : List Value} {hp : Hp} (F : Fx K own cc nL fr mc ms) {a b : Nat} {x y : Int32} {off : Int} {tgt : Nat} (d : decode cc pc = .ok (.if_icmp .ne off, 3)) (ht : (pc : Int) + off = (tgt : Int)) (hx : x = nI a) (hy : y = nI b) (ha : a < 2 ^ 31) (hb : b < 2 ^ 31) (kt : a ≠ b → Go K k n tgt ls st hp) (kf : a = b → Go K k n (pc + 3) ls st hp) : Go K k n pc ls (.int y :: .int x :: st) hp := by
  subst hx
  subst hy
  exact g_ic_ne F d ht (fun h => kt (fun z => h ((nI_eq ha hb).mpr z))) (fun h => kf ((nI_eq ha hb).mp h))
theorem g_icN_lt {K : Cx} {own : String} {cc : ByteArray} {nL fr mc ms k n pc : Nat} {ls : List (Nat × Value)} {st : List Value} {hp : Hp} (F : Fx K own cc nL fr mc ms) {a b : Nat} {x y : Int32} {off : Int} {tgt : Nat} (d : decode cc pc = .ok (.if_icmp .lt off, 3)) (ht : (pc : Int) + off = (tgt : Int)) (hx : x = nI a) (hy : y = nI b) (ha : a < 2 ^ 31) (hb : b < 2 ^ 31) (kt : a < b → Go K k n tgt ls st hp) (kf : b ≤ a → Go K k n (pc + 3) ls st hp) : Go K k n pc ls (.int y :: .int x :: st) hp := by
  subst hx
  subst hy
  exact g_ic_lt F d ht (fun h => kt ((nI_ltI ha hb).mp h)) (fun h => kf (Nat.not_lt.mp (fun z => h ((nI_ltI ha hb).mpr z))))
theorem g_icN_ge {K : Cx} {own : String} {cc : ByteArray} {nL fr mc ms k n pc : Nat} {ls : List (Nat × Value)} {st : List Value} {hp : Hp} (F : Fx K own cc nL fr mc ms) {a b : Nat} {x y : Int32} {off : Int} {tgt : Nat} (d : decode cc pc = .ok (.if_icmp .ge off, 3)) (ht : (pc : Int) + off = (tgt : Int)) (hx : x = nI a) (hy : y = nI b) (ha : a < 2 ^ 31) (hb : b < 2 ^ 31) (kt : b ≤ a → Go K k n tgt ls st hp) (kf : a < b → Go K k n (pc + 3) ls st hp) : Go K k n pc ls (.int y :: .int x :: st) hp := by
  subst hx
  subst hy
  exact g_ic_ge F d ht (fun h => kt ((nI_leI hb ha).mp h)) (fun h => kf (Nat.not_le.mp (fun z => h ((nI_leI hb ha).mpr z))))
theorem g_icN_gt {K : Cx} {own : String} {cc : ByteArray} {nL fr mc ms k n pc : Nat} {ls : List (Nat × Value)} {st : List Value} {hp : Hp} (F : Fx K own cc nL fr mc ms) {a b : Nat} {x y : Int32} {off : Int} {tgt : Nat} (d : decode cc pc = .ok (.if_icmp .gt off, 3)) (ht : (pc : Int) + off = (tgt : Int)) (hx : x = nI a) (hy : y = nI b) (ha : a < 2 ^ 31) (hb : b < 2 ^ 31) (kt : b < a → Go K k n tgt ls st hp) (kf : a ≤ b → Go K k n (pc + 3) ls st hp) : Go K k n pc ls (.int y :: .int x :: st) hp := by
  subst hx
  subst hy
  exact g_ic_gt F d ht (fun h => kt ((nI_ltI hb ha).mp h)) (fun h => kf (Nat.not_lt.mp (fun z => h ((nI_ltI hb ha).mpr z))))
theorem g_icN_le {K : Cx} {own : String} {cc : ByteArray} {nL fr mc ms k n pc : Nat} {ls : List (Nat × Value)} {st : List Value} {hp : Hp} (F : Fx K own cc nL fr mc ms) {a b : Nat} {x y : Int32} {off : Int} {tgt : Nat} (d : decode cc pc = .ok (.if_icmp .le off, 3)) (ht : (pc : Int) + off = (tgt : Int)) (hx : x = nI a) (hy : y = nI b) (ha : a < 2 ^ 31) (hb : b < 2 ^ 31) (kt : a ≤ b → Go K k n tgt ls st hp) (kf : b < a → Go K k n (pc + 3) ls st hp) : Go K k n pc ls (.int y :: .int x :: st) hp := by
  subst hx
  subst hy
  exact g_ic_le F d ht (fun h => kt ((nI_leI ha hb).mp h)) (fun h => kf (Nat.not_le.mp (fun z => h ((nI_leI ha hb).mpr z))))
theorem g_ifeq_b {K : Cx} {own : String} {cc : ByteArray} {nL fr mc ms k n pc : Nat} {ls : List (Nat × Value)} {st : List Value} {hp : Hp} (F : Fx K own cc nL fr mc ms) {b : Bool} {off : Int} {tgt : Nat} (d : decode cc pc = .ok (.ifCond .eq off, 3)) (ht : (pc : Int) + off = (tgt : Int)) (kt : b = false → Go K k n tgt ls st hp) (kf : b = true → Go K k n (pc + 3) ls st hp) : Go K k n pc ls (.int (bI b) :: st) hp :=
  g_if_eq F d ht (fun h => kt ((bI_0 b).mp h)) (fun h => kf (by cases b with | true => rfl | false => exact absurd rfl h))
theorem g_ifne_b {K : Cx} {own : String} {cc : ByteArray} {nL fr mc ms k n pc : Nat} {ls : List (Nat × Value)} {st : List Value} {hp : Hp} (F : Fx K own cc nL fr mc ms) {b : Bool} {off : Int} {tgt : Nat} (d : decode cc pc = .ok (.ifCond .ne off, 3)) (ht : (pc : Int) + off = (tgt : Int)) (kt : b = true → Go K k n tgt ls st hp) (kf : b = false → Go K k n (pc + 3) ls st hp) : Go K k n pc ls (.int (bI b) :: st) hp :=
  g_if_ne F d ht (fun h => kt (by cases b with | true => rfl | false => exact absurd rfl h)) (fun h => kf ((bI_0 b).mp h))
theorem g_ifeq_d {K : Cx} {own : String} {cc : ByteArray} {nL fr mc ms k n pc : Nat} {ls : List (Nat × Value)} {st : List Value} {hp : Hp} (F : Fx K own cc nL fr mc ms) {P : Prop} [Decidable P] {off : Int} {tgt : Nat} (d : decode cc pc = .ok (.ifCond .eq off, 3)) (ht : (pc : Int) + off = (tgt : Int)) (kt : ¬ P → Go K k n tgt ls st hp) (kf : P → Go K k n (pc + 3) ls st hp) : Go K k n pc ls (.int (bI (decide P)) :: st) hp :=
  g_ifeq_b F d ht (fun h => kt (of_decide_eq_false h)) (fun h => kf (of_decide_eq_true h))
theorem g_ifne_d {K : Cx} {own : String} {cc : ByteArray} {nL fr mc ms k n pc : Nat} {ls : List (Nat × Value)} {st : List Value} {hp : Hp} (F : Fx K own cc nL fr mc ms) {P : Prop} [Decidable P] {off : Int} {tgt : Nat} (d : decode cc pc = .ok (.ifCond .ne off, 3)) (ht : (pc : Int) + off = (tgt : Int)) (kt : P → Go K k n tgt ls st hp) (kf : ¬ P → Go K k n (pc + 3) ls st hp) : Go K k n pc ls (.int (bI (decide P)) :: st) hp :=
  g_ifne_b F d ht (fun h => kt (of_decide_eq_true h)) (fun h => kf (of_decide_eq_false h))
section Call2
variable {K : Cx} {own : String} {cc : ByteArray} {nL fr mc ms k n pc : Nat} {ls : List (Nat × Value)} {st : List Value} {hp : Hp}
  {y : MethodName} {cc' : ByteArray} {nL' fr' mc' ms' idx : Nat} {ret' : Option FieldType} {cas : List Value} {chp : Hp} {Qp : Option Value → Hp → Prop} {r : Value}
theorem h_callS (F : Fx K own cc nL fr mc ms) (C : Ctr y cc' nL' ret' fr' mc' ms' cas chp Qp) (hi : Mi y cc' nL' ret' cas.length) (hk : KS own idx y) (d : decode cc pc = .ok (.invokestatic idx, 3)) (is : List Nat) (hs : Sub hp is chp) (hfr : fr' < fr) (hl : nL' ≤ 21) (hnd : va_nd is = true) (hst : (cas.map (vM (fun k => is.getD k 0))).reverse ++ st.drop cas.length = st) (hcat : ((st.drop cas.length).map fun v => v.category).sum ≤ 8) (hkc : k + mc' ≤ mc) (hkn : n + ms' ≤ ms) (kk : ∀ (v : Option Value) (hp2 : Hp), Qp v hp2 → hp2.length = chp.length + mc' → Go K (k + mc') (n + ms') (pc + 3) ls ((v.map (vM (rho is hp.length))).toList ++ st.drop cas.length) (place hp is hp2)) : Go K k n pc ls st hp := g_callS F C hi hk d is _ hfr hl hs hnd hst.symm hcat hkc hkn kk
theorem h_readS (F : Fx K own cc nL fr mc ms) (C : RCtr y cc' nL' ret' fr' cas chp r) (hi : Mi y cc' nL' ret' cas.length) (hk : KS own idx y) (d : decode cc pc = .ok (.invokestatic idx, 3)) (is : List Nat) (hs : Sub hp is chp) (hfr : fr' < fr) (hl : nL' ≤ 21) (hnd : va_nd is = true) (hst : (cas.map (vM (fun k => is.getD k 0))).reverse ++ st.drop cas.length = st) (hcat : ((st.drop cas.length).map fun v => v.category).sum ≤ 8) (hv : clV is.length r) (hkc : k ≤ mc) (hkn : n ≤ ms) (kk : Go K k n (pc + 3) ls (vM (fun k => is.getD k 0) r :: st.drop cas.length) hp) : Go K k n pc ls st hp := g_readS F C hi hk d is _ hfr hl hs hnd hst.symm hcat hv hkc hkn kk
theorem h_callSN (F : Fx K own cc nL fr mc ms) (C : Ctr y cc' nL' ret' fr' mc' ms' cas chp Qp) (hi : Mi y cc' nL' ret' cas.length) {host : String} (hk : KN own idx y host) (hk2 : Cond.static y ∈ TB) (d : decode cc pc = .ok (.invokestatic idx, 3)) (is : List Nat) (hs : Sub hp is chp) (hfr : fr' < fr) (hl : nL' ≤ 21) (hnd : va_nd is = true) (hst : (cas.map (vM (fun k => is.getD k 0))).reverse ++ st.drop cas.length = st) (hcat : ((st.drop cas.length).map fun v => v.category).sum ≤ 8) (hkc : k + mc' ≤ mc) (hkn : n + ms' ≤ ms) (kk : ∀ (v : Option Value) (hp2 : Hp), Qp v hp2 → hp2.length = chp.length + mc' → Go K (k + mc') (n + ms') (pc + 3) ls ((v.map (vM (rho is hp.length))).toList ++ st.drop cas.length) (place hp is hp2)) : Go K k n pc ls st hp := g_callSN F C hi hk hk2 d is _ hfr hl hs hnd hst.symm hcat hkc hkn kk
theorem h_readSN (F : Fx K own cc nL fr mc ms) (C : RCtr y cc' nL' ret' fr' cas chp r) (hi : Mi y cc' nL' ret' cas.length) {host : String} (hk : KN own idx y host) (hk2 : Cond.static y ∈ TB) (d : decode cc pc = .ok (.invokestatic idx, 3)) (is : List Nat) (hs : Sub hp is chp) (hfr : fr' < fr) (hl : nL' ≤ 21) (hnd : va_nd is = true) (hst : (cas.map (vM (fun k => is.getD k 0))).reverse ++ st.drop cas.length = st) (hcat : ((st.drop cas.length).map fun v => v.category).sum ≤ 8) (hv : clV is.length r) (hkc : k ≤ mc) (hkn : n ≤ ms) (kk : Go K k n (pc + 3) ls (vM (fun k => is.getD k 0) r :: st.drop cas.length) hp) : Go K k n pc ls st hp := g_readSN F C hi hk hk2 d is _ hfr hl hs hnd hst.symm hcat hv hkc hkn kk
theorem h_callV (F : Fx K own cc nL fr mc ms) {r0 ci : Nat} {fs : List Value} {T : u_T} {N : Nat} (C : Ctr y cc' nL' ret' fr' mc' ms' (Value.ref r0 :: cas) chp Qp) (hi : Mi y cc' nL' ret' cas.length) (hk : KV own idx y) (hr : chp[r0]? = some (.inr (ci, fs))) (hc : vwCl[ci]? = some (y.cls, T, N)) (d : decode cc pc = .ok (.invokevirtual idx, 3)) (is : List Nat) (hs : Sub hp is chp) (hfr : fr' < fr) (hl : nL' ≤ 21) (hnd : va_nd is = true) (hst : ((Value.ref r0 :: cas).map (vM (fun k => is.getD k 0))).reverse ++ st.drop (cas.length + 1) = st) (hcat : ((st.drop (cas.length + 1)).map fun v => v.category).sum ≤ 8) (hkc : k + mc' ≤ mc) (hkn : n + ms' ≤ ms) (kk : ∀ (v : Option Value) (hp2 : Hp), Qp v hp2 → hp2.length = chp.length + mc' → Go K (k + mc') (n + ms') (pc + 3) ls ((v.map (vM (rho is hp.length))).toList ++ st.drop (cas.length + 1)) (place hp is hp2)) : Go K k n pc ls st hp := g_callV F C hi hk d hr hc is _ hfr hl hs hnd hst.symm hcat hkc hkn kk
theorem h_readV (F : Fx K own cc nL fr mc ms) {r0 ci : Nat} {fs : List Value} {T : u_T} {N : Nat} (C : RCtr y cc' nL' ret' fr' (Value.ref r0 :: cas) chp r) (hi : Mi y cc' nL' ret' cas.length) (hk : KV own idx y) (hr : chp[r0]? = some (.inr (ci, fs))) (hc : vwCl[ci]? = some (y.cls, T, N)) (d : decode cc pc = .ok (.invokevirtual idx, 3)) (is : List Nat) (hs : Sub hp is chp) (hfr : fr' < fr) (hl : nL' ≤ 21) (hnd : va_nd is = true) (hst : ((Value.ref r0 :: cas).map (vM (fun k => is.getD k 0))).reverse ++ st.drop (cas.length + 1) = st) (hcat : ((st.drop (cas.length + 1)).map fun v => v.category).sum ≤ 8) (hv : clV is.length r) (hkc : k ≤ mc) (hkn : n ≤ ms) (kk : Go K k n (pc + 3) ls (vM (fun k => is.getD k 0) r :: st.drop (cas.length + 1)) hp) : Go K k n pc ls st hp := g_readV F C hi hk d hr hc is _ hfr hl hs hnd hst.symm hcat hv hkc hkn kk
theorem h_callI (F : Fx K own cc nL fr mc ms) {r0 : Nat} (C : Ctr y cc' nL' none fr' mc' ms' (Value.ref r0 :: cas) chp Qp) (hi : Mi y cc' nL' none cas.length) (hk : KI own idx y) (d : decode cc pc = .ok (.invokespecial idx, 3)) (is : List Nat) (hs : Sub hp is chp) (hfr : fr' < fr) (hl : nL' ≤ 21) (hnd : va_nd is = true) (hst : ((Value.ref r0 :: cas).map (vM (fun k => is.getD k 0))).reverse ++ st.drop (cas.length + 1) = st) (hcat : ((st.drop (cas.length + 1)).map fun v => v.category).sum ≤ 8) (hkc : k + mc' ≤ mc) (hkn : n + ms' ≤ ms) (kk : ∀ (v : Option Value) (hp2 : Hp), Qp v hp2 → hp2.length = chp.length + mc' → Go K (k + mc') (n + ms') (pc + 3) ls ((v.map (vM (rho is hp.length))).toList ++ st.drop (cas.length + 1)) (place hp is hp2)) : Go K k n pc ls st hp := g_callI F C hi hk d is _ hfr hl hs hnd hst.symm hcat hkc hkn kk
theorem h_callIN (F : Fx K own cc nL fr mc ms) {r0 : Nat} (C : Ctr y cc' nL' none fr' mc' ms' (Value.ref r0 :: cas) chp Qp) (hi : Mi y cc' nL' none cas.length) {host : String} (hk : KN own idx y host) (hk2 : Cond.instanceMethod y ∈ TB) (hk3 : y.name = "<init>") (d : decode cc pc = .ok (.invokespecial idx, 3)) (is : List Nat) (hs : Sub hp is chp) (hfr : fr' < fr) (hl : nL' ≤ 21) (hnd : va_nd is = true) (hst : ((Value.ref r0 :: cas).map (vM (fun k => is.getD k 0))).reverse ++ st.drop (cas.length + 1) = st) (hcat : ((st.drop (cas.length + 1)).map fun v => v.category).sum ≤ 8) (hkc : k + mc' ≤ mc) (hkn : n + ms' ≤ ms) (kk : ∀ (v : Option Value) (hp2 : Hp), Qp v hp2 → hp2.length = chp.length + mc' → Go K (k + mc') (n + ms') (pc + 3) ls ((v.map (vM (rho is hp.length))).toList ++ st.drop (cas.length + 1)) (place hp is hp2)) : Go K k n pc ls st hp := g_callIN F C hi hk hk2 hk3 d is _ hfr hl hs hnd hst.symm hcat hkc hkn kk
end Call2
/-! closedness by program -/
def clVb (n : Nat) (v : Value) : Bool := match v with
  | .ref k => decide (k < n)
  | _ => true
def clEb (n : Nat) (e : Ce) : Bool := match e with
  | .inl (_, (_, .inr (.inr (.inr (.inr _))))) => false
  | .inl _ => true
  | .inr (_, fs) => fs.all (clVb n)
theorem clV_of {n : Nat} {v : Value} (h : clVb n v = true) : clV n v := by
  cases v with
  | ref k => exact (of_decide_eq_true h : k < n)
  | _ => trivial
theorem clS_of {n : Nat} {as : List Value} (h : as.all (clVb n) = true) : clS n as := fun v hv => clV_of (List.all_eq_true.mp h v hv)
theorem clE_of {n : Nat} {e : Ce} (h : clEb n e = true) : clE n e := by
  rcases e with ⟨ty, m, a⟩ | ⟨c, fs⟩
  · rcases a with x | x | x | x | x <;> first | trivial | cases h
  · exact fun v hv => clV_of (List.all_eq_true.mp h v hv)
theorem clH_of {n : Nat} {hp : Hp} (h : hp.all (clEb n) = true) : clH n hp := fun e he => clE_of (List.all_eq_true.mp h e he)
theorem clH_app {n : Nat} {a b : Hp} (h1 : clH n a) (h2 : clH n b) : clH n (a ++ b) := fun e he => (List.mem_append.mp he).elim (h1 e) (h2 e)
/-! counting upwards, downwards -/
theorem loop_up {P : Nat → Prop} {N : Nat} (h : ∀ i, i ≤ N → (i < N → P (i + 1)) → P i) : ∀ i, i ≤ N → P i := by
  have key : ∀ m i, i + m = N → P i := by
    intro m
    induction m with
    | zero => exact fun i hi => h i (by omega) (fun q => absurd q (by omega))
    | succ m ih => exact fun i hi => h i (by omega) (fun _ => ih (i + 1) (by omega))
  exact fun i hi => key (N - i) i (by omega)
def it {S : Type} (f : Nat → S → S) : Nat → S → S
  | 0, s => s
  | n + 1, s => f n (it f n s)
theorem it_succ {S : Type} (f : Nat → S → S) (n : Nat) (s : S) : it f (n + 1) s = f n (it f n s) := rfl
theorem it_inv {S : Type} {f : Nat → S → S} {I : S → Prop} {n : Nat} {s : S} (h0 : I s) (hs : ∀ i s, i < n → I s → I (f i s)) : ∀ i, i ≤ n → I (it f i s) := by
  intro i
  induction i with
  | zero => exact fun _ => h0
  | succ i ih => exact fun hi => hs i _ (by omega) (ih (by omega))
theorem it_cong {S : Type} {f g : Nat → S → S} {n : Nat} {s : S} (h : ∀ i s, i < n → f i s = g i s) : it f n s = it g n s := by
  induction n with
  | zero => rfl
  | succ n ih => rw [it_succ, it_succ, ih (fun i s hi => h i s (by omega)), h n _ (by omega)]
theorem g_objInit {K : Cx} {own : String} {cc : ByteArray} {nL fr mc ms k n pc : Nat} {ls : List (Nat × Value)} {st : List Value} {hp : Hp} (F : Fx K own cc nL fr mc ms) {q idx : Nat} (d : decode cc pc = .ok (.invokespecial idx, 3)) (hl : Cond.methodLink own idx objectInit ∈ TB) (hf : 1 ≤ fr) (hr : (st.map fun v => v.category).sum ≤ 8) (kk : Go K k n (pc + 3) ls st hp) : Go K k n pc ls (.ref q :: st) hp := by
  obtain ⟨p, l, e, R, s, m, args, below, meth, c, D, cA, A, Q, nL', n0, ad0⟩ := K
  obtain ⟨hx, hb, hml, hnl, hown, hts, hK, hA, hfr, hlo, hmc, hms⟩ := F
  intro hcl h0 ad H locs LS h1 h2 h3 h4 h5
  subst hnl
  refine W.objInit hx hb hown (hts _ hl) (hts _ kobj_i) (hts _ kobj_c) rfl (by rw [hml]; exact h5.1) rfl d (Nat.le_trans hf hfr) (Nat.le_trans (Nat.add_le_add_right (lv_room (by rw [sum_cat]; exact hr)) 12) (by omega)) ?_
  exact kk ⟨hcl.1, clS_tail hcl.2.1, hcl.2.2⟩ h0 ad H locs LS h1 h2 h3 h4 h5
theorem sw_cases (lo hi : Nat) (x : Int32) (h : hi < 2 ^ 31) : (∃ j : Nat, lo ≤ j ∧ j ≤ hi ∧ x = nI j) ∨ (x.toInt < lo ∨ (hi : Int) < x.toInt) := by
  by_cases h1 : x.toInt < lo
  · exact Or.inr (Or.inl h1)
  · by_cases h2 : (hi : Int) < x.toInt
    · exact Or.inr (Or.inr h2)
    · refine Or.inl ⟨x.toInt.toNat, by omega, by omega, ?_⟩
      have e : ((x.toInt.toNat : Nat) : Int) = x.toInt := Int.toNat_of_nonneg (by omega)
      rw [← Int32.toInt_inj, nI_toInt (by omega), e]
theorem sw_ne {lo hi j : Nat} {x : Int32} (h : x.toInt < lo ∨ (hi : Int) < x.toInt) (h1 : lo ≤ j) (h2 : j ≤ hi) (h3 : hi < 2 ^ 31) : ¬ x = nI j := by
  intro q
  rw [q, nI_toInt (by omega)] at h
  omega
theorem g_tableIn2 {K : Cx} {own : String} {cc : ByteArray} {nL fr mc ms k n pc : Nat} {ls : List (Nat × Value)} {st : List Value} {hp : Hp} (F : Fx K own cc nL fr mc ms) {dflt lo hi : Int} {offs : Array Int} {len j : Nat} {x : Int32} {off : Int} {tgt : Nat} (d : decode cc pc = .ok (.tableswitch dflt lo hi offs, len)) (hx : x = nI j) (h6 : ¬ (nI j).toInt < lo) (h7 : ¬ hi < (nI j).toInt) (ho : offs[((nI j).toInt - lo).toNat]? = some off) (ht : (pc : Int) + off = (tgt : Int)) (kk : Go K k n tgt ls st hp) : Go K k n pc ls (.int x :: st) hp := by
  subst hx
  exact g_tableIn F d h6 h7 ho ht kk
