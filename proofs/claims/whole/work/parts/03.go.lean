/-! GO: the machine's walk with handles: a cell is named by its place in a list, not by its address -/
abbrev Ce : Type := (FieldType × vp_A) ⊕ (Nat × List Value)
abbrev Hp : Type := List Ce
def vM (ad : Nat → Nat) (v : Value) : Value := match v with
  | .ref k => .ref (ad k)
  | w => w
def aM (ad : Nat → Nat) (a : vp_A) : vp_A := match a with
  | (n, .inr (.inr (.inr (.inr f)))) => (n, .inr (.inr (.inr (.inr (fun j => (f j).map ad)))))
  | b => b
def eH (ad : Nat → Nat) (e : Ce) : Ce := match e with
  | .inl (ty, a) => .inl (ty, aM ad a)
  | .inr (c, fs) => .inr (c, fs.map (vM ad))
def eM (ad : Nat → Nat) (cA : FieldType → ClassId) (e : Ce) : va_E := match e with
  | .inl (ty, a) => .inl (cA ty, aM ad a)
  | .inr (c, fs) => .inr (c, fs.map (vM ad))
def wM (ad : Nat → Nat) (cA : FieldType → ClassId) (hp : Hp) : va_W := hp.mapIdx (fun k e => (ad k, eM ad cA e))
theorem wM_get {ad : Nat → Nat} {cA : FieldType → ClassId} {hp : Hp} {k : Nat} {e : Ce} (h : hp[k]? = some e) : (wM ad cA hp)[k]? = some (ad k, eM ad cA e) := by
  simp [wM, h]
theorem wM_of {ad : Nat → Nat} {cA : FieldType → ClassId} {hp : Hp} {k : Nat} {q : Nat × va_E} (h : (wM ad cA hp)[k]? = some q) : ∃ e, hp[k]? = some e ∧ q = (ad k, eM ad cA e) := by
  simp only [wM, List.getElem?_mapIdx, Option.map_eq_some_iff] at h
  obtain ⟨e, h1, h2⟩ := h
  exact ⟨e, h1, h2.symm⟩
theorem wM_set {ad : Nat → Nat} {cA : FieldType → ClassId} {hp : Hp} (k : Nat) (e : Ce) : (wM ad cA hp).set k (ad k, eM ad cA e) = wM ad cA (hp.set k e) := by
  apply List.ext_getElem?
  intro i
  simp only [wM, List.getElem?_set, List.getElem?_mapIdx, List.length_mapIdx]
  by_cases h : k = i
  · subst h
    by_cases h2 : k < hp.length <;> simp [h2]
  · simp [h]
theorem vM_vM (f g : Nat → Nat) (v : Value) : vM f (vM g v) = vM (fun k => f (g k)) v := by cases v <;> rfl
theorem aM_aM (f g : Nat → Nat) (a : vp_A) : aM f (aM g a) = aM (fun k => f (g k)) a := by
  obtain ⟨n, x⟩ := a
  rcases x with x | x | x | x | x <;> try rfl
  simp only [aM, Option.map_map]
  rfl
theorem eM_eH (f g : Nat → Nat) (cA : FieldType → ClassId) (e : Ce) : eM f cA (eH g e) = eM (fun k => f (g k)) cA e := by
  rcases e with ⟨ty, a⟩ | ⟨c, fs⟩
  · simp only [eH, eM, aM_aM]
  · simp only [eH, eM, List.map_map]
    congr 3
    funext v
    exact vM_vM f g v
/-- no handle beyond n -/
def clV (n : Nat) (v : Value) : Prop := match v with
  | .ref k => k < n
  | _ => True
def clE (n : Nat) (e : Ce) : Prop := match e with
  | .inl (_, (_, .inr (.inr (.inr (.inr f))))) => ∀ j k, f j = some k → k < n
  | .inl _ => True
  | .inr (_, fs) => ∀ v ∈ fs, clV n v
def clH (n : Nat) (hp : Hp) : Prop := ∀ e ∈ hp, clE n e
def clS (n : Nat) (st : List Value) : Prop := ∀ v ∈ st, clV n v
def clL (n : Nat) (ls : List (Nat × Value)) : Prop := ∀ q ∈ ls, clV n q.2
def clAll (ls : List (Nat × Value)) (st : List Value) (hp : Hp) : Prop := clL hp.length ls ∧ clS hp.length st ∧ clH hp.length hp
theorem vM_cong {f g : Nat → Nat} {n : Nat} {v : Value} (h : clV n v) (hfg : ∀ k, k < n → f k = g k) : vM f v = vM g v := by
  cases v <;> first | rfl | exact congrArg Value.ref (hfg _ h)
theorem eM_cong {f g : Nat → Nat} {n : Nat} {cA : FieldType → ClassId} {e : Ce} (h : clE n e) (hfg : ∀ k, k < n → f k = g k) : eM f cA e = eM g cA e := by
  rcases e with ⟨ty, m, a⟩ | ⟨c, fs⟩
  · rcases a with x | x | x | x | x <;> try rfl
    have e : (fun j => (x j).map f) = fun j => (x j).map g := by
      funext j
      cases hj : x j with
      | none => rfl
      | some k => exact congrArg some (hfg _ (h j k hj))
    simp only [eM, aM, e]
  · simp only [eM]
    congr 2
    exact List.map_congr_left (fun v hv => vM_cong (h v hv) hfg)
theorem clV_mono {n m : Nat} {v : Value} (h : clV n v) (hnm : n ≤ m) : clV m v := by
  cases v <;> first | trivial | exact Nat.lt_of_lt_of_le h hnm
theorem clE_mono {n m : Nat} {e : Ce} (h : clE n e) (hnm : n ≤ m) : clE m e := by
  rcases e with ⟨ty, z, a⟩ | ⟨c, fs⟩
  · rcases a with x | x | x | x | x <;> try trivial
    exact fun j k hj => Nat.lt_of_lt_of_le (h j k hj) hnm
  · exact fun v hv => clV_mono (h v hv) hnm
theorem clS_push {n : Nat} {v : Value} {st : List Value} (hv : clV n v) (h : clS n st) : clS n (v :: st) := fun x hx => (List.mem_cons.mp hx).elim (fun e => e ▸ hv) (h x)
theorem clS_tail {n : Nat} {v : Value} {st : List Value} (h : clS n (v :: st)) : clS n st := fun x hx => h x (List.mem_cons_of_mem _ hx)
theorem clS_head {n : Nat} {v : Value} {st : List Value} (h : clS n (v :: st)) : clV n v := h v List.mem_cons_self
theorem clH_set {n k : Nat} {e : Ce} {hp : Hp} (he : clE n e) (h : clH n hp) : clH n (hp.set k e) := fun x hx => (List.mem_or_eq_of_mem_set hx).elim (h x) (fun q => q ▸ he)
theorem clH_get {n k : Nat} {e : Ce} {hp : Hp} (h : clH n hp) (he : hp[k]? = some e) : clE n e := h e (List.mem_of_getElem? he)
/-- locals -/
def look : List (Nat × Value) → Nat → Option Value
  | [], _ => none
  | (j, v) :: t, i => if j = i then some v else look t i
theorem look_mem : ∀ {ls : List (Nat × Value)} {i : Nat} {v : Value}, look ls i = some v → (i, v) ∈ ls
  | (j, w) :: t, i, v, h => by
    unfold look at h
    by_cases q : j = i
    · rw [if_pos q] at h
      cases h
      subst q
      exact List.mem_cons_self
    · rw [if_neg q] at h
      exact List.mem_cons_of_mem _ (look_mem h)
def rm1 : List (Nat × Value) → Nat → List (Nat × Value)
  | [], _ => []
  | (j, w) :: t, i => if j = i then rm1 t i else if j + 1 = i ∧ w.category = 2 then rm1 t i else (j, w) :: rm1 t i
def put1 : List (Nat × Value) → Nat → Value → List (Nat × Value)
  | [], i, v => [(i, v)]
  | (j, w) :: t, i, v => if j = i then (i, v) :: rm1 t i else if j + 1 = i ∧ w.category = 2 then put1 t i v else (j, w) :: put1 t i v
def rm2 : List (Nat × Value) → Nat → List (Nat × Value)
  | [], _ => []
  | (j, w) :: t, i => if j = i then rm2 t i else if j = i + 1 then rm2 t i else if j + 1 = i ∧ w.category = 2 then rm2 t i else (j, w) :: rm2 t i
def put2 : List (Nat × Value) → Nat → Value → List (Nat × Value)
  | [], i, v => [(i, v)]
  | (j, w) :: t, i, v => if j = i then (i, v) :: rm2 t i else if j = i + 1 then put2 t i v else if j + 1 = i ∧ w.category = 2 then put2 t i v else (j, w) :: put2 t i v
theorem rm1_mem : ∀ {ls : List (Nat × Value)} {i : Nat} {q : Nat × Value}, q ∈ rm1 ls i → q ∈ ls.filter (fun q => !(q.1 == i) && !(q.1 + 1 == i && q.2.category == 2))
  | (j, w) :: t, i, q, h => by
    unfold rm1 at h
    split at h
    · exact List.mem_filter.mpr ⟨List.mem_cons_of_mem _ (List.mem_filter.mp (rm1_mem h)).1, (List.mem_filter.mp (rm1_mem h)).2⟩
    · split at h
      · exact List.mem_filter.mpr ⟨List.mem_cons_of_mem _ (List.mem_filter.mp (rm1_mem h)).1, (List.mem_filter.mp (rm1_mem h)).2⟩
      · rename_i a b
        rcases List.mem_cons.mp h with rfl | h
        · exact List.mem_filter.mpr ⟨List.mem_cons_self, by simp [a]; omega⟩
        · exact List.mem_filter.mpr ⟨List.mem_cons_of_mem _ (List.mem_filter.mp (rm1_mem h)).1, (List.mem_filter.mp (rm1_mem h)).2⟩
theorem put1_mem : ∀ {ls : List (Nat × Value)} {i : Nat} {v : Value} {q : Nat × Value}, q ∈ put1 ls i v → q ∈ (i, v) :: ls.filter (fun q => !(q.1 == i) && !(q.1 + 1 == i && q.2.category == 2))
  | [], i, v, q, h => h
  | (j, w) :: t, i, v, q, h => by
    unfold put1 at h
    have up : ∀ z, z ∈ t.filter (fun q => !(q.1 == i) && !(q.1 + 1 == i && q.2.category == 2)) → z ∈ ((j, w) :: t).filter (fun q => !(q.1 == i) && !(q.1 + 1 == i && q.2.category == 2)) := fun z hz => List.mem_filter.mpr ⟨List.mem_cons_of_mem _ (List.mem_filter.mp hz).1, (List.mem_filter.mp hz).2⟩
    split at h
    · rcases List.mem_cons.mp h with rfl | h
      · exact List.mem_cons_self
      · exact List.mem_cons_of_mem _ (up _ (rm1_mem h))
    · split at h
      · rcases List.mem_cons.mp (put1_mem h) with rfl | h
        · exact List.mem_cons_self
        · exact List.mem_cons_of_mem _ (up _ h)
      · rename_i a b
        rcases List.mem_cons.mp h with rfl | h
        · exact List.mem_cons_of_mem _ (List.mem_filter.mpr ⟨List.mem_cons_self, by simp [a]; omega⟩)
        · rcases List.mem_cons.mp (put1_mem h) with rfl | h
          · exact List.mem_cons_self
          · exact List.mem_cons_of_mem _ (up _ h)
theorem rm2_mem : ∀ {ls : List (Nat × Value)} {i : Nat} {q : Nat × Value}, q ∈ rm2 ls i → q ∈ ls.filter (fun q => !(q.1 == i) && (!(q.1 == i + 1) && !(q.1 + 1 == i && q.2.category == 2)))
  | (j, w) :: t, i, q, h => by
    unfold rm2 at h
    have up : ∀ z, z ∈ t.filter (fun q => !(q.1 == i) && (!(q.1 == i + 1) && !(q.1 + 1 == i && q.2.category == 2))) → z ∈ ((j, w) :: t).filter (fun q => !(q.1 == i) && (!(q.1 == i + 1) && !(q.1 + 1 == i && q.2.category == 2))) := fun z hz => List.mem_filter.mpr ⟨List.mem_cons_of_mem _ (List.mem_filter.mp hz).1, (List.mem_filter.mp hz).2⟩
    split at h
    · exact up _ (rm2_mem h)
    · split at h
      · exact up _ (rm2_mem h)
      · split at h
        · exact up _ (rm2_mem h)
        · rename_i a b c
          rcases List.mem_cons.mp h with rfl | h
          · exact List.mem_filter.mpr ⟨List.mem_cons_self, by simp [a, b]; omega⟩
          · exact up _ (rm2_mem h)
theorem put2_mem : ∀ {ls : List (Nat × Value)} {i : Nat} {v : Value} {q : Nat × Value}, q ∈ put2 ls i v → q ∈ (i, v) :: ls.filter (fun q => !(q.1 == i) && (!(q.1 == i + 1) && !(q.1 + 1 == i && q.2.category == 2)))
  | [], i, v, q, h => h
  | (j, w) :: t, i, v, q, h => by
    unfold put2 at h
    have up : ∀ z, z ∈ t.filter (fun q => !(q.1 == i) && (!(q.1 == i + 1) && !(q.1 + 1 == i && q.2.category == 2))) → z ∈ ((j, w) :: t).filter (fun q => !(q.1 == i) && (!(q.1 == i + 1) && !(q.1 + 1 == i && q.2.category == 2))) := fun z hz => List.mem_filter.mpr ⟨List.mem_cons_of_mem _ (List.mem_filter.mp hz).1, (List.mem_filter.mp hz).2⟩
    split at h
    · rcases List.mem_cons.mp h with rfl | h
      · exact List.mem_cons_self
      · exact List.mem_cons_of_mem _ (up _ (rm2_mem h))
    · split at h
      · rcases List.mem_cons.mp (put2_mem h) with rfl | h
        · exact List.mem_cons_self
        · exact List.mem_cons_of_mem _ (up _ h)
      · split at h
        · rcases List.mem_cons.mp (put2_mem h) with rfl | h
          · exact List.mem_cons_self
          · exact List.mem_cons_of_mem _ (up _ h)
        · rename_i a b c
          rcases List.mem_cons.mp h with rfl | h
          · exact List.mem_cons_of_mem _ (List.mem_filter.mpr ⟨List.mem_cons_self, by simp [a, b]; omega⟩)
          · rcases List.mem_cons.mp (put2_mem h) with rfl | h
            · exact List.mem_cons_self
            · exact List.mem_cons_of_mem _ (up _ h)
def lM (ad : Nat → Nat) (ls : List (Nat × Value)) : List (Nat × Value) := ls.map (fun q => (q.1, vM ad q.2))
theorem vM_cat (ad : Nat → Nat) (v : Value) : (vM ad v).category = v.category := by cases v <;> rfl
theorem lM_mem {ad : Nat → Nat} {ls : List (Nat × Value)} {i : Nat} {v : Value} (h : (i, v) ∈ ls) : (i, vM ad v) ∈ lM ad ls := List.mem_map.mpr ⟨(i, v), h, rfl⟩
theorem lv_memb {LS : Array Slot} {nL : Nat} {l : List (Nat × Value)} {l' : List (Nat × Value)} (h : lv_has LS nL l) (hs : ∀ q ∈ l', q ∈ l) : lv_has LS nL l' := ⟨h.1, h.2.1, fun q hq => h.2.2 q (hs q hq)⟩
theorem lv_look {ad : Nat → Nat} {LS : Array Slot} {nL : Nat} {ls : List (Nat × Value)} {i : Nat} {v : Value} (h : lv_has LS nL (lM ad ls)) (hl : look ls i = some v) : LS[i]? = some (.val (vM ad v)) := h.2.2 _ (lM_mem (look_mem hl))
theorem lM_put1 {ad : Nat → Nat} {ls : List (Nat × Value)} {i : Nat} {v : Value} : ∀ q ∈ lM ad (put1 ls i v), q ∈ (i, vM ad v) :: (lM ad ls).filter (fun q => !(q.1 == i) && !(q.1 + 1 == i && q.2.category == 2)) := by
  intro q hq
  obtain ⟨r, h1, rfl⟩ := List.mem_map.mp hq
  rcases List.mem_cons.mp (put1_mem h1) with rfl | h
  · exact List.mem_cons_self
  · obtain ⟨g1, g2⟩ := List.mem_filter.mp h
    refine List.mem_cons_of_mem _ (List.mem_filter.mpr ⟨List.mem_map.mpr ⟨r, g1, rfl⟩, ?_⟩)
    simpa only [vM_cat] using g2
theorem lM_put2 {ad : Nat → Nat} {ls : List (Nat × Value)} {i : Nat} {v : Value} : ∀ q ∈ lM ad (put2 ls i v), q ∈ (i, vM ad v) :: (lM ad ls).filter (fun q => !(q.1 == i) && (!(q.1 == i + 1) && !(q.1 + 1 == i && q.2.category == 2))) := by
  intro q hq
  obtain ⟨r, h1, rfl⟩ := List.mem_map.mp hq
  rcases List.mem_cons.mp (put2_mem h1) with rfl | h
  · exact List.mem_cons_self
  · obtain ⟨g1, g2⟩ := List.mem_filter.mp h
    refine List.mem_cons_of_mem _ (List.mem_filter.mpr ⟨List.mem_map.mpr ⟨r, g1, rfl⟩, ?_⟩)
    simpa only [vM_cat] using g2
theorem clL_put1 {n i : Nat} {v : Value} {ls : List (Nat × Value)} (hv : clV n v) (h : clL n ls) : clL n (put1 ls i v) := fun q hq => (List.mem_cons.mp (put1_mem hq)).elim (fun e => e ▸ hv) (fun g => h q (List.mem_filter.mp g).1)
theorem clL_put2 {n i : Nat} {v : Value} {ls : List (Nat × Value)} (hv : clV n v) (h : clL n ls) : clL n (put2 ls i v) := fun q hq => (List.mem_cons.mp (put2_mem hq)).elim (fun e => e ▸ hv) (fun g => h q (List.mem_filter.mp g).1)
/-! the tables' words that every method carries -/
def TB : List Cond := lw_tbl.filter goodWord
theorem TB_in {w : Cond} (h : w ∈ lw_tbl) (hg : goodWord w = true) : w ∈ TB := List.mem_filter.mpr ⟨h, hg⟩
theorem TB_i {w : Cond} (i : Nat) (h : (match lw_tbl[i]? with | some z => decide (z = w) | none => false) = true) (hg : goodWord w = true) : w ∈ TB := by
  cases hz : lw_tbl[i]? with
  | none => rw [hz] at h; cases h
  | some z =>
    rw [hz] at h
    have e : z = w := of_decide_eq_true h
    exact TB_in (e ▸ List.mem_of_getElem? hz) hg
theorem TB_good {y : MethodName} {b : ByteArray} {n : Nat} {r : Option FieldType} (h : Cond.code y b n r ∈ TB) : GoodIn TB (.code y b n r :: TB) := by
  have ok : ∀ w ∈ TB, w ∈ TB ∧ ((w.onTables && w.keeps) = true ∨ ∃ ty, w = .arrayClass ty) := fun w hw => ⟨hw, good_of_word (List.mem_filter.mp hw).2⟩
  intro w hw
  rcases List.mem_cons.mp hw with rfl | hw
  · exact ok _ h
  · exact ok _ hw
def nest : List (String × Nat × MethodName × String) := [(RX4, 39, yX2_init, RX4), (RX2, 37, yX4_isWithin, RX4), (RX3, 74, yX4_isWithin, RX4), (RX0, 75, yX4_hasBit, RX4), (RX0, 105, yX4_isDip, RX4)]
/-- the classes, the arrays' classes, the nest mates' links, the class that arrays of Shelf are of -/
def KK (D : va_G) (cA : FieldType → ClassId) (s : State) : Prop :=
  va_K D vwCl [(cA .int, .int), (cA .long, .long), (cA (.object RX2), .object RX2)] s ∧ (∀ q ∈ nest, va_Nw (.methodLinkNest q.1 q.2.1 q.2.2.1 q.2.2.2) s) ∧ va_AO RX2 s
theorem KK.moved {D : va_G} {cA : FieldType → ClassId} {u U : State} (hW : u.WarmedH U.vm) (h : KK D cA u) : KK D cA U :=
  ⟨h.1.moved hW.alike, fun q hq => va_Nw.warmM hW (h.2.1 q hq), h.2.2.moved hW.alike⟩
abbrev Cx : Type := Program × Launch × Env × Room × State × MethodId × Array Value × List Frame × Method × Code × va_G × (FieldType → ClassId) × (Nat → Prop) × (State → Prop) × Nat × Nat × (Nat → Nat)
/-- THE WALK: from pc, with locals ls, stack st and cells hp; k cells of n slots made so far -/
def Go (K : Cx) (k n pc : Nat) (ls : List (Nat × Value)) (st : List Value) (hp : Hp) : Prop := match K with
  | (p, l, e, R, s, m, args, below, meth, c, D, cA, A, Q, nL, n0, ad0) => clAll ls st hp → n0 ≤ hp.length → ∀ (ad : Nat → Nat) (H : Heap) (locs : List Loc) (LS : Array Slot), (∀ j, j < n0 → ad j = ad0 j) → va_P D vwCl (wM ad cA hp) H → va_D A (wM ad cA hp) → va_S A s.heap H locs → lv_has LS nL (lM ad ls) → W p l e R s m args below meth c H locs k n Q (F0 m pc LS (st.map (vM ad)))
def Fx (K : Cx) (own : String) (cc : ByteArray) (nL fr mc ms : Nat) : Prop := match K with
  | (p, _, _, R, s, m, args, _, _, c, D, cA, A, _, nL', _, _) => p.tables.exec = Jvm.exec ∧ c.code = cc ∧ c.maxLocals = nL ∧ nL' = nL ∧ s.vm.findClass own = some m.cls ∧ (∀ w ∈ TB, w.before args s = true) ∧ KK D cA s ∧ (∀ q, s.heap.size ≤ q → A q) ∧ fr ≤ R.frames ∧ 40 * fr ≤ R.locals ∧ mc ≤ R.cells ∧ ms ≤ R.slots

theorem tb_max_s : Cond.static Lib.Math.max.name ∈ TB := TB_i 280 (by decide +kernel) rfl
theorem tb_max_c : Cond.code Lib.Math.max.name Lib.Math.max.code 2 (some .int) ∈ TB := TB_i 281 (by decide +kernel) rfl
theorem tb_min_s : Cond.static Lib.Math.min.name ∈ TB := TB_i 266 (by decide +kernel) rfl
theorem tb_min_c : Cond.code Lib.Math.min.name Lib.Math.min.code 2 (some .int) ∈ TB := TB_i 267 (by decide +kernel) rfl
theorem tb_abs_s : Cond.static Lib.Math.abs.name ∈ TB := TB_i 401 (by decide +kernel) rfl
theorem tb_abs_c : Cond.code Lib.Math.abs.name Lib.Math.abs.code 1 (some .int) ∈ TB := TB_i 402 (by decide +kernel) rfl
theorem tb_mathini : Cond.initialized "java/lang/Math" ∈ TB := TB_i 37 (by decide +kernel) rfl
theorem tb_copy_n : Cond.native arraycopyName ∈ TB := TB_i 210 (by decide +kernel) rfl
theorem tb_copy_s : Cond.static arraycopyName ∈ TB := TB_i 209 (by decide +kernel) rfl
theorem tb_copy_i : Cond.initialized "java/lang/System" ∈ TB := TB_i 36 (by decide +kernel) rfl
theorem tb_copy_w : nativeFrameWords "java/lang/System" "arraycopy" 5 + 11 ≤ 72 := by decide +kernel
theorem g_iadd {K : Cx} {own : String} {cc : ByteArray} {nL fr mc ms k n pc : Nat} {ls : List (Nat × Value)} {st : List Value} {hp : Hp} (F : Fx K own cc nL fr mc ms) {x y : Int32} (d : decode cc pc = .ok (.iadd, 1)) (kk : Go K k n (pc + 1) (ls) (.int (x + y) :: st) (hp)) : Go K k n (pc) (ls) (.int y :: .int x :: st) (hp) := by
  obtain ⟨p, l, e, R, s, m, args, below, meth, c, D, cA, A, Q, nL', n0, ad0⟩ := K
  obtain ⟨hx, hb, hml, hnl, hown, hts, hK, hA, hfr, hlo, hmc, hms⟩ := F
  intro hcl h0 ad H locs LS h1 h2 h3 h4 h5
  exact lv_iadd hx hb d (kk (⟨hcl.1, clS_push trivial (clS_tail (clS_tail hcl.2.1)), hcl.2.2⟩) h0 ad H locs LS h1 h2 h3 h4 h5)
theorem g_isub {K : Cx} {own : String} {cc : ByteArray} {nL fr mc ms k n pc : Nat} {ls : List (Nat × Value)} {st : List Value} {hp : Hp} (F : Fx K own cc nL fr mc ms) {x y : Int32} (d : decode cc pc = .ok (.isub, 1)) (kk : Go K k n (pc + 1) (ls) (.int (x - y) :: st) (hp)) : Go K k n (pc) (ls) (.int y :: .int x :: st) (hp) := by
  obtain ⟨p, l, e, R, s, m, args, below, meth, c, D, cA, A, Q, nL', n0, ad0⟩ := K
  obtain ⟨hx, hb, hml, hnl, hown, hts, hK, hA, hfr, hlo, hmc, hms⟩ := F
  intro hcl h0 ad H locs LS h1 h2 h3 h4 h5
  exact lv_isub hx hb d (kk (⟨hcl.1, clS_push trivial (clS_tail (clS_tail hcl.2.1)), hcl.2.2⟩) h0 ad H locs LS h1 h2 h3 h4 h5)
theorem g_imul {K : Cx} {own : String} {cc : ByteArray} {nL fr mc ms k n pc : Nat} {ls : List (Nat × Value)} {st : List Value} {hp : Hp} (F : Fx K own cc nL fr mc ms) {x y : Int32} (d : decode cc pc = .ok (.imul, 1)) (kk : Go K k n (pc + 1) (ls) (.int (x * y) :: st) (hp)) : Go K k n (pc) (ls) (.int y :: .int x :: st) (hp) := by
  obtain ⟨p, l, e, R, s, m, args, below, meth, c, D, cA, A, Q, nL', n0, ad0⟩ := K
  obtain ⟨hx, hb, hml, hnl, hown, hts, hK, hA, hfr, hlo, hmc, hms⟩ := F
  intro hcl h0 ad H locs LS h1 h2 h3 h4 h5
  exact lv_imul hx hb d (kk (⟨hcl.1, clS_push trivial (clS_tail (clS_tail hcl.2.1)), hcl.2.2⟩) h0 ad H locs LS h1 h2 h3 h4 h5)
theorem g_iand {K : Cx} {own : String} {cc : ByteArray} {nL fr mc ms k n pc : Nat} {ls : List (Nat × Value)} {st : List Value} {hp : Hp} (F : Fx K own cc nL fr mc ms) {x y : Int32} (d : decode cc pc = .ok (.iand, 1)) (kk : Go K k n (pc + 1) (ls) (.int (x &&& y) :: st) (hp)) : Go K k n (pc) (ls) (.int y :: .int x :: st) (hp) := by
  obtain ⟨p, l, e, R, s, m, args, below, meth, c, D, cA, A, Q, nL', n0, ad0⟩ := K
  obtain ⟨hx, hb, hml, hnl, hown, hts, hK, hA, hfr, hlo, hmc, hms⟩ := F
  intro hcl h0 ad H locs LS h1 h2 h3 h4 h5
  exact lv_iand hx hb d (kk (⟨hcl.1, clS_push trivial (clS_tail (clS_tail hcl.2.1)), hcl.2.2⟩) h0 ad H locs LS h1 h2 h3 h4 h5)
theorem g_ior {K : Cx} {own : String} {cc : ByteArray} {nL fr mc ms k n pc : Nat} {ls : List (Nat × Value)} {st : List Value} {hp : Hp} (F : Fx K own cc nL fr mc ms) {x y : Int32} (d : decode cc pc = .ok (.ior, 1)) (kk : Go K k n (pc + 1) (ls) (.int (x ||| y) :: st) (hp)) : Go K k n (pc) (ls) (.int y :: .int x :: st) (hp) := by
  obtain ⟨p, l, e, R, s, m, args, below, meth, c, D, cA, A, Q, nL', n0, ad0⟩ := K
  obtain ⟨hx, hb, hml, hnl, hown, hts, hK, hA, hfr, hlo, hmc, hms⟩ := F
  intro hcl h0 ad H locs LS h1 h2 h3 h4 h5
  exact lv_ior hx hb d (kk (⟨hcl.1, clS_push trivial (clS_tail (clS_tail hcl.2.1)), hcl.2.2⟩) h0 ad H locs LS h1 h2 h3 h4 h5)
theorem g_ixor {K : Cx} {own : String} {cc : ByteArray} {nL fr mc ms k n pc : Nat} {ls : List (Nat × Value)} {st : List Value} {hp : Hp} (F : Fx K own cc nL fr mc ms) {x y : Int32} (d : decode cc pc = .ok (.ixor, 1)) (kk : Go K k n (pc + 1) (ls) (.int (x ^^^ y) :: st) (hp)) : Go K k n (pc) (ls) (.int y :: .int x :: st) (hp) := by
  obtain ⟨p, l, e, R, s, m, args, below, meth, c, D, cA, A, Q, nL', n0, ad0⟩ := K
  obtain ⟨hx, hb, hml, hnl, hown, hts, hK, hA, hfr, hlo, hmc, hms⟩ := F
  intro hcl h0 ad H locs LS h1 h2 h3 h4 h5
  exact lv_ixor hx hb d (kk (⟨hcl.1, clS_push trivial (clS_tail (clS_tail hcl.2.1)), hcl.2.2⟩) h0 ad H locs LS h1 h2 h3 h4 h5)
theorem g_ishl {K : Cx} {own : String} {cc : ByteArray} {nL fr mc ms k n pc : Nat} {ls : List (Nat × Value)} {st : List Value} {hp : Hp} (F : Fx K own cc nL fr mc ms) {x y : Int32} (d : decode cc pc = .ok (.ishl, 1)) (kk : Go K k n (pc + 1) (ls) (.int (x <<< (y &&& 31)) :: st) (hp)) : Go K k n (pc) (ls) (.int y :: .int x :: st) (hp) := by
  obtain ⟨p, l, e, R, s, m, args, below, meth, c, D, cA, A, Q, nL', n0, ad0⟩ := K
  obtain ⟨hx, hb, hml, hnl, hown, hts, hK, hA, hfr, hlo, hmc, hms⟩ := F
  intro hcl h0 ad H locs LS h1 h2 h3 h4 h5
  exact lv_ishl hx hb d (kk (⟨hcl.1, clS_push trivial (clS_tail (clS_tail hcl.2.1)), hcl.2.2⟩) h0 ad H locs LS h1 h2 h3 h4 h5)
theorem g_ishr {K : Cx} {own : String} {cc : ByteArray} {nL fr mc ms k n pc : Nat} {ls : List (Nat × Value)} {st : List Value} {hp : Hp} (F : Fx K own cc nL fr mc ms) {x y : Int32} (d : decode cc pc = .ok (.ishr, 1)) (kk : Go K k n (pc + 1) (ls) (.int (x >>> (y &&& 31)) :: st) (hp)) : Go K k n (pc) (ls) (.int y :: .int x :: st) (hp) := by
  obtain ⟨p, l, e, R, s, m, args, below, meth, c, D, cA, A, Q, nL', n0, ad0⟩ := K
  obtain ⟨hx, hb, hml, hnl, hown, hts, hK, hA, hfr, hlo, hmc, hms⟩ := F
  intro hcl h0 ad H locs LS h1 h2 h3 h4 h5
  exact lv_ishr hx hb d (kk (⟨hcl.1, clS_push trivial (clS_tail (clS_tail hcl.2.1)), hcl.2.2⟩) h0 ad H locs LS h1 h2 h3 h4 h5)
theorem g_iushr {K : Cx} {own : String} {cc : ByteArray} {nL fr mc ms k n pc : Nat} {ls : List (Nat × Value)} {st : List Value} {hp : Hp} (F : Fx K own cc nL fr mc ms) {x y : Int32} (d : decode cc pc = .ok (.iushr, 1)) (kk : Go K k n (pc + 1) (ls) (.int ((x.toUInt32 >>> (y.toUInt32 &&& Int32.toUInt32 31)).toInt32) :: st) (hp)) : Go K k n (pc) (ls) (.int y :: .int x :: st) (hp) := by
  obtain ⟨p, l, e, R, s, m, args, below, meth, c, D, cA, A, Q, nL', n0, ad0⟩ := K
  obtain ⟨hx, hb, hml, hnl, hown, hts, hK, hA, hfr, hlo, hmc, hms⟩ := F
  intro hcl h0 ad H locs LS h1 h2 h3 h4 h5
  exact lv_iushr hx hb d rfl (kk (⟨hcl.1, clS_push trivial (clS_tail (clS_tail hcl.2.1)), hcl.2.2⟩) h0 ad H locs LS h1 h2 h3 h4 h5)
theorem g_idiv {K : Cx} {own : String} {cc : ByteArray} {nL fr mc ms k n pc : Nat} {ls : List (Nat × Value)} {st : List Value} {hp : Hp} (F : Fx K own cc nL fr mc ms) {x y : Int32} (d : decode cc pc = .ok (.idiv, 1)) (hne : ¬ y = 0) (kk : Go K k n (pc + 1) (ls) (.int (x / y) :: st) (hp)) : Go K k n (pc) (ls) (.int y :: .int x :: st) (hp) := by
  obtain ⟨p, l, e, R, s, m, args, below, meth, c, D, cA, A, Q, nL', n0, ad0⟩ := K
  obtain ⟨hx, hb, hml, hnl, hown, hts, hK, hA, hfr, hlo, hmc, hms⟩ := F
  intro hcl h0 ad H locs LS h1 h2 h3 h4 h5
  exact lv_idiv hx hb d hne (kk (⟨hcl.1, clS_push trivial (clS_tail (clS_tail hcl.2.1)), hcl.2.2⟩) h0 ad H locs LS h1 h2 h3 h4 h5)
theorem g_irem {K : Cx} {own : String} {cc : ByteArray} {nL fr mc ms k n pc : Nat} {ls : List (Nat × Value)} {st : List Value} {hp : Hp} (F : Fx K own cc nL fr mc ms) {x y : Int32} (d : decode cc pc = .ok (.irem, 1)) (hne : ¬ y = 0) (kk : Go K k n (pc + 1) (ls) (.int (x - x / y * y) :: st) (hp)) : Go K k n (pc) (ls) (.int y :: .int x :: st) (hp) := by
  obtain ⟨p, l, e, R, s, m, args, below, meth, c, D, cA, A, Q, nL', n0, ad0⟩ := K
  obtain ⟨hx, hb, hml, hnl, hown, hts, hK, hA, hfr, hlo, hmc, hms⟩ := F
  intro hcl h0 ad H locs LS h1 h2 h3 h4 h5
  exact lv_irem hx hb d hne (kk (⟨hcl.1, clS_push trivial (clS_tail (clS_tail hcl.2.1)), hcl.2.2⟩) h0 ad H locs LS h1 h2 h3 h4 h5)
theorem g_ladd {K : Cx} {own : String} {cc : ByteArray} {nL fr mc ms k n pc : Nat} {ls : List (Nat × Value)} {st : List Value} {hp : Hp} (F : Fx K own cc nL fr mc ms) {x y : Int64} (d : decode cc pc = .ok (.ladd, 1)) (kk : Go K k n (pc + 1) (ls) (.long (x + y) :: st) (hp)) : Go K k n (pc) (ls) (.long y :: .long x :: st) (hp) := by
  obtain ⟨p, l, e, R, s, m, args, below, meth, c, D, cA, A, Q, nL', n0, ad0⟩ := K
  obtain ⟨hx, hb, hml, hnl, hown, hts, hK, hA, hfr, hlo, hmc, hms⟩ := F
  intro hcl h0 ad H locs LS h1 h2 h3 h4 h5
  exact lv_ladd hx hb d (kk (⟨hcl.1, clS_push trivial (clS_tail (clS_tail hcl.2.1)), hcl.2.2⟩) h0 ad H locs LS h1 h2 h3 h4 h5)
theorem g_lsub {K : Cx} {own : String} {cc : ByteArray} {nL fr mc ms k n pc : Nat} {ls : List (Nat × Value)} {st : List Value} {hp : Hp} (F : Fx K own cc nL fr mc ms) {x y : Int64} (d : decode cc pc = .ok (.lsub, 1)) (kk : Go K k n (pc + 1) (ls) (.long (x - y) :: st) (hp)) : Go K k n (pc) (ls) (.long y :: .long x :: st) (hp) := by
  obtain ⟨p, l, e, R, s, m, args, below, meth, c, D, cA, A, Q, nL', n0, ad0⟩ := K
  obtain ⟨hx, hb, hml, hnl, hown, hts, hK, hA, hfr, hlo, hmc, hms⟩ := F
  intro hcl h0 ad H locs LS h1 h2 h3 h4 h5
  exact lv_lsub hx hb d (kk (⟨hcl.1, clS_push trivial (clS_tail (clS_tail hcl.2.1)), hcl.2.2⟩) h0 ad H locs LS h1 h2 h3 h4 h5)
theorem g_lmul {K : Cx} {own : String} {cc : ByteArray} {nL fr mc ms k n pc : Nat} {ls : List (Nat × Value)} {st : List Value} {hp : Hp} (F : Fx K own cc nL fr mc ms) {x y : Int64} (d : decode cc pc = .ok (.lmul, 1)) (kk : Go K k n (pc + 1) (ls) (.long (x * y) :: st) (hp)) : Go K k n (pc) (ls) (.long y :: .long x :: st) (hp) := by
  obtain ⟨p, l, e, R, s, m, args, below, meth, c, D, cA, A, Q, nL', n0, ad0⟩ := K
  obtain ⟨hx, hb, hml, hnl, hown, hts, hK, hA, hfr, hlo, hmc, hms⟩ := F
  intro hcl h0 ad H locs LS h1 h2 h3 h4 h5
  exact lv_lmul hx hb d (kk (⟨hcl.1, clS_push trivial (clS_tail (clS_tail hcl.2.1)), hcl.2.2⟩) h0 ad H locs LS h1 h2 h3 h4 h5)
theorem g_ldiv {K : Cx} {own : String} {cc : ByteArray} {nL fr mc ms k n pc : Nat} {ls : List (Nat × Value)} {st : List Value} {hp : Hp} (F : Fx K own cc nL fr mc ms) {x y : Int64} (d : decode cc pc = .ok (.ldiv, 1)) (hne : ¬ y = 0) (kk : Go K k n (pc + 1) (ls) (.long (x / y) :: st) (hp)) : Go K k n (pc) (ls) (.long y :: .long x :: st) (hp) := by
  obtain ⟨p, l, e, R, s, m, args, below, meth, c, D, cA, A, Q, nL', n0, ad0⟩ := K
  obtain ⟨hx, hb, hml, hnl, hown, hts, hK, hA, hfr, hlo, hmc, hms⟩ := F
  intro hcl h0 ad H locs LS h1 h2 h3 h4 h5
  exact lv_ldiv hx hb d hne (kk (⟨hcl.1, clS_push trivial (clS_tail (clS_tail hcl.2.1)), hcl.2.2⟩) h0 ad H locs LS h1 h2 h3 h4 h5)
theorem g_lrem {K : Cx} {own : String} {cc : ByteArray} {nL fr mc ms k n pc : Nat} {ls : List (Nat × Value)} {st : List Value} {hp : Hp} (F : Fx K own cc nL fr mc ms) {x y : Int64} (d : decode cc pc = .ok (.lrem, 1)) (hne : ¬ y = 0) (kk : Go K k n (pc + 1) (ls) (.long (x - x / y * y) :: st) (hp)) : Go K k n (pc) (ls) (.long y :: .long x :: st) (hp) := by
  obtain ⟨p, l, e, R, s, m, args, below, meth, c, D, cA, A, Q, nL', n0, ad0⟩ := K
  obtain ⟨hx, hb, hml, hnl, hown, hts, hK, hA, hfr, hlo, hmc, hms⟩ := F
  intro hcl h0 ad H locs LS h1 h2 h3 h4 h5
  exact lv_lrem hx hb d hne (kk (⟨hcl.1, clS_push trivial (clS_tail (clS_tail hcl.2.1)), hcl.2.2⟩) h0 ad H locs LS h1 h2 h3 h4 h5)
theorem g_lcmp {K : Cx} {own : String} {cc : ByteArray} {nL fr mc ms k n pc : Nat} {ls : List (Nat × Value)} {st : List Value} {hp : Hp} (F : Fx K own cc nL fr mc ms) {x y : Int64} (d : decode cc pc = .ok (.lcmp, 1)) (kk : Go K k n (pc + 1) (ls) (.int (lg_cmp x y) :: st) (hp)) : Go K k n (pc) (ls) (.long y :: .long x :: st) (hp) := by
  obtain ⟨p, l, e, R, s, m, args, below, meth, c, D, cA, A, Q, nL', n0, ad0⟩ := K
  obtain ⟨hx, hb, hml, hnl, hown, hts, hK, hA, hfr, hlo, hmc, hms⟩ := F
  intro hcl h0 ad H locs LS h1 h2 h3 h4 h5
  exact W.lcmp hx hb d (kk (⟨hcl.1, clS_push trivial (clS_tail (clS_tail hcl.2.1)), hcl.2.2⟩) h0 ad H locs LS h1 h2 h3 h4 h5)
theorem g_ineg {K : Cx} {own : String} {cc : ByteArray} {nL fr mc ms k n pc : Nat} {ls : List (Nat × Value)} {st : List Value} {hp : Hp} (F : Fx K own cc nL fr mc ms) {x : Int32} (d : decode cc pc = .ok (.ineg, 1)) (kk : Go K k n (pc + 1) (ls) (.int (-x) :: st) (hp)) : Go K k n (pc) (ls) (.int x :: st) (hp) := by
  obtain ⟨p, l, e, R, s, m, args, below, meth, c, D, cA, A, Q, nL', n0, ad0⟩ := K
  obtain ⟨hx, hb, hml, hnl, hown, hts, hK, hA, hfr, hlo, hmc, hms⟩ := F
  intro hcl h0 ad H locs LS h1 h2 h3 h4 h5
  exact lv_ineg hx hb d (kk (⟨hcl.1, clS_push trivial (clS_tail hcl.2.1), hcl.2.2⟩) h0 ad H locs LS h1 h2 h3 h4 h5)
theorem g_i2l {K : Cx} {own : String} {cc : ByteArray} {nL fr mc ms k n pc : Nat} {ls : List (Nat × Value)} {st : List Value} {hp : Hp} (F : Fx K own cc nL fr mc ms) {x : Int32} (d : decode cc pc = .ok (.i2l, 1)) (kk : Go K k n (pc + 1) (ls) (.long (x.toInt64) :: st) (hp)) : Go K k n (pc) (ls) (.int x :: st) (hp) := by
  obtain ⟨p, l, e, R, s, m, args, below, meth, c, D, cA, A, Q, nL', n0, ad0⟩ := K
  obtain ⟨hx, hb, hml, hnl, hown, hts, hK, hA, hfr, hlo, hmc, hms⟩ := F
  intro hcl h0 ad H locs LS h1 h2 h3 h4 h5
  exact lv_i2l hx hb d rfl (kk (⟨hcl.1, clS_push trivial (clS_tail hcl.2.1), hcl.2.2⟩) h0 ad H locs LS h1 h2 h3 h4 h5)
theorem g_l2i {K : Cx} {own : String} {cc : ByteArray} {nL fr mc ms k n pc : Nat} {ls : List (Nat × Value)} {st : List Value} {hp : Hp} (F : Fx K own cc nL fr mc ms) {x : Int64} (d : decode cc pc = .ok (.l2i, 1)) (kk : Go K k n (pc + 1) (ls) (.int (x.toInt32) :: st) (hp)) : Go K k n (pc) (ls) (.long x :: st) (hp) := by
  obtain ⟨p, l, e, R, s, m, args, below, meth, c, D, cA, A, Q, nL', n0, ad0⟩ := K
  obtain ⟨hx, hb, hml, hnl, hown, hts, hK, hA, hfr, hlo, hmc, hms⟩ := F
  intro hcl h0 ad H locs LS h1 h2 h3 h4 h5
  exact lv_l2i hx hb d rfl (kk (⟨hcl.1, clS_push trivial (clS_tail hcl.2.1), hcl.2.2⟩) h0 ad H locs LS h1 h2 h3 h4 h5)
theorem g_i2b {K : Cx} {own : String} {cc : ByteArray} {nL fr mc ms k n pc : Nat} {ls : List (Nat × Value)} {st : List Value} {hp : Hp} (F : Fx K own cc nL fr mc ms) {x : Int32} (d : decode cc pc = .ok (.i2b, 1)) (kk : Go K k n (pc + 1) (ls) (.int (x.toInt8.toInt32) :: st) (hp)) : Go K k n (pc) (ls) (.int x :: st) (hp) := by
  obtain ⟨p, l, e, R, s, m, args, below, meth, c, D, cA, A, Q, nL', n0, ad0⟩ := K
  obtain ⟨hx, hb, hml, hnl, hown, hts, hK, hA, hfr, hlo, hmc, hms⟩ := F
  intro hcl h0 ad H locs LS h1 h2 h3 h4 h5
  exact lv_i2b hx hb d rfl (kk (⟨hcl.1, clS_push trivial (clS_tail hcl.2.1), hcl.2.2⟩) h0 ad H locs LS h1 h2 h3 h4 h5)
theorem g_i2s {K : Cx} {own : String} {cc : ByteArray} {nL fr mc ms k n pc : Nat} {ls : List (Nat × Value)} {st : List Value} {hp : Hp} (F : Fx K own cc nL fr mc ms) {x : Int32} (d : decode cc pc = .ok (.i2s, 1)) (kk : Go K k n (pc + 1) (ls) (.int (x.toInt16.toInt32) :: st) (hp)) : Go K k n (pc) (ls) (.int x :: st) (hp) := by
  obtain ⟨p, l, e, R, s, m, args, below, meth, c, D, cA, A, Q, nL', n0, ad0⟩ := K
  obtain ⟨hx, hb, hml, hnl, hown, hts, hK, hA, hfr, hlo, hmc, hms⟩ := F
  intro hcl h0 ad H locs LS h1 h2 h3 h4 h5
  exact lv_i2s hx hb d rfl (kk (⟨hcl.1, clS_push trivial (clS_tail hcl.2.1), hcl.2.2⟩) h0 ad H locs LS h1 h2 h3 h4 h5)
theorem g_iconst {K : Cx} {own : String} {cc : ByteArray} {nL fr mc ms k n pc : Nat} {ls : List (Nat × Value)} {st : List Value} {hp : Hp} (F : Fx K own cc nL fr mc ms) {a : Int} {v : Int32} (d : decode cc pc = .ok (.iconst a, 1)) (hv : Int32.ofInt a = v) (kk : Go K k n (pc + 1) (ls) (.int v :: st) (hp)) : Go K k n (pc) (ls) (st) (hp) := by
  obtain ⟨p, l, e, R, s, m, args, below, meth, c, D, cA, A, Q, nL', n0, ad0⟩ := K
  obtain ⟨hx, hb, hml, hnl, hown, hts, hK, hA, hfr, hlo, hmc, hms⟩ := F
  intro hcl h0 ad H locs LS h1 h2 h3 h4 h5
  exact lv_iconst hx hb d hv (kk (⟨hcl.1, clS_push trivial hcl.2.1, hcl.2.2⟩) h0 ad H locs LS h1 h2 h3 h4 h5)
theorem g_bipush {K : Cx} {own : String} {cc : ByteArray} {nL fr mc ms k n pc : Nat} {ls : List (Nat × Value)} {st : List Value} {hp : Hp} (F : Fx K own cc nL fr mc ms) {a : Int} {v : Int32} (d : decode cc pc = .ok (.bipush a, 2)) (hv : (Int8.ofInt a).toInt32 = v) (kk : Go K k n (pc + 2) (ls) (.int v :: st) (hp)) : Go K k n (pc) (ls) (st) (hp) := by
  obtain ⟨p, l, e, R, s, m, args, below, meth, c, D, cA, A, Q, nL', n0, ad0⟩ := K
  obtain ⟨hx, hb, hml, hnl, hown, hts, hK, hA, hfr, hlo, hmc, hms⟩ := F
  intro hcl h0 ad H locs LS h1 h2 h3 h4 h5
  exact lv_bipush hx hb d hv (kk (⟨hcl.1, clS_push trivial hcl.2.1, hcl.2.2⟩) h0 ad H locs LS h1 h2 h3 h4 h5)
theorem g_sipush {K : Cx} {own : String} {cc : ByteArray} {nL fr mc ms k n pc : Nat} {ls : List (Nat × Value)} {st : List Value} {hp : Hp} (F : Fx K own cc nL fr mc ms) {a : Int} {v : Int32} (d : decode cc pc = .ok (.sipush a, 3)) (hv : (Int16.ofInt a).toInt32 = v) (kk : Go K k n (pc + 3) (ls) (.int v :: st) (hp)) : Go K k n (pc) (ls) (st) (hp) := by
  obtain ⟨p, l, e, R, s, m, args, below, meth, c, D, cA, A, Q, nL', n0, ad0⟩ := K
  obtain ⟨hx, hb, hml, hnl, hown, hts, hK, hA, hfr, hlo, hmc, hms⟩ := F
  intro hcl h0 ad H locs LS h1 h2 h3 h4 h5
  exact lv_sipush hx hb d hv (kk (⟨hcl.1, clS_push trivial hcl.2.1, hcl.2.2⟩) h0 ad H locs LS h1 h2 h3 h4 h5)
theorem g_lconst {K : Cx} {own : String} {cc : ByteArray} {nL fr mc ms k n pc : Nat} {ls : List (Nat × Value)} {st : List Value} {hp : Hp} (F : Fx K own cc nL fr mc ms) {a : Fin 2} {v : Int64} (d : decode cc pc = .ok (.lconst a, 1)) (hv : Int64.ofNat (a : Nat) = v) (kk : Go K k n (pc + 1) (ls) (.long v :: st) (hp)) : Go K k n (pc) (ls) (st) (hp) := by
  obtain ⟨p, l, e, R, s, m, args, below, meth, c, D, cA, A, Q, nL', n0, ad0⟩ := K
  obtain ⟨hx, hb, hml, hnl, hown, hts, hK, hA, hfr, hlo, hmc, hms⟩ := F
  intro hcl h0 ad H locs LS h1 h2 h3 h4 h5
  exact lv_lconst hx hb d hv (kk (⟨hcl.1, clS_push trivial hcl.2.1, hcl.2.2⟩) h0 ad H locs LS h1 h2 h3 h4 h5)
theorem g_ldc {K : Cx} {own : String} {cc : ByteArray} {nL fr mc ms k n pc : Nat} {ls : List (Nat × Value)} {st : List Value} {hp : Hp} (F : Fx K own cc nL fr mc ms) {i : Nat} {v : Int32} (d : decode cc pc = .ok (.ldc i, 2)) (hc : Cond.constant own i v ∈ TB) (kk : Go K k n (pc + 2) (ls) (.int v :: st) (hp)) : Go K k n (pc) (ls) (st) (hp) := by
  obtain ⟨p, l, e, R, s, m, args, below, meth, c, D, cA, A, Q, nL', n0, ad0⟩ := K
  obtain ⟨hx, hb, hml, hnl, hown, hts, hK, hA, hfr, hlo, hmc, hms⟩ := F
  intro hcl h0 ad H locs LS h1 h2 h3 h4 h5
  exact lv_ldc hx hb hown (hts _ hc) d (kk (⟨hcl.1, clS_push trivial hcl.2.1, hcl.2.2⟩) h0 ad H locs LS h1 h2 h3 h4 h5)
theorem g_ldcw {K : Cx} {own : String} {cc : ByteArray} {nL fr mc ms k n pc : Nat} {ls : List (Nat × Value)} {st : List Value} {hp : Hp} (F : Fx K own cc nL fr mc ms) {i : Nat} {v : Int32} (d : decode cc pc = .ok (.ldc_w i, 3)) (hc : Cond.constant own i v ∈ TB) (kk : Go K k n (pc + 3) (ls) (.int v :: st) (hp)) : Go K k n (pc) (ls) (st) (hp) := by
  obtain ⟨p, l, e, R, s, m, args, below, meth, c, D, cA, A, Q, nL', n0, ad0⟩ := K
  obtain ⟨hx, hb, hml, hnl, hown, hts, hK, hA, hfr, hlo, hmc, hms⟩ := F
  intro hcl h0 ad H locs LS h1 h2 h3 h4 h5
  exact lv_ldcw hx hb hown (hts _ hc) d (kk (⟨hcl.1, clS_push trivial hcl.2.1, hcl.2.2⟩) h0 ad H locs LS h1 h2 h3 h4 h5)
theorem g_ldc2 {K : Cx} {own : String} {cc : ByteArray} {nL fr mc ms k n pc : Nat} {ls : List (Nat × Value)} {st : List Value} {hp : Hp} (F : Fx K own cc nL fr mc ms) {i : Nat} {v : Int64} (d : decode cc pc = .ok (.ldc2_w i, 3)) (hc : Cond.constantLong own i v ∈ TB) (kk : Go K k n (pc + 3) (ls) (.long v :: st) (hp)) : Go K k n (pc) (ls) (st) (hp) := by
  obtain ⟨p, l, e, R, s, m, args, below, meth, c, D, cA, A, Q, nL', n0, ad0⟩ := K
  obtain ⟨hx, hb, hml, hnl, hown, hts, hK, hA, hfr, hlo, hmc, hms⟩ := F
  intro hcl h0 ad H locs LS h1 h2 h3 h4 h5
  exact lv_ldc2 hx hb hown (hts _ hc) d (kk (⟨hcl.1, clS_push trivial hcl.2.1, hcl.2.2⟩) h0 ad H locs LS h1 h2 h3 h4 h5)
theorem g_null {K : Cx} {own : String} {cc : ByteArray} {nL fr mc ms k n pc : Nat} {ls : List (Nat × Value)} {st : List Value} {hp : Hp} (F : Fx K own cc nL fr mc ms) (d : decode cc pc = .ok (.aconst_null, 1)) (kk : Go K k n (pc + 1) (ls) (.null :: st) (hp)) : Go K k n (pc) (ls) (st) (hp) := by
  obtain ⟨p, l, e, R, s, m, args, below, meth, c, D, cA, A, Q, nL', n0, ad0⟩ := K
  obtain ⟨hx, hb, hml, hnl, hown, hts, hK, hA, hfr, hlo, hmc, hms⟩ := F
  intro hcl h0 ad H locs LS h1 h2 h3 h4 h5
  exact lv_null hx hb d (kk (⟨hcl.1, clS_push trivial hcl.2.1, hcl.2.2⟩) h0 ad H locs LS h1 h2 h3 h4 h5)
theorem g_iload {K : Cx} {own : String} {cc : ByteArray} {nL fr mc ms k n pc : Nat} {ls : List (Nat × Value)} {st : List Value} {hp : Hp} (F : Fx K own cc nL fr mc ms) {i : Nat} {x : Int32} (d : decode cc pc = .ok (.iload i, 2)) (hv : look ls i = some (.int x)) (kk : Go K k n (pc + 2) (ls) (.int x :: st) (hp)) : Go K k n (pc) (ls) (st) (hp) := by
  obtain ⟨p, l, e, R, s, m, args, below, meth, c, D, cA, A, Q, nL', n0, ad0⟩ := K
  obtain ⟨hx, hb, hml, hnl, hown, hts, hK, hA, hfr, hlo, hmc, hms⟩ := F
  intro hcl h0 ad H locs LS h1 h2 h3 h4 h5
  exact lv_iload hx hb d (lv_look h5 hv) (kk (⟨hcl.1, clS_push (hcl.1 _ (look_mem hv)) hcl.2.1, hcl.2.2⟩) h0 ad H locs LS h1 h2 h3 h4 h5)
theorem g_iload_n {K : Cx} {own : String} {cc : ByteArray} {nL fr mc ms k n pc : Nat} {ls : List (Nat × Value)} {st : List Value} {hp : Hp} (F : Fx K own cc nL fr mc ms) {i : Fin 4} {x : Int32} (d : decode cc pc = .ok (.iload_n i, 1)) (hv : look ls (i : Nat) = some (.int x)) (kk : Go K k n (pc + 1) (ls) (.int x :: st) (hp)) : Go K k n (pc) (ls) (st) (hp) := by
  obtain ⟨p, l, e, R, s, m, args, below, meth, c, D, cA, A, Q, nL', n0, ad0⟩ := K
  obtain ⟨hx, hb, hml, hnl, hown, hts, hK, hA, hfr, hlo, hmc, hms⟩ := F
  intro hcl h0 ad H locs LS h1 h2 h3 h4 h5
  exact lv_iload_n hx hb d rfl (lv_look h5 hv) (kk (⟨hcl.1, clS_push (hcl.1 _ (look_mem hv)) hcl.2.1, hcl.2.2⟩) h0 ad H locs LS h1 h2 h3 h4 h5)
theorem g_lload {K : Cx} {own : String} {cc : ByteArray} {nL fr mc ms k n pc : Nat} {ls : List (Nat × Value)} {st : List Value} {hp : Hp} (F : Fx K own cc nL fr mc ms) {i : Nat} {x : Int64} (d : decode cc pc = .ok (.lload i, 2)) (hv : look ls i = some (.long x)) (kk : Go K k n (pc + 2) (ls) (.long x :: st) (hp)) : Go K k n (pc) (ls) (st) (hp) := by
  obtain ⟨p, l, e, R, s, m, args, below, meth, c, D, cA, A, Q, nL', n0, ad0⟩ := K
  obtain ⟨hx, hb, hml, hnl, hown, hts, hK, hA, hfr, hlo, hmc, hms⟩ := F
  intro hcl h0 ad H locs LS h1 h2 h3 h4 h5
  exact lv_lload hx hb d (lv_look h5 hv) (kk (⟨hcl.1, clS_push (hcl.1 _ (look_mem hv)) hcl.2.1, hcl.2.2⟩) h0 ad H locs LS h1 h2 h3 h4 h5)
theorem g_lload_n {K : Cx} {own : String} {cc : ByteArray} {nL fr mc ms k n pc : Nat} {ls : List (Nat × Value)} {st : List Value} {hp : Hp} (F : Fx K own cc nL fr mc ms) {i : Fin 4} {x : Int64} (d : decode cc pc = .ok (.lload_n i, 1)) (hv : look ls (i : Nat) = some (.long x)) (kk : Go K k n (pc + 1) (ls) (.long x :: st) (hp)) : Go K k n (pc) (ls) (st) (hp) := by
  obtain ⟨p, l, e, R, s, m, args, below, meth, c, D, cA, A, Q, nL', n0, ad0⟩ := K
  obtain ⟨hx, hb, hml, hnl, hown, hts, hK, hA, hfr, hlo, hmc, hms⟩ := F
  intro hcl h0 ad H locs LS h1 h2 h3 h4 h5
  exact lv_lload_n hx hb d rfl (lv_look h5 hv) (kk (⟨hcl.1, clS_push (hcl.1 _ (look_mem hv)) hcl.2.1, hcl.2.2⟩) h0 ad H locs LS h1 h2 h3 h4 h5)
theorem g_aload {K : Cx} {own : String} {cc : ByteArray} {nL fr mc ms k n pc : Nat} {ls : List (Nat × Value)} {st : List Value} {hp : Hp} (F : Fx K own cc nL fr mc ms) {i : Nat} {x : Nat} (d : decode cc pc = .ok (.aload i, 2)) (hv : look ls i = some (.ref x)) (kk : Go K k n (pc + 2) (ls) (.ref x :: st) (hp)) : Go K k n (pc) (ls) (st) (hp) := by
  obtain ⟨p, l, e, R, s, m, args, below, meth, c, D, cA, A, Q, nL', n0, ad0⟩ := K
  obtain ⟨hx, hb, hml, hnl, hown, hts, hK, hA, hfr, hlo, hmc, hms⟩ := F
  intro hcl h0 ad H locs LS h1 h2 h3 h4 h5
  exact lv_aload hx hb d (lv_look h5 hv) (kk (⟨hcl.1, clS_push (hcl.1 _ (look_mem hv)) hcl.2.1, hcl.2.2⟩) h0 ad H locs LS h1 h2 h3 h4 h5)
theorem g_aload_n {K : Cx} {own : String} {cc : ByteArray} {nL fr mc ms k n pc : Nat} {ls : List (Nat × Value)} {st : List Value} {hp : Hp} (F : Fx K own cc nL fr mc ms) {i : Fin 4} {x : Nat} (d : decode cc pc = .ok (.aload_n i, 1)) (hv : look ls (i : Nat) = some (.ref x)) (kk : Go K k n (pc + 1) (ls) (.ref x :: st) (hp)) : Go K k n (pc) (ls) (st) (hp) := by
  obtain ⟨p, l, e, R, s, m, args, below, meth, c, D, cA, A, Q, nL', n0, ad0⟩ := K
  obtain ⟨hx, hb, hml, hnl, hown, hts, hK, hA, hfr, hlo, hmc, hms⟩ := F
  intro hcl h0 ad H locs LS h1 h2 h3 h4 h5
  exact lv_aload_n hx hb d rfl (lv_look h5 hv) (kk (⟨hcl.1, clS_push (hcl.1 _ (look_mem hv)) hcl.2.1, hcl.2.2⟩) h0 ad H locs LS h1 h2 h3 h4 h5)
theorem g_aload_nN {K : Cx} {own : String} {cc : ByteArray} {nL fr mc ms k n pc : Nat} {ls : List (Nat × Value)} {st : List Value} {hp : Hp} (F : Fx K own cc nL fr mc ms) {i : Fin 4} (d : decode cc pc = .ok (.aload_n i, 1)) (hv : look ls (i : Nat) = some .null) (kk : Go K k n (pc + 1) (ls) (.null :: st) (hp)) : Go K k n (pc) (ls) (st) (hp) := by
  obtain ⟨p, l, e, R, s, m, args, below, meth, c, D, cA, A, Q, nL', n0, ad0⟩ := K
  obtain ⟨hx, hb, hml, hnl, hown, hts, hK, hA, hfr, hlo, hmc, hms⟩ := F
  intro hcl h0 ad H locs LS h1 h2 h3 h4 h5
  exact lv_aload_nN hx hb d rfl (lv_look h5 hv) (kk (⟨hcl.1, clS_push trivial hcl.2.1, hcl.2.2⟩) h0 ad H locs LS h1 h2 h3 h4 h5)
theorem g_aloadN {K : Cx} {own : String} {cc : ByteArray} {nL fr mc ms k n pc : Nat} {ls : List (Nat × Value)} {st : List Value} {hp : Hp} (F : Fx K own cc nL fr mc ms) {i : Nat} (d : decode cc pc = .ok (.aload i, 2)) (hv : look ls i = some .null) (kk : Go K k n (pc + 2) (ls) (.null :: st) (hp)) : Go K k n (pc) (ls) (st) (hp) := by
  obtain ⟨p, l, e, R, s, m, args, below, meth, c, D, cA, A, Q, nL', n0, ad0⟩ := K
  obtain ⟨hx, hb, hml, hnl, hown, hts, hK, hA, hfr, hlo, hmc, hms⟩ := F
  intro hcl h0 ad H locs LS h1 h2 h3 h4 h5
  exact lv_aloadN hx hb d (lv_look h5 hv) (kk (⟨hcl.1, clS_push trivial hcl.2.1, hcl.2.2⟩) h0 ad H locs LS h1 h2 h3 h4 h5)
theorem g_istore {K : Cx} {own : String} {cc : ByteArray} {nL fr mc ms k n pc : Nat} {ls : List (Nat × Value)} {st : List Value} {hp : Hp} (F : Fx K own cc nL fr mc ms) {i : Nat} {x : Int32} (d : decode cc pc = .ok (.istore i, 2)) (hi : i < nL) (kk : Go K k n (pc + 2) (put1 ls i (.int x)) (st) (hp)) : Go K k n (pc) (ls) (.int x :: st) (hp) := by
  obtain ⟨p, l, e, R, s, m, args, below, meth, c, D, cA, A, Q, nL', n0, ad0⟩ := K
  obtain ⟨hx, hb, hml, hnl, hown, hts, hK, hA, hfr, hlo, hmc, hms⟩ := F
  intro hcl h0 ad H locs LS h1 h2 h3 h4 h5
  subst hnl
  exact lv_istore hx hb d h5 hi rfl (fun LS2 g => kk (⟨clL_put1 (clS_head hcl.2.1) hcl.1, clS_tail hcl.2.1, hcl.2.2⟩) h0 ad H locs LS2 h1 h2 h3 h4 (lv_memb g lM_put1))
theorem g_istore_n {K : Cx} {own : String} {cc : ByteArray} {nL fr mc ms k n pc : Nat} {ls : List (Nat × Value)} {st : List Value} {hp : Hp} (F : Fx K own cc nL fr mc ms) {i : Fin 4} {x : Int32} (d : decode cc pc = .ok (.istore_n i, 1)) (hi : (i : Nat) < nL) (kk : Go K k n (pc + 1) (put1 ls (i : Nat) (.int x)) (st) (hp)) : Go K k n (pc) (ls) (.int x :: st) (hp) := by
  obtain ⟨p, l, e, R, s, m, args, below, meth, c, D, cA, A, Q, nL', n0, ad0⟩ := K
  obtain ⟨hx, hb, hml, hnl, hown, hts, hK, hA, hfr, hlo, hmc, hms⟩ := F
  intro hcl h0 ad H locs LS h1 h2 h3 h4 h5
  subst hnl
  exact lv_istore_n hx hb d rfl h5 hi rfl (fun LS2 g => kk (⟨clL_put1 (clS_head hcl.2.1) hcl.1, clS_tail hcl.2.1, hcl.2.2⟩) h0 ad H locs LS2 h1 h2 h3 h4 (lv_memb g lM_put1))
theorem g_lstore {K : Cx} {own : String} {cc : ByteArray} {nL fr mc ms k n pc : Nat} {ls : List (Nat × Value)} {st : List Value} {hp : Hp} (F : Fx K own cc nL fr mc ms) {i : Nat} {x : Int64} (d : decode cc pc = .ok (.lstore i, 2)) (hi : i + 1 < nL) (kk : Go K k n (pc + 2) (put2 ls i (.long x)) (st) (hp)) : Go K k n (pc) (ls) (.long x :: st) (hp) := by
  obtain ⟨p, l, e, R, s, m, args, below, meth, c, D, cA, A, Q, nL', n0, ad0⟩ := K
  obtain ⟨hx, hb, hml, hnl, hown, hts, hK, hA, hfr, hlo, hmc, hms⟩ := F
  intro hcl h0 ad H locs LS h1 h2 h3 h4 h5
  subst hnl
  exact lv_lstore hx hb d h5 hi rfl (fun LS2 g => kk (⟨clL_put2 (clS_head hcl.2.1) hcl.1, clS_tail hcl.2.1, hcl.2.2⟩) h0 ad H locs LS2 h1 h2 h3 h4 (lv_memb g lM_put2))
theorem g_lstore_n {K : Cx} {own : String} {cc : ByteArray} {nL fr mc ms k n pc : Nat} {ls : List (Nat × Value)} {st : List Value} {hp : Hp} (F : Fx K own cc nL fr mc ms) {i : Fin 4} {x : Int64} (d : decode cc pc = .ok (.lstore_n i, 1)) (hi : (i : Nat) + 1 < nL) (kk : Go K k n (pc + 1) (put2 ls (i : Nat) (.long x)) (st) (hp)) : Go K k n (pc) (ls) (.long x :: st) (hp) := by
  obtain ⟨p, l, e, R, s, m, args, below, meth, c, D, cA, A, Q, nL', n0, ad0⟩ := K
  obtain ⟨hx, hb, hml, hnl, hown, hts, hK, hA, hfr, hlo, hmc, hms⟩ := F
  intro hcl h0 ad H locs LS h1 h2 h3 h4 h5
  subst hnl
  exact lv_lstore_n hx hb d rfl h5 hi rfl (fun LS2 g => kk (⟨clL_put2 (clS_head hcl.2.1) hcl.1, clS_tail hcl.2.1, hcl.2.2⟩) h0 ad H locs LS2 h1 h2 h3 h4 (lv_memb g lM_put2))
theorem g_astore {K : Cx} {own : String} {cc : ByteArray} {nL fr mc ms k n pc : Nat} {ls : List (Nat × Value)} {st : List Value} {hp : Hp} (F : Fx K own cc nL fr mc ms) {i : Nat} {x : Nat} (d : decode cc pc = .ok (.astore i, 2)) (hi : i < nL) (kk : Go K k n (pc + 2) (put1 ls i (.ref x)) (st) (hp)) : Go K k n (pc) (ls) (.ref x :: st) (hp) := by
  obtain ⟨p, l, e, R, s, m, args, below, meth, c, D, cA, A, Q, nL', n0, ad0⟩ := K
  obtain ⟨hx, hb, hml, hnl, hown, hts, hK, hA, hfr, hlo, hmc, hms⟩ := F
  intro hcl h0 ad H locs LS h1 h2 h3 h4 h5
  subst hnl
  exact lv_astore hx hb d h5 hi rfl (fun LS2 g => kk (⟨clL_put1 (clS_head hcl.2.1) hcl.1, clS_tail hcl.2.1, hcl.2.2⟩) h0 ad H locs LS2 h1 h2 h3 h4 (lv_memb g lM_put1))
theorem g_astore_n {K : Cx} {own : String} {cc : ByteArray} {nL fr mc ms k n pc : Nat} {ls : List (Nat × Value)} {st : List Value} {hp : Hp} (F : Fx K own cc nL fr mc ms) {i : Fin 4} {x : Nat} (d : decode cc pc = .ok (.astore_n i, 1)) (hi : (i : Nat) < nL) (kk : Go K k n (pc + 1) (put1 ls (i : Nat) (.ref x)) (st) (hp)) : Go K k n (pc) (ls) (.ref x :: st) (hp) := by
  obtain ⟨p, l, e, R, s, m, args, below, meth, c, D, cA, A, Q, nL', n0, ad0⟩ := K
  obtain ⟨hx, hb, hml, hnl, hown, hts, hK, hA, hfr, hlo, hmc, hms⟩ := F
  intro hcl h0 ad H locs LS h1 h2 h3 h4 h5
  subst hnl
  exact lv_astore_n hx hb d rfl h5 hi rfl (fun LS2 g => kk (⟨clL_put1 (clS_head hcl.2.1) hcl.1, clS_tail hcl.2.1, hcl.2.2⟩) h0 ad H locs LS2 h1 h2 h3 h4 (lv_memb g lM_put1))
theorem g_astore_nN {K : Cx} {own : String} {cc : ByteArray} {nL fr mc ms k n pc : Nat} {ls : List (Nat × Value)} {st : List Value} {hp : Hp} (F : Fx K own cc nL fr mc ms) {i : Fin 4} (d : decode cc pc = .ok (.astore_n i, 1)) (hi : (i : Nat) < nL) (kk : Go K k n (pc + 1) (put1 ls (i : Nat) .null) (st) (hp)) : Go K k n (pc) (ls) (.null :: st) (hp) := by
  obtain ⟨p, l, e, R, s, m, args, below, meth, c, D, cA, A, Q, nL', n0, ad0⟩ := K
  obtain ⟨hx, hb, hml, hnl, hown, hts, hK, hA, hfr, hlo, hmc, hms⟩ := F
  intro hcl h0 ad H locs LS h1 h2 h3 h4 h5
  subst hnl
  exact lv_astore_nN hx hb d rfl h5 hi rfl (fun LS2 g => kk (⟨clL_put1 (clS_head hcl.2.1) hcl.1, clS_tail hcl.2.1, hcl.2.2⟩) h0 ad H locs LS2 h1 h2 h3 h4 (lv_memb g lM_put1))
theorem g_astoreN {K : Cx} {own : String} {cc : ByteArray} {nL fr mc ms k n pc : Nat} {ls : List (Nat × Value)} {st : List Value} {hp : Hp} (F : Fx K own cc nL fr mc ms) {i : Nat} (d : decode cc pc = .ok (.astore i, 2)) (hi : i < nL) (kk : Go K k n (pc + 2) (put1 ls i .null) (st) (hp)) : Go K k n (pc) (ls) (.null :: st) (hp) := by
  obtain ⟨p, l, e, R, s, m, args, below, meth, c, D, cA, A, Q, nL', n0, ad0⟩ := K
  obtain ⟨hx, hb, hml, hnl, hown, hts, hK, hA, hfr, hlo, hmc, hms⟩ := F
  intro hcl h0 ad H locs LS h1 h2 h3 h4 h5
  subst hnl
  exact lv_astoreN hx hb d h5 hi rfl (fun LS2 g => kk (⟨clL_put1 (clS_head hcl.2.1) hcl.1, clS_tail hcl.2.1, hcl.2.2⟩) h0 ad H locs LS2 h1 h2 h3 h4 (lv_memb g lM_put1))
theorem g_iinc {K : Cx} {own : String} {cc : ByteArray} {nL fr mc ms k n pc : Nat} {ls : List (Nat × Value)} {st : List Value} {hp : Hp} (F : Fx K own cc nL fr mc ms) {i : Nat} {a : Int} {x v : Int32} (d : decode cc pc = .ok (.iinc i a, 3)) (hv : look ls i = some (.int x)) (hw : x + Int32.ofInt a = v) (hi : i < nL) (kk : Go K k n (pc + 3) (put1 ls i (.int v)) (st) (hp)) : Go K k n (pc) (ls) (st) (hp) := by
  obtain ⟨p, l, e, R, s, m, args, below, meth, c, D, cA, A, Q, nL', n0, ad0⟩ := K
  obtain ⟨hx, hb, hml, hnl, hown, hts, hK, hA, hfr, hlo, hmc, hms⟩ := F
  intro hcl h0 ad H locs LS h1 h2 h3 h4 h5
  subst hnl
  obtain ⟨j, hj⟩ := List.getElem?_of_mem (lM_mem (ad := ad) (look_mem hv))
  exact lv_iinc (k := j) hx hb d h5 hj hw hi rfl (fun LS2 g => kk ⟨clL_put1 trivial hcl.1, hcl.2.1, hcl.2.2⟩ h0 ad H locs LS2 h1 h2 h3 h4 (lv_memb g lM_put1))
theorem g_dup {K : Cx} {own : String} {cc : ByteArray} {nL fr mc ms k n pc : Nat} {ls : List (Nat × Value)} {st : List Value} {hp : Hp} (F : Fx K own cc nL fr mc ms) {v : Value} (d : decode cc pc = .ok (.dup, 1)) (hv : v.category = 1) (kk : Go K k n (pc + 1) (ls) (v :: v :: st) (hp)) : Go K k n (pc) (ls) (v :: st) (hp) := by
  obtain ⟨p, l, e, R, s, m, args, below, meth, c, D, cA, A, Q, nL', n0, ad0⟩ := K
  obtain ⟨hx, hb, hml, hnl, hown, hts, hK, hA, hfr, hlo, hmc, hms⟩ := F
  intro hcl h0 ad H locs LS h1 h2 h3 h4 h5
  exact lv_dup hx hb d ((vM_cat ad v).trans hv) (kk (⟨hcl.1, clS_push (clS_head hcl.2.1) hcl.2.1, hcl.2.2⟩) h0 ad H locs LS h1 h2 h3 h4 h5)
theorem g_dup2 {K : Cx} {own : String} {cc : ByteArray} {nL fr mc ms k n pc : Nat} {ls : List (Nat × Value)} {st : List Value} {hp : Hp} (F : Fx K own cc nL fr mc ms) {v u : Value} (d : decode cc pc = .ok (.dup2, 1)) (hv : v.category = 1) (hu : u.category = 1) (kk : Go K k n (pc + 1) (ls) (v :: u :: v :: u :: st) (hp)) : Go K k n (pc) (ls) (v :: u :: st) (hp) := by
  obtain ⟨p, l, e, R, s, m, args, below, meth, c, D, cA, A, Q, nL', n0, ad0⟩ := K
  obtain ⟨hx, hb, hml, hnl, hown, hts, hK, hA, hfr, hlo, hmc, hms⟩ := F
  intro hcl h0 ad H locs LS h1 h2 h3 h4 h5
  exact lv_dup2_11 hx hb d ((vM_cat ad v).trans hv) ((vM_cat ad u).trans hu) (kk (⟨hcl.1, clS_push (clS_head hcl.2.1) (clS_push (clS_head (clS_tail hcl.2.1)) hcl.2.1), hcl.2.2⟩) h0 ad H locs LS h1 h2 h3 h4 h5)
theorem g_dup2L {K : Cx} {own : String} {cc : ByteArray} {nL fr mc ms k n pc : Nat} {ls : List (Nat × Value)} {st : List Value} {hp : Hp} (F : Fx K own cc nL fr mc ms) {v : Value} (d : decode cc pc = .ok (.dup2, 1)) (hv : v.category = 2) (kk : Go K k n (pc + 1) (ls) (v :: v :: st) (hp)) : Go K k n (pc) (ls) (v :: st) (hp) := by
  obtain ⟨p, l, e, R, s, m, args, below, meth, c, D, cA, A, Q, nL', n0, ad0⟩ := K
  obtain ⟨hx, hb, hml, hnl, hown, hts, hK, hA, hfr, hlo, hmc, hms⟩ := F
  intro hcl h0 ad H locs LS h1 h2 h3 h4 h5
  exact lv_dup2_2 hx hb d ((vM_cat ad v).trans hv) (kk (⟨hcl.1, clS_push (clS_head hcl.2.1) hcl.2.1, hcl.2.2⟩) h0 ad H locs LS h1 h2 h3 h4 h5)
theorem g_goto {K : Cx} {own : String} {cc : ByteArray} {nL fr mc ms k n pc : Nat} {ls : List (Nat × Value)} {st : List Value} {hp : Hp} (F : Fx K own cc nL fr mc ms) {off : Int} {tgt : Nat} (d : decode cc pc = .ok (.goto off, 3)) (ht : (pc : Int) + off = (tgt : Int)) (kk : Go K k n (tgt) (ls) (st) (hp)) : Go K k n (pc) (ls) (st) (hp) := by
  obtain ⟨p, l, e, R, s, m, args, below, meth, c, D, cA, A, Q, nL', n0, ad0⟩ := K
  obtain ⟨hx, hb, hml, hnl, hown, hts, hK, hA, hfr, hlo, hmc, hms⟩ := F
  intro hcl h0 ad H locs LS h1 h2 h3 h4 h5
  exact lv_goto hx hb d ht (kk hcl h0 ad H locs LS h1 h2 h3 h4 h5)
theorem g_if_eq {K : Cx} {own : String} {cc : ByteArray} {nL fr mc ms k n pc : Nat} {ls : List (Nat × Value)} {st : List Value} {hp : Hp} (F : Fx K own cc nL fr mc ms) {x : Int32} {off : Int} {tgt : Nat} (d : decode cc pc = .ok (.ifCond .eq off, 3)) (ht : (pc : Int) + off = (tgt : Int)) (kt : x = 0 → Go K k n tgt ls st hp) (kf : ¬ x = 0 → Go K k n (pc + 3) ls st hp) : Go K k n pc ls (.int x :: st) hp := by
  obtain ⟨p, l, e, R, s, m, args, below, meth, c, D, cA, A, Q, nL', n0, ad0⟩ := K
  obtain ⟨hx, hb, hml, hnl, hown, hts, hK, hA, hfr, hlo, hmc, hms⟩ := F
  intro hcl h0 ad H locs LS h1 h2 h3 h4 h5
  exact lv_if_eq hx hb d ht (fun q => kt q (⟨hcl.1, clS_tail hcl.2.1, hcl.2.2⟩) h0 ad H locs LS h1 h2 h3 h4 h5) (fun q => kf q (⟨hcl.1, clS_tail hcl.2.1, hcl.2.2⟩) h0 ad H locs LS h1 h2 h3 h4 h5)
theorem g_ic_eq {K : Cx} {own : String} {cc : ByteArray} {nL fr mc ms k n pc : Nat} {ls : List (Nat × Value)} {st : List Value} {hp : Hp} (F : Fx K own cc nL fr mc ms) {x y : Int32} {off : Int} {tgt : Nat} (d : decode cc pc = .ok (.if_icmp .eq off, 3)) (ht : (pc : Int) + off = (tgt : Int)) (kt : x = y → Go K k n tgt ls st hp) (kf : ¬ x = y → Go K k n (pc + 3) ls st hp) : Go K k n pc ls (.int y :: .int x :: st) hp := by
  obtain ⟨p, l, e, R, s, m, args, below, meth, c, D, cA, A, Q, nL', n0, ad0⟩ := K
  obtain ⟨hx, hb, hml, hnl, hown, hts, hK, hA, hfr, hlo, hmc, hms⟩ := F
  intro hcl h0 ad H locs LS h1 h2 h3 h4 h5
  exact lv_icmp_eq hx hb d ht (fun q => kt q (⟨hcl.1, clS_tail (clS_tail hcl.2.1), hcl.2.2⟩) h0 ad H locs LS h1 h2 h3 h4 h5) (fun q => kf q (⟨hcl.1, clS_tail (clS_tail hcl.2.1), hcl.2.2⟩) h0 ad H locs LS h1 h2 h3 h4 h5)
theorem g_if_ne {K : Cx} {own : String} {cc : ByteArray} {nL fr mc ms k n pc : Nat} {ls : List (Nat × Value)} {st : List Value} {hp : Hp} (F : Fx K own cc nL fr mc ms) {x : Int32} {off : Int} {tgt : Nat} (d : decode cc pc = .ok (.ifCond .ne off, 3)) (ht : (pc : Int) + off = (tgt : Int)) (kt : ¬ x = 0 → Go K k n tgt ls st hp) (kf : x = 0 → Go K k n (pc + 3) ls st hp) : Go K k n pc ls (.int x :: st) hp := by
  obtain ⟨p, l, e, R, s, m, args, below, meth, c, D, cA, A, Q, nL', n0, ad0⟩ := K
  obtain ⟨hx, hb, hml, hnl, hown, hts, hK, hA, hfr, hlo, hmc, hms⟩ := F
  intro hcl h0 ad H locs LS h1 h2 h3 h4 h5
  exact lv_if_ne hx hb d ht (fun q => kt q (⟨hcl.1, clS_tail hcl.2.1, hcl.2.2⟩) h0 ad H locs LS h1 h2 h3 h4 h5) (fun q => kf q (⟨hcl.1, clS_tail hcl.2.1, hcl.2.2⟩) h0 ad H locs LS h1 h2 h3 h4 h5)
theorem g_ic_ne {K : Cx} {own : String} {cc : ByteArray} {nL fr mc ms k n pc : Nat} {ls : List (Nat × Value)} {st : List Value} {hp : Hp} (F : Fx K own cc nL fr mc ms) {x y : Int32} {off : Int} {tgt : Nat} (d : decode cc pc = .ok (.if_icmp .ne off, 3)) (ht : (pc : Int) + off = (tgt : Int)) (kt : ¬ x = y → Go K k n tgt ls st hp) (kf : x = y → Go K k n (pc + 3) ls st hp) : Go K k n pc ls (.int y :: .int x :: st) hp := by
  obtain ⟨p, l, e, R, s, m, args, below, meth, c, D, cA, A, Q, nL', n0, ad0⟩ := K
  obtain ⟨hx, hb, hml, hnl, hown, hts, hK, hA, hfr, hlo, hmc, hms⟩ := F
  intro hcl h0 ad H locs LS h1 h2 h3 h4 h5
  exact lv_icmp_ne hx hb d ht (fun q => kt q (⟨hcl.1, clS_tail (clS_tail hcl.2.1), hcl.2.2⟩) h0 ad H locs LS h1 h2 h3 h4 h5) (fun q => kf q (⟨hcl.1, clS_tail (clS_tail hcl.2.1), hcl.2.2⟩) h0 ad H locs LS h1 h2 h3 h4 h5)
theorem g_if_lt {K : Cx} {own : String} {cc : ByteArray} {nL fr mc ms k n pc : Nat} {ls : List (Nat × Value)} {st : List Value} {hp : Hp} (F : Fx K own cc nL fr mc ms) {x : Int32} {off : Int} {tgt : Nat} (d : decode cc pc = .ok (.ifCond .lt off, 3)) (ht : (pc : Int) + off = (tgt : Int)) (kt : x < 0 → Go K k n tgt ls st hp) (kf : ¬ x < 0 → Go K k n (pc + 3) ls st hp) : Go K k n pc ls (.int x :: st) hp := by
  obtain ⟨p, l, e, R, s, m, args, below, meth, c, D, cA, A, Q, nL', n0, ad0⟩ := K
  obtain ⟨hx, hb, hml, hnl, hown, hts, hK, hA, hfr, hlo, hmc, hms⟩ := F
  intro hcl h0 ad H locs LS h1 h2 h3 h4 h5
  exact lv_if_lt hx hb d ht (fun q => kt q (⟨hcl.1, clS_tail hcl.2.1, hcl.2.2⟩) h0 ad H locs LS h1 h2 h3 h4 h5) (fun q => kf q (⟨hcl.1, clS_tail hcl.2.1, hcl.2.2⟩) h0 ad H locs LS h1 h2 h3 h4 h5)
theorem g_ic_lt {K : Cx} {own : String} {cc : ByteArray} {nL fr mc ms k n pc : Nat} {ls : List (Nat × Value)} {st : List Value} {hp : Hp} (F : Fx K own cc nL fr mc ms) {x y : Int32} {off : Int} {tgt : Nat} (d : decode cc pc = .ok (.if_icmp .lt off, 3)) (ht : (pc : Int) + off = (tgt : Int)) (kt : x < y → Go K k n tgt ls st hp) (kf : ¬ x < y → Go K k n (pc + 3) ls st hp) : Go K k n pc ls (.int y :: .int x :: st) hp := by
  obtain ⟨p, l, e, R, s, m, args, below, meth, c, D, cA, A, Q, nL', n0, ad0⟩ := K
  obtain ⟨hx, hb, hml, hnl, hown, hts, hK, hA, hfr, hlo, hmc, hms⟩ := F
  intro hcl h0 ad H locs LS h1 h2 h3 h4 h5
  exact lv_icmp_lt hx hb d ht (fun q => kt q (⟨hcl.1, clS_tail (clS_tail hcl.2.1), hcl.2.2⟩) h0 ad H locs LS h1 h2 h3 h4 h5) (fun q => kf q (⟨hcl.1, clS_tail (clS_tail hcl.2.1), hcl.2.2⟩) h0 ad H locs LS h1 h2 h3 h4 h5)
theorem g_if_ge {K : Cx} {own : String} {cc : ByteArray} {nL fr mc ms k n pc : Nat} {ls : List (Nat × Value)} {st : List Value} {hp : Hp} (F : Fx K own cc nL fr mc ms) {x : Int32} {off : Int} {tgt : Nat} (d : decode cc pc = .ok (.ifCond .ge off, 3)) (ht : (pc : Int) + off = (tgt : Int)) (kt : 0 ≤ x → Go K k n tgt ls st hp) (kf : ¬ 0 ≤ x → Go K k n (pc + 3) ls st hp) : Go K k n pc ls (.int x :: st) hp := by
  obtain ⟨p, l, e, R, s, m, args, below, meth, c, D, cA, A, Q, nL', n0, ad0⟩ := K
  obtain ⟨hx, hb, hml, hnl, hown, hts, hK, hA, hfr, hlo, hmc, hms⟩ := F
  intro hcl h0 ad H locs LS h1 h2 h3 h4 h5
  exact lv_if_ge hx hb d ht (fun q => kt q (⟨hcl.1, clS_tail hcl.2.1, hcl.2.2⟩) h0 ad H locs LS h1 h2 h3 h4 h5) (fun q => kf q (⟨hcl.1, clS_tail hcl.2.1, hcl.2.2⟩) h0 ad H locs LS h1 h2 h3 h4 h5)
theorem g_ic_ge {K : Cx} {own : String} {cc : ByteArray} {nL fr mc ms k n pc : Nat} {ls : List (Nat × Value)} {st : List Value} {hp : Hp} (F : Fx K own cc nL fr mc ms) {x y : Int32} {off : Int} {tgt : Nat} (d : decode cc pc = .ok (.if_icmp .ge off, 3)) (ht : (pc : Int) + off = (tgt : Int)) (kt : y ≤ x → Go K k n tgt ls st hp) (kf : ¬ y ≤ x → Go K k n (pc + 3) ls st hp) : Go K k n pc ls (.int y :: .int x :: st) hp := by
  obtain ⟨p, l, e, R, s, m, args, below, meth, c, D, cA, A, Q, nL', n0, ad0⟩ := K
  obtain ⟨hx, hb, hml, hnl, hown, hts, hK, hA, hfr, hlo, hmc, hms⟩ := F
  intro hcl h0 ad H locs LS h1 h2 h3 h4 h5
  exact lv_icmp_ge hx hb d ht (fun q => kt q (⟨hcl.1, clS_tail (clS_tail hcl.2.1), hcl.2.2⟩) h0 ad H locs LS h1 h2 h3 h4 h5) (fun q => kf q (⟨hcl.1, clS_tail (clS_tail hcl.2.1), hcl.2.2⟩) h0 ad H locs LS h1 h2 h3 h4 h5)
theorem g_if_gt {K : Cx} {own : String} {cc : ByteArray} {nL fr mc ms k n pc : Nat} {ls : List (Nat × Value)} {st : List Value} {hp : Hp} (F : Fx K own cc nL fr mc ms) {x : Int32} {off : Int} {tgt : Nat} (d : decode cc pc = .ok (.ifCond .gt off, 3)) (ht : (pc : Int) + off = (tgt : Int)) (kt : 0 < x → Go K k n tgt ls st hp) (kf : ¬ 0 < x → Go K k n (pc + 3) ls st hp) : Go K k n pc ls (.int x :: st) hp := by
  obtain ⟨p, l, e, R, s, m, args, below, meth, c, D, cA, A, Q, nL', n0, ad0⟩ := K
  obtain ⟨hx, hb, hml, hnl, hown, hts, hK, hA, hfr, hlo, hmc, hms⟩ := F
  intro hcl h0 ad H locs LS h1 h2 h3 h4 h5
  exact lv_if_gt hx hb d ht (fun q => kt q (⟨hcl.1, clS_tail hcl.2.1, hcl.2.2⟩) h0 ad H locs LS h1 h2 h3 h4 h5) (fun q => kf q (⟨hcl.1, clS_tail hcl.2.1, hcl.2.2⟩) h0 ad H locs LS h1 h2 h3 h4 h5)
theorem g_ic_gt {K : Cx} {own : String} {cc : ByteArray} {nL fr mc ms k n pc : Nat} {ls : List (Nat × Value)} {st : List Value} {hp : Hp} (F : Fx K own cc nL fr mc ms) {x y : Int32} {off : Int} {tgt : Nat} (d : decode cc pc = .ok (.if_icmp .gt off, 3)) (ht : (pc : Int) + off = (tgt : Int)) (kt : y < x → Go K k n tgt ls st hp) (kf : ¬ y < x → Go K k n (pc + 3) ls st hp) : Go K k n pc ls (.int y :: .int x :: st) hp := by
  obtain ⟨p, l, e, R, s, m, args, below, meth, c, D, cA, A, Q, nL', n0, ad0⟩ := K
  obtain ⟨hx, hb, hml, hnl, hown, hts, hK, hA, hfr, hlo, hmc, hms⟩ := F
  intro hcl h0 ad H locs LS h1 h2 h3 h4 h5
  exact lv_icmp_gt hx hb d ht (fun q => kt q (⟨hcl.1, clS_tail (clS_tail hcl.2.1), hcl.2.2⟩) h0 ad H locs LS h1 h2 h3 h4 h5) (fun q => kf q (⟨hcl.1, clS_tail (clS_tail hcl.2.1), hcl.2.2⟩) h0 ad H locs LS h1 h2 h3 h4 h5)
theorem g_if_le {K : Cx} {own : String} {cc : ByteArray} {nL fr mc ms k n pc : Nat} {ls : List (Nat × Value)} {st : List Value} {hp : Hp} (F : Fx K own cc nL fr mc ms) {x : Int32} {off : Int} {tgt : Nat} (d : decode cc pc = .ok (.ifCond .le off, 3)) (ht : (pc : Int) + off = (tgt : Int)) (kt : x ≤ 0 → Go K k n tgt ls st hp) (kf : ¬ x ≤ 0 → Go K k n (pc + 3) ls st hp) : Go K k n pc ls (.int x :: st) hp := by
  obtain ⟨p, l, e, R, s, m, args, below, meth, c, D, cA, A, Q, nL', n0, ad0⟩ := K
  obtain ⟨hx, hb, hml, hnl, hown, hts, hK, hA, hfr, hlo, hmc, hms⟩ := F
  intro hcl h0 ad H locs LS h1 h2 h3 h4 h5
  exact lv_if_le hx hb d ht (fun q => kt q (⟨hcl.1, clS_tail hcl.2.1, hcl.2.2⟩) h0 ad H locs LS h1 h2 h3 h4 h5) (fun q => kf q (⟨hcl.1, clS_tail hcl.2.1, hcl.2.2⟩) h0 ad H locs LS h1 h2 h3 h4 h5)
theorem g_ic_le {K : Cx} {own : String} {cc : ByteArray} {nL fr mc ms k n pc : Nat} {ls : List (Nat × Value)} {st : List Value} {hp : Hp} (F : Fx K own cc nL fr mc ms) {x y : Int32} {off : Int} {tgt : Nat} (d : decode cc pc = .ok (.if_icmp .le off, 3)) (ht : (pc : Int) + off = (tgt : Int)) (kt : x ≤ y → Go K k n tgt ls st hp) (kf : ¬ x ≤ y → Go K k n (pc + 3) ls st hp) : Go K k n pc ls (.int y :: .int x :: st) hp := by
  obtain ⟨p, l, e, R, s, m, args, below, meth, c, D, cA, A, Q, nL', n0, ad0⟩ := K
  obtain ⟨hx, hb, hml, hnl, hown, hts, hK, hA, hfr, hlo, hmc, hms⟩ := F
  intro hcl h0 ad H locs LS h1 h2 h3 h4 h5
  exact lv_icmp_le hx hb d ht (fun q => kt q (⟨hcl.1, clS_tail (clS_tail hcl.2.1), hcl.2.2⟩) h0 ad H locs LS h1 h2 h3 h4 h5) (fun q => kf q (⟨hcl.1, clS_tail (clS_tail hcl.2.1), hcl.2.2⟩) h0 ad H locs LS h1 h2 h3 h4 h5)
theorem g_ifnonnull {K : Cx} {own : String} {cc : ByteArray} {nL fr mc ms k n pc : Nat} {ls : List (Nat × Value)} {st : List Value} {hp : Hp} (F : Fx K own cc nL fr mc ms) {x : Nat} {off : Int} {tgt : Nat} (d : decode cc pc = .ok (.ifnonnull off, 3)) (ht : (pc : Int) + off = (tgt : Int)) (kk : Go K k n (tgt) (ls) (st) (hp)) : Go K k n (pc) (ls) (.ref x :: st) (hp) := by
  obtain ⟨p, l, e, R, s, m, args, below, meth, c, D, cA, A, Q, nL', n0, ad0⟩ := K
  obtain ⟨hx, hb, hml, hnl, hown, hts, hK, hA, hfr, hlo, hmc, hms⟩ := F
  intro hcl h0 ad H locs LS h1 h2 h3 h4 h5
  exact lv_ifnonnull hx hb d ht (kk (⟨hcl.1, clS_tail hcl.2.1, hcl.2.2⟩) h0 ad H locs LS h1 h2 h3 h4 h5)
theorem g_ifnull {K : Cx} {own : String} {cc : ByteArray} {nL fr mc ms k n pc : Nat} {ls : List (Nat × Value)} {st : List Value} {hp : Hp} (F : Fx K own cc nL fr mc ms) {x : Nat} {off : Int} (d : decode cc pc = .ok (.ifnull off, 3)) (kk : Go K k n (pc + 3) (ls) (st) (hp)) : Go K k n (pc) (ls) (.ref x :: st) (hp) := by
  obtain ⟨p, l, e, R, s, m, args, below, meth, c, D, cA, A, Q, nL', n0, ad0⟩ := K
  obtain ⟨hx, hb, hml, hnl, hown, hts, hK, hA, hfr, hlo, hmc, hms⟩ := F
  intro hcl h0 ad H locs LS h1 h2 h3 h4 h5
  exact lv_ifnull hx hb d (kk (⟨hcl.1, clS_tail hcl.2.1, hcl.2.2⟩) h0 ad H locs LS h1 h2 h3 h4 h5)
theorem g_ifnullN {K : Cx} {own : String} {cc : ByteArray} {nL fr mc ms k n pc : Nat} {ls : List (Nat × Value)} {st : List Value} {hp : Hp} (F : Fx K own cc nL fr mc ms) {off : Int} {tgt : Nat} (d : decode cc pc = .ok (.ifnull off, 3)) (ht : (pc : Int) + off = (tgt : Int)) (kk : Go K k n (tgt) (ls) (st) (hp)) : Go K k n (pc) (ls) (.null :: st) (hp) := by
  obtain ⟨p, l, e, R, s, m, args, below, meth, c, D, cA, A, Q, nL', n0, ad0⟩ := K
  obtain ⟨hx, hb, hml, hnl, hown, hts, hK, hA, hfr, hlo, hmc, hms⟩ := F
  intro hcl h0 ad H locs LS h1 h2 h3 h4 h5
  exact lv_ifnullN hx hb d ht (kk (⟨hcl.1, clS_tail hcl.2.1, hcl.2.2⟩) h0 ad H locs LS h1 h2 h3 h4 h5)
theorem g_ifnonnullN {K : Cx} {own : String} {cc : ByteArray} {nL fr mc ms k n pc : Nat} {ls : List (Nat × Value)} {st : List Value} {hp : Hp} (F : Fx K own cc nL fr mc ms) {off : Int} (d : decode cc pc = .ok (.ifnonnull off, 3)) (kk : Go K k n (pc + 3) (ls) (st) (hp)) : Go K k n (pc) (ls) (.null :: st) (hp) := by
  obtain ⟨p, l, e, R, s, m, args, below, meth, c, D, cA, A, Q, nL', n0, ad0⟩ := K
  obtain ⟨hx, hb, hml, hnl, hown, hts, hK, hA, hfr, hlo, hmc, hms⟩ := F
  intro hcl h0 ad H locs LS h1 h2 h3 h4 h5
  exact lv_ifnonnullN hx hb d (kk (⟨hcl.1, clS_tail hcl.2.1, hcl.2.2⟩) h0 ad H locs LS h1 h2 h3 h4 h5)
theorem g_lookup {K : Cx} {own : String} {cc : ByteArray} {nL fr mc ms k n pc : Nat} {ls : List (Nat × Value)} {st : List Value} {hp : Hp} (F : Fx K own cc nL fr mc ms) {dflt : Int} {ps : Array (Int × Int)} {len : Nat} {x : Int32} {off : Int} {tgt : Nat} (d : decode cc pc = .ok (.lookupswitch dflt ps, len)) (hs : (ps.toList.zip (ps.toList.drop 1)).all (fun (a, next) => a.1 < next.1) = true) (ho : Op.lookupswitch.offset ps.toList dflt x.toInt = off) (ht : (pc : Int) + off = (tgt : Int)) (kk : Go K k n (tgt) (ls) (st) (hp)) : Go K k n (pc) (ls) (.int x :: st) (hp) := by
  obtain ⟨p, l, e, R, s, m, args, below, meth, c, D, cA, A, Q, nL', n0, ad0⟩ := K
  obtain ⟨hx, hb, hml, hnl, hown, hts, hK, hA, hfr, hlo, hmc, hms⟩ := F
  intro hcl h0 ad H locs LS h1 h2 h3 h4 h5
  exact lv_lookup hx hb d hs ho ht (kk (⟨hcl.1, clS_tail hcl.2.1, hcl.2.2⟩) h0 ad H locs LS h1 h2 h3 h4 h5)
theorem g_tableOut {K : Cx} {own : String} {cc : ByteArray} {nL fr mc ms k n pc : Nat} {ls : List (Nat × Value)} {st : List Value} {hp : Hp} (F : Fx K own cc nL fr mc ms) {dflt lo hi : Int} {offs : Array Int} {len : Nat} {x : Int32} {tgt : Nat} (d : decode cc pc = .ok (.tableswitch dflt lo hi offs, len)) (h : x.toInt < lo ∨ hi < x.toInt) (ht : (pc : Int) + dflt = (tgt : Int)) (kk : Go K k n (tgt) (ls) (st) (hp)) : Go K k n (pc) (ls) (.int x :: st) (hp) := by
  obtain ⟨p, l, e, R, s, m, args, below, meth, c, D, cA, A, Q, nL', n0, ad0⟩ := K
  obtain ⟨hx, hb, hml, hnl, hown, hts, hK, hA, hfr, hlo, hmc, hms⟩ := F
  intro hcl h0 ad H locs LS h1 h2 h3 h4 h5
  exact lv_tableOut hx hb d h ht (kk (⟨hcl.1, clS_tail hcl.2.1, hcl.2.2⟩) h0 ad H locs LS h1 h2 h3 h4 h5)
theorem g_tableIn {K : Cx} {own : String} {cc : ByteArray} {nL fr mc ms k n pc : Nat} {ls : List (Nat × Value)} {st : List Value} {hp : Hp} (F : Fx K own cc nL fr mc ms) {dflt lo hi : Int} {offs : Array Int} {len : Nat} {x : Int32} {off : Int} {tgt : Nat} (d : decode cc pc = .ok (.tableswitch dflt lo hi offs, len)) (h6 : ¬ x.toInt < lo) (h7 : ¬ hi < x.toInt) (ho : offs[(x.toInt - lo).toNat]? = some off) (ht : (pc : Int) + off = (tgt : Int)) (kk : Go K k n (tgt) (ls) (st) (hp)) : Go K k n (pc) (ls) (.int x :: st) (hp) := by
  obtain ⟨p, l, e, R, s, m, args, below, meth, c, D, cA, A, Q, nL', n0, ad0⟩ := K
  obtain ⟨hx, hb, hml, hnl, hown, hts, hK, hA, hfr, hlo, hmc, hms⟩ := F
  intro hcl h0 ad H locs LS h1 h2 h3 h4 h5
  exact lv_tableIn hx hb d h6 h7 ho ht (kk (⟨hcl.1, clS_tail hcl.2.1, hcl.2.2⟩) h0 ad H locs LS h1 h2 h3 h4 h5)
/-- a class of ours by its number: the tables' words on its fields -/
def Fc (ci : Nat) (C : String) (T : u_T) (N : Nat) (ty : Nat → FieldType) : Prop := vwCl[ci]? = some (C, T, N) ∧ (∀ w ∈ u_ws C T N, w ∈ TB) ∧ (∀ k, k < N → parseFieldDescriptor (T k).2.2.1 = some (ty k)) ∧ (∀ a, a < N → ∀ b, b < N → a ≠ b → (T a).2.1 ≠ (T b).2.1)
/-- the pool's entry idx of the class own names field j of class ci -/
def FL (own : String) (idx ci j : Nat) (ty : FieldType) (fin : Bool) : Prop := ∃ (C : String) (T : u_T) (N : Nat) (t : Nat → FieldType), Fc ci C T N t ∧ j < N ∧ (T j).1 = C ∧ Cond.fieldLink own idx C (T j).2.1 (T j).2.2.1 ∈ TB ∧ t j = ty ∧ (T j).2.2.2 = fin
theorem g_getf {K : Cx} {own : String} {cc : ByteArray} {nL fr mc ms k n pc : Nat} {ls : List (Nat × Value)} {st : List Value} {hp : Hp} (F : Fx K own cc nL fr mc ms) {idx ci j q : Nat} {ty : FieldType} {fin : Bool} {fs : List Value} {v : Value} (f : FL own idx ci j ty fin) (d : decode cc pc = .ok (.getfield idx, 3)) (he : hp[q]? = some (.inr (ci, fs))) (hv : fs[j]? = some v) (kk : Go K k n (pc + 3) (ls) (v :: st) (hp)) : Go K k n (pc) (ls) (.ref q :: st) (hp) := by
  obtain ⟨p, l, e, R, s, m, args, below, meth, c, D, cA, A, Q, nL', n0, ad0⟩ := K
  obtain ⟨hx, hb, hml, hnl, hown, hts, hK, hA, hfr, hlo, hmc, hms⟩ := F
  intro hcl h0 ad H locs LS h1 h2 h3 h4 h5
  obtain ⟨C, T, N, t, ⟨f1, f2, f3, f4⟩, g1, g2, g3, g4, g5⟩ := f
  exact va_get (Ts := TB) hx hb hts f2 hown hK.1 h2 q (wM_get he) f1 j g1 (hts _ g3) (fun x hx => by rw [g2] at hx; exact hx) (v := vM ad v) (by rw [List.getElem?_map, hv]; rfl) d (kk ⟨hcl.1, clS_push (clH_get hcl.2.2 he v (List.mem_of_getElem? hv)) (clS_tail hcl.2.1), hcl.2.2⟩ h0 ad H locs LS h1 h2 h3 h4 h5)
theorem g_putf {K : Cx} {own : String} {cc : ByteArray} {nL fr mc ms k n pc : Nat} {ls : List (Nat × Value)} {st : List Value} {hp : Hp} (F : Fx K own cc nL fr mc ms) {idx ci j q : Nat} {fs : List Value} {x : Int32} (f : FL own idx ci j .int false) (d : decode cc pc = .ok (.putfield idx, 3)) (he : hp[q]? = some (.inr (ci, fs))) (hj : j < fs.length) (kk : Go K k n (pc + 3) (ls) (st) (hp.set q (.inr (ci, fs.set j (.int x))))) : Go K k n (pc) (ls) (.int x :: .ref q :: st) (hp) := by
  obtain ⟨p, l, e, R, s, m, args, below, meth, c, D, cA, A, Q, nL', n0, ad0⟩ := K
  obtain ⟨hx, hb, hml, hnl, hown, hts, hK, hA, hfr, hlo, hmc, hms⟩ := F
  intro hcl h0 ad H locs LS h1 h2 h3 h4 h5
  obtain ⟨C, T, N, t, ⟨f1, f2, f3, f4⟩, g1, g2, g3, g4, g5⟩ := f
  have e : (wM ad cA hp).set q (ad q, .inr (ci, (fs.map (vM ad)).set j (Value.int x))) = wM ad cA (hp.set q (.inr (ci, fs.set j (.int x)))) := by
    rw [show Value.int x = vM ad (.int x) from rfl, ← List.map_set]
    exact wM_set q (.inr (ci, fs.set j (.int x)))
  refine va_put (Ts := TB) (ty := .int) (v := .int x) hx hb hts f2 t f3 f4 hown hK.1 h2 h3 h4 q (wM_get he) f1 j g1 (hts _ g3) (fun x hx => by rw [g2] at hx; exact hx) g5 (g4 ▸ f3 j g1) rfl rfl (by rw [List.length_map]; exact hj) d (fun H1 locs1 a1 a2 a3 => ?_)
  rw [e] at a1 a2
  have hlen : (hp.set q (.inr (ci, fs.set j (.int x)))).length = hp.length := List.length_set
  refine kk ?_ (by rw [hlen]; exact h0) ad H1 locs1 LS h1 a1 a2 a3 h5
  unfold clAll
  rw [hlen]
  exact ⟨hcl.1, clS_tail (clS_tail hcl.2.1), clH_set (fun x hx => (List.mem_or_eq_of_mem_set hx).elim (clH_get hcl.2.2 he x) (fun z => z ▸ clS_head hcl.2.1)) hcl.2.2⟩
theorem g_putz {K : Cx} {own : String} {cc : ByteArray} {nL fr mc ms k n pc : Nat} {ls : List (Nat × Value)} {st : List Value} {hp : Hp} (F : Fx K own cc nL fr mc ms) {idx ci j q : Nat} {fs : List Value} {x : Int32} (f : FL own idx ci j .boolean false) (d : decode cc pc = .ok (.putfield idx, 3)) (he : hp[q]? = some (.inr (ci, fs))) (hj : j < fs.length) (hz : narrow .boolean (.int x) = .int x) (hz2 : fits .boolean (.int x) = true) (kk : Go K k n (pc + 3) (ls) (st) (hp.set q (.inr (ci, fs.set j (.int x))))) : Go K k n (pc) (ls) (.int x :: .ref q :: st) (hp) := by
  obtain ⟨p, l, e, R, s, m, args, below, meth, c, D, cA, A, Q, nL', n0, ad0⟩ := K
  obtain ⟨hx, hb, hml, hnl, hown, hts, hK, hA, hfr, hlo, hmc, hms⟩ := F
  intro hcl h0 ad H locs LS h1 h2 h3 h4 h5
  obtain ⟨C, T, N, t, ⟨f1, f2, f3, f4⟩, g1, g2, g3, g4, g5⟩ := f
  have e : (wM ad cA hp).set q (ad q, .inr (ci, (fs.map (vM ad)).set j (Value.int x))) = wM ad cA (hp.set q (.inr (ci, fs.set j (.int x)))) := by
    rw [show Value.int x = vM ad (.int x) from rfl, ← List.map_set]
    exact wM_set q (.inr (ci, fs.set j (.int x)))
  refine va_put (Ts := TB) (ty := .boolean) (v := .int x) hx hb hts f2 t f3 f4 hown hK.1 h2 h3 h4 q (wM_get he) f1 j g1 (hts _ g3) (fun x hx => by rw [g2] at hx; exact hx) g5 (g4 ▸ f3 j g1) hz hz2 (by rw [List.length_map]; exact hj) d (fun H1 locs1 a1 a2 a3 => ?_)
  rw [e] at a1 a2
  have hlen : (hp.set q (.inr (ci, fs.set j (.int x)))).length = hp.length := List.length_set
  refine kk ?_ (by rw [hlen]; exact h0) ad H1 locs1 LS h1 a1 a2 a3 h5
  unfold clAll
  rw [hlen]
  exact ⟨hcl.1, clS_tail (clS_tail hcl.2.1), clH_set (fun x hx => (List.mem_or_eq_of_mem_set hx).elim (clH_get hcl.2.2 he x) (fun z => z ▸ clS_head hcl.2.1)) hcl.2.2⟩
theorem g_iald {K : Cx} {own : String} {cc : ByteArray} {nL fr mc ms k n pc : Nat} {ls : List (Nat × Value)} {st : List Value} {hp : Hp} (F : Fx K own cc nL fr mc ms) {q a : Nat} {f : Nat → Int32} {i : Int32} (d : decode cc pc = .ok (.iaload, 1)) (ha : hp[q]? = some (.inl (.int, a, .inl f))) (hi : vp_in i a) (kk : Go K k n (pc + 1) (ls) (.int (f i.toNatClampNeg) :: st) (hp)) : Go K k n (pc) (ls) (.int i :: .ref q :: st) (hp) := by
  obtain ⟨p, l, e, R, s, m, args, below, meth, c, D, cA, A, Q, nL', n0, ad0⟩ := K
  obtain ⟨hx, hb, hml, hnl, hown, hts, hK, hA, hfr, hlo, hmc, hms⟩ := F
  intro hcl h0 ad H locs LS h1 h2 h3 h4 h5
  exact va_iald hx hb hK.1 h2 q 0 (wM_get ha) rfl hi d (kk (⟨hcl.1, clS_push trivial (clS_tail (clS_tail hcl.2.1)), hcl.2.2⟩) h0 ad H locs LS h1 h2 h3 h4 h5)
theorem g_lald {K : Cx} {own : String} {cc : ByteArray} {nL fr mc ms k n pc : Nat} {ls : List (Nat × Value)} {st : List Value} {hp : Hp} (F : Fx K own cc nL fr mc ms) {q a : Nat} {f : Nat → Int64} {i : Int32} (d : decode cc pc = .ok (.laload, 1)) (ha : hp[q]? = some (.inl (.long, a, .inr (.inl f)))) (hi : vp_in i a) (kk : Go K k n (pc + 1) (ls) (.long (f i.toNatClampNeg) :: st) (hp)) : Go K k n (pc) (ls) (.int i :: .ref q :: st) (hp) := by
  obtain ⟨p, l, e, R, s, m, args, below, meth, c, D, cA, A, Q, nL', n0, ad0⟩ := K
  obtain ⟨hx, hb, hml, hnl, hown, hts, hK, hA, hfr, hlo, hmc, hms⟩ := F
  intro hcl h0 ad H locs LS h1 h2 h3 h4 h5
  exact va_lald hx hb hK.1 h2 q 1 (wM_get ha) rfl hi d (kk (⟨hcl.1, clS_push trivial (clS_tail (clS_tail hcl.2.1)), hcl.2.2⟩) h0 ad H locs LS h1 h2 h3 h4 h5)
theorem g_iast {K : Cx} {own : String} {cc : ByteArray} {nL fr mc ms k n pc : Nat} {ls : List (Nat × Value)} {st : List Value} {hp : Hp} (F : Fx K own cc nL fr mc ms) {q a : Nat} {f : Nat → Int32} {i x : Int32} (d : decode cc pc = .ok (.iastore, 1)) (ha : hp[q]? = some (.inl (.int, a, .inl f))) (hi : vp_in i a) (kk : Go K k n (pc + 1) (ls) (st) (hp.set q (.inl (.int, a, .inl (upd f i.toNatClampNeg x))))) : Go K k n (pc) (ls) (.int x :: .int i :: .ref q :: st) (hp) := by
  obtain ⟨p, l, e, R, s, m, args, below, meth, c, D, cA, A, Q, nL', n0, ad0⟩ := K
  obtain ⟨hx, hb, hml, hnl, hown, hts, hK, hA, hfr, hlo, hmc, hms⟩ := F
  intro hcl h0 ad H locs LS h1 h2 h3 h4 h5
  refine va_iast hx hb hK.1 h2 h3 h4 q 0 (wM_get ha) rfl hi d (fun H1 locs1 a1 a2 a3 => ?_)
  have e : (wM ad cA hp).set q (ad q, .inl (cA .int, a, .inl (upd f i.toNatClampNeg x))) = wM ad cA (hp.set q (.inl (.int, a, .inl (upd f i.toNatClampNeg x)))) := wM_set q (.inl (.int, a, .inl (upd f i.toNatClampNeg x)))
  rw [e] at a1 a2
  refine kk ?_ (by rw [List.length_set]; exact h0) ad H1 locs1 LS h1 a1 a2 a3 h5
  unfold clAll
  rw [List.length_set]
  exact ⟨hcl.1, clS_tail (clS_tail (clS_tail hcl.2.1)), clH_set trivial hcl.2.2⟩
theorem g_last {K : Cx} {own : String} {cc : ByteArray} {nL fr mc ms k n pc : Nat} {ls : List (Nat × Value)} {st : List Value} {hp : Hp} (F : Fx K own cc nL fr mc ms) {q a : Nat} {f : Nat → Int64} {i : Int32} {x : Int64} (d : decode cc pc = .ok (.lastore, 1)) (ha : hp[q]? = some (.inl (.long, a, .inr (.inl f)))) (hi : vp_in i a) (kk : Go K k n (pc + 1) (ls) (st) (hp.set q (.inl (.long, a, .inr (.inl (vp_updL f i.toNatClampNeg x)))))) : Go K k n (pc) (ls) (.long x :: .int i :: .ref q :: st) (hp) := by
  obtain ⟨p, l, e, R, s, m, args, below, meth, c, D, cA, A, Q, nL', n0, ad0⟩ := K
  obtain ⟨hx, hb, hml, hnl, hown, hts, hK, hA, hfr, hlo, hmc, hms⟩ := F
  intro hcl h0 ad H locs LS h1 h2 h3 h4 h5
  refine va_last hx hb hK.1 h2 h3 h4 q 1 (wM_get ha) rfl hi d (fun H1 locs1 a1 a2 a3 => ?_)
  have e : (wM ad cA hp).set q (ad q, .inl (cA .long, a, .inr (.inl (vp_updL f i.toNatClampNeg x)))) = wM ad cA (hp.set q (.inl (.long, a, .inr (.inl (vp_updL f i.toNatClampNeg x))))) := wM_set q (.inl (.long, a, .inr (.inl (vp_updL f i.toNatClampNeg x))))
  rw [e] at a1 a2
  refine kk ?_ (by rw [List.length_set]; exact h0) ad H1 locs1 LS h1 a1 a2 a3 h5
  unfold clAll
  rw [List.length_set]
  exact ⟨hcl.1, clS_tail (clS_tail (clS_tail hcl.2.1)), clH_set trivial hcl.2.2⟩
theorem g_aald {K : Cx} {own : String} {cc : ByteArray} {nL fr mc ms k n pc : Nat} {ls : List (Nat × Value)} {st : List Value} {hp : Hp} (F : Fx K own cc nL fr mc ms) {q a j : Nat} {f : Nat → Option Nat} {i : Int32} (d : decode cc pc = .ok (.aaload, 1)) (ha : hp[q]? = some (.inl (.object RX2, a, .inr (.inr (.inr (.inr f)))))) (hi : vp_in i a) (hv : f i.toNatClampNeg = some j) (kk : Go K k n (pc + 1) (ls) (.ref j :: st) (hp)) : Go K k n (pc) (ls) (.int i :: .ref q :: st) (hp) := by
  obtain ⟨p, l, e, R, s, m, args, below, meth, c, D, cA, A, Q, nL', n0, ad0⟩ := K
  obtain ⟨hx, hb, hml, hnl, hown, hts, hK, hA, hfr, hlo, hmc, hms⟩ := F
  intro hcl h0 ad H locs LS h1 h2 h3 h4 h5
  refine va_aldq (C := RX2) hx hb hK.1 h2 q 2 (wM_get ha) rfl hi d ?_
  show W _ _ _ _ _ _ _ _ _ _ _ _ _ _ _ (F0 m (pc + 1) LS (va_rf ((f i.toNatClampNeg).map ad) :: st.map (vM ad)))
  rw [hv]
  exact kk ⟨hcl.1, clS_push (clH_get hcl.2.2 ha _ j hv) (clS_tail (clS_tail hcl.2.1)), hcl.2.2⟩ h0 ad H locs LS h1 h2 h3 h4 h5
theorem g_alen {K : Cx} {own : String} {cc : ByteArray} {nL fr mc ms k n pc : Nat} {ls : List (Nat × Value)} {st : List Value} {hp : Hp} (F : Fx K own cc nL fr mc ms) {q a : Nat} {f : Nat → Int32} {v : Int32} (d : decode cc pc = .ok (.arraylength, 1)) (ha : hp[q]? = some (.inl (.int, a, .inl f))) (hv : Int32.ofNat a = v) (kk : Go K k n (pc + 1) (ls) (.int v :: st) (hp)) : Go K k n (pc) (ls) (.ref q :: st) (hp) := by
  obtain ⟨p, l, e, R, s, m, args, below, meth, c, D, cA, A, Q, nL', n0, ad0⟩ := K
  obtain ⟨hx, hb, hml, hnl, hown, hts, hK, hA, hfr, hlo, hmc, hms⟩ := F
  intro hcl h0 ad H locs LS h1 h2 h3 h4 h5
  exact va_alen hx hb hK.1 h2 q 0 (wM_get ha) (ty := .int) rfl hv d (kk (⟨hcl.1, clS_push trivial (clS_tail hcl.2.1), hcl.2.2⟩) h0 ad H locs LS h1 h2 h3 h4 h5)
theorem g_mmax {K : Cx} {own : String} {cc : ByteArray} {nL fr mc ms k n pc : Nat} {ls : List (Nat × Value)} {st : List Value} {hp : Hp} (F : Fx K own cc nL fr mc ms) {idx : Nat} {x y : Int32} (d : decode cc pc = .ok (.invokestatic idx, 3)) (hl : Cond.methodLink own idx Lib.Math.max.name ∈ TB) (hf : 1 ≤ fr) (hr : (st.map fun v => v.category).sum ≤ 8) (hk : k ≤ mc) (hn : n ≤ ms) (kk : Go K k n (pc + 3) (ls) (.int (if x < y then y else x) :: st) (hp)) : Go K k n (pc) (ls) (.int y :: .int x :: st) (hp) := by
  obtain ⟨p, l, e, R, s, m, args, below, meth, c, D, cA, A, Q, nL', n0, ad0⟩ := K
  obtain ⟨hx, hb, hml, hnl, hown, hts, hK, hA, hfr, hlo, hmc, hms⟩ := F
  intro hcl h0 ad H locs LS h1 h2 h3 h4 h5
  have hsz : c.maxLocals = LS.size := by rw [hml, ← hnl]; exact h5.1.symm
  have hcat : ((st.map (vM ad)).map fun v => v.category).sum = (st.map fun v => v.category).sum := by rw [List.map_map]; congr 1; exact List.map_congr_left (fun v _ => vM_cat ad v)
  refine va_mmax hx hb hsz hown (hts _ hl) (hts _ tb_max_s) (hts _ tb_mathini) (hts _ tb_max_c) (Nat.le_trans hf hfr) (by rw [hcat]; omega) ?_ ?_ d (kk (⟨hcl.1, clS_push trivial (clS_tail (clS_tail hcl.2.1)), hcl.2.2⟩) h0 ad H locs LS h1 h2 h3 h4 h5)
  · exact Nat.le_trans hk hmc
  · exact Nat.le_trans hn hms
theorem g_mmin {K : Cx} {own : String} {cc : ByteArray} {nL fr mc ms k n pc : Nat} {ls : List (Nat × Value)} {st : List Value} {hp : Hp} (F : Fx K own cc nL fr mc ms) {idx : Nat} {x y : Int32} (d : decode cc pc = .ok (.invokestatic idx, 3)) (hl : Cond.methodLink own idx Lib.Math.min.name ∈ TB) (hf : 1 ≤ fr) (hr : (st.map fun v => v.category).sum ≤ 8) (hk : k ≤ mc) (hn : n ≤ ms) (kk : Go K k n (pc + 3) (ls) (.int (if y < x then y else x) :: st) (hp)) : Go K k n (pc) (ls) (.int y :: .int x :: st) (hp) := by
  obtain ⟨p, l, e, R, s, m, args, below, meth, c, D, cA, A, Q, nL', n0, ad0⟩ := K
  obtain ⟨hx, hb, hml, hnl, hown, hts, hK, hA, hfr, hlo, hmc, hms⟩ := F
  intro hcl h0 ad H locs LS h1 h2 h3 h4 h5
  have hsz : c.maxLocals = LS.size := by rw [hml, ← hnl]; exact h5.1.symm
  have hcat : ((st.map (vM ad)).map fun v => v.category).sum = (st.map fun v => v.category).sum := by rw [List.map_map]; congr 1; exact List.map_congr_left (fun v _ => vM_cat ad v)
  refine va_mmin hx hb hsz hown (hts _ hl) (hts _ tb_min_s) (hts _ tb_mathini) (hts _ tb_min_c) (Nat.le_trans hf hfr) (by rw [hcat]; omega) ?_ ?_ d (kk (⟨hcl.1, clS_push trivial (clS_tail (clS_tail hcl.2.1)), hcl.2.2⟩) h0 ad H locs LS h1 h2 h3 h4 h5)
  · exact Nat.le_trans hk hmc
  · exact Nat.le_trans hn hms
theorem g_mabs {K : Cx} {own : String} {cc : ByteArray} {nL fr mc ms k n pc : Nat} {ls : List (Nat × Value)} {st : List Value} {hp : Hp} (F : Fx K own cc nL fr mc ms) {idx : Nat} {x : Int32} (d : decode cc pc = .ok (.invokestatic idx, 3)) (hl : Cond.methodLink own idx Lib.Math.abs.name ∈ TB) (hf : 1 ≤ fr) (hr : (st.map fun v => v.category).sum ≤ 8) (hk : k ≤ mc) (hn : n ≤ ms) (kk : Go K k n (pc + 3) (ls) (.int (if 0 ≤ x then x else 0 - x) :: st) (hp)) : Go K k n (pc) (ls) (.int x :: st) (hp) := by
  obtain ⟨p, l, e, R, s, m, args, below, meth, c, D, cA, A, Q, nL', n0, ad0⟩ := K
  obtain ⟨hx, hb, hml, hnl, hown, hts, hK, hA, hfr, hlo, hmc, hms⟩ := F
  intro hcl h0 ad H locs LS h1 h2 h3 h4 h5
  have hsz : c.maxLocals = LS.size := by rw [hml, ← hnl]; exact h5.1.symm
  have hcat : ((st.map (vM ad)).map fun v => v.category).sum = (st.map fun v => v.category).sum := by rw [List.map_map]; congr 1; exact List.map_congr_left (fun v _ => vM_cat ad v)
  refine va_mabs hx hb hsz hown (hts _ hl) (hts _ tb_abs_s) (hts _ tb_mathini) (hts _ tb_abs_c) (Nat.le_trans hf hfr) (by rw [hcat]; omega) ?_ ?_ d (kk (⟨hcl.1, clS_push trivial (clS_tail hcl.2.1), hcl.2.2⟩) h0 ad H locs LS h1 h2 h3 h4 h5)
  · exact Nat.le_trans hk hmc
  · exact Nat.le_trans hn hms
/-! arraycopy between int arrays -/
theorem g_acopy {K : Cx} {own : String} {cc : ByteArray} {nL fr mc ms k n pc : Nat} {ls : List (Nat × Value)} {st : List Value} {hp : Hp} (F : Fx K own cc nL fr mc ms) {idx q0 q1 n0' n1' : Nat} {f g : Nat → Int32} {sp dp len : Int32} (d : decode cc pc = .ok (.invokestatic idx, 3)) (hl : Cond.methodLink own idx arraycopyName ∈ TB) (hf : 2 ≤ fr) (hr : (st.map fun v => v.category).sum ≤ 8)
    (e0 : hp[q0]? = some (.inl (.int, n0', .inl f))) (e1 : hp[q1]? = some (.inl (.int, n1', .inl g))) (c1 : ¬ sp < 0) (c2 : ¬ dp < 0) (c3 : ¬ len < 0) (c4 : sp.toNatClampNeg + len.toNatClampNeg ≤ n0') (c5 : dp.toNatClampNeg + len.toNatClampNeg ≤ n1')
    (kk : Go K k n (pc + 3) ls st (hp.set q1 (.inl (.int, n1', .inl (va_cpy f g sp.toNatClampNeg dp.toNatClampNeg len.toNatClampNeg))))) : Go K k n pc ls (.int len :: .int dp :: .ref q1 :: .int sp :: .ref q0 :: st) hp := by
  obtain ⟨p, l, e, R, s, m, args, below, meth, c, D, cA, A, Q, nL', n0, ad0⟩ := K
  obtain ⟨hx, hb, hml, hnl, hown, hts, hK, hA, hfr, hlo, hmc, hms⟩ := F
  intro hcl h0 ad H locs LS h1 h2 h3 h4 h5
  have hsz : c.maxLocals = LS.size := by rw [hml, ← hnl]; exact h5.1.symm
  have hcat : ((st.map (vM ad)).map fun v => v.category).sum = (st.map fun v => v.category).sum := by rw [List.map_map]; congr 1; exact List.map_congr_left (fun v _ => vM_cat ad v)
  refine va_copyi hx hb hsz hown (hts _ hl) (hts _ tb_copy_n) (hts _ tb_copy_s) (hts _ tb_copy_i) hK.1 h2 h3 h4 q0 q1 0 0 (wM_get e0) (wM_get e1) rfl rfl rfl c1 c2 c3 c4 c5 (fun _ _ => rfl) (Nat.le_trans (by omega) hfr) (by rw [hcat]; have e9 : nativeFrameWords "java/lang/System" "arraycopy" 5 + 11 ≤ 72 := tb_copy_w; omega) d (fun H1 locs1 a1 a2 a3 => ?_)
  have e9 := wM_set (ad := ad) (cA := cA) (hp := hp) q1 (.inl (.int, n1', .inl (va_cpy f g sp.toNatClampNeg dp.toNatClampNeg len.toNatClampNeg)))
  replace a1 := e9 ▸ a1
  replace a2 := e9 ▸ a2
  refine kk ?_ (by rw [List.length_set]; exact h0) ad H1 locs1 LS h1 a1 a2 a3 h5
  unfold clAll
  rw [List.length_set]
  exact ⟨hcl.1, clS_tail (clS_tail (clS_tail (clS_tail (clS_tail hcl.2.1)))), clH_set trivial hcl.2.2⟩
/-! contracts -/
def CQ (D : va_G) (cA : FieldType → ClassId) (ad : Nat → Nat) (hp : Hp) (sz : Nat) (Qp : Option Value → Hp → Prop) (mc : Nat) : State → Outcome → State → Prop := fun st oc t =>
  (∃ (v : Option Value) (hp2 : Hp) (ad2 : Nat → Nat), oc = .returned (v.map (vM ad2)) ∧ Qp v hp2 ∧ hp2.length = hp.length + mc ∧ (∀ w, v = some w → clV hp2.length w) ∧ clH hp2.length hp2 ∧ (∀ j, j < hp.length → ad2 j = ad j) ∧ va_P D vwCl (wM ad2 cA hp2) t.heap ∧ va_D (va_A (wM ad cA hp) sz) (wM ad2 cA hp2)) ∧ va_F (va_A (wM ad cA hp) sz) st t
/-- a method's contract with handles: on cells hp it ends with Qp -/
def Ctr (y : MethodName) (cc : ByteArray) (nL : Nat) (ret : Option FieldType) (fr mc ms : Nat) (as : List Value) (hp : Hp) (Qp : Option Value → Hp → Prop) : Prop :=
  (clS hp.length as ∧ clH hp.length hp) ∧ ∀ (l : Launch) (D : va_G) (cA : FieldType → ClassId) (ad : Nat → Nat) (sz : Nat), Met l y (.code y cc nL ret :: TB) { frames := fr, cells := mc, slots := ms, locals := 40 * fr } (va_Pc (as.map (vM ad)) (fun U => U.heap.size = sz ∧ va_P D vwCl (wM ad cA hp) U.heap ∧ KK D cA U ∧ va_D (fun _ => True) (wM ad cA hp))) (fun _ => CQ D cA ad hp sz Qp mc) mc ms (va_A (wM ad cA hp) sz)
/-- what the end of the method asks -/
def Rx (K : Cx) (nm : String) (ret : Option FieldType) (hp0 : Hp) (Qp : Option Value → Hp → Prop) (mc ms : Nat) : Prop := match K with
  | (_, _, _, _, s, _, args, below, meth, _, D, cA, A, Q, _, n0, ad0) => meth.sig.returnType = ret ∧ meth.locks = false ∧ meth.name = nm ∧ n0 = hp0.length ∧ A = va_A (wM ad0 cA hp0) s.heap.size ∧ Q = MQ below (fun _ => CQ D cA ad0 hp0 s.heap.size Qp mc) args s mc ms A
theorem lv_args_map (ad : Nat → Nat) : ∀ (as : List Value) (i : Nat), lv_args i (as.map (vM ad)) = lM ad (lv_args i as)
  | [], _ => rfl
  | v :: t, i => by
    show (i, vM ad v) :: lv_args (if (vM ad v).category = 2 then i + 2 else i + 1) (t.map (vM ad)) = (i, vM ad v) :: lM ad (lv_args (if v.category = 2 then i + 2 else i + 1) t)
    rw [vM_cat, lv_args_map ad t]
theorem lg_sl_map (ad : Nat → Nat) (as : List Value) : (lg_sl (as.map (vM ad))).length = (lg_sl as).length := by
  induction as with
  | nil => rfl
  | cons v t ih =>
    simp only [lg_sl, List.map_cons, List.flatMap_cons, List.length_append] at ih ⊢
    rw [ih, vM_cat]
    by_cases h : v.category = 2 <;> simp [h]
theorem lv_args_val : ∀ (as : List Value) (i : Nat) (q : Nat × Value), q ∈ lv_args i as → q.2 ∈ as
  | v :: t, i, q, h => by
    rcases List.mem_cons.mp h with rfl | h
    · exact List.mem_cons_self
    · exact List.mem_cons_of_mem _ (lv_args_val t _ q h)
theorem Ctr.of {y : MethodName} {cc : ByteArray} {nL : Nat} {ret : Option FieldType} {fr mc ms : Nat} {as : List Value} {hp : Hp} {Qp : Option Value → Hp → Prop} (hy : plainName y.cls = true) (hn : (lg_sl as).length ≤ nL) (hc : clS hp.length as ∧ clH hp.length hp)
    (body : ∀ K : Cx, Fx K y.cls cc nL fr mc ms → Rx K y.name ret hp Qp mc ms → Go K 0 0 0 (lv_args 0 as) [] hp) : Ctr y cc nL ret fr mc ms as hp Qp := by
  refine ⟨hc, fun l D cA ad sz => ?_⟩
  refine Met.ofW (cc := cc) (maxL := nL) (ret := ret) hy rfl ?_
  intro p e s m args below meth c s₁ B hml hv
  obtain ⟨rfl, hsz, hP, hK, hD0⟩ := hv
  subst hsz
  have hts := atoms_spec (ws := .code y cc nL ret :: TB) B.pre
  have hD := hD0.self (sz := s.heap.size)
  have hl := lv_entry (as.map (vM ad)) (n := nL) (by rw [lg_sl_map]; exact hn)
  rw [lg_entry_eq]
  generalize (lg_sl (as.map (vM ad)) ++ List.replicate (nL - (lg_sl (as.map (vM ad))).length) Slot.unset).toArray = LS at hl ⊢
  rw [lv_args_map] at hl
  have G := body (p, l, e, (headSpec (.code y cc nL ret :: TB) { frames := fr, cells := mc, slots := ms, locals := 40 * fr }).room, s, m, (as.map (vM ad)).toArray, below, meth, c, D, cA, va_A (wM ad cA hp) s.heap.size, MQ below (fun _ => CQ D cA ad hp s.heap.size Qp mc) (as.map (vM ad)).toArray s mc ms (va_A (wM ad cA hp) s.heap.size), nL, hp.length, ad)
    ⟨B.exec, B.bytes, hml, rfl, findClass_of_methodNamed B.named, fun w hw => hts w (List.mem_cons_of_mem _ hw), hK, fun q h => Or.inr h, Nat.le_refl _, Nat.le_refl _, Nat.le_refl _, Nat.le_refl _⟩
    ⟨B.returns, B.notSynchronized, (name_of_methodNamed B.named B.method).1, rfl, rfl, rfl⟩
  exact G ⟨fun q hq => hc.1 _ (lv_args_val _ _ _ hq), fun v hv => absurd hv List.not_mem_nil, hc.2⟩ (Nat.le_refl _) ad s.heap [] LS (fun _ _ => rfl) hP hD va_S.rf hl
section Ends1
variable {K : Cx} {own : String} {cc : ByteArray} {nL fr mc ms k n pc : Nat} {ls : List (Nat × Value)} {hp hp0 : Hp} {nm : String} {Qp : Option Value → Hp → Prop}
theorem g_iret (F : Fx K own cc nL fr mc ms) (X : Rx K nm (some .int) hp0 Qp mc ms) {v : Int32} (d : decode cc pc = .ok (.ireturn, 1)) (hk : k ≤ mc) (hn : n ≤ ms) (hl : hp.length = hp0.length + mc) (q : Qp (some (.int v)) hp) : Go K k n pc ls [.int v] hp := by
  obtain ⟨p, l, e, R, s, m, args, below, meth, c, D, cA, A, Q, nL', n0, ad0⟩ := K
  obtain ⟨hx, hb, -⟩ := F
  obtain ⟨hr, hlocks, hnm, rfl, rfl, rfl⟩ := X
  intro hcl h0 ad H locs LS h1 h2 h3 h4 h5
  refine W.widen hk hn ?_
  exact W.iret hx hb hr (fun t ht hW => ⟨⟨some (.int v), hp, ad, rfl, q, hl, fun w hw => by cases hw; exact trivial, hcl.2.2, h1, by rw [ht]; exact h2, h3⟩, h4.F ht⟩) h4.2.2 d hlocks
theorem g_zret (F : Fx K own cc nL fr mc ms) (X : Rx K nm (some .boolean) hp0 Qp mc ms) {v : Int32} (d : decode cc pc = .ok (.ireturn, 1)) (hz : narrow .boolean (.int v) = .int v) (hk : k ≤ mc) (hn : n ≤ ms) (hl : hp.length = hp0.length + mc) (q : Qp (some (.int v)) hp) : Go K k n pc ls [.int v] hp := by
  obtain ⟨p, l, e, R, s, m, args, below, meth, c, D, cA, A, Q, nL', n0, ad0⟩ := K
  obtain ⟨hx, hb, -⟩ := F
  obtain ⟨hr, hlocks, hnm, rfl, rfl, rfl⟩ := X
  intro hcl h0 ad H locs LS h1 h2 h3 h4 h5
  refine W.widen hk hn ?_
  exact W.zret hx hb hr hz (fun t ht hW => ⟨⟨some (.int v), hp, ad, rfl, q, hl, fun w hw => by cases hw; exact trivial, hcl.2.2, h1, by rw [ht]; exact h2, h3⟩, h4.F ht⟩) h4.2.2 d hlocks
theorem g_lret (F : Fx K own cc nL fr mc ms) (X : Rx K nm (some .long) hp0 Qp mc ms) {v : Int64} (d : decode cc pc = .ok (.lreturn, 1)) (hk : k ≤ mc) (hn : n ≤ ms) (hl : hp.length = hp0.length + mc) (q : Qp (some (.long v)) hp) : Go K k n pc ls [.long v] hp := by
  obtain ⟨p, l, e, R, s, m, args, below, meth, c, D, cA, A, Q, nL', n0, ad0⟩ := K
  obtain ⟨hx, hb, -⟩ := F
  obtain ⟨hr, hlocks, hnm, rfl, rfl, rfl⟩ := X
  intro hcl h0 ad H locs LS h1 h2 h3 h4 h5
  refine W.widen hk hn ?_
  exact W.lret hx hb hr (fun t ht hW => ⟨⟨some (.long v), hp, ad, rfl, q, hl, fun w hw => by cases hw; exact trivial, hcl.2.2, h1, by rw [ht]; exact h2, h3⟩, h4.F ht⟩) h4.2.2 d hlocks
theorem g_vret (F : Fx K own cc nL fr mc ms) (X : Rx K nm none hp0 Qp mc ms) (d : decode cc pc = .ok (.return_, 1)) (hk : k ≤ mc) (hn : n ≤ ms) (hl : hp.length = hp0.length + mc) (q : Qp none hp) : Go K k n pc ls [] hp := by
  obtain ⟨p, l, e, R, s, m, args, below, meth, c, D, cA, A, Q, nL', n0, ad0⟩ := K
  obtain ⟨hx, hb, -⟩ := F
  obtain ⟨hr, hlocks, hnm, rfl, rfl, rfl⟩ := X
  intro hcl h0 ad H locs LS h1 h2 h3 h4 h5
  refine W.widen hk hn ?_
  exact W.vret hx hb hr (fun t ht hW => ⟨⟨none, hp, ad, rfl, q, hl, fun w hw => (by cases hw), hcl.2.2, h1, by rw [ht]; exact h2, h3⟩, h4.F ht⟩) h4.2.2 d hlocks
theorem g_aret (F : Fx K own cc nL fr mc ms) {C : String} (X : Rx K nm (some (.object C)) hp0 Qp mc ms) {v : Value} (d : decode cc pc = .ok (.areturn, 1)) (hv : v = .null ∨ ∃ a, v = .ref a) (hk : k ≤ mc) (hn : n ≤ ms) (hl : hp.length = hp0.length + mc) (q : Qp (some v) hp) : Go K k n pc ls [v] hp := by
  obtain ⟨p, l, e, R, s, m, args, below, meth, c, D, cA, A, Q, nL', n0, ad0⟩ := K
  obtain ⟨hx, hb, -⟩ := F
  obtain ⟨hr, hlocks, hnm, rfl, rfl, rfl⟩ := X
  intro hcl h0 ad H locs LS h1 h2 h3 h4 h5
  refine W.widen hk hn ?_
  have hv2 : vM ad v = .null ∨ ∃ a, vM ad v = .ref a := by
    rcases hv with rfl | ⟨a, rfl⟩
    · exact Or.inl rfl
    · exact Or.inr ⟨_, rfl⟩
  exact W.aret hx hb hr (Or.inl ⟨_, rfl⟩) hv2 (fun t ht hW => ⟨⟨some v, hp, ad, rfl, q, hl, fun w hw => by cases hw; exact clS_head hcl.2.1, hcl.2.2, h1, by rw [ht]; exact h2, h3⟩, h4.F ht⟩) h4.2.2 d hlocks
end Ends1
/-! calls: the callee's cells are those of the caller at the places 'is' -/
def rho (is : List Nat) (N : Nat) (k : Nat) : Nat := is.getD k (N + (k - is.length))
def putAll : Hp → List Nat → Hp → Hp
  | hp, i :: is, e :: es => putAll (hp.set i e) is es
  | hp, _, _ => hp
def place (hp : Hp) (is : List Nat) (chp : Hp) : Hp := putAll hp is (chp.map (eH (rho is hp.length))) ++ (chp.drop is.length).map (eH (rho is hp.length))
def Sub (hp : Hp) (is : List Nat) (chp : Hp) : Prop := chp.map (fun e => some (eH (fun k => is.getD k 0) e)) = is.map (fun i => hp[i]?)
theorem putAll_len : ∀ (is : List Nat) (hp es : Hp), (putAll hp is es).length = hp.length
  | [], hp, es => by cases es <;> rfl
  | i :: is, hp, [] => rfl
  | i :: is, hp, e :: es => by
    show (putAll (hp.set i e) is es).length = _
    rw [putAll_len is, List.length_set]
theorem putAll_off {k : Nat} : ∀ (is : List Nat) (hp es : Hp), k ∉ is → (putAll hp is es)[k]? = hp[k]?
  | [], hp, es, _ => by cases es <;> rfl
  | i :: is, hp, [], _ => rfl
  | i :: is, hp, e :: es, h => by
    show (putAll (hp.set i e) is es)[k]? = _
    have hne : i ≠ k := fun q => h (by rw [q]; exact List.mem_cons_self)
    rw [putAll_off is _ _ (fun q => h (List.mem_cons_of_mem _ q)), List.getElem?_set_ne hne]
theorem va_nd_cons {i : Nat} {is : List Nat} (h : va_nd (i :: is) = true) : i ∉ is ∧ va_nd is = true := by
  have hi := va_nd_inj (i :: is) h
  constructor
  · intro q
    obtain ⟨j, hj⟩ := List.getElem?_of_mem q
    have := hi 0 (j + 1) i rfl hj
    omega
  · simp only [va_nd, Bool.and_eq_true] at h
    exact h.2
theorem putAll_at {k : Nat} : ∀ (is : List Nat) (hp es : Hp) (j : Nat), va_nd is = true → is[j]? = some k → k < hp.length → is.length ≤ es.length → (putAll hp is es)[k]? = es[j]?
  | i :: is, hp, [], j, _, _, _, hle => by simp at hle
  | i :: is, hp, e :: es, 0, hnd, hj, hk, hle => by
    have e9 : i = k := Option.some.inj hj
    subst e9
    show (putAll (hp.set i e) is es)[i]? = some e
    rw [putAll_off is _ _ (va_nd_cons hnd).1, List.getElem?_set_self hk]
  | i :: is, hp, e :: es, j + 1, hnd, hj, hk, hle => by
    show (putAll (hp.set i e) is es)[k]? = es[j]?
    exact putAll_at is _ es j (va_nd_cons hnd).2 hj (by rw [List.length_set]; exact hk) (by simp at hle; omega)
theorem Sub.len {hp : Hp} {is : List Nat} {chp : Hp} (h : Sub hp is chp) : chp.length = is.length := by
  have := congrArg List.length h
  simpa using this
theorem Sub.at {hp : Hp} {is : List Nat} {chp : Hp} (h : Sub hp is chp) {j : Nat} {e : Ce} (he : chp[j]? = some e) : ∃ i, is[j]? = some i ∧ hp[i]? = some (eH (fun k => is.getD k 0) e) := by
  have h2 : (chp.map (fun e => some (eH (fun k => is.getD k 0) e)))[j]? = (is.map (fun i => hp[i]?))[j]? := by rw [h]
  rw [List.getElem?_map, he, List.getElem?_map] at h2
  cases hi : is[j]? with
  | none => rw [hi] at h2; cases h2
  | some i =>
    rw [hi] at h2
    exact ⟨i, rfl, (Option.some.inj h2).symm⟩
theorem Sub.up {hp : Hp} {is : List Nat} {chp : Hp} (h : Sub hp is chp) {j i : Nat} (hi : is[j]? = some i) : ∃ e, chp[j]? = some e ∧ hp[i]? = some (eH (fun k => is.getD k 0) e) := by
  have hj : j < chp.length := by rw [h.len]; exact (List.getElem?_eq_some_iff.mp hi).1
  have he : chp[j]? = some chp[j] := List.getElem?_eq_getElem hj
  obtain ⟨i', h1, h2⟩ := h.at he
  cases hi.symm.trans h1
  exact ⟨_, he, h2⟩
section Heaps
variable {D : va_G} {cA : FieldType → ClassId} {A : Nat → Prop} {ad : Nat → Nat} {hp chp : Hp} {is : List Nat} {H : Heap}
theorem sub_P (hs : Sub hp is chp) (h2 : va_P D vwCl (wM ad cA hp) H) : va_P D vwCl (wM (fun j => ad (is.getD j 0)) cA chp) H := by
  intro k q hq
  obtain ⟨e, he, rfl⟩ := wM_of hq
  obtain ⟨i, hi, hh⟩ := hs.at he
  have h9 := h2 i _ (wM_get hh)
  rw [eM_eH] at h9
  have : is.getD k 0 = i := by rw [List.getD_eq_getElem?_getD, hi]; rfl
  rw [← this] at h9
  exact h9
theorem sub_D (hs : Sub hp is chp) (hnd : va_nd is = true) (h3 : va_D A (wM ad cA hp)) : va_D A (wM (fun j => ad (is.getD j 0)) cA chp) := by
  have key : ∀ (j : Nat) (q : Nat × va_E), (wM (fun j => ad (is.getD j 0)) cA chp)[j]? = some q → ∃ (i : Nat) (E : va_E), is[j]? = some i ∧ (wM ad cA hp)[i]? = some (q.1, E) := by
    intro j q hq
    obtain ⟨e, he, rfl⟩ := wM_of hq
    obtain ⟨i, hi, hh⟩ := hs.at he
    have e9 : is.getD j 0 = i := by rw [List.getD_eq_getElem?_getD, hi]; rfl
    refine ⟨i, eM ad cA (eH (fun k => is.getD k 0) e), hi, ?_⟩
    show _ = some (ad (is.getD j 0), _)
    rw [e9]
    exact wM_get hh
  constructor
  · intro i j x y hx hy hxy
    obtain ⟨i1, E1, a1, a2⟩ := key i x hx
    obtain ⟨i2, E2, b1, b2⟩ := key j y hy
    have := h3.1 i1 i2 _ _ a2 b2 hxy
    subst this
    exact va_nd_inj is hnd i j i1 a1 b1
  · intro k q hq
    obtain ⟨i, E, a1, a2⟩ := key k q hq
    exact h3.2 i (q.1, E) a2
theorem sub_A (hs : Sub hp is chp) (h3 : va_D A (wM ad cA hp)) {sz : Nat} (hA : ∀ q, sz ≤ q → A q) : ∀ q, va_A (wM (fun j => ad (is.getD j 0)) cA chp) sz q → A q := by
  rintro q (⟨k, E, hk⟩ | h)
  · obtain ⟨e, he, hq⟩ := wM_of hk
    obtain ⟨i, hi, hh⟩ := hs.at he
    have e9 : is.getD k 0 = i := by rw [List.getD_eq_getElem?_getD, hi]; rfl
    have : q = ad i := by rw [← e9]; exact congrArg Prod.fst hq
    rw [this]
    exact h3.2 i _ (wM_get hh)
  · exact hA q h
def ad3 (ad ad2 : Nat → Nat) (N L : Nat) : Nat → Nat := fun k => if k < N then ad k else ad2 (L + (k - N))
theorem ad3_rho {ad2 : Nat → Nat} (hlt : ∀ i ∈ is, i < hp.length) (hag : ∀ j, j < is.length → ad2 j = ad (is.getD j 0)) (k : Nat) : ad3 ad ad2 hp.length is.length (rho is hp.length k) = ad2 k := by
  unfold rho ad3
  by_cases h : k < is.length
  · have e1 : is[k]? = some is[k] := List.getElem?_eq_getElem h
    have e2 : ∀ z, is.getD k z = is[k] := fun z => by rw [List.getD_eq_getElem?_getD, e1]; rfl
    rw [e2, if_pos (hlt _ (List.getElem_mem h)), hag k h, e2]
  · have e1 : is[k]? = none := List.getElem?_eq_none (by omega)
    have e2 : is.getD k (hp.length + (k - is.length)) = hp.length + (k - is.length) := by rw [List.getD_eq_getElem?_getD, e1]; rfl
    rw [e2, if_neg (by omega)]
    congr 1
    omega
theorem place_back {ad2 : Nat → Nat} {chp2 : Hp} {H1 : Heap} {g : Nat} (hs : Sub hp is chp) (hnd : va_nd is = true) (hcl : clH hp.length hp) (h2 : va_P D vwCl (wM ad cA hp) H) (h3 : va_D A (wM ad cA hp)) (hA : ∀ q, H.size ≤ q → A q)
    (hlen : chp2.length = chp.length + g) (hag : ∀ j, j < chp.length → ad2 j = ad (is.getD j 0)) (hP : va_P D vwCl (wM ad2 cA chp2) H1) (hD : va_D (va_A (wM (fun j => ad (is.getD j 0)) cA chp) H.size) (wM ad2 cA chp2))
    (hkeep : ∀ q : Nat, q < H.size → ¬ va_A (wM (fun j => ad (is.getD j 0)) cA chp) H.size q → H1[q]? = H[q]?) :
    va_P D vwCl (wM (ad3 ad ad2 hp.length is.length) cA (place hp is chp2)) H1 ∧ va_D A (wM (ad3 ad ad2 hp.length is.length) cA (place hp is chp2)) := by
  have hL := hs.len
  have hlt : ∀ i ∈ is, i < hp.length := by
    intro i hi
    obtain ⟨j, hj⟩ := List.getElem?_of_mem hi
    obtain ⟨e, -, he⟩ := hs.up hj
    exact (List.getElem?_eq_some_iff.mp he).1
  have hr := ad3_rho (ad := ad) (hp := hp) hlt (fun j hj => hag j (by omega))
  -- each cell of the new list: the callee's, or an old one
  have key : ∀ (k : Nat) (e : Ce), (place hp is chp2)[k]? = some e → (∃ (j : Nat) (e2 : Ce), chp2[j]? = some e2 ∧ (ad3 ad ad2 hp.length is.length k, eM (ad3 ad ad2 hp.length is.length) cA e) = (ad2 j, eM ad2 cA e2) ∧ (j < is.length → is[j]? = some k) ∧ (is.length ≤ j → k = hp.length + (j - is.length))) ∨ (k < hp.length ∧ k ∉ is ∧ hp[k]? = some e ∧ (ad3 ad ad2 hp.length is.length k, eM (ad3 ad ad2 hp.length is.length) cA e) = (ad k, eM ad cA e)) := by
    intro k e hk
    unfold place at hk
    rcases Nat.lt_or_ge k hp.length with hkl | hkl
    · rw [List.getElem?_append_left (by rw [putAll_len]; exact hkl)] at hk
      by_cases hki : k ∈ is
      · obtain ⟨j, hj⟩ := List.getElem?_of_mem hki
        rw [putAll_at is hp _ j hnd hj hkl (by rw [List.length_map]; omega), List.getElem?_map] at hk
        obtain ⟨e2, he2, rfl⟩ := Option.map_eq_some_iff.mp hk
        refine Or.inl ⟨j, e2, he2, ?_, fun _ => hj, fun h => by have := (List.getElem?_eq_some_iff.mp hj).1; omega⟩
        rw [eM_eH]
        have hjl : j < is.length := (List.getElem?_eq_some_iff.mp hj).1
        have e9 : rho is hp.length j = k := by unfold rho; rw [List.getD_eq_getElem?_getD, hj]; rfl
        have e8 := hr j
        rw [e9] at e8
        rw [e8, show (fun k => ad3 ad ad2 hp.length is.length (rho is hp.length k)) = ad2 from funext hr]
      · rw [putAll_off is _ _ hki] at hk
        refine Or.inr ⟨hkl, hki, hk, ?_⟩
        rw [eM_cong (clH_get hcl hk) (g := ad) (fun j hj => by simp [ad3, hj])]
        simp [ad3, hkl]
    · rw [List.getElem?_append_right (by rw [putAll_len]; exact hkl), putAll_len, List.getElem?_map, List.getElem?_drop] at hk
      obtain ⟨e2, he2, rfl⟩ := Option.map_eq_some_iff.mp hk
      refine Or.inl ⟨is.length + (k - hp.length), e2, he2, ?_, fun h => by omega, fun _ => by omega⟩
      rw [eM_eH, show (fun k => ad3 ad ad2 hp.length is.length (rho is hp.length k)) = ad2 from funext hr]
      congr 1
      simp only [ad3]
      rw [if_neg (by omega)]
  -- an old cell outside stays
  have apart : ∀ k, k < hp.length → k ∉ is → ∀ e, hp[k]? = some e → ad k < H.size ∧ ¬ va_A (wM (fun j => ad (is.getD j 0)) cA chp) H.size (ad k) := by
    intro k hkl hki e he
    have hl := (h2 k _ (wM_get he)).lt
    refine ⟨hl, ?_⟩
    rintro (⟨j, E, hj⟩ | h)
    · obtain ⟨e2, he2, hq⟩ := wM_of hj
      obtain ⟨i, hi, hh⟩ := hs.at he2
      have e9 : is.getD j 0 = i := by rw [List.getD_eq_getElem?_getD, hi]; rfl
      have e7 : ad k = ad i := by rw [← e9]; exact congrArg Prod.fst hq
      have := h3.1 k i _ _ (wM_get he) (wM_get hh) e7
      subst this
      exact hki (List.mem_of_getElem? hi)
    · exact absurd h (Nat.not_le.mpr hl)
  refine ⟨?_, ?_, ?_⟩
  · intro k q hq
    obtain ⟨e, he, rfl⟩ := wM_of hq
    rcases key k e he with ⟨j, e2, he2, e9, -, -⟩ | ⟨hkl, hki, he2, e9⟩
    · rw [e9]
      exact hP j _ (wM_get he2)
    · rw [e9]
      obtain ⟨a1, a2⟩ := apart k hkl hki e he2
      exact (h2 k _ (wM_get he2)).kept (hkeep _ a1 a2)
  · intro i j x y hx hy hxy
    obtain ⟨e, he, rfl⟩ := wM_of hx
    obtain ⟨e', he', rfl⟩ := wM_of hy
    rcases key i e he with ⟨a, e2, he2, e9, c1, c2⟩ | ⟨hkl, hki, he2, e9⟩ <;> rcases key j e' he' with ⟨b, e2', he2', e9', c1', c2'⟩ | ⟨hkl', hki', he2', e9'⟩
    · rw [e9, e9'] at hxy
      have hab := hD.1 a b _ _ (wM_get he2) (wM_get he2') hxy
      subst hab
      rcases Nat.lt_or_ge a is.length with z | z
      · have := (c1 z).symm.trans (c1' z)
        exact Option.some.inj this
      · rw [c2 z, c2' z]
    · rw [e9, e9'] at hxy
      have := hD.2 a _ (wM_get he2)
      dsimp only at hxy
      rw [hxy] at this
      exact absurd this (apart j hkl' hki' e' he2').2
    · rw [e9, e9'] at hxy
      have := hD.2 b _ (wM_get he2')
      dsimp only at hxy
      rw [← hxy] at this
      exact absurd this (apart i hkl hki e he2).2
    · rw [e9, e9'] at hxy
      exact h3.1 i j _ _ (wM_get he2) (wM_get he2') hxy
  · intro k q hq
    obtain ⟨e, he, rfl⟩ := wM_of hq
    rcases key k e he with ⟨j, e2, he2, e9, -, -⟩ | ⟨hkl, hki, he2, e9⟩
    · rw [e9]
      exact sub_A hs h3 hA _ (hD.2 j _ (wM_get he2))
    · rw [e9]
      exact h3.2 k _ (wM_get he2)
theorem place_len (hp : Hp) (is : List Nat) (chp : Hp) : (place hp is chp).length = hp.length + (chp.length - is.length) := by
  simp [place, putAll_len]
theorem rho_lt {m k : Nat} (hlt : ∀ i ∈ is, i < hp.length) (hm : hp.length ≤ m) (hN : chp.length - is.length + hp.length ≤ m) (h : k < chp.length) : rho is hp.length k < m := by
  unfold rho
  by_cases hk : k < is.length
  · have e1 : is[k]? = some is[k] := List.getElem?_eq_getElem hk
    rw [List.getD_eq_getElem?_getD, e1]
    exact Nat.lt_of_lt_of_le (hlt _ (List.getElem_mem hk)) hm
  · rw [List.getD_eq_getElem?_getD, List.getElem?_eq_none (by omega)]
    show hp.length + (k - is.length) < m
    omega
theorem clV_rho {m : Nat} {v : Value} (hlt : ∀ i ∈ is, i < hp.length) (hm : hp.length ≤ m) (hN : chp.length - is.length + hp.length ≤ m) (h : clV chp.length v) : clV m (vM (rho is hp.length) v) := by
  cases v <;> first | trivial | exact rho_lt hlt hm hN h
theorem clE_rho {m : Nat} {e : Ce} (hlt : ∀ i ∈ is, i < hp.length) (hm : hp.length ≤ m) (hN : chp.length - is.length + hp.length ≤ m) (h : clE chp.length e) : clE m (eH (rho is hp.length) e) := by
  rcases e with ⟨ty, z, a⟩ | ⟨c, fs⟩
  · rcases a with x | x | x | x | x <;> try trivial
    intro j k hj
    obtain ⟨k0, h0, rfl⟩ := Option.map_eq_some_iff.mp hj
    exact clV_rho (v := .ref k0) hlt hm hN (h j k0 h0)
  · intro v hv
    obtain ⟨w, hw, rfl⟩ := List.mem_map.mp hv
    exact clV_rho hlt hm hN (h w hw)
theorem place_cl {chp2 : Hp} (hlt : ∀ i ∈ is, i < hp.length) (hle : is.length ≤ chp2.length) (hcl : clH hp.length hp) (h : clH chp2.length chp2) : clH (place hp is chp2).length (place hp is chp2) := by
  rw [place_len]
  have hm : clH (hp.length + (chp2.length - is.length)) (chp2.map (eH (rho is hp.length))) := by
    intro e he
    obtain ⟨e0, h0, rfl⟩ := List.mem_map.mp he
    exact clE_rho hlt (by omega) (by omega) (h e0 h0)
  have hput : ∀ (is : List Nat) (hp es : Hp) (m : Nat), clH m hp → clH m es → clH m (putAll hp is es) := by
    intro is
    induction is with
    | nil => intro hp es m h1 _; cases es <;> exact h1
    | cons i is ih =>
      intro hp es m h1 h2
      cases es with
      | nil => exact h1
      | cons e es => exact ih _ _ _ (clH_set (h2 e List.mem_cons_self) h1) (fun x hx => h2 x (List.mem_cons_of_mem _ hx))
  intro e he
  rcases List.mem_append.mp he with he | he
  · exact hput is hp _ _ (fun x hx => clE_mono (hcl x hx) (by omega)) hm e he
  · obtain ⟨e0, h0, rfl⟩ := List.mem_map.mp he
    exact hm _ (List.mem_map.mpr ⟨e0, List.mem_of_mem_drop h0, rfl⟩)
end Heaps
/-- what every call comes to -/
theorem go_run {K : Cx} {own : String} {cc : ByteArray} {nL fr mc ms k n pc : Nat} {ls : List (Nat × Value)} {st rest : List Value} {hp : Hp} (F : Fx K own cc nL fr mc ms) {chp : Hp} {is : List Nat} {mc' ms' : Nat} {Qp : Option Value → Hp → Prop} (hs : Sub hp is chp) (hnd : va_nd is = true) (hrest : ∀ v ∈ rest, v ∈ st)
    (hrun : match K with
      | (p, l, e, R, s, m, args, below, meth, c, D, cA, A, _, nL', n0, ad0) => ∀ (ad : Nat → Nat) (H : Heap) (locs : List Loc) (LS : Array Slot), (∀ j, j < n0 → ad j = ad0 j) → va_P D vwCl (wM ad cA hp) H → va_D A (wM ad cA hp) → va_S A s.heap H locs → lv_has LS nL' (lM ad ls) →
        va_Run p l e R s m args below meth c H locs k n mc' ms' (F0 m pc LS (st.map (vM ad))) (rest.map (vM ad)) (CQ D cA (fun j => ad (is.getD j 0)) chp H.size Qp mc') (va_A (wM (fun j => ad (is.getD j 0)) cA chp) H.size))
    (kk : ∀ (v : Option Value) (hp2 : Hp), Qp v hp2 → hp2.length = chp.length + mc' → Go K (k + mc') (n + ms') (pc + 3) ls ((v.map (vM (rho is hp.length))).toList ++ rest) (place hp is hp2)) : Go K k n pc ls st hp := by
  obtain ⟨p, l, e, R, s, m, args, below, meth, c, D, cA, A, Q, nL', n0, ad0⟩ := K
  obtain ⟨hx, hb, hml, hnl, hown, hts, hK, hA, hfr, hlo, hmc, hms⟩ := F
  intro hcl h0 ad H locs LS h1 h2 h3 h4 h5 T hT X
  obtain ⟨v, st₀, t, T', L, g0, X', hL, e1, e2, ⟨⟨u, hp2, ad2, e3, q, hlen, hcv, hch, hag, hP, hD⟩, hz, hkeep⟩, go⟩ := hrun ad H locs LS h1 h2 h3 h4 h5 T hT X
  have hA' : ∀ q, H.size ≤ q → A q := fun q h => hA q (Nat.le_trans h4.1 h)
  rw [g0] at hz hkeep
  have hlt : ∀ i ∈ is, i < hp.length := by
    intro i hi
    obtain ⟨j, hj⟩ := List.getElem?_of_mem hi
    obtain ⟨e, -, he⟩ := hs.up hj
    exact (List.getElem?_eq_some_iff.mp he).1
  have hL' := hs.len
  obtain ⟨hP', hD'⟩ := place_back (A := A) (H1 := T'.heap) hs hnd hcl.2.2 h2 h3 hA' hlen hag (by rw [e1]; exact hP) hD (fun q a b => by rw [e1]; exact hkeep q a b)
  have hag3 : ∀ j, j < hp.length → ad3 ad ad2 hp.length is.length j = ad j := fun j hj => by simp [ad3, hj]
  have hr := ad3_rho (ad := ad) (hp := hp) (ad2 := ad2) hlt (fun j hj => hag j (by omega))
  have hS' : va_S A s.heap T'.heap (locs ++ L) := by
    refine ⟨Nat.le_trans h4.1 (by rw [e1]; exact hz), fun q a b => ?_, fun q hq => ?_⟩
    · rw [e1, hkeep q (Nat.lt_of_lt_of_le a h4.1) (fun z => b (sub_A hs h3 hA' q z))]
      exact h4.2.1 q a b
    · rcases List.mem_append.mp hq with h | h
      · exact h4.2.2 q h
      · exact sub_A hs h3 hA' _ (hL q h)
  have hcl' : clAll ls ((u.map (vM (rho is hp.length))).toList ++ rest) (place hp is hp2) := by
    have hl3 := place_len hp is hp2
    refine ⟨fun x hx => clV_mono (hcl.1 x hx) (by rw [hl3]; omega), fun x hx => ?_, place_cl hlt (by omega) hcl.2.2 hch⟩
    rcases List.mem_append.mp hx with hx | hx
    · cases u with
      | none => simp at hx
      | some w =>
        simp at hx
        subst hx
        exact clV_rho (chp := hp2) hlt (by rw [hl3]; omega) (by rw [hl3]; omega) (hcv w rfl)
    · exact clV_mono (hcl.2.1 x (hrest x hx)) (by rw [hl3]; omega)
  have hn0' : ∀ j, j < n0 → ad3 ad ad2 hp.length is.length j = ad0 j := fun j hj => (hag3 j (Nat.lt_of_lt_of_le hj h0)).trans (h1 j hj)
  have hls : lM (ad3 ad ad2 hp.length is.length) ls = lM ad ls := List.map_congr_left (fun x hx => by rw [vM_cong (hcl.1 x hx) hag3])
  have hst : ((u.map (vM (rho is hp.length))).toList ++ rest).map (vM (ad3 ad ad2 hp.length is.length)) = v.toList ++ rest.map (vM ad) := by
    rw [List.map_append]
    congr 1
    · have e4 : v = u.map (vM ad2) := by
        have := e3
        cases this
        rfl
      rw [e4]
      cases u with
      | none => rfl
      | some w =>
        show [vM _ (vM _ w)] = [vM ad2 w]
        rw [vM_vM, show (fun k => ad3 ad ad2 hp.length is.length (rho is hp.length k)) = ad2 from funext hr]
    · exact List.map_congr_left (fun x hx => vM_cong (hcl.2.1 x (hrest x hx)) hag3)
  have G := kk u hp2 q hlen hcl' (by rw [place_len]; omega) (ad3 ad ad2 hp.length is.length) T'.heap (locs ++ L) LS hn0' hP' hD' hS' (by rw [hls]; exact h5)
  rw [hst] at G
  obtain ⟨t2, a1, b1⟩ := G T' rfl X'
  exact ⟨t2, go t2 a1, b1⟩
/-! what the tables say of a callee -/
def Mi (y : MethodName) (cc : ByteArray) (nL : Nat) (ret : Option FieldType) (n : Nat) : Prop := Cond.code y cc nL ret ∈ TB ∧ Cond.initialized y.cls ∈ TB ∧ y.cls ≠ "java/lang/invoke/MethodHandle" ∧ y.cls ≠ "java/lang/invoke/VarHandle" ∧ (parseMethodDescriptor y.desc).map (fun d => d.parameters.length) = some n
def KS (own : String) (idx : Nat) (y : MethodName) : Prop := Cond.methodLink own idx y ∈ TB ∧ Cond.static y ∈ TB
def KV (own : String) (idx : Nat) (y : MethodName) : Prop := Cond.methodLink own idx y ∈ TB ∧ Cond.instanceMethod y ∈ TB ∧ Cond.selects y.cls y y ∈ TB
def KI (own : String) (idx : Nat) (y : MethodName) : Prop := Cond.methodLink own idx y ∈ TB ∧ Cond.instanceMethod y ∈ TB ∧ y.name = "<init>"
def KN (own : String) (idx : Nat) (y : MethodName) (host : String) : Prop := (own, idx, y, host) ∈ nest
theorem sum_cat (ad : Nat → Nat) (st : List Value) : ((st.map (vM ad)).map fun v => v.category).sum = (st.map fun v => v.category).sum := by
  rw [List.map_map]; congr 1; exact List.map_congr_left (fun v _ => vM_cat ad v)
theorem frameBlind (as : List Value) (D : va_G) (cA : FieldType → ClassId) (sz : Nat) (ws : va_W) : FrameBlind (va_Pc as (fun U => U.heap.size = sz ∧ va_P D vwCl ws U.heap ∧ KK D cA U ∧ va_D (fun _ => True) ws)) := fun a U g mk q => by
  obtain ⟨q0, q1, qP, qK, qD⟩ := q
  exact ⟨q0, q1, qP, ⟨va_K.moved (u := U) (U := U.calling g mk a) (Vm.Alike.refl U.vm) qK.1, fun z hz => va_Nw.same rfl rfl (qK.2.1 z hz), va_AO.moved (u := U) (U := U.calling g mk a) (Vm.Alike.refl U.vm) qK.2.2⟩, qD⟩
section CallRows
variable {K : Cx} {own : String} {cc : ByteArray} {nL fr mc ms k n pc : Nat} {ls : List (Nat × Value)} {st : List Value} {hp : Hp}
  {y : MethodName} {cc' : ByteArray} {nL' fr' mc' ms' idx : Nat} {ret' : Option FieldType} {cas : List Value} {chp : Hp} {Qp : Option Value → Hp → Prop}
theorem stack_eq {ad : Nat → Nat} {is : List Nat} {cas st rest : List Value} (h : st = (cas.map (vM (fun k => is.getD k 0))).reverse ++ rest) : st.map (vM ad) = (cas.map (vM (fun j => ad (is.getD j 0)))).reverse ++ rest.map (vM ad) := by
  rw [h, List.map_append, List.map_reverse, List.map_map]
  congr 2
  exact List.map_congr_left (fun v _ => vM_vM _ _ v)
theorem rest_in {is : List Nat} {cas st rest : List Value} (h : st = (cas.map (vM (fun k => is.getD k 0))).reverse ++ rest) : ∀ v ∈ rest, v ∈ st := fun v hv => by rw [h]; exact List.mem_append_right _ hv
theorem g_callS (F : Fx K own cc nL fr mc ms) (C : Ctr y cc' nL' ret' fr' mc' ms' cas chp Qp) (hi : Mi y cc' nL' ret' cas.length) (hk : KS own idx y) (d : decode cc pc = .ok (.invokestatic idx, 3)) (is : List Nat) (rest : List Value) (hfr : fr' < fr) (hl : nL' ≤ 21) (hs : Sub hp is chp) (hnd : va_nd is = true) (hst : st = (cas.map (vM (fun k => is.getD k 0))).reverse ++ rest) (hcat : (rest.map fun v => v.category).sum ≤ 8) (hkc : k + mc' ≤ mc) (hkn : n + ms' ≤ ms)
    (kk : ∀ (v : Option Value) (hp2 : Hp), Qp v hp2 → hp2.length = chp.length + mc' → Go K (k + mc') (n + ms') (pc + 3) ls ((v.map (vM (rho is hp.length))).toList ++ rest) (place hp is hp2)) : Go K k n pc ls st hp := by
  refine go_run F hs hnd (rest_in hst) ?_ kk
  obtain ⟨p, l, e, R, s, m, args, below, meth, c, D, cA, A, Q, nL', n0, ad0⟩ := K
  obtain ⟨hx, hb, hml, hnl, hown, hts, hK, hA, hfr2, hlo, hmc, hms⟩ := F
  intro ad H locs LS h1 h2 h3 h4 h5
  subst hnl
  refine va_runS (As := cas.map (vM (fun j => ad (is.getD j 0)))) (n := cas.length) ⟨hx, hb, hml, hown, hts⟩ (C.2 l D cA (fun j => ad (is.getD j 0)) H.size) ⟨callB_of cas.length hts (TB_good hi.1) rfl rfl rfl (hts _ hi.2.1) (hts _ hk.1) hi.2.2 ⟨by show fr' + 1 ≤ _; omega, by show _ + 40 * fr' ≤ _; omega⟩, hts _ hk.2⟩ ⟨frameBlind _ _ _ _ _, fun U hU hW => ⟨rfl, by rw [hU], by rw [hU]; exact sub_P hs h2, hK.moved hW, (sub_D hs hnd h3).weaken (fun _ _ _ _ => trivial)⟩⟩ rfl (List.length_map _) h5.1 (stack_eq hst) (lv_room (by rw [sum_cat]; exact hcat)) d ⟨by omega, by omega⟩
theorem g_callSN (F : Fx K own cc nL fr mc ms) (C : Ctr y cc' nL' ret' fr' mc' ms' cas chp Qp) (hi : Mi y cc' nL' ret' cas.length) {host : String} (hk : KN own idx y host) (hk2 : Cond.static y ∈ TB) (d : decode cc pc = .ok (.invokestatic idx, 3)) (is : List Nat) (rest : List Value) (hfr : fr' < fr) (hl : nL' ≤ 21) (hs : Sub hp is chp) (hnd : va_nd is = true) (hst : st = (cas.map (vM (fun k => is.getD k 0))).reverse ++ rest) (hcat : (rest.map fun v => v.category).sum ≤ 8) (hkc : k + mc' ≤ mc) (hkn : n + ms' ≤ ms)
    (kk : ∀ (v : Option Value) (hp2 : Hp), Qp v hp2 → hp2.length = chp.length + mc' → Go K (k + mc') (n + ms') (pc + 3) ls ((v.map (vM (rho is hp.length))).toList ++ rest) (place hp is hp2)) : Go K k n pc ls st hp := by
  refine go_run F hs hnd (rest_in hst) ?_ kk
  obtain ⟨p, l, e, R, s, m, args, below, meth, c, D, cA, A, Q, nL', n0, ad0⟩ := K
  obtain ⟨hx, hb, hml, hnl, hown, hts, hK, hA, hfr2, hlo, hmc, hms⟩ := F
  intro ad H locs LS h1 h2 h3 h4 h5
  subst hnl
  refine va_runSN (As := cas.map (vM (fun j => ad (is.getD j 0)))) (n := cas.length) ⟨hx, hb, hml, hown, hts⟩ (C.2 l D cA (fun j => ad (is.getD j 0)) H.size) ⟨va_cnB cas.length hts (TB_good hi.1) rfl rfl rfl (hK.2.1 _ hk) (hts _ hi.2.1) hi.2.2 ⟨by show fr' + 1 ≤ _; omega, by show _ + 40 * fr' ≤ _; omega⟩, hts _ hk2, trivial⟩ ⟨frameBlind _ _ _ _ _, fun U hU hW => ⟨rfl, by rw [hU], by rw [hU]; exact sub_P hs h2, hK.moved hW, (sub_D hs hnd h3).weaken (fun _ _ _ _ => trivial)⟩⟩ rfl (List.length_map _) h5.1 (stack_eq hst) (lv_room (by rw [sum_cat]; exact hcat)) d ⟨by omega, by omega⟩
/-- the receiver is the callee's cell r0, of class ci -/
theorem g_callV (F : Fx K own cc nL fr mc ms) {r0 ci : Nat} {fs : List Value} {T : u_T} {N : Nat} (C : Ctr y cc' nL' ret' fr' mc' ms' (.ref r0 :: cas) chp Qp) (hi : Mi y cc' nL' ret' cas.length) (hk : KV own idx y) (d : decode cc pc = .ok (.invokevirtual idx, 3)) (hr : chp[r0]? = some (.inr (ci, fs))) (hc : vwCl[ci]? = some (y.cls, T, N)) (is : List Nat) (rest : List Value) (hfr : fr' < fr) (hl : nL' ≤ 21) (hs : Sub hp is chp) (hnd : va_nd is = true) (hst : st = ((.ref r0 :: cas).map (vM (fun k => is.getD k 0))).reverse ++ rest) (hcat : (rest.map fun v => v.category).sum ≤ 8) (hkc : k + mc' ≤ mc) (hkn : n + ms' ≤ ms)
    (kk : ∀ (v : Option Value) (hp2 : Hp), Qp v hp2 → hp2.length = chp.length + mc' → Go K (k + mc') (n + ms') (pc + 3) ls ((v.map (vM (rho is hp.length))).toList ++ rest) (place hp is hp2)) : Go K k n pc ls st hp := by
  refine go_run F hs hnd (rest_in hst) ?_ kk
  obtain ⟨p, l, e, R, s, m, args, below, meth, c, D, cA, A, Q, nL', n0, ad0⟩ := K
  obtain ⟨hx, hb, hml, hnl, hown, hts, hK, hA, hfr2, hlo, hmc, hms⟩ := F
  intro ad H locs LS h1 h2 h3 h4 h5
  subst hnl
  have hst2 := stack_eq (ad := ad) hst
  rw [List.map_cons, List.reverse_cons, List.append_assoc] at hst2
  refine va_runV (C := y.cls) (As := cas.map (vM (fun j => ad (is.getD j 0)))) (n := cas.length) ⟨hx, hb, hml, hown, hts⟩ (C.2 l D cA (fun j => ad (is.getD j 0)) H.size) ⟨callB_of cas.length hts (TB_good hi.1) rfl rfl rfl (hts _ hi.2.1) (hts _ hk.1) hi.2.2 ⟨by show fr' + 1 ≤ _; omega, by show _ + 40 * fr' ≤ _; omega⟩, hts _ hk.2.1, hts _ hk.2.2⟩ ⟨frameBlind _ _ _ _ _, va_recv hK.1 (sub_P hs h2) hc (wM_get hr), fun U hU hW => ⟨rfl, by rw [hU], by rw [hU]; exact sub_P hs h2, hK.moved hW, (sub_D hs hnd h3).weaken (fun _ _ _ _ => trivial)⟩⟩ rfl (List.length_map _) h5.1 hst2 (lv_room (by rw [sum_cat]; exact hcat)) d ⟨by omega, by omega⟩
theorem g_callI (F : Fx K own cc nL fr mc ms) {r0 : Nat} (C : Ctr y cc' nL' none fr' mc' ms' (.ref r0 :: cas) chp Qp) (hi : Mi y cc' nL' none cas.length) (hk : KI own idx y) (d : decode cc pc = .ok (.invokespecial idx, 3)) (is : List Nat) (rest : List Value) (hfr : fr' < fr) (hl : nL' ≤ 21) (hs : Sub hp is chp) (hnd : va_nd is = true) (hst : st = ((.ref r0 :: cas).map (vM (fun k => is.getD k 0))).reverse ++ rest) (hcat : (rest.map fun v => v.category).sum ≤ 8) (hkc : k + mc' ≤ mc) (hkn : n + ms' ≤ ms)
    (kk : ∀ (v : Option Value) (hp2 : Hp), Qp v hp2 → hp2.length = chp.length + mc' → Go K (k + mc') (n + ms') (pc + 3) ls ((v.map (vM (rho is hp.length))).toList ++ rest) (place hp is hp2)) : Go K k n pc ls st hp := by
  refine go_run F hs hnd (rest_in hst) ?_ kk
  obtain ⟨p, l, e, R, s, m, args, below, meth, c, D, cA, A, Q, nL', n0, ad0⟩ := K
  obtain ⟨hx, hb, hml, hnl, hown, hts, hK, hA, hfr2, hlo, hmc, hms⟩ := F
  intro ad H locs LS h1 h2 h3 h4 h5
  subst hnl
  have hst2 := stack_eq (ad := ad) hst
  rw [List.map_cons, List.reverse_cons, List.append_assoc] at hst2
  refine va_runI (As := cas.map (vM (fun j => ad (is.getD j 0)))) (n := cas.length) ⟨hx, hb, hml, hown, hts⟩ (C.2 l D cA (fun j => ad (is.getD j 0)) H.size) ⟨callB_of cas.length hts (TB_good hi.1) rfl rfl rfl (hts _ hi.2.1) (hts _ hk.1) hi.2.2 ⟨by show fr' + 1 ≤ _; omega, by show _ + 40 * fr' ≤ _; omega⟩, hk.2.2, hts _ hk.2.1⟩ ⟨frameBlind _ _ _ _ _, fun U hU hW => ⟨rfl, by rw [hU], by rw [hU]; exact sub_P hs h2, hK.moved hW, (sub_D hs hnd h3).weaken (fun _ _ _ _ => trivial)⟩⟩ rfl (List.length_map _) h5.1 hst2 (lv_room (by rw [sum_cat]; exact hcat)) d ⟨by omega, by omega⟩
theorem g_callIN (F : Fx K own cc nL fr mc ms) {r0 : Nat} (C : Ctr y cc' nL' none fr' mc' ms' (.ref r0 :: cas) chp Qp) (hi : Mi y cc' nL' none cas.length) {host : String} (hk : KN own idx y host) (hk2 : Cond.instanceMethod y ∈ TB) (hk3 : y.name = "<init>") (d : decode cc pc = .ok (.invokespecial idx, 3)) (is : List Nat) (rest : List Value) (hfr : fr' < fr) (hl : nL' ≤ 21) (hs : Sub hp is chp) (hnd : va_nd is = true) (hst : st = ((.ref r0 :: cas).map (vM (fun k => is.getD k 0))).reverse ++ rest) (hcat : (rest.map fun v => v.category).sum ≤ 8) (hkc : k + mc' ≤ mc) (hkn : n + ms' ≤ ms)
    (kk : ∀ (v : Option Value) (hp2 : Hp), Qp v hp2 → hp2.length = chp.length + mc' → Go K (k + mc') (n + ms') (pc + 3) ls ((v.map (vM (rho is hp.length))).toList ++ rest) (place hp is hp2)) : Go K k n pc ls st hp := by
  refine go_run F hs hnd (rest_in hst) ?_ kk
  obtain ⟨p, l, e, R, s, m, args, below, meth, c, D, cA, A, Q, nL', n0, ad0⟩ := K
  obtain ⟨hx, hb, hml, hnl, hown, hts, hK, hA, hfr2, hlo, hmc, hms⟩ := F
  intro ad H locs LS h1 h2 h3 h4 h5
  subst hnl
  have hst2 := stack_eq (ad := ad) hst
  rw [List.map_cons, List.reverse_cons, List.append_assoc] at hst2
  refine va_runIN (As := cas.map (vM (fun j => ad (is.getD j 0)))) (n := cas.length) ⟨hx, hb, hml, hown, hts⟩ (C.2 l D cA (fun j => ad (is.getD j 0)) H.size) ⟨va_cnB cas.length hts (TB_good hi.1) rfl rfl rfl (hK.2.1 _ hk) (hts _ hi.2.1) hi.2.2 ⟨by show fr' + 1 ≤ _; omega, by show _ + 40 * fr' ≤ _; omega⟩, hk3, hts _ hk2⟩ ⟨frameBlind _ _ _ _ _, fun U hU hW => ⟨rfl, by rw [hU], by rw [hU]; exact sub_P hs h2, hK.moved hW, (sub_D hs hnd h3).weaken (fun _ _ _ _ => trivial)⟩⟩ rfl (List.length_map _) h5.1 hst2 (lv_room (by rw [sum_cat]; exact hcat)) d ⟨by omega, by omega⟩
end CallRows
/-! callees that only answer -/
def RCtr (y : MethodName) (cc : ByteArray) (nL : Nat) (ret : Option FieldType) (fr : Nat) (as : List Value) (hp : Hp) (r : Value) : Prop := Ctr y cc nL ret fr 0 0 as hp (fun v h => v = some r ∧ h = hp)
theorem place_same {hp : Hp} {is : List Nat} {chp : Hp} (hs : Sub hp is chp) (hcl : clH chp.length chp) (hnd : va_nd is = true) : place hp is chp = hp := by
  have hL := hs.len
  apply List.ext_getElem?
  intro k
  unfold place
  rw [List.drop_eq_nil_of_le (by omega), List.map_nil, List.append_nil]
  by_cases hki : k ∈ is
  · obtain ⟨j, hj⟩ := List.getElem?_of_mem hki
    obtain ⟨e, h1, h2⟩ := hs.up hj
    rw [putAll_at is hp _ j hnd hj (List.getElem?_eq_some_iff.mp h2).1 (by rw [List.length_map]; omega), List.getElem?_map, h1, h2]
    show some _ = some _
    have hc := clH_get hcl h1
    congr 1
    have key : ∀ v, clV chp.length v → vM (rho is hp.length) v = vM (fun k => is.getD k 0) v := by
      intro v hv
      refine vM_cong hv (fun k hk => ?_)
      unfold rho
      have e1 : is[k]? = some (is[k]'(by omega)) := List.getElem?_eq_getElem _
      rw [List.getD_eq_getElem?_getD, List.getD_eq_getElem?_getD, e1]
      rfl
    rcases e with ⟨ty, z, a⟩ | ⟨c, fs⟩
    · rcases a with x | x | x | x | x <;> try rfl
      have e9 : (fun i => (x i).map (rho is hp.length)) = fun i => (x i).map (fun k => is.getD k 0) := by
        funext i
        cases hi : x i with
        | none => rfl
        | some w =>
          have h7 := key (.ref w) (hc i w hi)
          have h8 : rho is hp.length w = is.getD w 0 := by
            simpa only [vM, Value.ref.injEq] using h7
          exact congrArg some h8
      simp only [eH, aM, e9]
    · simp only [eH]
      congr 2
      exact List.map_congr_left (fun v hv => key v (hc v hv))
  · rw [putAll_off is _ _ hki]
theorem rho_val {is : List Nat} {N : Nat} {v : Value} (h : clV is.length v) : vM (rho is N) v = vM (fun k => is.getD k 0) v := by
  refine vM_cong h (fun k hk => ?_)
  unfold rho
  have e1 : is[k]? = some (is[k]'hk) := List.getElem?_eq_getElem _
  rw [List.getD_eq_getElem?_getD, List.getD_eq_getElem?_getD, e1]
  rfl
section ReadRows
variable {K : Cx} {own : String} {cc : ByteArray} {nL fr mc ms k n pc : Nat} {ls : List (Nat × Value)} {st : List Value} {hp : Hp}
  {y : MethodName} {cc' : ByteArray} {nL' fr' idx : Nat} {ret' : Option FieldType} {cas : List Value} {chp : Hp} {r : Value}
theorem g_readS (F : Fx K own cc nL fr mc ms) (C : RCtr y cc' nL' ret' fr' cas chp r) (hi : Mi y cc' nL' ret' cas.length) (hk : KS own idx y) (d : decode cc pc = .ok (.invokestatic idx, 3)) (is : List Nat) (rest : List Value) (hfr : fr' < fr) (hl : nL' ≤ 21) (hs : Sub hp is chp) (hnd : va_nd is = true) (hst : st = (cas.map (vM (fun k => is.getD k 0))).reverse ++ rest) (hcat : (rest.map fun v => v.category).sum ≤ 8) (hv : clV is.length r) (hkc : k ≤ mc) (hkn : n ≤ ms) (kk : Go K k n (pc + 3) ls (vM (fun k => is.getD k 0) r :: rest) hp) : Go K k n pc ls st hp := by
  refine g_callS F C hi hk d is rest hfr hl hs hnd hst hcat hkc hkn ?_
  rintro v hp2 ⟨rfl, rfl⟩ -
  rw [place_same hs C.1.2 hnd]
  show Go K k n (pc + 3) ls (vM (rho is hp.length) r :: rest) hp
  rw [rho_val hv]
  exact kk
theorem g_readSN (F : Fx K own cc nL fr mc ms) (C : RCtr y cc' nL' ret' fr' cas chp r) (hi : Mi y cc' nL' ret' cas.length) {host : String} (hk : KN own idx y host) (hk2 : Cond.static y ∈ TB) (d : decode cc pc = .ok (.invokestatic idx, 3)) (is : List Nat) (rest : List Value) (hfr : fr' < fr) (hl : nL' ≤ 21) (hs : Sub hp is chp) (hnd : va_nd is = true) (hst : st = (cas.map (vM (fun k => is.getD k 0))).reverse ++ rest) (hcat : (rest.map fun v => v.category).sum ≤ 8) (hv : clV is.length r) (hkc : k ≤ mc) (hkn : n ≤ ms) (kk : Go K k n (pc + 3) ls (vM (fun k => is.getD k 0) r :: rest) hp) : Go K k n pc ls st hp := by
  refine g_callSN F C hi hk hk2 d is rest hfr hl hs hnd hst hcat hkc hkn ?_
  rintro v hp2 ⟨rfl, rfl⟩ -
  rw [place_same hs C.1.2 hnd]
  show Go K k n (pc + 3) ls (vM (rho is hp.length) r :: rest) hp
  rw [rho_val hv]
  exact kk
theorem g_readV (F : Fx K own cc nL fr mc ms) {r0 ci : Nat} {fs : List Value} {T : u_T} {N : Nat} (C : RCtr y cc' nL' ret' fr' (.ref r0 :: cas) chp r) (hi : Mi y cc' nL' ret' cas.length) (hk : KV own idx y) (d : decode cc pc = .ok (.invokevirtual idx, 3)) (hr : chp[r0]? = some (.inr (ci, fs))) (hc : vwCl[ci]? = some (y.cls, T, N)) (is : List Nat) (rest : List Value) (hfr : fr' < fr) (hl : nL' ≤ 21) (hs : Sub hp is chp) (hnd : va_nd is = true) (hst : st = ((.ref r0 :: cas).map (vM (fun k => is.getD k 0))).reverse ++ rest) (hcat : (rest.map fun v => v.category).sum ≤ 8) (hv : clV is.length r) (hkc : k ≤ mc) (hkn : n ≤ ms) (kk : Go K k n (pc + 3) ls (vM (fun k => is.getD k 0) r :: rest) hp) : Go K k n pc ls st hp := by
  refine g_callV F C hi hk d hr hc is rest hfr hl hs hnd hst hcat hkc hkn ?_
  rintro v hp2 ⟨rfl, rfl⟩ -
  rw [place_same hs C.1.2 hnd]
  show Go K k n (pc + 3) ls (vM (rho is hp.length) r :: rest) hp
  rw [rho_val hv]
  exact kk
end ReadRows
