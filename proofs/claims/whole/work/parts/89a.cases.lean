/-! the law's cases -/
abbrev LL (i : Nat) : List (Nat × Value) := [(1, .ref 0), (2, .ref 44), (3, .ref 56), (4, .int (nI i))]
theorem lcmp_self (A : Int64) : lg_cmp A A = 0 := by
  unfold lg_cmp
  rw [if_neg (Int64.lt_irrefl), if_pos rfl]
theorem CWd.obj {r i : Nat → Int32} {hi : Int32} {T : TX} {hp : Hp} (h : CWd r i hi T hp) : ∃ fs, hp[0]? = some (.inr (2, fs)) := by
  obtain ⟨b, X, Y, Z, S, g, h, rfl, -⟩ := h
  exact ⟨_, rfl⟩
theorem CWd.len {r i : Nat → Int32} {hi : Int32} {T : TX} {hp : Hp} (h : CWd r i hi T hp) : hp.length = 44 := by
  obtain ⟨b, X, Y, Z, S, g, h, rfl, -⟩ := h
  rfl
theorem CWd.cl {r i : Nat → Int32} {hi : Int32} {T : TX} {hp : Hp} (h : CWd r i hi T hp) : clH hp.length hp := by
  obtain ⟨b, X, Y, Z, S, g, h, rfl, -⟩ := h
  exact mW_cl _ _ _ _ _ _ _
theorem RWd.obj {r i : Nat → Int32} {hi : Int32} {T : TX} {hp : Hp} (h : RWd r i hi T hp) : ∃ fs, hp[0]? = some (.inr (3, fs)) := by
  obtain ⟨m, w, V, rfl⟩ := h
  exact ⟨_, rfl⟩
theorem RWd.len {r i : Nat → Int32} {hi : Int32} {T : TX} {hp : Hp} (h : RWd r i hi T hp) : hp.length = 12 := by
  obtain ⟨m, w, V, rfl⟩ := h
  rfl
theorem RWd.cl {r i : Nat → Int32} {hi : Int32} {T : TX} {hp : Hp} (h : RWd r i hi T hp) : clH hp.length hp := by
  obtain ⟨m, w, V, rfl⟩ := h
  exact clH_of rfl
set_option maxRecDepth 100000 in
set_option maxHeartbeats 800000 in
theorem LC_desert {sb L : Nat} {xs : Nat → Int32} {K : Cx} {mc ms k n : Nat} (F : Fx K RL cL_law 8 10 mc ms) (S : ScrX sb L xs K) (hL : L ≤ 3072) (hk : k ≤ mc) (hn : n ≤ ms) {i : Nat} (hi : i + 5 < L) {r ii : Nat → Int32} {hg : Int32} {T : TX} {hp hq : Hp} {o : Nat → Int64} (hG : GI r ii hg T) (hc : CWd r ii hg T hp) (hr : RWd r ii hg T hq)
    (kk : ∀ (r ii : Nat → Int32) (hg : Int32) (T : TX) (hp hq : Hp) (o : Nat → Int64), GI r ii hg T → CWd r ii hg T hp → RWd r ii hg T hq → GL sb K k n 1772 (LL i) [] (LW hp hq o)) : GL sb K k n 232 (LL i) [] (LW hp hq o) := by
  obtain ⟨A, r2, i2, hi2, T2, hG2, C1, C2⟩ := J_desert hG hc hr (xs (i + 1))
  obtain ⟨fs, e1⟩ := hc.obj
  obtain ⟨fq, e2⟩ := hr.obj
  refine gl_aload_n (pc := 232) F dL_law_232 rfl ?_
  refine gl_sk (pc := 233) F S hL (j := 1) (by omega) dL_law_233 dL_law_234 dL_law_236 rfl dL_law_237 dL_law_238 rfl ?_
  refine gl_p_callV (pc := 239) F C1 mi_X4_desert kv_L_21 e1 rfl dL_law_239 (by decide) (by decide) rfl (Nat.le_of_ble_eq_true rfl) hk hn ?_
  rintro _ hp2 ⟨rfl, hc2⟩ hlen
  show GL sb K k n 242 (LL i) [.int (A)] (LW hp2 hq o)
  refine gl_aload_n (pc := 242) F dL_law_242 rfl ?_
  refine gl_sk (pc := 243) F S hL (j := 1) (by omega) dL_law_243 dL_law_244 dL_law_246 rfl dL_law_247 dL_law_248 rfl ?_
  refine gl_callV (pc := 249) F C2 mi_X5_desert kv_L_25 dL_law_249 e2 rfl (List.range' 44 12) [.int (A)] (by decide) (by decide) (Sub_mid hc2.len hr.len hr.cl) (rg_nd 44 12) rfl (Nat.le_of_ble_eq_true rfl) hk hn ?_
  rintro _ hq2 ⟨rfl, hr2⟩ hlenq
  rw [show place (LW hp2 hq o) (List.range' 44 12) hq2 = LW hp2 hq2 o from place_mid hc2.len hr.len hlenq hr2.cl]
  show GL sb K k n 252 (LL i) [.int (A), .int (A)] (LW hp2 hq2 o)
  refine gl_ic_eq (pc := 252) F dL_law_252 (tgt := 1772) rfl (fun _ => ?_) (fun z => absurd rfl z)
  exact kk _ _ _ _ _ _ _ hG2 hc2 hr2

set_option maxRecDepth 100000 in
set_option maxHeartbeats 800000 in
theorem LC_corporal {sb L : Nat} {xs : Nat → Int32} {K : Cx} {mc ms k n : Nat} (F : Fx K RL cL_law 8 10 mc ms) (S : ScrX sb L xs K) (hL : L ≤ 3072) (hk : k ≤ mc) (hn : n ≤ ms) {i : Nat} (hi : i + 5 < L) {r ii : Nat → Int32} {hg : Int32} {T : TX} {hp hq : Hp} {o : Nat → Int64} (hG : GI r ii hg T) (hc : CWd r ii hg T hp) (hr : RWd r ii hg T hq)
    (kk : ∀ (r ii : Nat → Int32) (hg : Int32) (T : TX) (hp hq : Hp) (o : Nat → Int64), GI r ii hg T → CWd r ii hg T hp → RWd r ii hg T hq → GL sb K k n 1772 (LL i) [] (LW hp hq o)) : GL sb K k n 257 (LL i) [] (LW hp hq o) := by
  obtain ⟨A, r2, i2, hi2, T2, hG2, C1, C2⟩ := J_corporal hG hc hr (xs (i + 1)) (xs (i + 2))
  obtain ⟨fs, e1⟩ := hc.obj
  obtain ⟨fq, e2⟩ := hr.obj
  refine gl_aload_n (pc := 257) F dL_law_257 rfl ?_
  refine gl_sk (pc := 258) F S hL (j := 1) (by omega) dL_law_258 dL_law_259 dL_law_261 rfl dL_law_262 dL_law_263 rfl ?_
  refine gl_sk (pc := 264) F S hL (j := 2) (by omega) dL_law_264 dL_law_265 dL_law_267 rfl dL_law_268 dL_law_269 rfl ?_
  refine gl_p_callV (pc := 270) F C1 mi_X4_corporal kv_L_26 e1 rfl dL_law_270 (by decide) (by decide) rfl (Nat.le_of_ble_eq_true rfl) hk hn ?_
  rintro _ hp2 ⟨rfl, hc2⟩ hlen
  show GL sb K k n 273 (LL i) [.int (A)] (LW hp2 hq o)
  refine gl_aload_n (pc := 273) F dL_law_273 rfl ?_
  refine gl_sk (pc := 274) F S hL (j := 1) (by omega) dL_law_274 dL_law_275 dL_law_277 rfl dL_law_278 dL_law_279 rfl ?_
  refine gl_sk (pc := 280) F S hL (j := 2) (by omega) dL_law_280 dL_law_281 dL_law_283 rfl dL_law_284 dL_law_285 rfl ?_
  refine gl_callV (pc := 286) F C2 mi_X5_corporal kv_L_30 dL_law_286 e2 rfl (List.range' 44 12) [.int (A)] (by decide) (by decide) (Sub_mid hc2.len hr.len hr.cl) (rg_nd 44 12) rfl (Nat.le_of_ble_eq_true rfl) hk hn ?_
  rintro _ hq2 ⟨rfl, hr2⟩ hlenq
  rw [show place (LW hp2 hq o) (List.range' 44 12) hq2 = LW hp2 hq2 o from place_mid hc2.len hr.len hlenq hr2.cl]
  show GL sb K k n 289 (LL i) [.int (A), .int (A)] (LW hp2 hq2 o)
  refine gl_ic_eq (pc := 289) F dL_law_289 (tgt := 1772) rfl (fun _ => ?_) (fun z => absurd rfl z)
  exact kk _ _ _ _ _ _ _ hG2 hc2 hr2

set_option maxRecDepth 100000 in
set_option maxHeartbeats 800000 in
theorem LC_dip {sb L : Nat} {xs : Nat → Int32} {K : Cx} {mc ms k n : Nat} (F : Fx K RL cL_law 8 10 mc ms) (S : ScrX sb L xs K) (hL : L ≤ 3072) (hk : k ≤ mc) (hn : n ≤ ms) {i : Nat} (hi : i + 5 < L) {r ii : Nat → Int32} {hg : Int32} {T : TX} {hp hq : Hp} {o : Nat → Int64} (hG : GI r ii hg T) (hc : CWd r ii hg T hp) (hr : RWd r ii hg T hq)
    (kk : ∀ (r ii : Nat → Int32) (hg : Int32) (T : TX) (hp hq : Hp) (o : Nat → Int64), GI r ii hg T → CWd r ii hg T hp → RWd r ii hg T hq → GL sb K k n 1772 (LL i) [] (LW hp hq o)) : GL sb K k n 294 (LL i) [] (LW hp hq o) := by
  obtain ⟨A, r2, i2, hi2, T2, hG2, C1, C2⟩ := J_dip hG hc hr (xs (i + 1)) (xs (i + 2))
  obtain ⟨fs, e1⟩ := hc.obj
  obtain ⟨fq, e2⟩ := hr.obj
  refine gl_aload_n (pc := 294) F dL_law_294 rfl ?_
  refine gl_sk (pc := 295) F S hL (j := 1) (by omega) dL_law_295 dL_law_296 dL_law_298 rfl dL_law_299 dL_law_300 rfl ?_
  refine gl_sk (pc := 301) F S hL (j := 2) (by omega) dL_law_301 dL_law_302 dL_law_304 rfl dL_law_305 dL_law_306 rfl ?_
  refine gl_p_callV (pc := 307) F C1 mi_X4_dip kv_L_31 e1 rfl dL_law_307 (by decide) (by decide) rfl (Nat.le_of_ble_eq_true rfl) hk hn ?_
  rintro _ hp2 ⟨rfl, hc2⟩ hlen
  show GL sb K k n 310 (LL i) [.int (A)] (LW hp2 hq o)
  refine gl_aload_n (pc := 310) F dL_law_310 rfl ?_
  refine gl_sk (pc := 311) F S hL (j := 1) (by omega) dL_law_311 dL_law_312 dL_law_314 rfl dL_law_315 dL_law_316 rfl ?_
  refine gl_sk (pc := 317) F S hL (j := 2) (by omega) dL_law_317 dL_law_318 dL_law_320 rfl dL_law_321 dL_law_322 rfl ?_
  refine gl_callV (pc := 323) F C2 mi_X5_dip kv_L_34 dL_law_323 e2 rfl (List.range' 44 12) [.int (A)] (by decide) (by decide) (Sub_mid hc2.len hr.len hr.cl) (rg_nd 44 12) rfl (Nat.le_of_ble_eq_true rfl) hk hn ?_
  rintro _ hq2 ⟨rfl, hr2⟩ hlenq
  rw [show place (LW hp2 hq o) (List.range' 44 12) hq2 = LW hp2 hq2 o from place_mid hc2.len hr.len hlenq hr2.cl]
  show GL sb K k n 326 (LL i) [.int (A), .int (A)] (LW hp2 hq2 o)
  refine gl_ic_eq (pc := 326) F dL_law_326 (tgt := 1772) rfl (fun _ => ?_) (fun z => absurd rfl z)
  exact kk _ _ _ _ _ _ _ hG2 hc2 hr2

set_option maxRecDepth 100000 in
set_option maxHeartbeats 800000 in
theorem LC_comes {sb L : Nat} {xs : Nat → Int32} {K : Cx} {mc ms k n : Nat} (F : Fx K RL cL_law 8 10 mc ms) (S : ScrX sb L xs K) (hL : L ≤ 3072) (hk : k ≤ mc) (hn : n ≤ ms) {i : Nat} (hi : i + 5 < L) {r ii : Nat → Int32} {hg : Int32} {T : TX} {hp hq : Hp} {o : Nat → Int64} (hG : GI r ii hg T) (hc : CWd r ii hg T hp) (hr : RWd r ii hg T hq)
    (kk : ∀ (r ii : Nat → Int32) (hg : Int32) (T : TX) (hp hq : Hp) (o : Nat → Int64), GI r ii hg T → CWd r ii hg T hp → RWd r ii hg T hq → GL sb K k n 1772 (LL i) [] (LW hp hq o)) : GL sb K k n 331 (LL i) [] (LW hp hq o) := by
  obtain ⟨A, r2, i2, hi2, T2, hG2, C1, C2⟩ := J_comes hG hc hr (xs (i + 1)) (xs (i + 2)) (xs (i + 3))
  obtain ⟨fs, e1⟩ := hc.obj
  obtain ⟨fq, e2⟩ := hr.obj
  refine gl_aload_n (pc := 331) F dL_law_331 rfl ?_
  refine gl_sk (pc := 332) F S hL (j := 1) (by omega) dL_law_332 dL_law_333 dL_law_335 rfl dL_law_336 dL_law_337 rfl ?_
  refine gl_sk (pc := 338) F S hL (j := 2) (by omega) dL_law_338 dL_law_339 dL_law_341 rfl dL_law_342 dL_law_343 rfl ?_
  refine gl_sk (pc := 344) F S hL (j := 3) (by omega) dL_law_344 dL_law_345 dL_law_347 rfl dL_law_348 dL_law_349 rfl ?_
  refine gl_p_callV (pc := 350) F C1 mi_X4_comes kv_L_35 e1 rfl dL_law_350 (by decide) (by decide) rfl (Nat.le_of_ble_eq_true rfl) hk hn ?_
  rintro _ hp2 ⟨rfl, hc2⟩ hlen
  show GL sb K k n 353 (LL i) [.int (A)] (LW hp2 hq o)
  refine gl_aload_n (pc := 353) F dL_law_353 rfl ?_
  refine gl_sk (pc := 354) F S hL (j := 1) (by omega) dL_law_354 dL_law_355 dL_law_357 rfl dL_law_358 dL_law_359 rfl ?_
  refine gl_sk (pc := 360) F S hL (j := 2) (by omega) dL_law_360 dL_law_361 dL_law_363 rfl dL_law_364 dL_law_365 rfl ?_
  refine gl_sk (pc := 366) F S hL (j := 3) (by omega) dL_law_366 dL_law_367 dL_law_369 rfl dL_law_370 dL_law_371 rfl ?_
  refine gl_callV (pc := 372) F C2 mi_X5_comes kv_L_39 dL_law_372 e2 rfl (List.range' 44 12) [.int (A)] (by decide) (by decide) (Sub_mid hc2.len hr.len hr.cl) (rg_nd 44 12) rfl (Nat.le_of_ble_eq_true rfl) hk hn ?_
  rintro _ hq2 ⟨rfl, hr2⟩ hlenq
  rw [show place (LW hp2 hq o) (List.range' 44 12) hq2 = LW hp2 hq2 o from place_mid hc2.len hr.len hlenq hr2.cl]
  show GL sb K k n 375 (LL i) [.int (A), .int (A)] (LW hp2 hq2 o)
  refine gl_ic_eq (pc := 375) F dL_law_375 (tgt := 1772) rfl (fun _ => ?_) (fun z => absurd rfl z)
  exact kk _ _ _ _ _ _ _ hG2 hc2 hr2

set_option maxRecDepth 100000 in
set_option maxHeartbeats 800000 in
theorem LC_fills {sb L : Nat} {xs : Nat → Int32} {K : Cx} {mc ms k n : Nat} (F : Fx K RL cL_law 8 10 mc ms) (S : ScrX sb L xs K) (hL : L ≤ 3072) (hk : k ≤ mc) (hn : n ≤ ms) {i : Nat} (hi : i + 5 < L) {r ii : Nat → Int32} {hg : Int32} {T : TX} {hp hq : Hp} {o : Nat → Int64} (hG : GI r ii hg T) (hc : CWd r ii hg T hp) (hr : RWd r ii hg T hq)
    (kk : ∀ (r ii : Nat → Int32) (hg : Int32) (T : TX) (hp hq : Hp) (o : Nat → Int64), GI r ii hg T → CWd r ii hg T hp → RWd r ii hg T hq → GL sb K k n 1772 (LL i) [] (LW hp hq o)) : GL sb K k n 380 (LL i) [] (LW hp hq o) := by
  obtain ⟨A, r2, i2, hi2, T2, hG2, C1, C2⟩ := J_fills hG hc hr (xs (i + 1)) (xs (i + 2))
  obtain ⟨fs, e1⟩ := hc.obj
  obtain ⟨fq, e2⟩ := hr.obj
  refine gl_aload_n (pc := 380) F dL_law_380 rfl ?_
  refine gl_sk (pc := 381) F S hL (j := 1) (by omega) dL_law_381 dL_law_382 dL_law_384 rfl dL_law_385 dL_law_386 rfl ?_
  refine gl_sk (pc := 387) F S hL (j := 2) (by omega) dL_law_387 dL_law_388 dL_law_390 rfl dL_law_391 dL_law_392 rfl ?_
  refine gl_p_callV (pc := 393) F C1 mi_X4_fills kv_L_40 e1 rfl dL_law_393 (by decide) (by decide) rfl (Nat.le_of_ble_eq_true rfl) hk hn ?_
  rintro _ hp2 ⟨rfl, hc2⟩ hlen
  show GL sb K k n 396 (LL i) [.int (A)] (LW hp2 hq o)
  refine gl_aload_n (pc := 396) F dL_law_396 rfl ?_
  refine gl_sk (pc := 397) F S hL (j := 1) (by omega) dL_law_397 dL_law_398 dL_law_400 rfl dL_law_401 dL_law_402 rfl ?_
  refine gl_sk (pc := 403) F S hL (j := 2) (by omega) dL_law_403 dL_law_404 dL_law_406 rfl dL_law_407 dL_law_408 rfl ?_
  refine gl_callV (pc := 409) F C2 mi_X5_fills kv_L_43 dL_law_409 e2 rfl (List.range' 44 12) [.int (A)] (by decide) (by decide) (Sub_mid hc2.len hr.len hr.cl) (rg_nd 44 12) rfl (Nat.le_of_ble_eq_true rfl) hk hn ?_
  rintro _ hq2 ⟨rfl, hr2⟩ hlenq
  rw [show place (LW hp2 hq o) (List.range' 44 12) hq2 = LW hp2 hq2 o from place_mid hc2.len hr.len hlenq hr2.cl]
  show GL sb K k n 412 (LL i) [.int (A), .int (A)] (LW hp2 hq2 o)
  refine gl_ic_eq (pc := 412) F dL_law_412 (tgt := 1772) rfl (fun _ => ?_) (fun z => absurd rfl z)
  exact kk _ _ _ _ _ _ _ hG2 hc2 hr2

set_option maxRecDepth 100000 in
set_option maxHeartbeats 800000 in
theorem LC_blows {sb L : Nat} {xs : Nat → Int32} {K : Cx} {mc ms k n : Nat} (F : Fx K RL cL_law 8 10 mc ms) (S : ScrX sb L xs K) (hL : L ≤ 3072) (hk : k ≤ mc) (hn : n ≤ ms) {i : Nat} (hi : i + 5 < L) {r ii : Nat → Int32} {hg : Int32} {T : TX} {hp hq : Hp} {o : Nat → Int64} (hG : GI r ii hg T) (hc : CWd r ii hg T hp) (hr : RWd r ii hg T hq)
    (kk : ∀ (r ii : Nat → Int32) (hg : Int32) (T : TX) (hp hq : Hp) (o : Nat → Int64), GI r ii hg T → CWd r ii hg T hp → RWd r ii hg T hq → GL sb K k n 1772 (LL i) [] (LW hp hq o)) : GL sb K k n 417 (LL i) [] (LW hp hq o) := by
  obtain ⟨A, r2, i2, hi2, T2, hG2, C1, C2⟩ := J_blows hG hc hr (xs (i + 1))
  obtain ⟨fs, e1⟩ := hc.obj
  obtain ⟨fq, e2⟩ := hr.obj
  refine gl_aload_n (pc := 417) F dL_law_417 rfl ?_
  refine gl_sk (pc := 418) F S hL (j := 1) (by omega) dL_law_418 dL_law_419 dL_law_421 rfl dL_law_422 dL_law_423 rfl ?_
  refine gl_p_callV (pc := 424) F C1 mi_X4_blows kv_L_44 e1 rfl dL_law_424 (by decide) (by decide) rfl (Nat.le_of_ble_eq_true rfl) hk hn ?_
  rintro _ hp2 ⟨rfl, hc2⟩ hlen
  show GL sb K k n 427 (LL i) [.int (A)] (LW hp2 hq o)
  refine gl_aload_n (pc := 427) F dL_law_427 rfl ?_
  refine gl_sk (pc := 428) F S hL (j := 1) (by omega) dL_law_428 dL_law_429 dL_law_431 rfl dL_law_432 dL_law_433 rfl ?_
  refine gl_callV (pc := 434) F C2 mi_X5_blows kv_L_47 dL_law_434 e2 rfl (List.range' 44 12) [.int (A)] (by decide) (by decide) (Sub_mid hc2.len hr.len hr.cl) (rg_nd 44 12) rfl (Nat.le_of_ble_eq_true rfl) hk hn ?_
  rintro _ hq2 ⟨rfl, hr2⟩ hlenq
  rw [show place (LW hp2 hq o) (List.range' 44 12) hq2 = LW hp2 hq2 o from place_mid hc2.len hr.len hlenq hr2.cl]
  show GL sb K k n 437 (LL i) [.int (A), .int (A)] (LW hp2 hq2 o)
  refine gl_ic_eq (pc := 437) F dL_law_437 (tgt := 1772) rfl (fun _ => ?_) (fun z => absurd rfl z)
  exact kk _ _ _ _ _ _ _ hG2 hc2 hr2

set_option maxRecDepth 100000 in
set_option maxHeartbeats 800000 in
theorem LC_rests {sb L : Nat} {xs : Nat → Int32} {K : Cx} {mc ms k n : Nat} (F : Fx K RL cL_law 8 10 mc ms) (S : ScrX sb L xs K) (hL : L ≤ 3072) (hk : k ≤ mc) (hn : n ≤ ms) {i : Nat} (hi : i + 5 < L) {r ii : Nat → Int32} {hg : Int32} {T : TX} {hp hq : Hp} {o : Nat → Int64} (hG : GI r ii hg T) (hc : CWd r ii hg T hp) (hr : RWd r ii hg T hq)
    (kk : ∀ (r ii : Nat → Int32) (hg : Int32) (T : TX) (hp hq : Hp) (o : Nat → Int64), GI r ii hg T → CWd r ii hg T hp → RWd r ii hg T hq → GL sb K k n 1772 (LL i) [] (LW hp hq o)) : GL sb K k n 442 (LL i) [] (LW hp hq o) := by
  obtain ⟨A, r2, i2, hi2, T2, hG2, C1, C2⟩ := J_rests hG hc hr (xs (i + 1))
  obtain ⟨fs, e1⟩ := hc.obj
  obtain ⟨fq, e2⟩ := hr.obj
  refine gl_aload_n (pc := 442) F dL_law_442 rfl ?_
  refine gl_sk (pc := 443) F S hL (j := 1) (by omega) dL_law_443 dL_law_444 dL_law_446 rfl dL_law_447 dL_law_448 rfl ?_
  refine gl_p_callV (pc := 449) F C1 mi_X4_rests kv_L_48 e1 rfl dL_law_449 (by decide) (by decide) rfl (Nat.le_of_ble_eq_true rfl) hk hn ?_
  rintro _ hp2 ⟨rfl, hc2⟩ hlen
  show GL sb K k n 452 (LL i) [.int (A)] (LW hp2 hq o)
  refine gl_aload_n (pc := 452) F dL_law_452 rfl ?_
  refine gl_sk (pc := 453) F S hL (j := 1) (by omega) dL_law_453 dL_law_454 dL_law_456 rfl dL_law_457 dL_law_458 rfl ?_
  refine gl_callV (pc := 459) F C2 mi_X5_rests kv_L_51 dL_law_459 e2 rfl (List.range' 44 12) [.int (A)] (by decide) (by decide) (Sub_mid hc2.len hr.len hr.cl) (rg_nd 44 12) rfl (Nat.le_of_ble_eq_true rfl) hk hn ?_
  rintro _ hq2 ⟨rfl, hr2⟩ hlenq
  rw [show place (LW hp2 hq o) (List.range' 44 12) hq2 = LW hp2 hq2 o from place_mid hc2.len hr.len hlenq hr2.cl]
  show GL sb K k n 462 (LL i) [.int (A), .int (A)] (LW hp2 hq2 o)
  refine gl_ic_eq (pc := 462) F dL_law_462 (tgt := 1772) rfl (fun _ => ?_) (fun z => absurd rfl z)
  exact kk _ _ _ _ _ _ _ hG2 hc2 hr2

set_option maxRecDepth 100000 in
set_option maxHeartbeats 800000 in
theorem LC_moves {sb L : Nat} {xs : Nat → Int32} {K : Cx} {mc ms k n : Nat} (F : Fx K RL cL_law 8 10 mc ms) (S : ScrX sb L xs K) (hL : L ≤ 3072) (hk : k ≤ mc) (hn : n ≤ ms) {i : Nat} (hi : i + 5 < L) {r ii : Nat → Int32} {hg : Int32} {T : TX} {hp hq : Hp} {o : Nat → Int64} (hG : GI r ii hg T) (hc : CWd r ii hg T hp) (hr : RWd r ii hg T hq)
    (kk : ∀ (r ii : Nat → Int32) (hg : Int32) (T : TX) (hp hq : Hp) (o : Nat → Int64), GI r ii hg T → CWd r ii hg T hp → RWd r ii hg T hq → GL sb K k n 1772 (LL i) [] (LW hp hq o)) : GL sb K k n 467 (LL i) [] (LW hp hq o) := by
  obtain ⟨A, r2, i2, hi2, T2, hG2, C1, C2⟩ := J_moves hG hc hr (xs (i + 1)) (xs (i + 2))
  obtain ⟨fs, e1⟩ := hc.obj
  obtain ⟨fq, e2⟩ := hr.obj
  refine gl_aload_n (pc := 467) F dL_law_467 rfl ?_
  refine gl_sk (pc := 468) F S hL (j := 1) (by omega) dL_law_468 dL_law_469 dL_law_471 rfl dL_law_472 dL_law_473 rfl ?_
  refine gl_sk (pc := 474) F S hL (j := 2) (by omega) dL_law_474 dL_law_475 dL_law_477 rfl dL_law_478 dL_law_479 rfl ?_
  refine gl_p_callV (pc := 480) F C1 mi_X4_moves kv_L_52 e1 rfl dL_law_480 (by decide) (by decide) rfl (Nat.le_of_ble_eq_true rfl) hk hn ?_
  rintro _ hp2 ⟨rfl, hc2⟩ hlen
  show GL sb K k n 483 (LL i) [.int (A)] (LW hp2 hq o)
  refine gl_aload_n (pc := 483) F dL_law_483 rfl ?_
  refine gl_sk (pc := 484) F S hL (j := 1) (by omega) dL_law_484 dL_law_485 dL_law_487 rfl dL_law_488 dL_law_489 rfl ?_
  refine gl_sk (pc := 490) F S hL (j := 2) (by omega) dL_law_490 dL_law_491 dL_law_493 rfl dL_law_494 dL_law_495 rfl ?_
  refine gl_callV (pc := 496) F C2 mi_X5_moves kv_L_55 dL_law_496 e2 rfl (List.range' 44 12) [.int (A)] (by decide) (by decide) (Sub_mid hc2.len hr.len hr.cl) (rg_nd 44 12) rfl (Nat.le_of_ble_eq_true rfl) hk hn ?_
  rintro _ hq2 ⟨rfl, hr2⟩ hlenq
  rw [show place (LW hp2 hq o) (List.range' 44 12) hq2 = LW hp2 hq2 o from place_mid hc2.len hr.len hlenq hr2.cl]
  show GL sb K k n 499 (LL i) [.int (A), .int (A)] (LW hp2 hq2 o)
  refine gl_ic_eq (pc := 499) F dL_law_499 (tgt := 1772) rfl (fun _ => ?_) (fun z => absurd rfl z)
  exact kk _ _ _ _ _ _ _ hG2 hc2 hr2

set_option maxRecDepth 100000 in
set_option maxHeartbeats 800000 in
theorem LC_flood {sb L : Nat} {xs : Nat → Int32} {K : Cx} {mc ms k n : Nat} (F : Fx K RL cL_law 8 10 mc ms) (S : ScrX sb L xs K) (hL : L ≤ 3072) (hk : k ≤ mc) (hn : n ≤ ms) {i : Nat} (hi : i + 5 < L) {r ii : Nat → Int32} {hg : Int32} {T : TX} {hp hq : Hp} {o : Nat → Int64} (hG : GI r ii hg T) (hc : CWd r ii hg T hp) (hr : RWd r ii hg T hq)
    (kk : ∀ (r ii : Nat → Int32) (hg : Int32) (T : TX) (hp hq : Hp) (o : Nat → Int64), GI r ii hg T → CWd r ii hg T hp → RWd r ii hg T hq → GL sb K k n 1772 (LL i) [] (LW hp hq o)) : GL sb K k n 504 (LL i) [] (LW hp hq o) := by
  obtain ⟨A, r2, i2, hi2, T2, hG2, C1, C2⟩ := J_flood hG hc hr 
  obtain ⟨fs, e1⟩ := hc.obj
  obtain ⟨fq, e2⟩ := hr.obj
  refine gl_aload_n (pc := 504) F dL_law_504 rfl ?_
  refine gl_p_callV (pc := 505) F C1 mi_X4_flood kv_L_56 e1 rfl dL_law_505 (by decide) (by decide) rfl (Nat.le_of_ble_eq_true rfl) hk hn ?_
  rintro _ hp2 ⟨rfl, hc2⟩ hlen
  show GL sb K k n 508 (LL i) [.int (A)] (LW hp2 hq o)
  refine gl_aload_n (pc := 508) F dL_law_508 rfl ?_
  refine gl_callV (pc := 509) F C2 mi_X5_flood kv_L_60 dL_law_509 e2 rfl (List.range' 44 12) [.int (A)] (by decide) (by decide) (Sub_mid hc2.len hr.len hr.cl) (rg_nd 44 12) rfl (Nat.le_of_ble_eq_true rfl) hk hn ?_
  rintro _ hq2 ⟨rfl, hr2⟩ hlenq
  rw [show place (LW hp2 hq o) (List.range' 44 12) hq2 = LW hp2 hq2 o from place_mid hc2.len hr.len hlenq hr2.cl]
  show GL sb K k n 512 (LL i) [.int (A), .int (A)] (LW hp2 hq2 o)
  refine gl_ic_eq (pc := 512) F dL_law_512 (tgt := 1772) rfl (fun _ => ?_) (fun z => absurd rfl z)
  exact kk _ _ _ _ _ _ _ hG2 hc2 hr2

set_option maxRecDepth 100000 in
set_option maxHeartbeats 800000 in
theorem LC_days {sb L : Nat} {xs : Nat → Int32} {K : Cx} {mc ms k n : Nat} (F : Fx K RL cL_law 8 10 mc ms) (S : ScrX sb L xs K) (hL : L ≤ 3072) (hk : k ≤ mc) (hn : n ≤ ms) {i : Nat} (hi : i + 5 < L) {r ii : Nat → Int32} {hg : Int32} {T : TX} {hp hq : Hp} {o : Nat → Int64} (hG : GI r ii hg T) (hc : CWd r ii hg T hp) (hr : RWd r ii hg T hq)
    (kk : ∀ (r ii : Nat → Int32) (hg : Int32) (T : TX) (hp hq : Hp) (o : Nat → Int64), GI r ii hg T → CWd r ii hg T hp → RWd r ii hg T hq → GL sb K k n 1772 (LL i) [] (LW hp hq o)) : GL sb K k n 517 (LL i) [] (LW hp hq o) := by
  obtain ⟨A, r2, i2, hi2, T2, hG2, C1, C2⟩ := J_days hG hc hr (xs (i + 1))
  obtain ⟨fs, e1⟩ := hc.obj
  obtain ⟨fq, e2⟩ := hr.obj
  refine gl_aload_n (pc := 517) F dL_law_517 rfl ?_
  refine gl_sk (pc := 518) F S hL (j := 1) (by omega) dL_law_518 dL_law_519 dL_law_521 rfl dL_law_522 dL_law_523 rfl ?_
  refine gl_p_callV (pc := 524) F C1 mi_X4_days kv_L_61 e1 rfl dL_law_524 (by decide) (by decide) rfl (Nat.le_of_ble_eq_true rfl) hk hn ?_
  rintro _ hp2 ⟨rfl, hc2⟩ hlen
  show GL sb K k n 527 (LL i) [.int (A)] (LW hp2 hq o)
  refine gl_aload_n (pc := 527) F dL_law_527 rfl ?_
  refine gl_sk (pc := 528) F S hL (j := 1) (by omega) dL_law_528 dL_law_529 dL_law_531 rfl dL_law_532 dL_law_533 rfl ?_
  refine gl_callV (pc := 534) F C2 mi_X5_days kv_L_64 dL_law_534 e2 rfl (List.range' 44 12) [.int (A)] (by decide) (by decide) (Sub_mid hc2.len hr.len hr.cl) (rg_nd 44 12) rfl (Nat.le_of_ble_eq_true rfl) hk hn ?_
  rintro _ hq2 ⟨rfl, hr2⟩ hlenq
  rw [show place (LW hp2 hq o) (List.range' 44 12) hq2 = LW hp2 hq2 o from place_mid hc2.len hr.len hlenq hr2.cl]
  show GL sb K k n 537 (LL i) [.int (A), .int (A)] (LW hp2 hq2 o)
  refine gl_ic_eq (pc := 537) F dL_law_537 (tgt := 1772) rfl (fun _ => ?_) (fun z => absurd rfl z)
  exact kk _ _ _ _ _ _ _ hG2 hc2 hr2

set_option maxRecDepth 100000 in
set_option maxHeartbeats 800000 in
theorem LC_corporalThen {sb L : Nat} {xs : Nat → Int32} {K : Cx} {mc ms k n : Nat} (F : Fx K RL cL_law 8 10 mc ms) (S : ScrX sb L xs K) (hL : L ≤ 3072) (hk : k ≤ mc) (hn : n ≤ ms) {i : Nat} (hi : i + 5 < L) {r ii : Nat → Int32} {hg : Int32} {T : TX} {hp hq : Hp} {o : Nat → Int64} (hG : GI r ii hg T) (hc : CWd r ii hg T hp) (hr : RWd r ii hg T hq)
    (kk : ∀ (r ii : Nat → Int32) (hg : Int32) (T : TX) (hp hq : Hp) (o : Nat → Int64), GI r ii hg T → CWd r ii hg T hp → RWd r ii hg T hq → GL sb K k n 1772 (LL i) [] (LW hp hq o)) : GL sb K k n 542 (LL i) [] (LW hp hq o) := by
  obtain ⟨A, r2, i2, hi2, T2, hG2, C1, C2⟩ := J_corporalThen hG hc hr (xs (i + 1)) (xs (i + 2)) (xs (i + 3))
  obtain ⟨fs, e1⟩ := hc.obj
  obtain ⟨fq, e2⟩ := hr.obj
  refine gl_aload_n (pc := 542) F dL_law_542 rfl ?_
  refine gl_sk (pc := 543) F S hL (j := 1) (by omega) dL_law_543 dL_law_544 dL_law_546 rfl dL_law_547 dL_law_548 rfl ?_
  refine gl_sk (pc := 549) F S hL (j := 2) (by omega) dL_law_549 dL_law_550 dL_law_552 rfl dL_law_553 dL_law_554 rfl ?_
  refine gl_sk (pc := 555) F S hL (j := 3) (by omega) dL_law_555 dL_law_556 dL_law_558 rfl dL_law_559 dL_law_560 rfl ?_
  refine gl_p_callV (pc := 561) F C1 mi_X4_corporalThen kv_L_65 e1 rfl dL_law_561 (by decide) (by decide) rfl (Nat.le_of_ble_eq_true rfl) hk hn ?_
  rintro _ hp2 ⟨rfl, hc2⟩ hlen
  show GL sb K k n 564 (LL i) [.int (A)] (LW hp2 hq o)
  refine gl_aload_n (pc := 564) F dL_law_564 rfl ?_
  refine gl_sk (pc := 565) F S hL (j := 1) (by omega) dL_law_565 dL_law_566 dL_law_568 rfl dL_law_569 dL_law_570 rfl ?_
  refine gl_sk (pc := 571) F S hL (j := 2) (by omega) dL_law_571 dL_law_572 dL_law_574 rfl dL_law_575 dL_law_576 rfl ?_
  refine gl_sk (pc := 577) F S hL (j := 3) (by omega) dL_law_577 dL_law_578 dL_law_580 rfl dL_law_581 dL_law_582 rfl ?_
  refine gl_callV (pc := 583) F C2 mi_X5_corporalThen kv_L_68 dL_law_583 e2 rfl (List.range' 44 12) [.int (A)] (by decide) (by decide) (Sub_mid hc2.len hr.len hr.cl) (rg_nd 44 12) rfl (Nat.le_of_ble_eq_true rfl) hk hn ?_
  rintro _ hq2 ⟨rfl, hr2⟩ hlenq
  rw [show place (LW hp2 hq o) (List.range' 44 12) hq2 = LW hp2 hq2 o from place_mid hc2.len hr.len hlenq hr2.cl]
  show GL sb K k n 586 (LL i) [.int (A), .int (A)] (LW hp2 hq2 o)
  refine gl_ic_eq (pc := 586) F dL_law_586 (tgt := 1772) rfl (fun _ => ?_) (fun z => absurd rfl z)
  exact kk _ _ _ _ _ _ _ hG2 hc2 hr2

set_option maxRecDepth 100000 in
set_option maxHeartbeats 800000 in
theorem LC_dipThen {sb L : Nat} {xs : Nat → Int32} {K : Cx} {mc ms k n : Nat} (F : Fx K RL cL_law 8 10 mc ms) (S : ScrX sb L xs K) (hL : L ≤ 3072) (hk : k ≤ mc) (hn : n ≤ ms) {i : Nat} (hi : i + 5 < L) {r ii : Nat → Int32} {hg : Int32} {T : TX} {hp hq : Hp} {o : Nat → Int64} (hG : GI r ii hg T) (hc : CWd r ii hg T hp) (hr : RWd r ii hg T hq)
    (kk : ∀ (r ii : Nat → Int32) (hg : Int32) (T : TX) (hp hq : Hp) (o : Nat → Int64), GI r ii hg T → CWd r ii hg T hp → RWd r ii hg T hq → GL sb K k n 1772 (LL i) [] (LW hp hq o)) : GL sb K k n 591 (LL i) [] (LW hp hq o) := by
  obtain ⟨A, r2, i2, hi2, T2, hG2, C1, C2⟩ := J_dipThen hG hc hr (xs (i + 1)) (xs (i + 2)) (xs (i + 3))
  obtain ⟨fs, e1⟩ := hc.obj
  obtain ⟨fq, e2⟩ := hr.obj
  refine gl_aload_n (pc := 591) F dL_law_591 rfl ?_
  refine gl_sk (pc := 592) F S hL (j := 1) (by omega) dL_law_592 dL_law_593 dL_law_595 rfl dL_law_596 dL_law_597 rfl ?_
  refine gl_sk (pc := 598) F S hL (j := 2) (by omega) dL_law_598 dL_law_599 dL_law_601 rfl dL_law_602 dL_law_603 rfl ?_
  refine gl_sk (pc := 604) F S hL (j := 3) (by omega) dL_law_604 dL_law_605 dL_law_607 rfl dL_law_608 dL_law_609 rfl ?_
  refine gl_p_callV (pc := 610) F C1 mi_X4_dipThen kv_L_69 e1 rfl dL_law_610 (by decide) (by decide) rfl (Nat.le_of_ble_eq_true rfl) hk hn ?_
  rintro _ hp2 ⟨rfl, hc2⟩ hlen
  show GL sb K k n 613 (LL i) [.int (A)] (LW hp2 hq o)
  refine gl_aload_n (pc := 613) F dL_law_613 rfl ?_
  refine gl_sk (pc := 614) F S hL (j := 1) (by omega) dL_law_614 dL_law_615 dL_law_617 rfl dL_law_618 dL_law_619 rfl ?_
  refine gl_sk (pc := 620) F S hL (j := 2) (by omega) dL_law_620 dL_law_621 dL_law_623 rfl dL_law_624 dL_law_625 rfl ?_
  refine gl_sk (pc := 626) F S hL (j := 3) (by omega) dL_law_626 dL_law_627 dL_law_629 rfl dL_law_630 dL_law_631 rfl ?_
  refine gl_callV (pc := 632) F C2 mi_X5_dipThen kv_L_72 dL_law_632 e2 rfl (List.range' 44 12) [.int (A)] (by decide) (by decide) (Sub_mid hc2.len hr.len hr.cl) (rg_nd 44 12) rfl (Nat.le_of_ble_eq_true rfl) hk hn ?_
  rintro _ hq2 ⟨rfl, hr2⟩ hlenq
  rw [show place (LW hp2 hq o) (List.range' 44 12) hq2 = LW hp2 hq2 o from place_mid hc2.len hr.len hlenq hr2.cl]
  show GL sb K k n 635 (LL i) [.int (A), .int (A)] (LW hp2 hq2 o)
  refine gl_ic_eq (pc := 635) F dL_law_635 (tgt := 1772) rfl (fun _ => ?_) (fun z => absurd rfl z)
  exact kk _ _ _ _ _ _ _ hG2 hc2 hr2

set_option maxRecDepth 100000 in
set_option maxHeartbeats 800000 in
theorem LC_dipsDone {sb L : Nat} {xs : Nat → Int32} {K : Cx} {mc ms k n : Nat} (F : Fx K RL cL_law 8 10 mc ms) (S : ScrX sb L xs K) (hL : L ≤ 3072) (hk : k ≤ mc) (hn : n ≤ ms) {i : Nat} (hi : i + 5 < L) {r ii : Nat → Int32} {hg : Int32} {T : TX} {hp hq : Hp} {o : Nat → Int64} (hG : GI r ii hg T) (hc : CWd r ii hg T hp) (hr : RWd r ii hg T hq)
    (kk : ∀ (r ii : Nat → Int32) (hg : Int32) (T : TX) (hp hq : Hp) (o : Nat → Int64), GI r ii hg T → CWd r ii hg T hp → RWd r ii hg T hq → GL sb K k n 1772 (LL i) [] (LW hp hq o)) : GL sb K k n 640 (LL i) [] (LW hp hq o) := by
  obtain ⟨A, r2, i2, hi2, T2, hG2, C1, C2⟩ := J_dipsDone hG hc hr (xs (i + 1))
  obtain ⟨fs, e1⟩ := hc.obj
  obtain ⟨fq, e2⟩ := hr.obj
  refine gl_aload_n (pc := 640) F dL_law_640 rfl ?_
  refine gl_sk (pc := 641) F S hL (j := 1) (by omega) dL_law_641 dL_law_642 dL_law_644 rfl dL_law_645 dL_law_646 rfl ?_
  refine gl_p_callV (pc := 647) F C1 mi_X4_dipsDone kv_L_73 e1 rfl dL_law_647 (by decide) (by decide) rfl (Nat.le_of_ble_eq_true rfl) hk hn ?_
  rintro _ hp2 ⟨rfl, hc2⟩ hlen
  show GL sb K k n 650 (LL i) [.int (A)] (LW hp2 hq o)
  refine gl_aload_n (pc := 650) F dL_law_650 rfl ?_
  refine gl_sk (pc := 651) F S hL (j := 1) (by omega) dL_law_651 dL_law_652 dL_law_654 rfl dL_law_655 dL_law_656 rfl ?_
  refine gl_callV (pc := 657) F C2 mi_X5_dipsDone kv_L_76 dL_law_657 e2 rfl (List.range' 44 12) [.int (A)] (by decide) (by decide) (Sub_mid hc2.len hr.len hr.cl) (rg_nd 44 12) rfl (Nat.le_of_ble_eq_true rfl) hk hn ?_
  rintro _ hq2 ⟨rfl, hr2⟩ hlenq
  rw [show place (LW hp2 hq o) (List.range' 44 12) hq2 = LW hp2 hq2 o from place_mid hc2.len hr.len hlenq hr2.cl]
  show GL sb K k n 660 (LL i) [.int (A), .int (A)] (LW hp2 hq2 o)
  refine gl_ic_eq (pc := 660) F dL_law_660 (tgt := 1772) rfl (fun _ => ?_) (fun z => absurd rfl z)
  exact kk _ _ _ _ _ _ _ hG2 hc2 hr2

set_option maxRecDepth 100000 in
set_option maxHeartbeats 800000 in
theorem LC_ends {sb L : Nat} {xs : Nat → Int32} {K : Cx} {mc ms k n : Nat} (F : Fx K RL cL_law 8 10 mc ms) (S : ScrX sb L xs K) (hL : L ≤ 3072) (hk : k ≤ mc) (hn : n ≤ ms) {i : Nat} (hi : i + 5 < L) {r ii : Nat → Int32} {hg : Int32} {T : TX} {hp hq : Hp} {o : Nat → Int64} (hG : GI r ii hg T) (hc : CWd r ii hg T hp) (hr : RWd r ii hg T hq)
    (kk : ∀ (r ii : Nat → Int32) (hg : Int32) (T : TX) (hp hq : Hp) (o : Nat → Int64), GI r ii hg T → CWd r ii hg T hp → RWd r ii hg T hq → GL sb K k n 1772 (LL i) [] (LW hp hq o)) : GL sb K k n 665 (LL i) [] (LW hp hq o) := by
  obtain ⟨A, r2, i2, hi2, T2, hG2, C1, C2⟩ := J_ends hG hc hr (xs (i + 1))
  obtain ⟨fs, e1⟩ := hc.obj
  obtain ⟨fq, e2⟩ := hr.obj
  refine gl_aload_n (pc := 665) F dL_law_665 rfl ?_
  refine gl_sk (pc := 666) F S hL (j := 1) (by omega) dL_law_666 dL_law_667 dL_law_669 rfl dL_law_670 dL_law_671 rfl ?_
  refine gl_p_callV (pc := 672) F C1 mi_X4_ends kv_L_77 e1 rfl dL_law_672 (by decide) (by decide) rfl (Nat.le_of_ble_eq_true rfl) hk hn ?_
  rintro _ hp2 ⟨rfl, hc2⟩ hlen
  show GL sb K k n 675 (LL i) [.int (A)] (LW hp2 hq o)
  refine gl_aload_n (pc := 675) F dL_law_675 rfl ?_
  refine gl_sk (pc := 676) F S hL (j := 1) (by omega) dL_law_676 dL_law_677 dL_law_679 rfl dL_law_680 dL_law_681 rfl ?_
  refine gl_callV (pc := 682) F C2 mi_X5_ends kv_L_80 dL_law_682 e2 rfl (List.range' 44 12) [.int (A)] (by decide) (by decide) (Sub_mid hc2.len hr.len hr.cl) (rg_nd 44 12) rfl (Nat.le_of_ble_eq_true rfl) hk hn ?_
  rintro _ hq2 ⟨rfl, hr2⟩ hlenq
  rw [show place (LW hp2 hq o) (List.range' 44 12) hq2 = LW hp2 hq2 o from place_mid hc2.len hr.len hlenq hr2.cl]
  show GL sb K k n 685 (LL i) [.int (A), .int (A)] (LW hp2 hq2 o)
  refine gl_ic_eq (pc := 685) F dL_law_685 (tgt := 1772) rfl (fun _ => ?_) (fun z => absurd rfl z)
  exact kk _ _ _ _ _ _ _ hG2 hc2 hr2

set_option maxRecDepth 100000 in
set_option maxHeartbeats 800000 in
theorem LC_meet {sb L : Nat} {xs : Nat → Int32} {K : Cx} {mc ms k n : Nat} (F : Fx K RL cL_law 8 10 mc ms) (S : ScrX sb L xs K) (hL : L ≤ 3072) (hk : k ≤ mc) (hn : n ≤ ms) {i : Nat} (hi : i + 5 < L) {r ii : Nat → Int32} {hg : Int32} {T : TX} {hp hq : Hp} {o : Nat → Int64} (hG : GI r ii hg T) (hc : CWd r ii hg T hp) (hr : RWd r ii hg T hq)
    (kk : ∀ (r ii : Nat → Int32) (hg : Int32) (T : TX) (hp hq : Hp) (o : Nat → Int64), GI r ii hg T → CWd r ii hg T hp → RWd r ii hg T hq → GL sb K k n 1772 (LL i) [] (LW hp hq o)) : GL sb K k n 690 (LL i) [] (LW hp hq o) := by
  obtain ⟨A, r2, i2, hi2, T2, hG2, C1, C2⟩ := J_meet hG hc hr (xs (i + 1)) (xs (i + 2))
  obtain ⟨fs, e1⟩ := hc.obj
  obtain ⟨fq, e2⟩ := hr.obj
  refine gl_aload_n (pc := 690) F dL_law_690 rfl ?_
  refine gl_sk (pc := 691) F S hL (j := 1) (by omega) dL_law_691 dL_law_692 dL_law_694 rfl dL_law_695 dL_law_696 rfl ?_
  refine gl_sk (pc := 697) F S hL (j := 2) (by omega) dL_law_697 dL_law_698 dL_law_700 rfl dL_law_701 dL_law_702 rfl ?_
  refine gl_p_callV (pc := 703) F C1 mi_X4_meet kv_L_81 e1 rfl dL_law_703 (by decide) (by decide) rfl (Nat.le_of_ble_eq_true rfl) hk hn ?_
  rintro _ hp2 ⟨rfl, hc2⟩ hlen
  show GL sb K k n 706 (LL i) [.int (A)] (LW hp2 hq o)
  refine gl_aload_n (pc := 706) F dL_law_706 rfl ?_
  refine gl_sk (pc := 707) F S hL (j := 1) (by omega) dL_law_707 dL_law_708 dL_law_710 rfl dL_law_711 dL_law_712 rfl ?_
  refine gl_sk (pc := 713) F S hL (j := 2) (by omega) dL_law_713 dL_law_714 dL_law_716 rfl dL_law_717 dL_law_718 rfl ?_
  refine gl_callV (pc := 719) F C2 mi_X5_meet kv_L_84 dL_law_719 e2 rfl (List.range' 44 12) [.int (A)] (by decide) (by decide) (Sub_mid hc2.len hr.len hr.cl) (rg_nd 44 12) rfl (Nat.le_of_ble_eq_true rfl) hk hn ?_
  rintro _ hq2 ⟨rfl, hr2⟩ hlenq
  rw [show place (LW hp2 hq o) (List.range' 44 12) hq2 = LW hp2 hq2 o from place_mid hc2.len hr.len hlenq hr2.cl]
  show GL sb K k n 722 (LL i) [.int (A), .int (A)] (LW hp2 hq2 o)
  refine gl_ic_eq (pc := 722) F dL_law_722 (tgt := 1772) rfl (fun _ => ?_) (fun z => absurd rfl z)
  exact kk _ _ _ _ _ _ _ hG2 hc2 hr2

set_option maxRecDepth 100000 in
set_option maxHeartbeats 800000 in
theorem LC_line {sb L : Nat} {xs : Nat → Int32} {K : Cx} {mc ms k n : Nat} (F : Fx K RL cL_law 8 10 mc ms) (S : ScrX sb L xs K) (hL : L ≤ 3072) (hk : k ≤ mc) (hn : n ≤ ms) {i : Nat} (hi : i + 5 < L) {r ii : Nat → Int32} {hg : Int32} {T : TX} {hp hq : Hp} {o : Nat → Int64} (hG : GI r ii hg T) (hc : CWd r ii hg T hp) (hr : RWd r ii hg T hq)
    (kk : ∀ (r ii : Nat → Int32) (hg : Int32) (T : TX) (hp hq : Hp) (o : Nat → Int64), GI r ii hg T → CWd r ii hg T hp → RWd r ii hg T hq → GL sb K k n 1772 (LL i) [] (LW hp hq o)) : GL sb K k n 727 (LL i) [] (LW hp hq o) := by
  obtain ⟨A, r2, i2, hi2, T2, hG2, C1, C2⟩ := J_line hG hc hr (xs (i + 1))
  obtain ⟨fs, e1⟩ := hc.obj
  obtain ⟨fq, e2⟩ := hr.obj
  refine gl_aload_n (pc := 727) F dL_law_727 rfl ?_
  refine gl_sk (pc := 728) F S hL (j := 1) (by omega) dL_law_728 dL_law_729 dL_law_731 rfl dL_law_732 dL_law_733 rfl ?_
  refine gl_p_callV (pc := 734) F C1 mi_X4_line kv_L_85 e1 rfl dL_law_734 (by decide) (by decide) rfl (Nat.le_of_ble_eq_true rfl) hk hn ?_
  rintro _ hp2 ⟨rfl, hc2⟩ hlen
  show GL sb K k n 737 (LL i) [.int (A)] (LW hp2 hq o)
  refine gl_aload_n (pc := 737) F dL_law_737 rfl ?_
  refine gl_sk (pc := 738) F S hL (j := 1) (by omega) dL_law_738 dL_law_739 dL_law_741 rfl dL_law_742 dL_law_743 rfl ?_
  refine gl_callV (pc := 744) F C2 mi_X5_line kv_L_88 dL_law_744 e2 rfl (List.range' 44 12) [.int (A)] (by decide) (by decide) (Sub_mid hc2.len hr.len hr.cl) (rg_nd 44 12) rfl (Nat.le_of_ble_eq_true rfl) hk hn ?_
  rintro _ hq2 ⟨rfl, hr2⟩ hlenq
  rw [show place (LW hp2 hq o) (List.range' 44 12) hq2 = LW hp2 hq2 o from place_mid hc2.len hr.len hlenq hr2.cl]
  show GL sb K k n 747 (LL i) [.int (A), .int (A)] (LW hp2 hq2 o)
  refine gl_ic_eq (pc := 747) F dL_law_747 (tgt := 1772) rfl (fun _ => ?_) (fun z => absurd rfl z)
  exact kk _ _ _ _ _ _ _ hG2 hc2 hr2

set_option maxRecDepth 100000 in
set_option maxHeartbeats 800000 in
theorem LC_treaty {sb L : Nat} {xs : Nat → Int32} {K : Cx} {mc ms k n : Nat} (F : Fx K RL cL_law 8 10 mc ms) (S : ScrX sb L xs K) (hL : L ≤ 3072) (hk : k ≤ mc) (hn : n ≤ ms) {i : Nat} (hi : i + 5 < L) {r ii : Nat → Int32} {hg : Int32} {T : TX} {hp hq : Hp} {o : Nat → Int64} (hG : GI r ii hg T) (hc : CWd r ii hg T hp) (hr : RWd r ii hg T hq)
    (kk : ∀ (r ii : Nat → Int32) (hg : Int32) (T : TX) (hp hq : Hp) (o : Nat → Int64), GI r ii hg T → CWd r ii hg T hp → RWd r ii hg T hq → GL sb K k n 1772 (LL i) [] (LW hp hq o)) : GL sb K k n 752 (LL i) [] (LW hp hq o) := by
  obtain ⟨A, r2, i2, hi2, T2, hG2, C1, C2⟩ := J_treaty hG hc hr (xs (i + 1))
  obtain ⟨fs, e1⟩ := hc.obj
  obtain ⟨fq, e2⟩ := hr.obj
  refine gl_aload_n (pc := 752) F dL_law_752 rfl ?_
  refine gl_sk (pc := 753) F S hL (j := 1) (by omega) dL_law_753 dL_law_754 dL_law_756 rfl dL_law_757 dL_law_758 rfl ?_
  refine gl_p_callV (pc := 759) F C1 mi_X4_treaty kv_L_89 e1 rfl dL_law_759 (by decide) (by decide) rfl (Nat.le_of_ble_eq_true rfl) hk hn ?_
  rintro _ hp2 ⟨rfl, hc2⟩ hlen
  show GL sb K k n 762 (LL i) [.int (A)] (LW hp2 hq o)
  refine gl_aload_n (pc := 762) F dL_law_762 rfl ?_
  refine gl_sk (pc := 763) F S hL (j := 1) (by omega) dL_law_763 dL_law_764 dL_law_766 rfl dL_law_767 dL_law_768 rfl ?_
  refine gl_callV (pc := 769) F C2 mi_X5_treaty kv_L_92 dL_law_769 e2 rfl (List.range' 44 12) [.int (A)] (by decide) (by decide) (Sub_mid hc2.len hr.len hr.cl) (rg_nd 44 12) rfl (Nat.le_of_ble_eq_true rfl) hk hn ?_
  rintro _ hq2 ⟨rfl, hr2⟩ hlenq
  rw [show place (LW hp2 hq o) (List.range' 44 12) hq2 = LW hp2 hq2 o from place_mid hc2.len hr.len hlenq hr2.cl]
  show GL sb K k n 772 (LL i) [.int (A), .int (A)] (LW hp2 hq2 o)
  refine gl_ic_eq (pc := 772) F dL_law_772 (tgt := 1772) rfl (fun _ => ?_) (fun z => absurd rfl z)
  exact kk _ _ _ _ _ _ _ hG2 hc2 hr2

set_option maxRecDepth 100000 in
set_option maxHeartbeats 800000 in
theorem LC_bestWind {sb L : Nat} {xs : Nat → Int32} {K : Cx} {mc ms k n : Nat} (F : Fx K RL cL_law 8 10 mc ms) (S : ScrX sb L xs K) (hL : L ≤ 3072) (hk : k ≤ mc) (hn : n ≤ ms) {i : Nat} (hi : i + 5 < L) {r ii : Nat → Int32} {hg : Int32} {T : TX} {hp hq : Hp} {o : Nat → Int64} (hG : GI r ii hg T) (hc : CWd r ii hg T hp) (hr : RWd r ii hg T hq)
    (kk : ∀ (r ii : Nat → Int32) (hg : Int32) (T : TX) (hp hq : Hp) (o : Nat → Int64), GI r ii hg T → CWd r ii hg T hp → RWd r ii hg T hq → GL sb K k n 1772 (LL i) [] (LW hp hq o)) : GL sb K k n 777 (LL i) [] (LW hp hq o) := by
  obtain ⟨A, r2, i2, hi2, T2, hG2, C1, C2⟩ := J_bestWind hG hc hr (xs (i + 1)) (xs (i + 2))
  obtain ⟨fs, e1⟩ := hc.obj
  obtain ⟨fq, e2⟩ := hr.obj
  refine gl_aload_n (pc := 777) F dL_law_777 rfl ?_
  refine gl_sk (pc := 778) F S hL (j := 1) (by omega) dL_law_778 dL_law_779 dL_law_781 rfl dL_law_782 dL_law_783 rfl ?_
  refine gl_sk (pc := 784) F S hL (j := 2) (by omega) dL_law_784 dL_law_785 dL_law_787 rfl dL_law_788 dL_law_789 rfl ?_
  refine gl_p_callV (pc := 790) F C1 mi_X4_bestWind kv_L_93 e1 rfl dL_law_790 (by decide) (by decide) rfl (Nat.le_of_ble_eq_true rfl) hk hn ?_
  rintro _ hp2 ⟨rfl, hc2⟩ hlen
  show GL sb K k n 793 (LL i) [.int (A)] (LW hp2 hq o)
  refine gl_aload_n (pc := 793) F dL_law_793 rfl ?_
  refine gl_sk (pc := 794) F S hL (j := 1) (by omega) dL_law_794 dL_law_795 dL_law_797 rfl dL_law_798 dL_law_799 rfl ?_
  refine gl_sk (pc := 800) F S hL (j := 2) (by omega) dL_law_800 dL_law_801 dL_law_803 rfl dL_law_804 dL_law_805 rfl ?_
  refine gl_callV (pc := 806) F C2 mi_X5_bestWind kv_L_96 dL_law_806 e2 rfl (List.range' 44 12) [.int (A)] (by decide) (by decide) (Sub_mid hc2.len hr.len hr.cl) (rg_nd 44 12) rfl (Nat.le_of_ble_eq_true rfl) hk hn ?_
  rintro _ hq2 ⟨rfl, hr2⟩ hlenq
  rw [show place (LW hp2 hq o) (List.range' 44 12) hq2 = LW hp2 hq2 o from place_mid hc2.len hr.len hlenq hr2.cl]
  show GL sb K k n 809 (LL i) [.int (A), .int (A)] (LW hp2 hq2 o)
  refine gl_ic_eq (pc := 809) F dL_law_809 (tgt := 1772) rfl (fun _ => ?_) (fun z => absurd rfl z)
  exact kk _ _ _ _ _ _ _ hG2 hc2 hr2

set_option maxRecDepth 100000 in
set_option maxHeartbeats 800000 in
theorem LC_send {sb L : Nat} {xs : Nat → Int32} {K : Cx} {mc ms k n : Nat} (F : Fx K RL cL_law 8 10 mc ms) (S : ScrX sb L xs K) (hL : L ≤ 3072) (hk : k ≤ mc) (hn : n ≤ ms) {i : Nat} (hi : i + 5 < L) {r ii : Nat → Int32} {hg : Int32} {T : TX} {hp hq : Hp} {o : Nat → Int64} (hG : GI r ii hg T) (hc : CWd r ii hg T hp) (hr : RWd r ii hg T hq)
    (kk : ∀ (r ii : Nat → Int32) (hg : Int32) (T : TX) (hp hq : Hp) (o : Nat → Int64), GI r ii hg T → CWd r ii hg T hp → RWd r ii hg T hq → GL sb K k n 1772 (LL i) [] (LW hp hq o)) : GL sb K k n 814 (LL i) [] (LW hp hq o) := by
  obtain ⟨A, r2, i2, hi2, T2, hG2, C1, C2⟩ := J_send hG hc hr (xs (i + 1)) (xs (i + 2)) (xs (i + 3))
  obtain ⟨fs, e1⟩ := hc.obj
  obtain ⟨fq, e2⟩ := hr.obj
  refine gl_aload_n (pc := 814) F dL_law_814 rfl ?_
  refine gl_sk (pc := 815) F S hL (j := 1) (by omega) dL_law_815 dL_law_816 dL_law_818 rfl dL_law_819 dL_law_820 rfl ?_
  refine gl_sk (pc := 821) F S hL (j := 2) (by omega) dL_law_821 dL_law_822 dL_law_824 rfl dL_law_825 dL_law_826 rfl ?_
  refine gl_sk (pc := 827) F S hL (j := 3) (by omega) dL_law_827 dL_law_828 dL_law_830 rfl dL_law_831 dL_law_832 rfl ?_
  refine gl_p_callV (pc := 833) F C1 mi_X4_send kv_L_97 e1 rfl dL_law_833 (by decide) (by decide) rfl (Nat.le_of_ble_eq_true rfl) hk hn ?_
  rintro _ hp2 ⟨rfl, hc2⟩ hlen
  show GL sb K k n 836 (LL i) [.int (A)] (LW hp2 hq o)
  refine gl_aload_n (pc := 836) F dL_law_836 rfl ?_
  refine gl_sk (pc := 837) F S hL (j := 1) (by omega) dL_law_837 dL_law_838 dL_law_840 rfl dL_law_841 dL_law_842 rfl ?_
  refine gl_sk (pc := 843) F S hL (j := 2) (by omega) dL_law_843 dL_law_844 dL_law_846 rfl dL_law_847 dL_law_848 rfl ?_
  refine gl_sk (pc := 849) F S hL (j := 3) (by omega) dL_law_849 dL_law_850 dL_law_852 rfl dL_law_853 dL_law_854 rfl ?_
  refine gl_callV (pc := 855) F C2 mi_X5_send kv_L_100 dL_law_855 e2 rfl (List.range' 44 12) [.int (A)] (by decide) (by decide) (Sub_mid hc2.len hr.len hr.cl) (rg_nd 44 12) rfl (Nat.le_of_ble_eq_true rfl) hk hn ?_
  rintro _ hq2 ⟨rfl, hr2⟩ hlenq
  rw [show place (LW hp2 hq o) (List.range' 44 12) hq2 = LW hp2 hq2 o from place_mid hc2.len hr.len hlenq hr2.cl]
  show GL sb K k n 858 (LL i) [.int (A), .int (A)] (LW hp2 hq2 o)
  refine gl_ic_eq (pc := 858) F dL_law_858 (tgt := 1772) rfl (fun _ => ?_) (fun z => absurd rfl z)
  exact kk _ _ _ _ _ _ _ hG2 hc2 hr2

set_option maxRecDepth 100000 in
set_option maxHeartbeats 800000 in
theorem LC_idle {sb L : Nat} {xs : Nat → Int32} {K : Cx} {mc ms k n : Nat} (F : Fx K RL cL_law 8 10 mc ms) (S : ScrX sb L xs K) (hL : L ≤ 3072) (hk : k ≤ mc) (hn : n ≤ ms) {i : Nat} (hi : i + 5 < L) {r ii : Nat → Int32} {hg : Int32} {T : TX} {hp hq : Hp} {o : Nat → Int64} (hG : GI r ii hg T) (hc : CWd r ii hg T hp) (hr : RWd r ii hg T hq)
    (kk : ∀ (r ii : Nat → Int32) (hg : Int32) (T : TX) (hp hq : Hp) (o : Nat → Int64), GI r ii hg T → CWd r ii hg T hp → RWd r ii hg T hq → GL sb K k n 1772 (LL i) [] (LW hp hq o)) : GL sb K k n 863 (LL i) [] (LW hp hq o) := by
  obtain ⟨A, r2, i2, hi2, T2, hG2, C1, C2⟩ := J_idle hG hc hr (xs (i + 1))
  obtain ⟨fs, e1⟩ := hc.obj
  obtain ⟨fq, e2⟩ := hr.obj
  refine gl_aload_n (pc := 863) F dL_law_863 rfl ?_
  refine gl_sk (pc := 864) F S hL (j := 1) (by omega) dL_law_864 dL_law_865 dL_law_867 rfl dL_law_868 dL_law_869 rfl ?_
  refine gl_p_callV (pc := 870) F C1 mi_X4_idle kv_L_101 e1 rfl dL_law_870 (by decide) (by decide) rfl (Nat.le_of_ble_eq_true rfl) hk hn ?_
  rintro _ hp2 ⟨rfl, hc2⟩ hlen
  show GL sb K k n 873 (LL i) [.int (A)] (LW hp2 hq o)
  refine gl_aload_n (pc := 873) F dL_law_873 rfl ?_
  refine gl_sk (pc := 874) F S hL (j := 1) (by omega) dL_law_874 dL_law_875 dL_law_877 rfl dL_law_878 dL_law_879 rfl ?_
  refine gl_callV (pc := 880) F C2 mi_X5_idle kv_L_104 dL_law_880 e2 rfl (List.range' 44 12) [.int (A)] (by decide) (by decide) (Sub_mid hc2.len hr.len hr.cl) (rg_nd 44 12) rfl (Nat.le_of_ble_eq_true rfl) hk hn ?_
  rintro _ hq2 ⟨rfl, hr2⟩ hlenq
  rw [show place (LW hp2 hq o) (List.range' 44 12) hq2 = LW hp2 hq2 o from place_mid hc2.len hr.len hlenq hr2.cl]
  show GL sb K k n 883 (LL i) [.int (A), .int (A)] (LW hp2 hq2 o)
  refine gl_ic_eq (pc := 883) F dL_law_883 (tgt := 1772) rfl (fun _ => ?_) (fun z => absurd rfl z)
  exact kk _ _ _ _ _ _ _ hG2 hc2 hr2

set_option maxRecDepth 100000 in
set_option maxHeartbeats 800000 in
theorem LC_slowest {sb L : Nat} {xs : Nat → Int32} {K : Cx} {mc ms k n : Nat} (F : Fx K RL cL_law 8 10 mc ms) (S : ScrX sb L xs K) (hL : L ≤ 3072) (hk : k ≤ mc) (hn : n ≤ ms) {i : Nat} (hi : i + 5 < L) {r ii : Nat → Int32} {hg : Int32} {T : TX} {hp hq : Hp} {o : Nat → Int64} (hG : GI r ii hg T) (hc : CWd r ii hg T hp) (hr : RWd r ii hg T hq)
    (kk : ∀ (r ii : Nat → Int32) (hg : Int32) (T : TX) (hp hq : Hp) (o : Nat → Int64), GI r ii hg T → CWd r ii hg T hp → RWd r ii hg T hq → GL sb K k n 1772 (LL i) [] (LW hp hq o)) : GL sb K k n 888 (LL i) [] (LW hp hq o) := by
  obtain ⟨A, r2, i2, hi2, T2, hG2, C1, C2⟩ := J_slowest hG hc hr (xs (i + 1))
  obtain ⟨fs, e1⟩ := hc.obj
  obtain ⟨fq, e2⟩ := hr.obj
  refine gl_aload_n (pc := 888) F dL_law_888 rfl ?_
  refine gl_sk (pc := 889) F S hL (j := 1) (by omega) dL_law_889 dL_law_890 dL_law_892 rfl dL_law_893 dL_law_894 rfl ?_
  refine gl_p_callV (pc := 895) F C1 mi_X4_slowest kv_L_105 e1 rfl dL_law_895 (by decide) (by decide) rfl (Nat.le_of_ble_eq_true rfl) hk hn ?_
  rintro _ hp2 ⟨rfl, hc2⟩ hlen
  show GL sb K k n 898 (LL i) [.int (A)] (LW hp2 hq o)
  refine gl_aload_n (pc := 898) F dL_law_898 rfl ?_
  refine gl_sk (pc := 899) F S hL (j := 1) (by omega) dL_law_899 dL_law_900 dL_law_902 rfl dL_law_903 dL_law_904 rfl ?_
  refine gl_callV (pc := 905) F C2 mi_X5_slowest kv_L_108 dL_law_905 e2 rfl (List.range' 44 12) [.int (A)] (by decide) (by decide) (Sub_mid hc2.len hr.len hr.cl) (rg_nd 44 12) rfl (Nat.le_of_ble_eq_true rfl) hk hn ?_
  rintro _ hq2 ⟨rfl, hr2⟩ hlenq
  rw [show place (LW hp2 hq o) (List.range' 44 12) hq2 = LW hp2 hq2 o from place_mid hc2.len hr.len hlenq hr2.cl]
  show GL sb K k n 908 (LL i) [.int (A), .int (A)] (LW hp2 hq2 o)
  refine gl_ic_eq (pc := 908) F dL_law_908 (tgt := 1772) rfl (fun _ => ?_) (fun z => absurd rfl z)
  exact kk _ _ _ _ _ _ _ hG2 hc2 hr2
