/-! deserts by seeds -/
def sdF (z : Int32) : Int32 := z * 1103515245 + nI 12345
def drX (z : Int32) : Int32 := (z &&& 2147483647) / 65536
def drw (z : Int32) : Int32 := drX z - drX z / nI 200 * nI 200
theorem dr_ex (z : Int32) : ∃ v, v < 200 ∧ drw z = nI v := by
  have h1 : (z &&& 2147483647).toInt = z.toInt % 2 ^ 31 := Jvm.Kit.i32_mask z 2147483647 (k := 31) (by decide) (by decide)
  have h0 : 0 ≤ (z &&& 2147483647).toInt := by rw [h1]; omega
  have h3 := ti_hi (z &&& 2147483647)
  have h2 := nI_of_ti h0
  refine ⟨((z &&& 2147483647).toInt.toNat / 65536) % 200, Nat.mod_lt _ (by decide), ?_⟩
  have e : drX z = nI ((z &&& 2147483647).toInt.toNat / 65536) := by
    unfold drX
    rw [h2, show (65536 : Int32) = nI 65536 from rfl, pk_div (by omega) (by decide) (by decide), ← h2]
  unfold drw
  rw [e]
  exact pk_rem (by omega) (by decide) (by decide)
abbrev SQ : Type := (Nat → Int32) × Int32
def drI (d : Nat) (q : SQ) : SQ := (fillR q.1 d (drw (sdF q.2)), sdF q.2)
def drB (r : Nat → Int32) (z : Int32) (d : Nat) : SQ := it drI d (r, z)
theorem drB_s (r : Nat → Int32) (z : Int32) (d : Nat) : drB r z (d + 1) = (fillR (drB r z d).1 d (drw (sdF (drB r z d).2)), sdF (drB r z d).2) := rfl
theorem drB_ok {r : Nat → Int32} {z : Int32} (hI : Iv r) : ∀ d, d ≤ 10 → Iv (drB r z d).1 ∧ many (drB r z d).1 = many r
  | 0, _ => ⟨hI, rfl⟩
  | d + 1, h => by
    obtain ⟨h1, h2⟩ := drB_ok (z := z) hI d (by omega)
    obtain ⟨v, hv, e⟩ := dr_ex (sdF (drB r z d).2)
    rw [drB_s, e]
    refine ⟨Iv_fill h1 (by omega) (by omega), ?_⟩
    show many (upd (upd (drB r z d).1 (5 + d) (nI v)) (15 + d) (nI 0)) = many r
    rw [many_upd (by omega), many_upd (by omega)]
    exact h2
def dsV (r : Nat → Int32) (z : Int32) : Nat → Int32 := daysR (drB r z 10).1 10
abbrev Q3 : Type := Int32 × Int32 × Int32
def dsF (r : Nat → Int32) (i : Nat) (q : Q3) : Q3 := ((drB r q.1 10).2, q.2.1 + bitsR (doneR (dsV r q.1)), q.2.2 + (booksR (dsV r q.1) (-1) - booksR r (-1)))
def dsQ (r : Nat → Int32) (z : Int32) (i : Nat) : Q3 := it (dsF r) i (z, nI 0, nI 0)
theorem dsQ_s {r : Nat → Int32} {z : Int32} {i : Nat} {M : Nat → Int32} {zz : Int32} (hM : dsV r (dsQ r z i).1 = M) (hz : (drB r (dsQ r z i).1 10).2 = zz) : dsQ r z (i + 1) = (zz, (dsQ r z i).2.1 + bitsR (doneR M), (dsQ r z i).2.2 + (booksR M (-1) - booksR r (-1))) := by
  subst hM hz
  rfl
theorem dsQ_t {r : Nat → Int32} {z : Int32} {i : Nat} {QQ : Nat → Q3} {B : Nat → SQ} {M : Nat → Int32} (hQ : QQ = dsQ r z) (hB : B = drB r (QQ i).1) (hM : daysR (B 10).1 10 = M) : QQ (i + 1) = ((B 10).2, (QQ i).2.1 + bitsR (doneR M), (QQ i).2.2 + (booksR M (-1) - booksR r (-1))) := by
  subst hQ hB hM
  rfl
def S_deserts (r : Nat → Int32) (n z wh : Int32) : Int32 := if (nI 1 ≤ n ∧ n ≤ nI 20) ∧ b01 wh then (if wh = 0 then (dsQ r z (N n)).2.1 else (dsQ r z (N n)).2.2) else (-1)
theorem n20_ex {n : Int32} (h : nI 1 ≤ n ∧ n ≤ nI 20) : ∃ j, j ≤ 20 ∧ n = nI j := in_ex (by decide) ⟨Int32.le_trans (by decide) h.1, h.2⟩
set_option maxRecDepth 100000 in
set_option maxHeartbeats 800000 in
theorem c_nextSeed (z : Int32) : RCtr yX4_nextSeed cX4_nextSeed 1 (some .int) 0 [.int z] ([]) (.int (sdF z)) := by
  refine Ctr.of rfl (Nat.le_of_ble_eq_true rfl) ⟨clS_of rfl, clH_of rfl⟩ (fun K F X0 => ?_)
  show Go K 0 0 0 [(0, .int z)] [] ([])
  refine g_iload_n (pc := 0) F dX4_nextSeed_0 rfl ?_
  refine g_ldcw (pc := 1) F dX4_nextSeed_1 kc_X4_294 ?_
  refine g_imul (pc := 4) F dX4_nextSeed_4 ?_
  refine g_sipush (pc := 5) F dX4_nextSeed_5 (v := nI 12345) rfl ?_
  refine g_iadd (pc := 8) F dX4_nextSeed_8 ?_
  exact g_iret (pc := 9) F X0 dX4_nextSeed_9 (Nat.le_of_ble_eq_true rfl) (Nat.le_of_ble_eq_true rfl) rfl ⟨rfl, rfl⟩

set_option maxRecDepth 100000 in
set_option maxHeartbeats 800000 in
theorem c_drawBelow (z : Int32) : RCtr yX4_drawBelow cX4_drawBelow 2 (some .int) 0 [.int z, .int (nI 200)] ([]) (.int (drw z)) := by
  refine Ctr.of rfl (Nat.le_of_ble_eq_true rfl) ⟨clS_of rfl, clH_of rfl⟩ (fun K F X0 => ?_)
  show Go K 0 0 0 [(0, .int z), (1, .int (nI 200))] [] ([])
  refine g_iload_n (pc := 0) F dX4_drawBelow_0 rfl ?_
  refine g_if_gt (pc := 1) F dX4_drawBelow_1 (tgt := 8) rfl (fun c_1 => ?_) (fun c_1 => absurd (by decide) c_1)
  refine g_iload_n (pc := 8) F dX4_drawBelow_8 rfl ?_
  refine g_ldcw (pc := 9) F dX4_drawBelow_9 kc_X4_295 ?_
  refine g_iand (pc := 12) F dX4_drawBelow_12 ?_
  refine g_ldcw (pc := 13) F dX4_drawBelow_13 kc_X4_296 ?_
  refine g_idiv (pc := 16) F dX4_drawBelow_16 (by decide) ?_
  refine g_iload_n (pc := 17) F dX4_drawBelow_17 rfl ?_
  refine g_irem (pc := 18) F dX4_drawBelow_18 (by decide) ?_
  exact g_iret (pc := 19) F X0 dX4_drawBelow_19 (Nat.le_of_ble_eq_true rfl) (Nat.le_of_ble_eq_true rfl) rfl ⟨rfl, rfl⟩

set_option maxRecDepth 100000 in
set_option maxHeartbeats 800000 in
theorem m_drawn (s m ig ws : Nat → Int32) (hg : Int32) (T : TX) (V : VX) (sd : Int32) : Ctr yX5_drawn cX5_drawn 2 (some .int) 0 0 0 [.ref 0, .int (nI 200)] (rW s m ig ws hg T (V.1, V.2.1, V.2.2.1, V.2.2.2.1, sd, V.2.2.2.2.2)) (fun v hh => v = some (.int (drw (sdF sd))) ∧ hh = rW s m ig ws hg T (V.1, V.2.1, V.2.2.1, V.2.2.2.1, sdF sd, V.2.2.2.2.2)) := by
  refine Ctr.of rfl (Nat.le_of_ble_eq_true rfl) ⟨clS_of rfl, clH_of rfl⟩ (fun K F X0 => ?_)
  show Go K 0 0 0 [(0, .ref 0), (1, .int (nI 200))] [] (rW s m ig ws hg T (V.1, V.2.1, V.2.2.1, V.2.2.2.1, sd, V.2.2.2.2.2))
  refine g_aload_n (pc := 0) F dX5_drawn_0 rfl ?_
  refine g_aload_n (pc := 1) F dX5_drawn_1 rfl ?_
  refine g_getf (pc := 2) F fl_X5_202 dX5_drawn_2 rfl rfl ?_
  refine g_ldc (pc := 5) F dX5_drawn_5 kc_X5_205 ?_
  refine g_imul (pc := 7) F dX5_drawn_7 ?_
  refine g_sipush (pc := 8) F dX5_drawn_8 (v := nI 12345) rfl ?_
  refine g_iadd (pc := 11) F dX5_drawn_11 ?_
  obtain ⟨zz, hz⟩ : ∃ zz, sdF sd = zz := ⟨_, rfl⟩
  rw [show sd * 1103515245 + nI 12345 = zz from hz]
  refine g_putf (pc := 12) F fl_X5_202 dX5_drawn_12 rfl (Nat.le_of_ble_eq_true rfl) ?_
  refine g_aload_n (pc := 15) F dX5_drawn_15 rfl ?_
  refine g_getf (pc := 16) F fl_X5_202 dX5_drawn_16 rfl rfl ?_
  refine g_ldc (pc := 19) F dX5_drawn_19 kc_X5_206 ?_
  refine g_iand (pc := 21) F dX5_drawn_21 ?_
  refine g_ldc (pc := 22) F dX5_drawn_22 kc_X5_207 ?_
  refine g_idiv (pc := 24) F dX5_drawn_24 (by decide) ?_
  refine g_iload_n (pc := 25) F dX5_drawn_25 rfl ?_
  refine g_irem (pc := 26) F dX5_drawn_26 (by decide) ?_
  exact g_iret (pc := 27) F X0 dX5_drawn_27 (Nat.le_of_ble_eq_true rfl) (Nat.le_of_ble_eq_true rfl) rfl ⟨by rw [hz]; rfl, by rw [hz]; rfl⟩

set_option maxRecDepth 100000 in
set_option maxHeartbeats 800000 in
theorem c_deserts (b : Int32) (X Y Z : DX) (im : Int32) (S : Nat → SX) (g h : Nat → Int32) (r : Nat → Int32) (hR : Rel b X r) (hI : Iv r) (h4 : r 4 = nI 0) (n0 z wh : Int32) : Ctr yX4_deserts cX4_deserts 10 (some .int) 7 0 0 [.ref 0, .int n0, .int z, .int wh] (mW X Y Z im S g h) (Look (.int (S_deserts r n0 z wh)) X Z im S) := by
  refine Ctr.of rfl (Nat.le_of_ble_eq_true rfl) ⟨clS_of rfl, mW_cl _ _ _ _ _ _ _⟩ (fun K F X0 => ?_)
  show Go K 0 0 0 [(0, .ref 0), (1, .int n0), (2, .int z), (3, .int wh)] [] (mW X Y Z im S g h)
  refine g_iload_n (pc := 0) F dX4_deserts_0 rfl ?_
  refine g_iconst (pc := 1) F dX4_deserts_1 (v := nI 1) rfl ?_
  refine g_bipush (pc := 2) F dX4_deserts_2 (v := nI 20) rfl ?_
  refine h_readS (pc := 4) F (c_isWithin _ _ _) mi_X4_isWithin ks_X4_129 dX4_deserts_4 [] rfl (by decide) (by decide) rfl rfl (Nat.le_of_ble_eq_true rfl) trivial (by decide) (by decide) ?_
  refine g_ifeq_d (pc := 7) F dX4_deserts_7 (tgt := 19) rfl (fun c_7 => ?_) (fun c_7 => ?_)
  · refine g_iconst (pc := 19) F dX4_deserts_19 (v := (-1 : Int32)) (by decide) ?_
    exact g_iret (pc := 20) F X0 dX4_deserts_20 (Nat.le_of_ble_eq_true rfl) (Nat.le_of_ble_eq_true rfl) rfl (by first
      | exact ⟨congrArg (fun z => some (Value.int z)) (if_neg (fun z => c_7 z.1)).symm, Y, g, h, rfl⟩
      | exact ⟨congrArg (fun z => some (Value.int z)) (if_neg (fun z => c_16 z.2)).symm, Y, g, h, rfl⟩
      | fail)
  · refine g_iload_n (pc := 10) F dX4_deserts_10 rfl ?_
    refine g_iconst (pc := 11) F dX4_deserts_11 (v := nI 0) rfl ?_
    refine g_iconst (pc := 12) F dX4_deserts_12 (v := nI 1) rfl ?_
    refine h_readS (pc := 13) F (c_isWithin _ _ _) mi_X4_isWithin ks_X4_129 dX4_deserts_13 [] rfl (by decide) (by decide) rfl rfl (Nat.le_of_ble_eq_true rfl) trivial (by decide) (by decide) ?_
    refine g_ifne_d (pc := 16) F dX4_deserts_16 (tgt := 21) rfl (fun c_16 => ?_) (fun c_16 => ?_)
    · obtain ⟨n, hn, rfl⟩ := n20_ex c_7
      refine g_aload_n (pc := 21) F dX4_deserts_21 rfl ?_
      refine g_getf (pc := 22) F fl_X4_12 dX4_deserts_22 rfl rfl ?_
      refine h_readV (pc := 25) F (c_allBooks b X r hR hI) mi_X0_allBooks kv_X4_163 rfl rfl dX4_deserts_25 [1, 2, 3, 4, 5, 6, 7, 8] sub_now (by decide) (by decide) rfl rfl (Nat.le_of_ble_eq_true rfl) trivial (by decide) (by decide) ?_
      refine g_istore (pc := 28) F dX4_deserts_28 (by decide) ?_
      refine g_iconst (pc := 30) F dX4_deserts_30 (v := nI 0) rfl ?_
      refine g_istore (pc := 31) F dX4_deserts_31 (by decide) ?_
      refine g_iconst (pc := 33) F dX4_deserts_33 (v := nI 0) rfl ?_
      refine g_istore (pc := 34) F dX4_deserts_34 (by decide) ?_
      refine g_iload_n (pc := 36) F dX4_deserts_36 rfl ?_
      refine g_istore (pc := 37) F dX4_deserts_37 (by decide) ?_
      refine g_iconst (pc := 39) F dX4_deserts_39 (v := nI 0) rfl ?_
      refine g_istore (pc := 40) F dX4_deserts_40 (by decide) ?_
      obtain ⟨QQ, hQ⟩ : ∃ QQ, QQ = dsQ r z := ⟨_, rfl⟩
      have hQ0 : QQ 0 = (z, nI 0, nI 0) := by rw [hQ]; rfl
      have L : ∀ i, i ≤ n → ∀ Ya, Go K 0 0 42 [(0, .ref 0), (1, .int (nI n)), (2, .int z), (3, .int wh), (4, .int (booksR r (-1))), (5, .int ((QQ i).2.1)), (6, .int ((QQ i).2.2)), (7, .int ((QQ i).1)), (8, .int (nI (i)))] [] (mW X Ya Z im S g h) := loop_up (P := fun i => ∀ Ya, Go K 0 0 42 [(0, .ref 0), (1, .int (nI n)), (2, .int z), (3, .int wh), (4, .int (booksR r (-1))), (5, .int ((QQ i).2.1)), (6, .int ((QQ i).2.2)), (7, .int ((QQ i).1)), (8, .int (nI (i)))] [] (mW X Ya Z im S g h)) (fun i hiL ih => by
        intro Ya
        refine g_iload (pc := 42) F dX4_deserts_42 rfl ?_
        refine g_iload_n (pc := 44) F dX4_deserts_44 rfl ?_
        refine g_icN_ge (pc := 45) F dX4_deserts_45 (tgt := 144) rfl rfl rfl (by omega) (by omega) (fun c_45 => ?_) (fun c_45 => ?_)
        · have hin : i = n := by omega
          rw [hin]
          refine g_iload_n (pc := 144) F dX4_deserts_144 rfl ?_
          refine g_if_ne (pc := 145) F dX4_deserts_145 (tgt := 153) rfl (fun c_145 => ?_) (fun c_145 => ?_)
          · refine g_iload (pc := 153) F dX4_deserts_153 rfl ?_
            exact g_iret (pc := 155) F X0 dX4_deserts_155 (Nat.le_of_ble_eq_true rfl) (Nat.le_of_ble_eq_true rfl) rfl ⟨congrArg (fun z => some (Value.int z)) (by unfold S_deserts; rw [if_pos ⟨c_7, c_16⟩, N_nI (by omega), ← hQ]; first | exact (if_pos c_145).symm | exact (if_neg c_145).symm | fail), Ya, g, h, rfl⟩
          · refine g_iload (pc := 148) F dX4_deserts_148 rfl ?_
            refine g_goto (pc := 150) F dX4_deserts_150 (tgt := 155) rfl ?_
            exact g_iret (pc := 155) F X0 dX4_deserts_155 (Nat.le_of_ble_eq_true rfl) (Nat.le_of_ble_eq_true rfl) rfl ⟨congrArg (fun z => some (Value.int z)) (by unfold S_deserts; rw [if_pos ⟨c_7, c_16⟩, N_nI (by omega), ← hQ]; first | exact (if_pos c_145).symm | exact (if_neg c_145).symm | fail), Ya, g, h, rfl⟩
        · refine g_aload_n (pc := 48) F dX4_deserts_48 rfl ?_
          refine g_getf (pc := 49) F fl_X4_16 dX4_deserts_49 rfl rfl ?_
          refine g_aload_n (pc := 52) F dX4_deserts_52 rfl ?_
          refine g_getf (pc := 53) F fl_X4_12 dX4_deserts_53 rfl rfl ?_
          refine h_callV (pc := 56) F (c_becomes b Ya X r hR hI h4) mi_X0_becomes kv_X4_57 rfl rfl dX4_deserts_56 [9, 10, 11, 12, 13, 14, 15, 16, 1, 2, 3, 4, 5, 6, 7, 8] sub_mn (by decide) (by decide) rfl rfl (Nat.le_of_ble_eq_true rfl) (by decide) (by decide) ?_
          rintro _ _ ⟨rfl, Y2, rfl, hY2⟩ -
          rw [place_mn]
          refine g_iconst (pc := 59) F dX4_deserts_59 (v := nI 0) rfl ?_
          refine g_istore (pc := 60) F dX4_deserts_60 (by decide) ?_
          obtain ⟨B, hB⟩ : ∃ B, B = drB r (QQ i).1 := ⟨_, rfl⟩
          have hB0 : B 0 = (r, (QQ i).1) := by rw [hB]; rfl
          have hBs : ∀ d, B (d + 1) = (fillR (B d).1 d (drw (sdF (B d).2)), sdF (B d).2) := fun d => by rw [hB]; rfl
          have hBI : ∀ d, d ≤ 10 → Iv (B d).1 := fun d hd => by rw [hB]; exact (drB_ok hI d hd).1
          have L2 : ∀ d, d ≤ 10 → ∀ Ya, Rel (nI 0 - r 3) Ya (B d).1 → Go K 0 0 62 [(0, .ref 0), (1, .int (nI n)), (2, .int z), (3, .int wh), (4, .int (booksR r (-1))), (5, .int ((QQ i).2.1)), (6, .int ((QQ i).2.2)), (7, .int ((B d).2)), (8, .int (nI (i))), (9, .int (nI d))] [] (mW X Ya Z im S g h) := loop_up (P := fun d => ∀ Ya, Rel (nI 0 - r 3) Ya (B d).1 → Go K 0 0 62 [(0, .ref 0), (1, .int (nI n)), (2, .int z), (3, .int wh), (4, .int (booksR r (-1))), (5, .int ((QQ i).2.1)), (6, .int ((QQ i).2.2)), (7, .int ((B d).2)), (8, .int (nI (i))), (9, .int (nI d))] [] (mW X Ya Z im S g h)) (fun d hiL2 ih2 => by
            intro Ya hYa
            refine g_iload (pc := 62) F dX4_deserts_62 rfl ?_
            refine g_bipush (pc := 64) F dX4_deserts_64 (v := nI 10) rfl ?_
            refine g_icN_ge (pc := 66) F dX4_deserts_66 (tgt := 99) rfl rfl rfl (by omega) (by omega) (fun c_66 => ?_) (fun c_66 => ?_)
            · obtain rfl : d = 10 := by omega
              refine g_aload_n (pc := 99) F dX4_deserts_99 rfl ?_
              refine g_getf (pc := 100) F fl_X4_16 dX4_deserts_100 rfl rfl ?_
              refine g_bipush (pc := 103) F dX4_deserts_103 (v := nI 10) rfl ?_
              refine h_callV (pc := 105) F (c_passDays _ Ya _ _ 10 hYa (hBI 10 (by omega)) rfl (by decide)) mi_X0_passDays kv_X4_170 rfl rfl dX4_deserts_105 [9, 10, 11, 12, 13, 14, 15, 16] sub_mind (by decide) (by decide) rfl rfl (Nat.le_of_ble_eq_true rfl) (by decide) (by decide) ?_
              rintro _ _ ⟨rfl, Y4, rfl, hY4⟩ -
              rw [place_mind]
              have hIM := (daysR_ok (hBI 10 (by omega)) 10).1
              generalize hM : daysR (B 10).1 10 = M at hY4 hIM
              refine g_iload (pc := 108) F dX4_deserts_108 rfl ?_
              refine g_aload_n (pc := 110) F dX4_deserts_110 rfl ?_
              refine g_getf (pc := 111) F fl_X4_16 dX4_deserts_111 rfl rfl ?_
              refine h_readV (pc := 114) F (c_doneDips _ Y4 _ hY4) mi_X0_doneDips kv_X4_179 rfl rfl dX4_deserts_114 [9, 10, 11, 12, 13, 14, 15, 16] sub_mind (by decide) (by decide) rfl rfl (Nat.le_of_ble_eq_true rfl) trivial (by decide) (by decide) ?_
              refine h_readS (pc := 117) F (c_bitCount _) mi_J6_bitCount_0f7a4 ks_X4_191 dX4_deserts_117 [] rfl (by decide) (by decide) rfl rfl (Nat.le_of_ble_eq_true rfl) trivial (by decide) (by decide) ?_
              rw [bc_done]
              refine g_iadd (pc := 120) F dX4_deserts_120 ?_
              refine g_istore (pc := 121) F dX4_deserts_121 (by decide) ?_
              refine g_iload (pc := 123) F dX4_deserts_123 rfl ?_
              refine g_aload_n (pc := 125) F dX4_deserts_125 rfl ?_
              refine g_getf (pc := 126) F fl_X4_16 dX4_deserts_126 rfl rfl ?_
              refine h_readV (pc := 129) F (c_allBooks _ Y4 _ hY4 hIM) mi_X0_allBooks kv_X4_163 rfl rfl dX4_deserts_129 [9, 10, 11, 12, 13, 14, 15, 16] sub_mind (by decide) (by decide) rfl rfl (Nat.le_of_ble_eq_true rfl) trivial (by decide) (by decide) ?_
              refine g_iload (pc := 132) F dX4_deserts_132 rfl ?_
              refine g_isub (pc := 134) F dX4_deserts_134 ?_
              refine g_iadd (pc := 135) F dX4_deserts_135 ?_
              refine g_istore (pc := 136) F dX4_deserts_136 (by decide) ?_
              refine g_iincN (pc := 138) F dX4_deserts_138 rfl (by decide) ?_
              refine g_goto (pc := 141) F dX4_deserts_141 (tgt := 42) rfl ?_
              refine g_less [0, 1, 2, 3, 4, 5, 6, 7, 8] rfl ?_
              have g9 := ih c_45 Y4
              rw [dsQ_t hQ hB hM] at g9
              exact g9
            · have hd10 : d < 10 := c_66
              refine g_iload (pc := 69) F dX4_deserts_69 rfl ?_
              refine h_readS (pc := 71) F (c_nextSeed _) mi_X4_nextSeed ks_X4_237 dX4_deserts_71 [] rfl (by decide) (by decide) rfl rfl (Nat.le_of_ble_eq_true rfl) trivial (by decide) (by decide) ?_
              generalize hs : sdF (B d).2 = sd
              refine g_istore (pc := 74) F dX4_deserts_74 (by decide) ?_
              refine g_aload_n (pc := 76) F dX4_deserts_76 rfl ?_
              refine g_getf (pc := 77) F fl_X4_16 dX4_deserts_77 rfl rfl ?_
              refine g_iload (pc := 80) F dX4_deserts_80 rfl ?_
              refine g_iload (pc := 82) F dX4_deserts_82 rfl ?_
              refine g_sipush (pc := 84) F dX4_deserts_84 (v := nI 200) rfl ?_
              refine h_readS (pc := 87) F (c_drawBelow _) mi_X4_drawBelow ks_X4_240 dX4_deserts_87 [] rfl (by decide) (by decide) rfl rfl (Nat.le_of_ble_eq_true rfl) trivial (by decide) (by decide) ?_
              generalize hv : drw sd = dv
              show Go _ _ _ _ _ [.int dv, .int (nI d), .ref 9] _
              refine h_callV (pc := 90) F (c_refill _ Ya _ _ _ d hYa rfl hd10) mi_X0_refill kv_X4_151 rfl rfl dX4_deserts_90 [9, 10, 11, 12, 13, 14, 15, 16] sub_mind (by decide) (by decide) rfl rfl (Nat.le_of_ble_eq_true rfl) (by decide) (by decide) ?_
              rintro _ _ ⟨rfl, Y3, rfl, hY3⟩ -
              rw [place_mind]
              refine g_iincN (pc := 93) F dX4_deserts_93 rfl (by decide) ?_
              refine g_goto (pc := 96) F dX4_deserts_96 (tgt := 62) rfl ?_
              have g9 := ih2 c_66 Y3
              rw [hBs, hs, hv] at g9
              exact g9 hY3)
          have g9 := L2 0 (Nat.zero_le _) Y2
          rw [hB0] at g9
          exact g9 hY2)
      have g9 := L 0 (Nat.zero_le _) Y
      rw [hQ0] at g9
      exact g9
    · refine g_iconst (pc := 19) F dX4_deserts_19 (v := (-1 : Int32)) (by decide) ?_
      exact g_iret (pc := 20) F X0 dX4_deserts_20 (Nat.le_of_ble_eq_true rfl) (Nat.le_of_ble_eq_true rfl) rfl (by first
      | exact ⟨congrArg (fun z => some (Value.int z)) (if_neg (fun z => c_7 z.1)).symm, Y, g, h, rfl⟩
      | exact ⟨congrArg (fun z => some (Value.int z)) (if_neg (fun z => c_16 z.2)).symm, Y, g, h, rfl⟩
      | fail)

def pkD (wh : Int32) (q : Q3) : Int32 := if wh = 0 then q.2.1 else q.2.2
theorem pk_0 {wh : Int32} {a b c : Int32} (h : wh = 0) : pkD wh (a, b, c) = b := if_pos h
theorem pk_1 {wh : Int32} {a b c : Int32} (h : ¬ wh = 0) : pkD wh (a, b, c) = c := if_neg h
theorem pk_y {wh : Int32} {q : Q3} (h : wh = 0) : pkD wh q = q.2.1 := if_pos h
theorem pk_n {wh : Int32} {q : Q3} (h : ¬ wh = 0) : pkD wh q = q.2.2 := if_neg h
set_option maxRecDepth 100000 in
set_option maxHeartbeats 800000 in
theorem m_deserts (s m ig ws : Nat → Int32) (hg : Int32) (T : TX) (V : VX) (hI : Iv s) (n0 z wh : Int32) : Ctr yX5_deserts cX5_deserts 7 (some .int) 7 0 0 [.ref 0, .int n0, .int z, .int wh] (rW s m ig ws hg T V) (LookR (.int (S_deserts s n0 z wh)) s ig ws hg T) := by
  refine Ctr.of rfl (Nat.le_of_ble_eq_true rfl) ⟨clS_of rfl, clH_of rfl⟩ (fun K F X0 => ?_)
  show Go K 0 0 0 [(0, .ref 0), (1, .int n0), (2, .int z), (3, .int wh)] [] (rW s m ig ws hg T V)
  refine g_iload_n (pc := 0) F dX5_deserts_0 rfl ?_
  refine g_iconst (pc := 1) F dX5_deserts_1 (v := nI 1) rfl ?_
  refine g_bipush (pc := 2) F dX5_deserts_2 (v := nI 20) rfl ?_
  refine h_readS (pc := 4) F (c_isIn _ _ _) mi_X5_isIn ks_X5_43 dX5_deserts_4 [] rfl (by decide) (by decide) rfl rfl (Nat.le_of_ble_eq_true rfl) trivial (by decide) (by decide) ?_
  refine g_ifeq_d (pc := 7) F dX5_deserts_7 (tgt := 19) rfl (fun c_7 => ?_) (fun c_7 => ?_)
  · refine g_iconst (pc := 19) F dX5_deserts_19 (v := (-1 : Int32)) (by decide) ?_
    exact g_iret (pc := 20) F X0 dX5_deserts_20 (Nat.le_of_ble_eq_true rfl) (Nat.le_of_ble_eq_true rfl) rfl (by first
      | exact ⟨congrArg (fun z => some (Value.int z)) (if_neg (fun z => c_7 z.1)).symm, m, V, rfl⟩
      | exact ⟨congrArg (fun z => some (Value.int z)) (if_neg (fun z => c_16 z.2)).symm, m, V, rfl⟩
      | fail)
  · refine g_iload_n (pc := 10) F dX5_deserts_10 rfl ?_
    refine g_iconst (pc := 11) F dX5_deserts_11 (v := nI 0) rfl ?_
    refine g_iconst (pc := 12) F dX5_deserts_12 (v := nI 1) rfl ?_
    refine h_readS (pc := 13) F (c_isIn _ _ _) mi_X5_isIn ks_X5_43 dX5_deserts_13 [] rfl (by decide) (by decide) rfl rfl (Nat.le_of_ble_eq_true rfl) trivial (by decide) (by decide) ?_
    refine g_ifne_d (pc := 16) F dX5_deserts_16 (tgt := 21) rfl (fun c_16 => ?_) (fun c_16 => ?_)
    · obtain ⟨n, hn, rfl⟩ := n20_ex c_7
      refine g_aload_n (pc := 21) F dX5_deserts_21 rfl ?_
      refine g_iload_n (pc := 22) F dX5_deserts_22 rfl ?_
      refine g_putf (pc := 23) F fl_X5_202 dX5_deserts_23 rfl (Nat.le_of_ble_eq_true rfl) ?_
      refine g_iconst (pc := 26) F dX5_deserts_26 (v := nI 0) rfl ?_
      refine g_istore (pc := 27) F dX5_deserts_27 (by decide) ?_
      refine g_iconst (pc := 29) F dX5_deserts_29 (v := nI 0) rfl ?_
      refine g_istore (pc := 30) F dX5_deserts_30 (by decide) ?_
      obtain ⟨QQ, hQ⟩ : ∃ QQ, QQ = dsQ s z := ⟨_, rfl⟩
      have hQ0 : QQ 0 = (z, nI 0, nI 0) := by rw [hQ]; rfl
      have L : ∀ i, i ≤ n → ∀ ma, Go K 0 0 32 [(0, .ref 0), (1, .int (nI n)), (2, .int z), (3, .int wh), (4, .int (pkD wh (QQ i))), (5, .int (nI (i)))] [] (rW s (ma) ig ws hg T (V.1, V.2.1, V.2.2.1, V.2.2.2.1, (QQ i).1, V.2.2.2.2.2)) := loop_up (P := fun i => ∀ ma, Go K 0 0 32 [(0, .ref 0), (1, .int (nI n)), (2, .int z), (3, .int wh), (4, .int (pkD wh (QQ i))), (5, .int (nI (i)))] [] (rW s (ma) ig ws hg T (V.1, V.2.1, V.2.2.1, V.2.2.2.1, (QQ i).1, V.2.2.2.2.2))) (fun i hiL ih => by
        intro ma
        refine g_iload (pc := 32) F dX5_deserts_32 rfl ?_
        refine g_iload_n (pc := 34) F dX5_deserts_34 rfl ?_
        refine g_icN_ge (pc := 35) F dX5_deserts_35 (tgt := 135) rfl rfl rfl (by omega) (by omega) (fun c_35 => ?_) (fun c_35 => ?_)
        · have hin : i = n := by omega
          rw [hin]
          refine g_iload (pc := 135) F dX5_deserts_135 rfl ?_
          exact g_iret (pc := 137) F X0 dX5_deserts_137 (Nat.le_of_ble_eq_true rfl) (Nat.le_of_ble_eq_true rfl) rfl ⟨congrArg (fun z => some (Value.int z)) (by unfold S_deserts; rw [if_pos ⟨c_7, c_16⟩, N_nI (by omega), ← hQ]; rfl), ma, _, rfl⟩
        · refine g_aload_n (pc := 38) F dX5_deserts_38 rfl ?_
          refine g_getf (pc := 39) F fl_X5_9 dX5_deserts_39 rfl rfl ?_
          refine g_aload_n (pc := 42) F dX5_deserts_42 rfl ?_
          refine g_getf (pc := 43) F fl_X5_13 dX5_deserts_43 rfl rfl ?_
          refine h_callS (pc := 46) F (c_copyAll s ma) mi_X5_copies ks_X5_140 dX5_deserts_46 [1, 2] rfl (by decide) (by decide) rfl rfl (Nat.le_of_ble_eq_true rfl) (by decide) (by decide) ?_
          rintro _ _ ⟨rfl, rfl⟩ -
          refine g_iconst (pc := 49) F dX5_deserts_49 (v := nI 0) rfl ?_
          refine g_istore (pc := 50) F dX5_deserts_50 (by decide) ?_
          obtain ⟨B, hB⟩ : ∃ B, B = drB s (QQ i).1 := ⟨_, rfl⟩
          have hB0 : B 0 = (s, (QQ i).1) := by rw [hB]; rfl
          have hBs : ∀ d, B (d + 1) = (fillR (B d).1 d (drw (sdF (B d).2)), sdF (B d).2) := fun d => by rw [hB]; rfl
          have hBI : ∀ d, d ≤ 10 → Iv (B d).1 := fun d hd => by rw [hB]; exact (drB_ok hI d hd).1
          have L2 : ∀ d, d ≤ 10 → Go K 0 0 52 [(0, .ref 0), (1, .int (nI n)), (2, .int z), (3, .int wh), (4, .int (pkD wh (QQ i))), (5, .int (nI (i))), (6, .int (nI d))] [] (rW s (B d).1 ig ws hg T (V.1, V.2.1, V.2.2.1, V.2.2.2.1, (B d).2, V.2.2.2.2.2)) := loop_up (P := fun d => Go K 0 0 52 [(0, .ref 0), (1, .int (nI n)), (2, .int z), (3, .int wh), (4, .int (pkD wh (QQ i))), (5, .int (nI (i))), (6, .int (nI d))] [] (rW s (B d).1 ig ws hg T (V.1, V.2.1, V.2.2.1, V.2.2.2.1, (B d).2, V.2.2.2.2.2))) (fun d hiL2 ih2 => by
            skip
            refine g_iload (pc := 52) F dX5_deserts_52 rfl ?_
            refine g_bipush (pc := 54) F dX5_deserts_54 (v := nI 10) rfl ?_
            refine g_icN_ge (pc := 56) F dX5_deserts_56 (tgt := 81) rfl rfl rfl (by omega) (by omega) (fun c_56 => ?_) (fun c_56 => ?_)
            · obtain rfl : d = 10 := by omega
              refine g_aload_n (pc := 81) F dX5_deserts_81 rfl ?_
              refine g_getf (pc := 82) F fl_X5_13 dX5_deserts_82 rfl rfl ?_
              refine g_bipush (pc := 85) F dX5_deserts_85 (v := nI 10) rfl ?_
              refine h_callS (pc := 87) F (c_daysOn (B 10).1 _ 10 (hBI 10 (by omega)) rfl (by decide)) mi_X5_daysOn ks_X5_130 dX5_deserts_87 [2] rfl (by decide) (by decide) rfl rfl (Nat.le_of_ble_eq_true rfl) (by decide) (by decide) ?_
              rintro _ _ ⟨rfl, rfl⟩ -
              have hIM := (daysR_ok (hBI 10 (by omega)) 10).1
              generalize hM : daysR (B 10).1 10 = M at hIM ⊢
              refine g_iload (pc := 90) F dX5_deserts_90 rfl ?_
              refine g_iload_n (pc := 92) F dX5_deserts_92 rfl ?_
              refine g_if_ne (pc := 93) F dX5_deserts_93 (tgt := 109) rfl (fun c_93 => ?_) (fun c_93 => ?_)
              · refine g_aload_n (pc := 109) F dX5_deserts_109 rfl ?_
                refine g_getf (pc := 110) F fl_X5_13 dX5_deserts_110 rfl rfl ?_
                refine g_iconst (pc := 113) F dX5_deserts_113 (v := (-1 : Int32)) (by decide) ?_
                refine h_readS (pc := 114) F (c_booksOf M _ hIM) mi_X5_booksOf ks_X5_152 dX5_deserts_114 [2] rfl (by decide) (by decide) rfl rfl (Nat.le_of_ble_eq_true rfl) trivial (by decide) (by decide) ?_
                refine g_aload_n (pc := 117) F dX5_deserts_117 rfl ?_
                refine g_getf (pc := 118) F fl_X5_9 dX5_deserts_118 rfl rfl ?_
                refine g_iconst (pc := 121) F dX5_deserts_121 (v := (-1 : Int32)) (by decide) ?_
                refine h_readS (pc := 122) F (c_booksOf s _ hI) mi_X5_booksOf ks_X5_152 dX5_deserts_122 [1] rfl (by decide) (by decide) rfl rfl (Nat.le_of_ble_eq_true rfl) trivial (by decide) (by decide) ?_
                refine g_isub (pc := 125) F dX5_deserts_125 ?_
                refine g_iadd (pc := 126) F dX5_deserts_126 ?_
                refine g_istore (pc := 127) F dX5_deserts_127 (by decide) ?_
                refine g_iincN (pc := 129) F dX5_deserts_129 rfl (by decide) ?_
                refine g_goto (pc := 132) F dX5_deserts_132 (tgt := 32) rfl ?_
                refine g_less [0, 1, 2, 3, 4, 5] rfl ?_
                have g9 := ih c_35 M
                rw [dsQ_t hQ hB hM] at g9
                first
                  | (rw [pk_0 c_93] at g9; rw [pk_y c_93]; exact g9)
                  | (rw [pk_1 c_93] at g9; rw [pk_n c_93]; exact g9)
                  | fail
              · refine g_aload_n (pc := 96) F dX5_deserts_96 rfl ?_
                refine g_getf (pc := 97) F fl_X5_13 dX5_deserts_97 rfl rfl ?_
                refine h_readS (pc := 100) F (c_doneSet M) mi_X5_doneSet ks_X5_162 dX5_deserts_100 [2] rfl (by decide) (by decide) rfl rfl (Nat.le_of_ble_eq_true rfl) trivial (by decide) (by decide) ?_
                refine h_readS (pc := 103) F (c_bits _) mi_X5_bits ks_X5_166 dX5_deserts_103 [] rfl (by decide) (by decide) rfl rfl (Nat.le_of_ble_eq_true rfl) trivial (by decide) (by decide) ?_
                refine g_goto (pc := 106) F dX5_deserts_106 (tgt := 126) rfl ?_
                refine g_iadd (pc := 126) F dX5_deserts_126 ?_
                refine g_istore (pc := 127) F dX5_deserts_127 (by decide) ?_
                refine g_iincN (pc := 129) F dX5_deserts_129 rfl (by decide) ?_
                refine g_goto (pc := 132) F dX5_deserts_132 (tgt := 32) rfl ?_
                refine g_less [0, 1, 2, 3, 4, 5] rfl ?_
                have g9 := ih c_35 M
                rw [dsQ_t hQ hB hM] at g9
                first
                  | (rw [pk_0 c_93] at g9; rw [pk_y c_93]; exact g9)
                  | (rw [pk_1 c_93] at g9; rw [pk_n c_93]; exact g9)
                  | fail
            · have hd10 : d < 10 := c_56
              refine g_aload_n (pc := 59) F dX5_deserts_59 rfl ?_
              refine g_getf (pc := 60) F fl_X5_13 dX5_deserts_60 rfl rfl ?_
              refine g_iload (pc := 63) F dX5_deserts_63 rfl ?_
              refine g_aload_n (pc := 65) F dX5_deserts_65 rfl ?_
              refine g_sipush (pc := 66) F dX5_deserts_66 (v := nI 200) rfl ?_
              refine i_callV (pc := 69) F (m_drawn s (B d).1 ig ws hg T V (B d).2) mi_X5_drawn kv_X5_208 rfl rfl dX5_deserts_69 (by decide) (by decide) rfl (Nat.le_of_ble_eq_true rfl) (by decide) (by decide) ?_
              rintro _ _ ⟨rfl, rfl⟩ -
              generalize hs : sdF (B d).2 = sd
              generalize hv : drw sd = dv
              show Go _ _ _ _ _ [.int dv, .int (nI d), .ref 2] _
              refine h_callS (pc := 72) F (c_fillsIn (B d).1 _ d _ rfl hd10) mi_X5_fillsIn ks_X5_120 dX5_deserts_72 [2] rfl (by decide) (by decide) rfl rfl (Nat.le_of_ble_eq_true rfl) (by decide) (by decide) ?_
              rintro _ _ ⟨rfl, rfl⟩ -
              refine g_iincN (pc := 75) F dX5_deserts_75 rfl (by decide) ?_
              refine g_goto (pc := 78) F dX5_deserts_78 (tgt := 52) rfl ?_
              have g9 := ih2 c_56
              rw [hBs, hs, hv] at g9
              exact g9)
          have g9 := L2 0 (Nat.zero_le _)
          rw [hB0] at g9
          exact g9)
      have g9 := L 0 (Nat.zero_le _) m
      rw [hQ0, show pkD wh (z, nI 0, nI 0) = nI 0 from by unfold pkD; split <;> rfl] at g9
      exact g9
    · refine g_iconst (pc := 19) F dX5_deserts_19 (v := (-1 : Int32)) (by decide) ?_
      exact g_iret (pc := 20) F X0 dX5_deserts_20 (Nat.le_of_ble_eq_true rfl) (Nat.le_of_ble_eq_true rfl) rfl (by first
      | exact ⟨congrArg (fun z => some (Value.int z)) (if_neg (fun z => c_7 z.1)).symm, m, V, rfl⟩
      | exact ⟨congrArg (fun z => some (Value.int z)) (if_neg (fun z => c_16 z.2)).symm, m, V, rfl⟩
      | fail)

