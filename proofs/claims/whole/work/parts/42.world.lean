/-! the class's world: the object, three deserts, eight shelves, two rows of gains -/
def shF (j : Nat) : Option Nat := if j < 8 then some (28 + 2 * j) else none
def mW (X Y Z : DX) (im : Int32) (S : Nat → SX) (g h : Nat → Int32) : Hp :=
  [.inr (2, [.ref 1, .ref 9, .ref 17, .int im, .ref 25, .ref 26, .ref 27]),
  .inr (0, [.ref 2, .ref 3, .ref 4, .ref 5, .ref 6, .ref 7, .ref 8, .int (dN X), .int (dR X), .int (dWr X), .int (dWi X), .int (dDy X), .int (dBl X)]),
  .inl (.int, 10, .inl (dG X)),
  .inl (.int, 10, .inl (dD X)),
  .inl (.int, 6, .inl (dK X)),
  .inl (.int, 6, .inl (dF X)),
  .inl (.int, 6, .inl (dA X)),
  .inl (.int, 6, .inl (dY X)),
  .inl (.int, 6, .inl (dB X)),
  .inr (0, [.ref 10, .ref 11, .ref 12, .ref 13, .ref 14, .ref 15, .ref 16, .int (dN Y), .int (dR Y), .int (dWr Y), .int (dWi Y), .int (dDy Y), .int (dBl Y)]),
  .inl (.int, 10, .inl (dG Y)),
  .inl (.int, 10, .inl (dD Y)),
  .inl (.int, 6, .inl (dK Y)),
  .inl (.int, 6, .inl (dF Y)),
  .inl (.int, 6, .inl (dA Y)),
  .inl (.int, 6, .inl (dY Y)),
  .inl (.int, 6, .inl (dB Y)),
  .inr (0, [.ref 18, .ref 19, .ref 20, .ref 21, .ref 22, .ref 23, .ref 24, .int (dN Z), .int (dR Z), .int (dWr Z), .int (dWi Z), .int (dDy Z), .int (dBl Z)]),
  .inl (.int, 10, .inl (dG Z)),
  .inl (.int, 10, .inl (dD Z)),
  .inl (.int, 6, .inl (dK Z)),
  .inl (.int, 6, .inl (dF Z)),
  .inl (.int, 6, .inl (dA Z)),
  .inl (.int, 6, .inl (dY Z)),
  .inl (.int, 6, .inl (dB Z)),
  .inl (.object RX2, 8, .inr (.inr (.inr (.inr shF)))),
  .inl (.int, 4, .inl g),
  .inl (.int, 4, .inl h),
  .inr (1, [.ref 29, .int (sH (S 0)), .int (sKi (S 0)), .int (sFi (S 0)), .int (sSo (S 0)), .int (sSi (S 0))]),
  .inl (.int, 100, .inl (sE (S 0))),
  .inr (1, [.ref 31, .int (sH (S 1)), .int (sKi (S 1)), .int (sFi (S 1)), .int (sSo (S 1)), .int (sSi (S 1))]),
  .inl (.int, 100, .inl (sE (S 1))),
  .inr (1, [.ref 33, .int (sH (S 2)), .int (sKi (S 2)), .int (sFi (S 2)), .int (sSo (S 2)), .int (sSi (S 2))]),
  .inl (.int, 100, .inl (sE (S 2))),
  .inr (1, [.ref 35, .int (sH (S 3)), .int (sKi (S 3)), .int (sFi (S 3)), .int (sSo (S 3)), .int (sSi (S 3))]),
  .inl (.int, 100, .inl (sE (S 3))),
  .inr (1, [.ref 37, .int (sH (S 4)), .int (sKi (S 4)), .int (sFi (S 4)), .int (sSo (S 4)), .int (sSi (S 4))]),
  .inl (.int, 100, .inl (sE (S 4))),
  .inr (1, [.ref 39, .int (sH (S 5)), .int (sKi (S 5)), .int (sFi (S 5)), .int (sSo (S 5)), .int (sSi (S 5))]),
  .inl (.int, 100, .inl (sE (S 5))),
  .inr (1, [.ref 41, .int (sH (S 6)), .int (sKi (S 6)), .int (sFi (S 6)), .int (sSo (S 6)), .int (sSi (S 6))]),
  .inl (.int, 100, .inl (sE (S 6))),
  .inr (1, [.ref 43, .int (sH (S 7)), .int (sKi (S 7)), .int (sFi (S 7)), .int (sSo (S 7)), .int (sSi (S 7))]),
  .inl (.int, 100, .inl (sE (S 7)))]
theorem shF_lt {j k : Nat} (h : shF j = some k) : k < 44 := by
  unfold shF at h
  split at h
  · cases h; omega
  · cases h
theorem clH_nil {n : Nat} : clH n [] := fun _ h => absurd h List.not_mem_nil
theorem clH_cons {n : Nat} {e : Ce} {t : Hp} (h1 : clE n e) (h2 : clH n t) : clH n (e :: t) := fun x hx => (List.mem_cons.mp hx).elim (fun q => q ▸ h1) (h2 x)
theorem mW_cl (X Y Z : DX) (im : Int32) (S : Nat → SX) (g h : Nat → Int32) : clH (mW X Y Z im S g h).length (mW X Y Z im S g h) := by
  show clH 44 _
  exact clH_cons (clE_of rfl) (clH_cons (clE_of rfl) (clH_cons (clE_of rfl) (clH_cons (clE_of rfl) (clH_cons (clE_of rfl) (clH_cons (clE_of rfl) (clH_cons (clE_of rfl) (clH_cons (clE_of rfl) (clH_cons (clE_of rfl) (clH_cons (clE_of rfl) (clH_cons (clE_of rfl) (clH_cons (clE_of rfl) (clH_cons (clE_of rfl) (clH_cons (clE_of rfl) (clH_cons (clE_of rfl) (clH_cons (clE_of rfl) (clH_cons (clE_of rfl) (clH_cons (clE_of rfl) (clH_cons (clE_of rfl) (clH_cons (clE_of rfl) (clH_cons (clE_of rfl) (clH_cons (clE_of rfl) (clH_cons (clE_of rfl) (clH_cons (clE_of rfl) (clH_cons (clE_of rfl) (clH_cons (fun j k hj => shF_lt hj) (clH_cons (clE_of rfl) (clH_cons (clE_of rfl) (clH_cons (clE_of rfl) (clH_cons (clE_of rfl) (clH_cons (clE_of rfl) (clH_cons (clE_of rfl) (clH_cons (clE_of rfl) (clH_cons (clE_of rfl) (clH_cons (clE_of rfl) (clH_cons (clE_of rfl) (clH_cons (clE_of rfl) (clH_cons (clE_of rfl) (clH_cons (clE_of rfl) (clH_cons (clE_of rfl) (clH_cons (clE_of rfl) (clH_cons (clE_of rfl) (clH_cons (clE_of rfl) (clH_cons (clE_of rfl) (clH_nil))))))))))))))))))))))))))))))))))))))))))))
theorem sh8 {P : Nat → Prop} (h0 : P 0) (h1 : P 1) (h2 : P 2) (h3 : P 3) (h4 : P 4) (h5 : P 5) (h6 : P 6) (h7 : P 7) {j : Nat} (hj : j < 8) : P j := by
  rcases (show j = 0 ∨ j = 1 ∨ j = 2 ∨ j = 3 ∨ j = 4 ∨ j = 5 ∨ j = 6 ∨ j = 7 by omega) with rfl | rfl | rfl | rfl | rfl | rfl | rfl | rfl <;> assumption
def updS (S : Nat → SX) (j : Nat) (T : SX) : Nat → SX := fun i => if i = j then T else S i
set_option maxRecDepth 20000 in
set_option maxHeartbeats 1000000 in
theorem mW_sh {X Y Z : DX} {im : Int32} {S : Nat → SX} {g h : Nat → Int32} {j : Nat} (hj : j < 8) : (mW X Y Z im S g h)[28 + 2 * j]? = some (.inr (1, [.ref (28 + 2 * j + 1), .int (sH (S j)), .int (sKi (S j)), .int (sFi (S j)), .int (sSo (S j)), .int (sSi (S j))])) :=
  sh8 (P := fun j => (mW X Y Z im S g h)[28 + 2 * j]? = some (.inr (1, [.ref (28 + 2 * j + 1), .int (sH (S j)), .int (sKi (S j)), .int (sFi (S j)), .int (sSo (S j)), .int (sSi (S j))]))) rfl rfl rfl rfl rfl rfl rfl rfl hj
set_option maxRecDepth 20000 in
set_option maxHeartbeats 1000000 in
theorem mW_el {X Y Z : DX} {im : Int32} {S : Nat → SX} {g h : Nat → Int32} {j : Nat} (hj : j < 8) : (mW X Y Z im S g h)[28 + 2 * j + 1]? = some (.inl (.int, 100, .inl (sE (S j)))) :=
  sh8 (P := fun j => (mW X Y Z im S g h)[28 + 2 * j + 1]? = some (.inl (.int, 100, .inl (sE (S j))))) rfl rfl rfl rfl rfl rfl rfl rfl hj
set_option maxRecDepth 20000 in
set_option maxHeartbeats 1000000 in
theorem mW_sub {X Y Z : DX} {im : Int32} {S : Nat → SX} {g h : Nat → Int32} {j : Nat} (hj : j < 8) : Sub (mW X Y Z im S g h) [28 + 2 * j, 28 + 2 * j + 1] (sW 0 (S j)) :=
  sh8 (P := fun j => Sub (mW X Y Z im S g h) [28 + 2 * j, 28 + 2 * j + 1] (sW 0 (S j))) rfl rfl rfl rfl rfl rfl rfl rfl hj
theorem mW_nd {j : Nat} (hj : j < 8) : va_nd [28 + 2 * j, 28 + 2 * j + 1] = true :=
  sh8 (P := fun j => va_nd [28 + 2 * j, 28 + 2 * j + 1] = true) rfl rfl rfl rfl rfl rfl rfl rfl hj
set_option maxRecDepth 20000 in
set_option maxHeartbeats 1000000 in
theorem mW_place {X Y Z : DX} {im : Int32} {S : Nat → SX} {g h : Nat → Int32} {j : Nat} {T : SX} (hj : j < 8) : place (mW X Y Z im S g h) [28 + 2 * j, 28 + 2 * j + 1] (sW 0 T) = mW X Y Z im (updS S j T) g h :=
  sh8 (P := fun j => place (mW X Y Z im S g h) [28 + 2 * j, 28 + 2 * j + 1] (sW 0 T) = mW X Y Z im (updS S j T) g h) rfl rfl rfl rfl rfl rfl rfl rfl hj
set_option maxRecDepth 20000 in
set_option maxHeartbeats 1000000 in
theorem mW_setel {X Y Z : DX} {im : Int32} {S : Nat → SX} {g h : Nat → Int32} {j : Nat} {f : Nat → Int32} (hj : j < 8) : (mW X Y Z im S g h).set (28 + 2 * j + 1) (.inl (.int, 100, .inl f)) = mW X Y Z im (updS S j (f, (S j).2)) g h :=
  sh8 (P := fun j => (mW X Y Z im S g h).set (28 + 2 * j + 1) (.inl (.int, 100, .inl f)) = mW X Y Z im (updS S j (f, (S j).2)) g h) rfl rfl rfl rfl rfl rfl rfl rfl hj
set_option maxRecDepth 20000 in
set_option maxHeartbeats 1000000 in
theorem sub_now {X Y Z : DX} {im : Int32} {S : Nat → SX} {g h : Nat → Int32} : Sub (mW X Y Z im S g h) [1, 2, 3, 4, 5, 6, 7, 8] (dW 0 X) := rfl
set_option maxRecDepth 20000 in
set_option maxHeartbeats 1000000 in
theorem place_now {X Y Z : DX} {im : Int32} {S : Nat → SX} {g h : Nat → Int32} {P2 : DX} : place (mW X Y Z im S g h) [1, 2, 3, 4, 5, 6, 7, 8] (dW 0 P2) = mW P2 Y Z im S g h := rfl
set_option maxRecDepth 20000 in
set_option maxHeartbeats 1000000 in
theorem sub_mind {X Y Z : DX} {im : Int32} {S : Nat → SX} {g h : Nat → Int32} : Sub (mW X Y Z im S g h) [9, 10, 11, 12, 13, 14, 15, 16] (dW 0 Y) := rfl
set_option maxRecDepth 20000 in
set_option maxHeartbeats 1000000 in
theorem place_mind {X Y Z : DX} {im : Int32} {S : Nat → SX} {g h : Nat → Int32} {P2 : DX} : place (mW X Y Z im S g h) [9, 10, 11, 12, 13, 14, 15, 16] (dW 0 P2) = mW X P2 Z im S g h := rfl
set_option maxRecDepth 20000 in
set_option maxHeartbeats 1000000 in
theorem sub_taken {X Y Z : DX} {im : Int32} {S : Nat → SX} {g h : Nat → Int32} : Sub (mW X Y Z im S g h) [17, 18, 19, 20, 21, 22, 23, 24] (dW 0 Z) := rfl
set_option maxRecDepth 20000 in
set_option maxHeartbeats 1000000 in
theorem place_taken {X Y Z : DX} {im : Int32} {S : Nat → SX} {g h : Nat → Int32} {P2 : DX} : place (mW X Y Z im S g h) [17, 18, 19, 20, 21, 22, 23, 24] (dW 0 P2) = mW X Y P2 im S g h := rfl
set_option maxRecDepth 20000 in
set_option maxHeartbeats 1000000 in
theorem sub_mn {X Y Z : DX} {im : Int32} {S : Nat → SX} {g h : Nat → Int32} : Sub (mW X Y Z im S g h) [9, 10, 11, 12, 13, 14, 15, 16, 1, 2, 3, 4, 5, 6, 7, 8] (dW 0 Y ++ dW 8 X) := rfl
set_option maxRecDepth 20000 in
set_option maxHeartbeats 1000000 in
theorem place_mn {X Y Z : DX} {im : Int32} {S : Nat → SX} {g h : Nat → Int32} {P2 : DX} : place (mW X Y Z im S g h) [9, 10, 11, 12, 13, 14, 15, 16, 1, 2, 3, 4, 5, 6, 7, 8] (dW 0 P2 ++ dW 8 X) = mW X P2 Z im S g h := rfl
set_option maxRecDepth 20000 in
set_option maxHeartbeats 1000000 in
theorem sub_nm {X Y Z : DX} {im : Int32} {S : Nat → SX} {g h : Nat → Int32} : Sub (mW X Y Z im S g h) [1, 2, 3, 4, 5, 6, 7, 8, 9, 10, 11, 12, 13, 14, 15, 16] (dW 0 X ++ dW 8 Y) := rfl
set_option maxRecDepth 20000 in
set_option maxHeartbeats 1000000 in
theorem place_nm {X Y Z : DX} {im : Int32} {S : Nat → SX} {g h : Nat → Int32} {P2 : DX} : place (mW X Y Z im S g h) [1, 2, 3, 4, 5, 6, 7, 8, 9, 10, 11, 12, 13, 14, 15, 16] (dW 0 P2 ++ dW 8 Y) = mW P2 Y Z im S g h := rfl
set_option maxRecDepth 20000 in
set_option maxHeartbeats 1000000 in
theorem sub_tn {X Y Z : DX} {im : Int32} {S : Nat → SX} {g h : Nat → Int32} : Sub (mW X Y Z im S g h) [17, 18, 19, 20, 21, 22, 23, 24, 1, 2, 3, 4, 5, 6, 7, 8] (dW 0 Z ++ dW 8 X) := rfl
set_option maxRecDepth 20000 in
set_option maxHeartbeats 1000000 in
theorem place_tn {X Y Z : DX} {im : Int32} {S : Nat → SX} {g h : Nat → Int32} {P2 : DX} : place (mW X Y Z im S g h) [17, 18, 19, 20, 21, 22, 23, 24, 1, 2, 3, 4, 5, 6, 7, 8] (dW 0 P2 ++ dW 8 X) = mW X Y P2 im S g h := rfl
set_option maxRecDepth 20000 in
set_option maxHeartbeats 1000000 in
theorem sub_nt {X Y Z : DX} {im : Int32} {S : Nat → SX} {g h : Nat → Int32} : Sub (mW X Y Z im S g h) [1, 2, 3, 4, 5, 6, 7, 8, 17, 18, 19, 20, 21, 22, 23, 24] (dW 0 X ++ dW 8 Z) := rfl
set_option maxRecDepth 20000 in
set_option maxHeartbeats 1000000 in
theorem place_nt {X Y Z : DX} {im : Int32} {S : Nat → SX} {g h : Nat → Int32} {P2 : DX} : place (mW X Y Z im S g h) [1, 2, 3, 4, 5, 6, 7, 8, 17, 18, 19, 20, 21, 22, 23, 24] (dW 0 P2 ++ dW 8 Z) = mW P2 Y Z im S g h := rfl
/-- what a look ahead leaves: the answer; in mind anything -/
def Look (v : Value) (X Z : DX) (im : Int32) (S : Nat → SX) : Option Value → Hp → Prop := fun v2 hh => v2 = some v ∧ ∃ Y g h, hh = mW X Y Z im S g h
