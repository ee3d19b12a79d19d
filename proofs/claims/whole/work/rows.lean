section
-- ===== PART A: goes FIRST, ahead of the names: the tables' words, and 'selects' of the private methods out of them =====
/-- a private method of a class that the tables say can be made, by its rows of tables_1 -/
def lw_okq (q : MethodName × Nat) : Prop := (q.1.cls ≠ "java/lang/invoke/MethodHandle" ∧ q.1.cls ≠ "java/lang/invoke/VarHandle") ∧ Cond.instantiable q.1.cls q.2 ∈ tables_1 ∧ Cond.privateMethod q.1 ∈ tables_1 ∧ Cond.instanceMethod q.1 ∈ tables_1
theorem lw_p0 : lw_okq (⟨"DesertIsCounted", "shelfOrNull", "(I)LDesertIsCounted$Shelf;"⟩, 7) := ⟨⟨by decide +kernel, by decide +kernel⟩, List.mem_of_getElem? (i := 17) (by decide +kernel), List.mem_of_getElem? (i := 151) (by decide +kernel), List.mem_of_getElem? (i := 152) (by decide +kernel)⟩
theorem lw_p1 : lw_okq (⟨"DesertIsCounted$Desert", "write", "(II)V"⟩, 13) := ⟨⟨by decide +kernel, by decide +kernel⟩, List.mem_of_getElem? (i := 25) (by decide +kernel), List.mem_of_getElem? (i := 233) (by decide +kernel), List.mem_of_getElem? (i := 234) (by decide +kernel)⟩
theorem lw_p2 : lw_okq (⟨"DesertIsCounted$Desert", "work", "(I)V"⟩, 13) := ⟨⟨by decide +kernel, by decide +kernel⟩, List.mem_of_getElem? (i := 25) (by decide +kernel), List.mem_of_getElem? (i := 240) (by decide +kernel), List.mem_of_getElem? (i := 241) (by decide +kernel)⟩
theorem lw_p3 : lw_okq (⟨"DesertIsCounted$Desert", "isBarred", "(II)Z"⟩, 13) := ⟨⟨by decide +kernel, by decide +kernel⟩, List.mem_of_getElem? (i := 25) (by decide +kernel), List.mem_of_getElem? (i := 265) (by decide +kernel), List.mem_of_getElem? (i := 266) (by decide +kernel)⟩
theorem lw_p4 : lw_okq (⟨"DesertIsCounted$Desert", "give", "(III)V"⟩, 13) := ⟨⟨by decide +kernel, by decide +kernel⟩, List.mem_of_getElem? (i := 25) (by decide +kernel), List.mem_of_getElem? (i := 269) (by decide +kernel), List.mem_of_getElem? (i := 270) (by decide +kernel)⟩
theorem lw_p5 : lw_okq (⟨"DesertIsCounted", "isCorporal", "(I)Z"⟩, 7) := ⟨⟨by decide +kernel, by decide +kernel⟩, List.mem_of_getElem? (i := 17) (by decide +kernel), List.mem_of_getElem? (i := 282) (by decide +kernel), List.mem_of_getElem? (i := 283) (by decide +kernel)⟩
theorem lw_p6 : lw_okq (⟨"DesertIsCounted", "lookOn", "(I)V"⟩, 7) := ⟨⟨by decide +kernel, by decide +kernel⟩, List.mem_of_getElem? (i := 17) (by decide +kernel), List.mem_of_getElem? (i := 347) (by decide +kernel), List.mem_of_getElem? (i := 348) (by decide +kernel)⟩
theorem lw_p7 : lw_okq (⟨"DesertIsCounted", "leastInReach", "(II)I"⟩, 7) := ⟨⟨by decide +kernel, by decide +kernel⟩, List.mem_of_getElem? (i := 17) (by decide +kernel), List.mem_of_getElem? (i := 423) (by decide +kernel), List.mem_of_getElem? (i := 424) (by decide +kernel)⟩
theorem lw_p8 : lw_okq (⟨"DesertIsCounted$Shelf", "isSkipped", "(I)Z"⟩, 6) := ⟨⟨by decide +kernel, by decide +kernel⟩, List.mem_of_getElem? (i := 92) (by decide +kernel), List.mem_of_getElem? (i := 443) (by decide +kernel), List.mem_of_getElem? (i := 444) (by decide +kernel)⟩
theorem lw_p9 : lw_okq (⟨"DesertIsCounted$Shelf", "leastNumber", "()I"⟩, 6) := ⟨⟨by decide +kernel, by decide +kernel⟩, List.mem_of_getElem? (i := 92) (by decide +kernel), List.mem_of_getElem? (i := 447) (by decide +kernel), List.mem_of_getElem? (i := 448) (by decide +kernel)⟩
theorem lw_p10 : lw_okq (⟨"DesertIsCounted", "isDoneAsTold", "(LDesertIsCounted$Shelf;III)Z"⟩, 7) := ⟨⟨by decide +kernel, by decide +kernel⟩, List.mem_of_getElem? (i := 17) (by decide +kernel), List.mem_of_getElem? (i := 452) (by decide +kernel), List.mem_of_getElem? (i := 453) (by decide +kernel)⟩
theorem lw_p11 : lw_okq (⟨"DesertIsCounted", "isBookInMindAsTold", "(LDesertIsCounted$Shelf;II)Z"⟩, 7) := ⟨⟨by decide +kernel, by decide +kernel⟩, List.mem_of_getElem? (i := 17) (by decide +kernel), List.mem_of_getElem? (i := 464) (by decide +kernel), List.mem_of_getElem? (i := 465) (by decide +kernel)⟩
theorem lw_p12 : lw_okq (⟨"DesertIsCounted", "playTwo", "(III)V"⟩, 7) := ⟨⟨by decide +kernel, by decide +kernel⟩, List.mem_of_getElem? (i := 17) (by decide +kernel), List.mem_of_getElem? (i := 472) (by decide +kernel), List.mem_of_getElem? (i := 473) (by decide +kernel)⟩
theorem lw_p13 : lw_okq (⟨"java/lang/Throwable", "fillInStackTrace", "(I)Ljava/lang/Throwable;"⟩, 6) := ⟨⟨by decide +kernel, by decide +kernel⟩, List.mem_of_getElem? (i := 630) (by decide +kernel), List.mem_of_getElem? (i := 628) (by decide +kernel), List.mem_of_getElem? (i := 629) (by decide +kernel)⟩
theorem lw_p14 : lw_okq (⟨"DesertIsCountedModel", "wrongRow", "(II)I"⟩, 17) := ⟨⟨by decide +kernel, by decide +kernel⟩, List.mem_of_getElem? (i := 676) (by decide +kernel), List.mem_of_getElem? (i := 738) (by decide +kernel), List.mem_of_getElem? (i := 739) (by decide +kernel)⟩
theorem lw_p15 : lw_okq (⟨"DesertIsCountedModel", "readsStatement", "()Z"⟩, 17) := ⟨⟨by decide +kernel, by decide +kernel⟩, List.mem_of_getElem? (i := 676) (by decide +kernel), List.mem_of_getElem? (i := 748) (by decide +kernel), List.mem_of_getElem? (i := 749) (by decide +kernel)⟩
def lw_privs_1 : List (MethodName × Nat) := [(⟨"DesertIsCounted", "shelfOrNull", "(I)LDesertIsCounted$Shelf;"⟩, 7), (⟨"DesertIsCounted$Desert", "write", "(II)V"⟩, 13), (⟨"DesertIsCounted$Desert", "work", "(I)V"⟩, 13), (⟨"DesertIsCounted$Desert", "isBarred", "(II)Z"⟩, 13), (⟨"DesertIsCounted$Desert", "give", "(III)V"⟩, 13), (⟨"DesertIsCounted", "isCorporal", "(I)Z"⟩, 7), (⟨"DesertIsCounted", "lookOn", "(I)V"⟩, 7), (⟨"DesertIsCounted", "leastInReach", "(II)I"⟩, 7), (⟨"DesertIsCounted$Shelf", "isSkipped", "(I)Z"⟩, 6), (⟨"DesertIsCounted$Shelf", "leastNumber", "()I"⟩, 6), (⟨"DesertIsCounted", "isDoneAsTold", "(LDesertIsCounted$Shelf;III)Z"⟩, 7), (⟨"DesertIsCounted", "isBookInMindAsTold", "(LDesertIsCounted$Shelf;II)Z"⟩, 7), (⟨"DesertIsCounted", "playTwo", "(III)V"⟩, 7), (⟨"java/lang/Throwable", "fillInStackTrace", "(I)Ljava/lang/Throwable;"⟩, 6), (⟨"DesertIsCountedModel", "wrongRow", "(II)I"⟩, 17), (⟨"DesertIsCountedModel", "readsStatement", "()Z"⟩, 17)]
theorem lw_r1 : ∀ q ∈ lw_privs_1, lw_okq q := List.forall_mem_cons.mpr ⟨lw_p0, List.forall_mem_cons.mpr ⟨lw_p1, List.forall_mem_cons.mpr ⟨lw_p2, List.forall_mem_cons.mpr ⟨lw_p3, List.forall_mem_cons.mpr ⟨lw_p4, List.forall_mem_cons.mpr ⟨lw_p5, List.forall_mem_cons.mpr ⟨lw_p6, List.forall_mem_cons.mpr ⟨lw_p7, List.forall_mem_cons.mpr ⟨lw_p8, List.forall_mem_cons.mpr ⟨lw_p9, List.forall_mem_cons.mpr ⟨lw_p10, List.forall_mem_cons.mpr ⟨lw_p11, List.forall_mem_cons.mpr ⟨lw_p12, List.forall_mem_cons.mpr ⟨lw_p13, List.forall_mem_cons.mpr ⟨lw_p14, List.forall_mem_cons.mpr ⟨lw_p15, fun _ h => absurd h List.not_mem_nil⟩⟩⟩⟩⟩⟩⟩⟩⟩⟩⟩⟩⟩⟩⟩⟩
theorem lw_p16 : lw_okq (⟨"DesertIsCountedModel", "here", "()I"⟩, 17) := ⟨⟨by decide +kernel, by decide +kernel⟩, List.mem_of_getElem? (i := 676) (by decide +kernel), List.mem_of_getElem? (i := 752) (by decide +kernel), List.mem_of_getElem? (i := 753) (by decide +kernel)⟩
theorem lw_p17 : lw_okq (⟨"DesertIsCountedModel", "readsNumber", "(II)Z"⟩, 17) := ⟨⟨by decide +kernel, by decide +kernel⟩, List.mem_of_getElem? (i := 676) (by decide +kernel), List.mem_of_getElem? (i := 756) (by decide +kernel), List.mem_of_getElem? (i := 757) (by decide +kernel)⟩
theorem lw_p18 : lw_okq (⟨"DesertIsCountedModel", "isDone", "(I)Z"⟩, 17) := ⟨⟨by decide +kernel, by decide +kernel⟩, List.mem_of_getElem? (i := 676) (by decide +kernel), List.mem_of_getElem? (i := 763) (by decide +kernel), List.mem_of_getElem? (i := 764) (by decide +kernel)⟩
theorem lw_p19 : lw_okq (⟨"DesertIsCountedModel", "adds", "(IIII)V"⟩, 17) := ⟨⟨by decide +kernel, by decide +kernel⟩, List.mem_of_getElem? (i := 676) (by decide +kernel), List.mem_of_getElem? (i := 767) (by decide +kernel), List.mem_of_getElem? (i := 768) (by decide +kernel)⟩
theorem lw_p20 : lw_okq (⟨"DesertIsCountedModel", "isOne", "(I)Z"⟩, 17) := ⟨⟨by decide +kernel, by decide +kernel⟩, List.mem_of_getElem? (i := 676) (by decide +kernel), List.mem_of_getElem? (i := 777) (by decide +kernel), List.mem_of_getElem? (i := 778) (by decide +kernel)⟩
theorem lw_p21 : lw_okq (⟨"DesertIsCountedModel", "wrongKept", "(I)I"⟩, 17) := ⟨⟨by decide +kernel, by decide +kernel⟩, List.mem_of_getElem? (i := 676) (by decide +kernel), List.mem_of_getElem? (i := 838) (by decide +kernel), List.mem_of_getElem? (i := 839) (by decide +kernel)⟩
theorem lw_p22 : lw_okq (⟨"DesertIsCountedModel", "takes", "(I)V"⟩, 17) := ⟨⟨by decide +kernel, by decide +kernel⟩, List.mem_of_getElem? (i := 676) (by decide +kernel), List.mem_of_getElem? (i := 877) (by decide +kernel), List.mem_of_getElem? (i := 878) (by decide +kernel)⟩
theorem lw_p23 : lw_okq (⟨"DesertIsCountedModel", "pairsFrom", "(II)I"⟩, 17) := ⟨⟨by decide +kernel, by decide +kernel⟩, List.mem_of_getElem? (i := 676) (by decide +kernel), List.mem_of_getElem? (i := 944) (by decide +kernel), List.mem_of_getElem? (i := 945) (by decide +kernel)⟩
theorem lw_p24 : lw_okq (⟨"DesertIsCountedModel", "unevenAt", "(I)I"⟩, 17) := ⟨⟨by decide +kernel, by decide +kernel⟩, List.mem_of_getElem? (i := 676) (by decide +kernel), List.mem_of_getElem? (i := 952) (by decide +kernel), List.mem_of_getElem? (i := 953) (by decide +kernel)⟩
theorem lw_p25 : lw_okq (⟨"DesertIsCountedModel", "isTold", "(II)Z"⟩, 17) := ⟨⟨by decide +kernel, by decide +kernel⟩, List.mem_of_getElem? (i := 676) (by decide +kernel), List.mem_of_getElem? (i := 960) (by decide +kernel), List.mem_of_getElem? (i := 961) (by decide +kernel)⟩
theorem lw_p26 : lw_okq (⟨"DesertIsCountedModel", "hasBy", "(IIIII)I"⟩, 17) := ⟨⟨by decide +kernel, by decide +kernel⟩, List.mem_of_getElem? (i := 676) (by decide +kernel), List.mem_of_getElem? (i := 976) (by decide +kernel), List.mem_of_getElem? (i := 977) (by decide +kernel)⟩
theorem lw_p27 : lw_okq (⟨"DesertIsCountedModel", "sumOf", "(I)I"⟩, 17) := ⟨⟨by decide +kernel, by decide +kernel⟩, List.mem_of_getElem? (i := 676) (by decide +kernel), List.mem_of_getElem? (i := 995) (by decide +kernel), List.mem_of_getElem? (i := 996) (by decide +kernel)⟩
theorem lw_p28 : lw_okq (⟨"DesertIsCountedModel", "drawn", "(I)I"⟩, 17) := ⟨⟨by decide +kernel, by decide +kernel⟩, List.mem_of_getElem? (i := 676) (by decide +kernel), List.mem_of_getElem? (i := 1012) (by decide +kernel), List.mem_of_getElem? (i := 1013) (by decide +kernel)⟩
def lw_privs_2 : List (MethodName × Nat) := [(⟨"DesertIsCountedModel", "here", "()I"⟩, 17), (⟨"DesertIsCountedModel", "readsNumber", "(II)Z"⟩, 17), (⟨"DesertIsCountedModel", "isDone", "(I)Z"⟩, 17), (⟨"DesertIsCountedModel", "adds", "(IIII)V"⟩, 17), (⟨"DesertIsCountedModel", "isOne", "(I)Z"⟩, 17), (⟨"DesertIsCountedModel", "wrongKept", "(I)I"⟩, 17), (⟨"DesertIsCountedModel", "takes", "(I)V"⟩, 17), (⟨"DesertIsCountedModel", "pairsFrom", "(II)I"⟩, 17), (⟨"DesertIsCountedModel", "unevenAt", "(I)I"⟩, 17), (⟨"DesertIsCountedModel", "isTold", "(II)Z"⟩, 17), (⟨"DesertIsCountedModel", "hasBy", "(IIIII)I"⟩, 17), (⟨"DesertIsCountedModel", "sumOf", "(I)I"⟩, 17), (⟨"DesertIsCountedModel", "drawn", "(I)I"⟩, 17)]
theorem lw_r2 : ∀ q ∈ lw_privs_2, lw_okq q := List.forall_mem_cons.mpr ⟨lw_p16, List.forall_mem_cons.mpr ⟨lw_p17, List.forall_mem_cons.mpr ⟨lw_p18, List.forall_mem_cons.mpr ⟨lw_p19, List.forall_mem_cons.mpr ⟨lw_p20, List.forall_mem_cons.mpr ⟨lw_p21, List.forall_mem_cons.mpr ⟨lw_p22, List.forall_mem_cons.mpr ⟨lw_p23, List.forall_mem_cons.mpr ⟨lw_p24, List.forall_mem_cons.mpr ⟨lw_p25, List.forall_mem_cons.mpr ⟨lw_p26, List.forall_mem_cons.mpr ⟨lw_p27, List.forall_mem_cons.mpr ⟨lw_p28, fun _ h => absurd h List.not_mem_nil⟩⟩⟩⟩⟩⟩⟩⟩⟩⟩⟩⟩⟩
def lw_privs : List (MethodName × Nat) := lw_privs_1 ++ (lw_privs_2)
def lw_tbl : List Cond := k2_sels lw_privs ++ tables_1
theorem lw_privs_ok : ∀ q ∈ lw_privs, lw_okq q := by
  show ∀ q ∈ lw_privs_1 ++ (lw_privs_2), lw_okq q
  exact List.forall_mem_append.mpr ⟨lw_r1, lw_r2⟩
-- ===== end of PART A; then your names; then what follows =====
end
section
def RX0 : String := "DesertIsCounted$Desert"
def TX0 : u_T := fun k => match k with
  | 0 => ("DesertIsCounted$Desert", "grains", "[I", true)
  | 1 => ("DesertIsCounted$Desert", "done", "[I", true)
  | 2 => ("DesertIsCounted$Desert", "kind", "[I", true)
  | 3 => ("DesertIsCounted$Desert", "figure", "[I", true)
  | 4 => ("DesertIsCounted$Desert", "at", "[I", true)
  | 5 => ("DesertIsCounted$Desert", "way", "[I", true)
  | 6 => ("DesertIsCounted$Desert", "book", "[I", true)
  | 7 => ("DesertIsCounted$Desert", "corporals", "I", false)
  | 8 => ("DesertIsCounted$Desert", "resting", "I", false)
  | 9 => ("DesertIsCounted$Desert", "writing", "I", false)
  | 10 => ("DesertIsCounted$Desert", "wind", "I", false)
  | 11 => ("DesertIsCounted$Desert", "day", "I", false)
  | _ => ("DesertIsCounted$Desert", "blownOnDone", "I", false)
def tyX0 : Nat → FieldType := fun k => match k with
  | 0 => .array .int
  | 1 => .array .int
  | 2 => .array .int
  | 3 => .array .int
  | 4 => .array .int
  | 5 => .array .int
  | 6 => .array .int
  | 7 => .int
  | 8 => .int
  | 9 => .int
  | 10 => .int
  | 11 => .int
  | _ => .int
abbrev wsX00 : List Cond := u_ws RX0 TX0 13
theorem nmX0 : ∀ a, a < 13 → ∀ b, b < 13 → a ≠ b → (TX0 a).2.1 ≠ (TX0 b).2.1 := by decide +kernel
theorem tyX0_ok : ∀ k, k < 13 → parseFieldDescriptor (TX0 k).2.2.1 = some (tyX0 k) := by decide +kernel
abbrev cX0_init : ByteArray := prog_2_method_1_code
def yX0_init : MethodName := ⟨RX0, "<init>", "()V"⟩
abbrev cX0_becomes : ByteArray := prog_2_method_2_code
def yX0_becomes : MethodName := ⟨RX0, "becomes", "(LDesertIsCounted$Desert;)V"⟩
abbrev cX0_hasRoom : ByteArray := prog_2_method_3_code
def yX0_hasRoom : MethodName := ⟨RX0, "hasRoom", "()Z"⟩
abbrev cX0_takesIn : ByteArray := prog_2_method_4_code
def yX0_takesIn : MethodName := ⟨RX0, "takesIn", "(IIII)V"⟩
abbrev cX0_refill : ByteArray := prog_2_method_5_code
def yX0_refill : MethodName := ⟨RX0, "refill", "(II)V"⟩
abbrev cX0_turnRest : ByteArray := prog_2_method_6_code
def yX0_turnRest : MethodName := ⟨RX0, "turnRest", "(I)V"⟩
abbrev cX0_setBack : ByteArray := prog_2_method_7_code
def yX0_setBack : MethodName := ⟨RX0, "setBack", "()V"⟩
abbrev cX0_leftIn : ByteArray := prog_2_method_8_code
def yX0_leftIn : MethodName := ⟨RX0, "leftIn", "(I)I"⟩
abbrev cX0_isDone : ByteArray := prog_2_method_9_code
def yX0_isDone : MethodName := ⟨RX0, "isDone", "(I)Z"⟩
abbrev cX0_doneDips : ByteArray := prog_2_method_10_code
def yX0_doneDips : MethodName := ⟨RX0, "doneDips", "()I"⟩
abbrev cX0_whoIsAt : ByteArray := prog_2_method_11_code
def yX0_whoIsAt : MethodName := ⟨RX0, "whoIsAt", "(I)I"⟩
abbrev cX0_allGrains : ByteArray := prog_2_method_12_code
def yX0_allGrains : MethodName := ⟨RX0, "allGrains", "()I"⟩
abbrev cX0_allDone : ByteArray := prog_2_method_13_code
def yX0_allDone : MethodName := ⟨RX0, "allDone", "()I"⟩
abbrev cX0_allBooks : ByteArray := prog_2_method_14_code
def yX0_allBooks : MethodName := ⟨RX0, "allBooks", "()I"⟩
abbrev cX0_passDays : ByteArray := prog_2_method_15_code
def yX0_passDays : MethodName := ⟨RX0, "passDays", "(I)V"⟩
abbrev cX0_passDay : ByteArray := prog_2_method_16_code
def yX0_passDay : MethodName := ⟨RX0, "passDay", "()V"⟩
abbrev cX0_work : ByteArray := prog_2_method_17_code
def yX0_work : MethodName := ⟨RX0, "work", "(I)V"⟩
abbrev cX0_write : ByteArray := prog_2_method_18_code
def yX0_write : MethodName := ⟨RX0, "write", "(II)V"⟩
abbrev cX0_isBarred : ByteArray := prog_2_method_19_code
def yX0_isBarred : MethodName := ⟨RX0, "isBarred", "(II)Z"⟩
abbrev cX0_give : ByteArray := prog_2_method_20_code
def yX0_give : MethodName := ⟨RX0, "give", "(III)V"⟩
def RX1 : String := "DesertIsCounted$Kind"
def TX1 : u_T := fun k => match k with
  | _ => ("", "", "", false)
def tyX1 : Nat → FieldType := fun k => match k with
  | _ => .int
abbrev wsX10 : List Cond := u_ws RX1 TX1 0
theorem nmX1 : ∀ a, a < 0 → ∀ b, b < 0 → a ≠ b → (TX1 a).2.1 ≠ (TX1 b).2.1 := by decide +kernel
theorem tyX1_ok : ∀ k, k < 0 → parseFieldDescriptor (TX1 k).2.2.1 = some (tyX1 k) := by decide +kernel
abbrev cX1_counts : ByteArray := prog_3_method_2_code
def yX1_counts : MethodName := ⟨RX1, "counts", "(IIII)I"⟩
abbrev cX1_books : ByteArray := prog_3_method_3_code
def yX1_books : MethodName := ⟨RX1, "books", "(III)I"⟩
abbrev cX1_costOf : ByteArray := prog_3_method_4_code
def yX1_costOf : MethodName := ⟨RX1, "costOf", "(II)I"⟩
abbrev cX1_hasFailure : ByteArray := prog_3_method_5_code
def yX1_hasFailure : MethodName := ⟨RX1, "hasFailure", "(II)Z"⟩
abbrev cX1_failureOf : ByteArray := prog_3_method_6_code
def yX1_failureOf : MethodName := ⟨RX1, "failureOf", "(II)I"⟩
def RX2 : String := "DesertIsCounted$Shelf"
def TX2 : u_T := fun k => match k with
  | 0 => ("DesertIsCounted$Shelf", "elements", "[I", true)
  | 1 => ("DesertIsCounted$Shelf", "held", "I", false)
  | 2 => ("DesertIsCounted$Shelf", "kind", "I", false)
  | 3 => ("DesertIsCounted$Shelf", "figure", "I", false)
  | 4 => ("DesertIsCounted$Shelf", "sort", "I", false)
  | _ => ("DesertIsCounted$Shelf", "size", "I", false)
def tyX2 : Nat → FieldType := fun k => match k with
  | 0 => .array .int
  | 1 => .int
  | 2 => .int
  | 3 => .int
  | 4 => .int
  | _ => .int
abbrev wsX20 : List Cond := u_ws RX2 TX2 6
theorem nmX2 : ∀ a, a < 6 → ∀ b, b < 6 → a ≠ b → (TX2 a).2.1 ≠ (TX2 b).2.1 := by decide +kernel
theorem tyX2_ok : ∀ k, k < 6 → parseFieldDescriptor (TX2 k).2.2.1 = some (tyX2 k) := by decide +kernel
abbrev cX2_init : ByteArray := prog_4_method_1_code
def yX2_init : MethodName := ⟨RX2, "<init>", "()V"⟩
abbrev cX2_holdNothing : ByteArray := prog_4_method_2_code
def yX2_holdNothing : MethodName := ⟨RX2, "holdNothing", "()V"⟩
abbrev cX2_holdKind : ByteArray := prog_4_method_3_code
def yX2_holdKind : MethodName := ⟨RX2, "holdKind", "(II)V"⟩
abbrev cX2_holdRow : ByteArray := prog_4_method_4_code
def yX2_holdRow : MethodName := ⟨RX2, "holdRow", "(II)V"⟩
abbrev cX2_hasPlace : ByteArray := prog_4_method_5_code
def yX2_hasPlace : MethodName := ⟨RX2, "hasPlace", "(I)Z"⟩
abbrev cX2_hasStretch : ByteArray := prog_4_method_6_code
def yX2_hasStretch : MethodName := ⟨RX2, "hasStretch", "(II)Z"⟩
abbrev cX2_set : ByteArray := prog_4_method_7_code
def yX2_set : MethodName := ⟨RX2, "set", "(II)V"⟩
abbrev cX2_leastNumber : ByteArray := prog_4_method_8_code
def yX2_leastNumber : MethodName := ⟨RX2, "leastNumber", "()I"⟩
abbrev cX2_isSkipped : ByteArray := prog_4_method_9_code
def yX2_isSkipped : MethodName := ⟨RX2, "isSkipped", "(I)Z"⟩
abbrev cX2_allows : ByteArray := prog_4_method_10_code
def yX2_allows : MethodName := ⟨RX2, "allows", "(II)Z"⟩
abbrev cX2_behindLastTold : ByteArray := prog_4_method_11_code
def yX2_behindLastTold : MethodName := ⟨RX2, "behindLastTold", "()I"⟩
def RX3 : String := "DesertIsCounted$Text"
def TX3 : u_T := fun k => match k with
  | _ => ("", "", "", false)
def tyX3 : Nat → FieldType := fun k => match k with
  | _ => .int
abbrev wsX30 : List Cond := u_ws RX3 TX3 0
theorem nmX3 : ∀ a, a < 0 → ∀ b, b < 0 → a ≠ b → (TX3 a).2.1 ≠ (TX3 b).2.1 := by decide +kernel
theorem tyX3_ok : ∀ k, k < 0 → parseFieldDescriptor (TX3 k).2.2.1 = some (tyX3 k) := by decide +kernel
abbrev cX3_placeOfBadForm : ByteArray := prog_5_method_2_code
def yX3_placeOfBadForm : MethodName := ⟨RX3, "placeOfBadForm", "(LDesertIsCounted$Shelf;)I"⟩
abbrev cX3_lengthOfStatement : ByteArray := prog_5_method_3_code
def yX3_lengthOfStatement : MethodName := ⟨RX3, "lengthOfStatement", "(LDesertIsCounted$Shelf;I)I"⟩
abbrev cX3_isDoneOn : ByteArray := prog_5_method_4_code
def yX3_isDoneOn : MethodName := ⟨RX3, "isDoneOn", "(LDesertIsCounted$Desert;LDesertIsCounted$Shelf;I)Z"⟩
abbrev cX3_comesOn : ByteArray := prog_5_method_5_code
def yX3_comesOn : MethodName := ⟨RX3, "comesOn", "(LDesertIsCounted$Desert;ILDesertIsCounted$Shelf;I)Z"⟩
abbrev cX3_restsOn : ByteArray := prog_5_method_6_code
def yX3_restsOn : MethodName := ⟨RX3, "restsOn", "(LDesertIsCounted$Desert;I)Z"⟩
abbrev cX3_daysPassOn : ByteArray := prog_5_method_7_code
def yX3_daysPassOn : MethodName := ⟨RX3, "daysPassOn", "(LDesertIsCounted$Desert;I)Z"⟩
abbrev cX3_digitsBehind : ByteArray := prog_5_method_8_code
def yX3_digitsBehind : MethodName := ⟨RX3, "digitsBehind", "(I)I"⟩
abbrev cX3_isDigit : ByteArray := prog_5_method_9_code
def yX3_isDigit : MethodName := ⟨RX3, "isDigit", "(I)Z"⟩
abbrev cX3_byteAt : ByteArray := prog_5_method_10_code
def yX3_byteAt : MethodName := ⟨RX3, "byteAt", "(LDesertIsCounted$Shelf;I)I"⟩
abbrev cX3_digitAt : ByteArray := prog_5_method_11_code
def yX3_digitAt : MethodName := ⟨RX3, "digitAt", "(LDesertIsCounted$Shelf;I)I"⟩
abbrev cX3_numberAt : ByteArray := prog_5_method_12_code
def yX3_numberAt : MethodName := ⟨RX3, "numberAt", "(LDesertIsCounted$Shelf;II)I"⟩
def RX4 : String := "DesertIsCounted"
def TX4 : u_T := fun k => match k with
  | 0 => ("DesertIsCounted", "now", "LDesertIsCounted$Desert;", true)
  | 1 => ("DesertIsCounted", "mind", "LDesertIsCounted$Desert;", true)
  | 2 => ("DesertIsCounted", "taken", "LDesertIsCounted$Desert;", true)
  | 3 => ("DesertIsCounted", "imageIsTaken", "Z", false)
  | 4 => ("DesertIsCounted", "shelves", "[LDesertIsCounted$Shelf;", true)
  | 5 => ("DesertIsCounted", "gainsOfOne", "[I", true)
  | _ => ("DesertIsCounted", "gainsOfOther", "[I", true)
def tyX4 : Nat → FieldType := fun k => match k with
  | 0 => .object "DesertIsCounted$Desert"
  | 1 => .object "DesertIsCounted$Desert"
  | 2 => .object "DesertIsCounted$Desert"
  | 3 => .boolean
  | 4 => .array (.object "DesertIsCounted$Shelf")
  | 5 => .array .int
  | _ => .array .int
abbrev wsX40 : List Cond := u_ws RX4 TX4 7
theorem nmX4 : ∀ a, a < 7 → ∀ b, b < 7 → a ≠ b → (TX4 a).2.1 ≠ (TX4 b).2.1 := by decide +kernel
theorem tyX4_ok : ∀ k, k < 7 → parseFieldDescriptor (TX4 k).2.2.1 = some (tyX4 k) := by decide +kernel
abbrev cX4_init : ByteArray := prog_1_method_1_code
def yX4_init : MethodName := ⟨RX4, "<init>", "()V"⟩
abbrev cX4_desert : ByteArray := prog_1_method_2_code
def yX4_desert : MethodName := ⟨RX4, "desert", "(I)I"⟩
abbrev cX4_corporal : ByteArray := prog_1_method_3_code
def yX4_corporal : MethodName := ⟨RX4, "corporal", "(II)I"⟩
abbrev cX4_dip : ByteArray := prog_1_method_4_code
def yX4_dip : MethodName := ⟨RX4, "dip", "(II)I"⟩
abbrev cX4_comes : ByteArray := prog_1_method_5_code
def yX4_comes : MethodName := ⟨RX4, "comes", "(III)I"⟩
abbrev cX4_fills : ByteArray := prog_1_method_6_code
def yX4_fills : MethodName := ⟨RX4, "fills", "(II)I"⟩
abbrev cX4_blows : ByteArray := prog_1_method_7_code
def yX4_blows : MethodName := ⟨RX4, "blows", "(I)I"⟩
abbrev cX4_rests : ByteArray := prog_1_method_8_code
def yX4_rests : MethodName := ⟨RX4, "rests", "(I)I"⟩
abbrev cX4_moves : ByteArray := prog_1_method_9_code
def yX4_moves : MethodName := ⟨RX4, "moves", "(II)I"⟩
abbrev cX4_flood : ByteArray := prog_1_method_10_code
def yX4_flood : MethodName := ⟨RX4, "flood", "()I"⟩
abbrev cX4_days : ByteArray := prog_1_method_11_code
def yX4_days : MethodName := ⟨RX4, "days", "(I)I"⟩
abbrev cX4_corporalThen : ByteArray := prog_1_method_12_code
def yX4_corporalThen : MethodName := ⟨RX4, "corporalThen", "(III)I"⟩
abbrev cX4_dipThen : ByteArray := prog_1_method_13_code
def yX4_dipThen : MethodName := ⟨RX4, "dipThen", "(III)I"⟩
abbrev cX4_dipsDone : ByteArray := prog_1_method_14_code
def yX4_dipsDone : MethodName := ⟨RX4, "dipsDone", "(I)I"⟩
abbrev cX4_ends : ByteArray := prog_1_method_15_code
def yX4_ends : MethodName := ⟨RX4, "ends", "(I)I"⟩
abbrev cX4_meet : ByteArray := prog_1_method_16_code
def yX4_meet : MethodName := ⟨RX4, "meet", "(II)I"⟩
abbrev cX4_line : ByteArray := prog_1_method_17_code
def yX4_line : MethodName := ⟨RX4, "line", "(I)I"⟩
abbrev cX4_treaty : ByteArray := prog_1_method_18_code
def yX4_treaty : MethodName := ⟨RX4, "treaty", "(I)I"⟩
abbrev cX4_bestWind : ByteArray := prog_1_method_19_code
def yX4_bestWind : MethodName := ⟨RX4, "bestWind", "(II)I"⟩
abbrev cX4_send : ByteArray := prog_1_method_20_code
def yX4_send : MethodName := ⟨RX4, "send", "(III)I"⟩
abbrev cX4_idle : ByteArray := prog_1_method_21_code
def yX4_idle : MethodName := ⟨RX4, "idle", "(I)I"⟩
abbrev cX4_slowest : ByteArray := prog_1_method_22_code
def yX4_slowest : MethodName := ⟨RX4, "slowest", "(I)I"⟩
abbrev cX4_lost : ByteArray := prog_1_method_23_code
def yX4_lost : MethodName := ⟨RX4, "lost", "(I)I"⟩
abbrev cX4_heap : ByteArray := prog_1_method_24_code
def yX4_heap : MethodName := ⟨RX4, "heap", "(II)I"⟩
abbrev cX4_begin : ByteArray := prog_1_method_25_code
def yX4_begin : MethodName := ⟨RX4, "begin", "(II)I"⟩
abbrev cX4_pairs : ByteArray := prog_1_method_26_code
def yX4_pairs : MethodName := ⟨RX4, "pairs", "()I"⟩
abbrev cX4_even : ByteArray := prog_1_method_27_code
def yX4_even : MethodName := ⟨RX4, "even", "(I)I"⟩
abbrev cX4_howMany : ByteArray := prog_1_method_28_code
def yX4_howMany : MethodName := ⟨RX4, "howMany", "(III)I"⟩
abbrev cX4_whatIs : ByteArray := prog_1_method_29_code
def yX4_whatIs : MethodName := ⟨RX4, "whatIs", "(III)I"⟩
abbrev cX4_two : ByteArray := prog_1_method_30_code
def yX4_two : MethodName := ⟨RX4, "two", "(II)I"⟩
abbrev cX4_storm : ByteArray := prog_1_method_31_code
def yX4_storm : MethodName := ⟨RX4, "storm", "(IIII)J"⟩
abbrev cX4_mean : ByteArray := prog_1_method_32_code
def yX4_mean : MethodName := ⟨RX4, "mean", "(I)J"⟩
abbrev cX4_forged : ByteArray := prog_1_method_33_code
def yX4_forged : MethodName := ⟨RX4, "forged", "(I)I"⟩
abbrev cX4_judge : ByteArray := prog_1_method_34_code
def yX4_judge : MethodName := ⟨RX4, "judge", "(I)I"⟩
abbrev cX4_deserts : ByteArray := prog_1_method_35_code
def yX4_deserts : MethodName := ⟨RX4, "deserts", "(III)I"⟩
abbrev cX4_image : ByteArray := prog_1_method_36_code
def yX4_image : MethodName := ⟨RX4, "image", "()I"⟩
abbrev cX4_restore : ByteArray := prog_1_method_37_code
def yX4_restore : MethodName := ⟨RX4, "restore", "()I"⟩
abbrev cX4_count : ByteArray := prog_1_method_38_code
def yX4_count : MethodName := ⟨RX4, "count", "(I)I"⟩
abbrev cX4_keep : ByteArray := prog_1_method_39_code
def yX4_keep : MethodName := ⟨RX4, "keep", "(IIII)I"⟩
abbrev cX4_row : ByteArray := prog_1_method_40_code
def yX4_row : MethodName := ⟨RX4, "row", "(III)I"⟩
abbrev cX4_put : ByteArray := prog_1_method_41_code
def yX4_put : MethodName := ⟨RX4, "put", "(III)I"⟩
abbrev cX4_element : ByteArray := prog_1_method_42_code
def yX4_element : MethodName := ⟨RX4, "element", "(II)J"⟩
abbrev cX4_copy : ByteArray := prog_1_method_43_code
def yX4_copy : MethodName := ⟨RX4, "copy", "(IIIII)I"⟩
abbrev cX4_cost : ByteArray := prog_1_method_44_code
def yX4_cost : MethodName := ⟨RX4, "cost", "(I)I"⟩
abbrev cX4_toss : ByteArray := prog_1_method_45_code
def yX4_toss : MethodName := ⟨RX4, "toss", "(I)I"⟩
abbrev cX4_isWithin : ByteArray := prog_1_method_46_code
def yX4_isWithin : MethodName := ⟨RX4, "isWithin", "(III)Z"⟩
abbrev cX4_isDip : ByteArray := prog_1_method_47_code
def yX4_isDip : MethodName := ⟨RX4, "isDip", "(I)Z"⟩
abbrev cX4_isDaysOn : ByteArray := prog_1_method_48_code
def yX4_isDaysOn : MethodName := ⟨RX4, "isDaysOn", "(I)Z"⟩
abbrev cX4_hasBit : ByteArray := prog_1_method_49_code
def yX4_hasBit : MethodName := ⟨RX4, "hasBit", "(II)Z"⟩
abbrev cX4_isCorporal : ByteArray := prog_1_method_50_code
def yX4_isCorporal : MethodName := ⟨RX4, "isCorporal", "(I)Z"⟩
abbrev cX4_shelfOrNull : ByteArray := prog_1_method_51_code
def yX4_shelfOrNull : MethodName := ⟨RX4, "shelfOrNull", "(I)LDesertIsCounted$Shelf;"⟩
abbrev cX4_refusalUnless : ByteArray := prog_1_method_52_code
def yX4_refusalUnless : MethodName := ⟨RX4, "refusalUnless", "(LDesertIsCounted$Shelf;I)I"⟩
abbrev cX4_lookOn : ByteArray := prog_1_method_53_code
def yX4_lookOn : MethodName := ⟨RX4, "lookOn", "(I)V"⟩
abbrev cX4_leastInReach : ByteArray := prog_1_method_54_code
def yX4_leastInReach : MethodName := ⟨RX4, "leastInReach", "(II)I"⟩
abbrev cX4_isDoneAsTold : ByteArray := prog_1_method_55_code
def yX4_isDoneAsTold : MethodName := ⟨RX4, "isDoneAsTold", "(LDesertIsCounted$Shelf;III)Z"⟩
abbrev cX4_isBookInMindAsTold : ByteArray := prog_1_method_56_code
def yX4_isBookInMindAsTold : MethodName := ⟨RX4, "isBookInMindAsTold", "(LDesertIsCounted$Shelf;II)Z"⟩
abbrev cX4_playTwo : ByteArray := prog_1_method_57_code
def yX4_playTwo : MethodName := ⟨RX4, "playTwo", "(III)V"⟩
abbrev cX4_partInLeastTerms : ByteArray := prog_1_method_58_code
def yX4_partInLeastTerms : MethodName := ⟨RX4, "partInLeastTerms", "(JJI)J"⟩
abbrev cX4_nextSeed : ByteArray := prog_1_method_59_code
def yX4_nextSeed : MethodName := ⟨RX4, "nextSeed", "(I)I"⟩
abbrev cX4_drawBelow : ByteArray := prog_1_method_60_code
def yX4_drawBelow : MethodName := ⟨RX4, "drawBelow", "(II)I"⟩
def RX5 : String := "DesertIsCountedModel"
def TX5 : u_T := fun k => match k with
  | 0 => ("DesertIsCountedModel", "s", "[I", true)
  | 1 => ("DesertIsCountedModel", "m", "[I", true)
  | 2 => ("DesertIsCountedModel", "image", "[I", true)
  | 3 => ("DesertIsCountedModel", "was", "[I", true)
  | 4 => ("DesertIsCountedModel", "hasImage", "Z", false)
  | 5 => ("DesertIsCountedModel", "place", "I", false)
  | 6 => ("DesertIsCountedModel", "rowAt", "I", false)
  | 7 => ("DesertIsCountedModel", "rowEnd", "I", false)
  | 8 => ("DesertIsCountedModel", "numbers", "[I", true)
  | 9 => ("DesertIsCountedModel", "seed", "I", false)
  | 10 => ("DesertIsCountedModel", "kept", "[I", true)
  | 11 => ("DesertIsCountedModel", "keptKind", "[I", true)
  | 12 => ("DesertIsCountedModel", "keptFigure", "[I", true)
  | 13 => ("DesertIsCountedModel", "sort", "[I", true)
  | 14 => ("DesertIsCountedModel", "size", "[I", true)
  | 15 => ("DesertIsCountedModel", "element", "[I", true)
  | _ => ("DesertIsCountedModel", "thrown", "I", false)
def tyX5 : Nat → FieldType := fun k => match k with
  | 0 => .array .int
  | 1 => .array .int
  | 2 => .array .int
  | 3 => .array .int
  | 4 => .boolean
  | 5 => .int
  | 6 => .int
  | 7 => .int
  | 8 => .array .int
  | 9 => .int
  | 10 => .array .int
  | 11 => .array .int
  | 12 => .array .int
  | 13 => .array .int
  | 14 => .array .int
  | 15 => .array .int
  | _ => .int
abbrev wsX50 : List Cond := u_ws RX5 TX5 17
theorem nmX5 : ∀ a, a < 17 → ∀ b, b < 17 → a ≠ b → (TX5 a).2.1 ≠ (TX5 b).2.1 := by decide +kernel
theorem tyX5_ok : ∀ k, k < 17 → parseFieldDescriptor (TX5 k).2.2.1 = some (tyX5 k) := by decide +kernel
abbrev cX5_init : ByteArray := prog_7_method_1_code
def yX5_init : MethodName := ⟨RX5, "<init>", "()V"⟩
abbrev cX5_isIn : ByteArray := prog_7_method_2_code
def yX5_isIn : MethodName := ⟨RX5, "isIn", "(III)Z"⟩
abbrev cX5_least : ByteArray := prog_7_method_3_code
def yX5_least : MethodName := ⟨RX5, "least", "(II)I"⟩
abbrev cX5_most : ByteArray := prog_7_method_4_code
def yX5_most : MethodName := ⟨RX5, "most", "(II)I"⟩
abbrev cX5_copies : ByteArray := prog_7_method_5_code
def yX5_copies : MethodName := ⟨RX5, "copies", "([I[I)V"⟩
abbrev cX5_of : ByteArray := prog_7_method_6_code
def yX5_of : MethodName := ⟨RX5, "of", "(II)I"⟩
abbrev cX5_isOne : ByteArray := prog_7_method_7_code
def yX5_isOne : MethodName := ⟨RX5, "isOne", "(I)Z"⟩
abbrev cX5_isDip : ByteArray := prog_7_method_8_code
def yX5_isDip : MethodName := ⟨RX5, "isDip", "(I)Z"⟩
abbrev cX5_has : ByteArray := prog_7_method_9_code
def yX5_has : MethodName := ⟨RX5, "has", "(II)Z"⟩
abbrev cX5_bits : ByteArray := prog_7_method_10_code
def yX5_bits : MethodName := ⟨RX5, "bits", "(I)I"⟩
abbrev cX5_left : ByteArray := prog_7_method_11_code
def yX5_left : MethodName := ⟨RX5, "left", "([II)I"⟩
abbrev cX5_counts : ByteArray := prog_7_method_12_code
def yX5_counts : MethodName := ⟨RX5, "counts", "([III)I"⟩
abbrev cX5_books : ByteArray := prog_7_method_13_code
def yX5_books : MethodName := ⟨RX5, "books", "(III)I"⟩
abbrev cX5_writes : ByteArray := prog_7_method_14_code
def yX5_writes : MethodName := ⟨RX5, "writes", "([III)V"⟩
abbrev cX5_isStood : ByteArray := prog_7_method_15_code
def yX5_isStood : MethodName := ⟨RX5, "isStood", "([III)Z"⟩
abbrev cX5_goes : ByteArray := prog_7_method_16_code
def yX5_goes : MethodName := ⟨RX5, "goes", "([II)V"⟩
abbrev cX5_worksOn : ByteArray := prog_7_method_17_code
def yX5_worksOn : MethodName := ⟨RX5, "worksOn", "([II)V"⟩
abbrev cX5_gives : ByteArray := prog_7_method_18_code
def yX5_gives : MethodName := ⟨RX5, "gives", "([IIII)V"⟩
abbrev cX5_day : ByteArray := prog_7_method_19_code
def yX5_day : MethodName := ⟨RX5, "day", "([II)V"⟩
abbrev cX5_daysOn : ByteArray := prog_7_method_20_code
def yX5_daysOn : MethodName := ⟨RX5, "daysOn", "([II)V"⟩
abbrev cX5_booksOf : ByteArray := prog_7_method_21_code
def yX5_booksOf : MethodName := ⟨RX5, "booksOf", "([II)I"⟩
abbrev cX5_doneSet : ByteArray := prog_7_method_22_code
def yX5_doneSet : MethodName := ⟨RX5, "doneSet", "([I)I"⟩
abbrev cX5_fillsIn : ByteArray := prog_7_method_23_code
def yX5_fillsIn : MethodName := ⟨RX5, "fillsIn", "([III)V"⟩
abbrev cX5_floods : ByteArray := prog_7_method_24_code
def yX5_floods : MethodName := ⟨RX5, "floods", "([I)V"⟩
abbrev cX5_here : ByteArray := prog_7_method_25_code
def yX5_here : MethodName := ⟨RX5, "here", "()I"⟩
abbrev cX5_readsNumber : ByteArray := prog_7_method_26_code
def yX5_readsNumber : MethodName := ⟨RX5, "readsNumber", "(II)Z"⟩
abbrev cX5_readsStatement : ByteArray := prog_7_method_27_code
def yX5_readsStatement : MethodName := ⟨RX5, "readsStatement", "()Z"⟩
abbrev cX5_adds : ByteArray := prog_7_method_28_code
def yX5_adds : MethodName := ⟨RX5, "adds", "(IIII)V"⟩
abbrev cX5_isDone : ByteArray := prog_7_method_29_code
def yX5_isDone : MethodName := ⟨RX5, "isDone", "(I)Z"⟩
abbrev cX5_desert : ByteArray := prog_7_method_30_code
def yX5_desert : MethodName := ⟨RX5, "desert", "(I)I"⟩
abbrev cX5_corporal : ByteArray := prog_7_method_31_code
def yX5_corporal : MethodName := ⟨RX5, "corporal", "(II)I"⟩
abbrev cX5_dip : ByteArray := prog_7_method_32_code
def yX5_dip : MethodName := ⟨RX5, "dip", "(II)I"⟩
abbrev cX5_comes : ByteArray := prog_7_method_33_code
def yX5_comes : MethodName := ⟨RX5, "comes", "(III)I"⟩
abbrev cX5_fills : ByteArray := prog_7_method_34_code
def yX5_fills : MethodName := ⟨RX5, "fills", "(II)I"⟩
abbrev cX5_blows : ByteArray := prog_7_method_35_code
def yX5_blows : MethodName := ⟨RX5, "blows", "(I)I"⟩
abbrev cX5_rests : ByteArray := prog_7_method_36_code
def yX5_rests : MethodName := ⟨RX5, "rests", "(I)I"⟩
abbrev cX5_moves : ByteArray := prog_7_method_37_code
def yX5_moves : MethodName := ⟨RX5, "moves", "(II)I"⟩
abbrev cX5_flood : ByteArray := prog_7_method_38_code
def yX5_flood : MethodName := ⟨RX5, "flood", "()I"⟩
abbrev cX5_days : ByteArray := prog_7_method_39_code
def yX5_days : MethodName := ⟨RX5, "days", "(I)I"⟩
abbrev cX5_isLate : ByteArray := prog_7_method_40_code
def yX5_isLate : MethodName := ⟨RX5, "isLate", "(I)Z"⟩
abbrev cX5_takes : ByteArray := prog_7_method_41_code
def yX5_takes : MethodName := ⟨RX5, "takes", "(I)V"⟩
abbrev cX5_corporalThen : ByteArray := prog_7_method_42_code
def yX5_corporalThen : MethodName := ⟨RX5, "corporalThen", "(III)I"⟩
abbrev cX5_dipThen : ByteArray := prog_7_method_43_code
def yX5_dipThen : MethodName := ⟨RX5, "dipThen", "(III)I"⟩
abbrev cX5_dipsDone : ByteArray := prog_7_method_44_code
def yX5_dipsDone : MethodName := ⟨RX5, "dipsDone", "(I)I"⟩
abbrev cX5_ends : ByteArray := prog_7_method_45_code
def yX5_ends : MethodName := ⟨RX5, "ends", "(I)I"⟩
abbrev cX5_meet : ByteArray := prog_7_method_46_code
def yX5_meet : MethodName := ⟨RX5, "meet", "(II)I"⟩
abbrev cX5_line : ByteArray := prog_7_method_47_code
def yX5_line : MethodName := ⟨RX5, "line", "(I)I"⟩
abbrev cX5_treaty : ByteArray := prog_7_method_48_code
def yX5_treaty : MethodName := ⟨RX5, "treaty", "(I)I"⟩
abbrev cX5_bestWind : ByteArray := prog_7_method_49_code
def yX5_bestWind : MethodName := ⟨RX5, "bestWind", "(II)I"⟩
abbrev cX5_send : ByteArray := prog_7_method_50_code
def yX5_send : MethodName := ⟨RX5, "send", "(III)I"⟩
abbrev cX5_idle : ByteArray := prog_7_method_51_code
def yX5_idle : MethodName := ⟨RX5, "idle", "(I)I"⟩
abbrev cX5_slowest : ByteArray := prog_7_method_52_code
def yX5_slowest : MethodName := ⟨RX5, "slowest", "(I)I"⟩
abbrev cX5_lost : ByteArray := prog_7_method_53_code
def yX5_lost : MethodName := ⟨RX5, "lost", "(I)I"⟩
abbrev cX5_heap : ByteArray := prog_7_method_54_code
def yX5_heap : MethodName := ⟨RX5, "heap", "(II)I"⟩
abbrev cX5_begin : ByteArray := prog_7_method_55_code
def yX5_begin : MethodName := ⟨RX5, "begin", "(II)I"⟩
abbrev cX5_pairsFrom : ByteArray := prog_7_method_56_code
def yX5_pairsFrom : MethodName := ⟨RX5, "pairsFrom", "(II)I"⟩
abbrev cX5_pairs : ByteArray := prog_7_method_57_code
def yX5_pairs : MethodName := ⟨RX5, "pairs", "()I"⟩
abbrev cX5_unevenAt : ByteArray := prog_7_method_58_code
def yX5_unevenAt : MethodName := ⟨RX5, "unevenAt", "(I)I"⟩
abbrev cX5_even : ByteArray := prog_7_method_59_code
def yX5_even : MethodName := ⟨RX5, "even", "(I)I"⟩
abbrev cX5_leastOf : ByteArray := prog_7_method_60_code
def yX5_leastOf : MethodName := ⟨RX5, "leastOf", "(I)I"⟩
abbrev cX5_isTold : ByteArray := prog_7_method_61_code
def yX5_isTold : MethodName := ⟨RX5, "isTold", "(II)Z"⟩
abbrev cX5_howMany : ByteArray := prog_7_method_62_code
def yX5_howMany : MethodName := ⟨RX5, "howMany", "(III)I"⟩
abbrev cX5_whatIs : ByteArray := prog_7_method_63_code
def yX5_whatIs : MethodName := ⟨RX5, "whatIs", "(III)I"⟩
abbrev cX5_hasBy : ByteArray := prog_7_method_64_code
def yX5_hasBy : MethodName := ⟨RX5, "hasBy", "(IIIII)I"⟩
abbrev cX5_two : ByteArray := prog_7_method_65_code
def yX5_two : MethodName := ⟨RX5, "two", "(II)I"⟩
abbrev cX5_gcd : ByteArray := prog_7_method_66_code
def yX5_gcd : MethodName := ⟨RX5, "gcd", "(JJ)J"⟩
abbrev cX5_partOf : ByteArray := prog_7_method_67_code
def yX5_partOf : MethodName := ⟨RX5, "partOf", "(JJI)J"⟩
abbrev cX5_storm : ByteArray := prog_7_method_68_code
def yX5_storm : MethodName := ⟨RX5, "storm", "(IIII)J"⟩
abbrev cX5_sumOf : ByteArray := prog_7_method_69_code
def yX5_sumOf : MethodName := ⟨RX5, "sumOf", "(I)I"⟩
abbrev cX5_mean : ByteArray := prog_7_method_70_code
def yX5_mean : MethodName := ⟨RX5, "mean", "(I)J"⟩
abbrev cX5_forged : ByteArray := prog_7_method_71_code
def yX5_forged : MethodName := ⟨RX5, "forged", "(I)I"⟩
abbrev cX5_judge : ByteArray := prog_7_method_72_code
def yX5_judge : MethodName := ⟨RX5, "judge", "(I)I"⟩
abbrev cX5_drawn : ByteArray := prog_7_method_73_code
def yX5_drawn : MethodName := ⟨RX5, "drawn", "(I)I"⟩
abbrev cX5_deserts : ByteArray := prog_7_method_74_code
def yX5_deserts : MethodName := ⟨RX5, "deserts", "(III)I"⟩
abbrev cX5_image : ByteArray := prog_7_method_75_code
def yX5_image : MethodName := ⟨RX5, "image", "()I"⟩
abbrev cX5_restore : ByteArray := prog_7_method_76_code
def yX5_restore : MethodName := ⟨RX5, "restore", "()I"⟩
abbrev cX5_count : ByteArray := prog_7_method_77_code
def yX5_count : MethodName := ⟨RX5, "count", "(I)I"⟩
abbrev cX5_thrown : ByteArray := prog_7_method_78_code
def yX5_thrown : MethodName := ⟨RX5, "thrown", "()I"⟩
abbrev cX5_isShelf : ByteArray := prog_7_method_79_code
def yX5_isShelf : MethodName := ⟨RX5, "isShelf", "(I)Z"⟩
abbrev cX5_wrongRow : ByteArray := prog_7_method_80_code
def yX5_wrongRow : MethodName := ⟨RX5, "wrongRow", "(II)I"⟩
abbrev cX5_wrongKept : ByteArray := prog_7_method_81_code
def yX5_wrongKept : MethodName := ⟨RX5, "wrongKept", "(I)I"⟩
abbrev cX5_keep : ByteArray := prog_7_method_82_code
def yX5_keep : MethodName := ⟨RX5, "keep", "(IIII)I"⟩
abbrev cX5_row : ByteArray := prog_7_method_83_code
def yX5_row : MethodName := ⟨RX5, "row", "(III)I"⟩
abbrev cX5_put : ByteArray := prog_7_method_84_code
def yX5_put : MethodName := ⟨RX5, "put", "(III)I"⟩
abbrev cX5_element : ByteArray := prog_7_method_85_code
def yX5_element : MethodName := ⟨RX5, "element", "(II)J"⟩
abbrev cX5_copy : ByteArray := prog_7_method_86_code
def yX5_copy : MethodName := ⟨RX5, "copy", "(IIIII)I"⟩
abbrev cX5_costBy : ByteArray := prog_7_method_87_code
def yX5_costBy : MethodName := ⟨RX5, "costBy", "(II)I"⟩
abbrev cX5_cost : ByteArray := prog_7_method_88_code
def yX5_cost : MethodName := ⟨RX5, "cost", "(I)I"⟩
abbrev cX5_toss : ByteArray := prog_7_method_89_code
def yX5_toss : MethodName := ⟨RX5, "toss", "(I)I"⟩
def RJx145de : String := "java/io/Serializable"
def TJx145de : u_T := fun k => match k with
  | _ => ("", "", "", false)
def tyJx145de : Nat → FieldType := fun k => match k with
  | _ => .int
abbrev wsJx145de0 : List Cond := u_ws RJx145de TJx145de 0
theorem nmJx145de : ∀ a, a < 0 → ∀ b, b < 0 → a ≠ b → (TJx145de a).2.1 ≠ (TJx145de b).2.1 := by decide +kernel
theorem tyJx145de_ok : ∀ k, k < 0 → parseFieldDescriptor (TJx145de k).2.2.1 = some (tyJx145de k) := by decide +kernel
def RJ6 : String := "java/lang/Integer"
def TJ6 : u_T := fun k => match k with
  | _ => ("", "", "", false)
def tyJ6 : Nat → FieldType := fun k => match k with
  | _ => .int
abbrev wsJ60 : List Cond := u_ws RJ6 TJ6 0
theorem nmJ6 : ∀ a, a < 0 → ∀ b, b < 0 → a ≠ b → (TJ6 a).2.1 ≠ (TJ6 b).2.1 := by decide +kernel
theorem tyJ6_ok : ∀ k, k < 0 → parseFieldDescriptor (TJ6 k).2.2.1 = some (tyJ6 k) := by decide +kernel
abbrev cJ6_bitCount_0f7a4 : ByteArray := prog_11_method_49_code
def yJ6_bitCount_0f7a4 : MethodName := ⟨RJ6, "bitCount", "(I)I"⟩
def RJ9 : String := "java/lang/Math"
def TJ9 : u_T := fun k => match k with
  | _ => ("", "", "", false)
def tyJ9 : Nat → FieldType := fun k => match k with
  | _ => .int
abbrev wsJ90 : List Cond := u_ws RJ9 TJ9 0
theorem nmJ9 : ∀ a, a < 0 → ∀ b, b < 0 → a ≠ b → (TJ9 a).2.1 ≠ (TJ9 b).2.1 := by decide +kernel
theorem tyJ9_ok : ∀ k, k < 0 → parseFieldDescriptor (TJ9 k).2.2.1 = some (tyJ9 k) := by decide +kernel
abbrev cJ9_abs_0f7a4 : ByteArray := prog_12_method_59_code
def yJ9_abs_0f7a4 : MethodName := ⟨RJ9, "abs", "(I)I"⟩
abbrev cJ9_max_7cf53 : ByteArray := prog_12_method_65_code
def yJ9_max_7cf53 : MethodName := ⟨RJ9, "max", "(II)I"⟩
abbrev cJ9_min_7cf53 : ByteArray := prog_12_method_69_code
def yJ9_min_7cf53 : MethodName := ⟨RJ9, "min", "(II)I"⟩
def RJ0 : String := "java/lang/String"
def TJ0 : u_T := fun k => match k with
  | _ => ("", "", "", false)
def tyJ0 : Nat → FieldType := fun k => match k with
  | _ => .int
abbrev wsJ00 : List Cond := u_ws RJ0 TJ0 0
theorem nmJ0 : ∀ a, a < 0 → ∀ b, b < 0 → a ≠ b → (TJ0 a).2.1 ≠ (TJ0 b).2.1 := by decide +kernel
theorem tyJ0_ok : ∀ k, k < 0 → parseFieldDescriptor (TJ0 k).2.2.1 = some (tyJ0 k) := by decide +kernel
def RJ10 : String := "java/lang/System"
def TJ10 : u_T := fun k => match k with
  | _ => ("", "", "", false)
def tyJ10 : Nat → FieldType := fun k => match k with
  | _ => .int
abbrev wsJ100 : List Cond := u_ws RJ10 TJ10 0
theorem nmJ10 : ∀ a, a < 0 → ∀ b, b < 0 → a ≠ b → (TJ10 a).2.1 ≠ (TJ10 b).2.1 := by decide +kernel
theorem tyJ10_ok : ∀ k, k < 0 → parseFieldDescriptor (TJ10 k).2.2.1 = some (tyJ10 k) := by decide +kernel
def RJ7 : String := "java/util/Arrays"
def TJ7 : u_T := fun k => match k with
  | _ => ("", "", "", false)
def tyJ7 : Nat → FieldType := fun k => match k with
  | _ => .int
abbrev wsJ70 : List Cond := u_ws RJ7 TJ7 0
theorem nmJ7 : ∀ a, a < 0 → ∀ b, b < 0 → a ≠ b → (TJ7 a).2.1 ≠ (TJ7 b).2.1 := by decide +kernel
theorem tyJ7_ok : ∀ k, k < 0 → parseFieldDescriptor (TJ7 k).2.2.1 = some (tyJ7 k) := by decide +kernel
abbrev cJ7_fill_53178 : ByteArray := prog_17_method_103_code
def yJ7_fill_53178 : MethodName := ⟨RJ7, "fill", "([II)V"⟩
def RL : String := "DesertIsCountedLaw"
abbrev cL_element : ByteArray := method_3_code
def yL_element : MethodName := ⟨RL, "element", "(LDesertIsCounted;II[J)I"⟩
abbrev cL_law : ByteArray := code
def yL_law : MethodName := ⟨RL, "law", "([I)Z"⟩
abbrev vwCl : List vw_C := [(RX0, TX0, 13), (RX2, TX2, 6), (RX4, TX4, 7), (RX5, TX5, 17)]
end
section
theorem dX0_init_0 : decode cX0_init 0 = .ok (.aload_n 0, 1) := by decide +kernel
theorem dX0_init_1 : decode cX0_init 1 = .ok (.invokespecial 3, 3) := by decide +kernel
theorem dX0_init_4 : decode cX0_init 4 = .ok (.aload_n 0, 1) := by decide +kernel
theorem dX0_init_5 : decode cX0_init 5 = .ok (.bipush 10, 2) := by decide +kernel
theorem dX0_init_7 : decode cX0_init 7 = .ok (.newarray .int, 2) := by decide +kernel
theorem dX0_init_9 : decode cX0_init 9 = .ok (.putfield 9, 3) := by decide +kernel
theorem dX0_init_12 : decode cX0_init 12 = .ok (.aload_n 0, 1) := by decide +kernel
theorem dX0_init_13 : decode cX0_init 13 = .ok (.bipush 10, 2) := by decide +kernel
theorem dX0_init_15 : decode cX0_init 15 = .ok (.newarray .int, 2) := by decide +kernel
theorem dX0_init_17 : decode cX0_init 17 = .ok (.putfield 15, 3) := by decide +kernel
theorem dX0_init_20 : decode cX0_init 20 = .ok (.aload_n 0, 1) := by decide +kernel
theorem dX0_init_21 : decode cX0_init 21 = .ok (.bipush 6, 2) := by decide +kernel
theorem dX0_init_23 : decode cX0_init 23 = .ok (.newarray .int, 2) := by decide +kernel
theorem dX0_init_25 : decode cX0_init 25 = .ok (.putfield 18, 3) := by decide +kernel
theorem dX0_init_28 : decode cX0_init 28 = .ok (.aload_n 0, 1) := by decide +kernel
theorem dX0_init_29 : decode cX0_init 29 = .ok (.bipush 6, 2) := by decide +kernel
theorem dX0_init_31 : decode cX0_init 31 = .ok (.newarray .int, 2) := by decide +kernel
theorem dX0_init_33 : decode cX0_init 33 = .ok (.putfield 21, 3) := by decide +kernel
theorem dX0_init_36 : decode cX0_init 36 = .ok (.aload_n 0, 1) := by decide +kernel
theorem dX0_init_37 : decode cX0_init 37 = .ok (.bipush 6, 2) := by decide +kernel
theorem dX0_init_39 : decode cX0_init 39 = .ok (.newarray .int, 2) := by decide +kernel
theorem dX0_init_41 : decode cX0_init 41 = .ok (.putfield 24, 3) := by decide +kernel
theorem dX0_init_44 : decode cX0_init 44 = .ok (.aload_n 0, 1) := by decide +kernel
theorem dX0_init_45 : decode cX0_init 45 = .ok (.bipush 6, 2) := by decide +kernel
theorem dX0_init_47 : decode cX0_init 47 = .ok (.newarray .int, 2) := by decide +kernel
theorem dX0_init_49 : decode cX0_init 49 = .ok (.putfield 27, 3) := by decide +kernel
theorem dX0_init_52 : decode cX0_init 52 = .ok (.aload_n 0, 1) := by decide +kernel
theorem dX0_init_53 : decode cX0_init 53 = .ok (.bipush 6, 2) := by decide +kernel
theorem dX0_init_55 : decode cX0_init 55 = .ok (.newarray .int, 2) := by decide +kernel
theorem dX0_init_57 : decode cX0_init 57 = .ok (.putfield 30, 3) := by decide +kernel
theorem dX0_init_60 : decode cX0_init 60 = .ok (.aload_n 0, 1) := by decide +kernel
theorem dX0_init_61 : decode cX0_init 61 = .ok (.iconst 0, 1) := by decide +kernel
theorem dX0_init_62 : decode cX0_init 62 = .ok (.putfield 33, 3) := by decide +kernel
theorem dX0_init_65 : decode cX0_init 65 = .ok (.aload_n 0, 1) := by decide +kernel
theorem dX0_init_66 : decode cX0_init 66 = .ok (.iconst 0, 1) := by decide +kernel
theorem dX0_init_67 : decode cX0_init 67 = .ok (.putfield 37, 3) := by decide +kernel
theorem dX0_init_70 : decode cX0_init 70 = .ok (.aload_n 0, 1) := by decide +kernel
theorem dX0_init_71 : decode cX0_init 71 = .ok (.iconst 0, 1) := by decide +kernel
theorem dX0_init_72 : decode cX0_init 72 = .ok (.putfield 40, 3) := by decide +kernel
theorem dX0_init_75 : decode cX0_init 75 = .ok (.aload_n 0, 1) := by decide +kernel
theorem dX0_init_76 : decode cX0_init 76 = .ok (.iconst 0, 1) := by decide +kernel
theorem dX0_init_77 : decode cX0_init 77 = .ok (.putfield 43, 3) := by decide +kernel
theorem dX0_init_80 : decode cX0_init 80 = .ok (.aload_n 0, 1) := by decide +kernel
theorem dX0_init_81 : decode cX0_init 81 = .ok (.iconst 0, 1) := by decide +kernel
theorem dX0_init_82 : decode cX0_init 82 = .ok (.putfield 46, 3) := by decide +kernel
theorem dX0_init_85 : decode cX0_init 85 = .ok (.aload_n 0, 1) := by decide +kernel
theorem dX0_init_86 : decode cX0_init 86 = .ok (.iconst 0, 1) := by decide +kernel
theorem dX0_init_87 : decode cX0_init 87 = .ok (.putfield 49, 3) := by decide +kernel
theorem dX0_init_90 : decode cX0_init 90 = .ok (.aload_n 0, 1) := by decide +kernel
theorem dX0_init_91 : decode cX0_init 91 = .ok (.getfield 9, 3) := by decide +kernel
theorem dX0_init_94 : decode cX0_init 94 = .ok (.bipush 100, 2) := by decide +kernel
theorem dX0_init_96 : decode cX0_init 96 = .ok (.invokestatic 52, 3) := by decide +kernel
theorem dX0_init_99 : decode cX0_init 99 = .ok (.return_, 1) := by decide +kernel
theorem dX0_becomes_0 : decode cX0_becomes 0 = .ok (.aload_n 1, 1) := by decide +kernel
theorem dX0_becomes_1 : decode cX0_becomes 1 = .ok (.getfield 9, 3) := by decide +kernel
theorem dX0_becomes_4 : decode cX0_becomes 4 = .ok (.iconst 0, 1) := by decide +kernel
theorem dX0_becomes_5 : decode cX0_becomes 5 = .ok (.aload_n 0, 1) := by decide +kernel
theorem dX0_becomes_6 : decode cX0_becomes 6 = .ok (.getfield 9, 3) := by decide +kernel
theorem dX0_becomes_9 : decode cX0_becomes 9 = .ok (.iconst 0, 1) := by decide +kernel
theorem dX0_becomes_10 : decode cX0_becomes 10 = .ok (.bipush 10, 2) := by decide +kernel
theorem dX0_becomes_12 : decode cX0_becomes 12 = .ok (.invokestatic 58, 3) := by decide +kernel
theorem dX0_becomes_15 : decode cX0_becomes 15 = .ok (.aload_n 1, 1) := by decide +kernel
theorem dX0_becomes_16 : decode cX0_becomes 16 = .ok (.getfield 15, 3) := by decide +kernel
theorem dX0_becomes_19 : decode cX0_becomes 19 = .ok (.iconst 0, 1) := by decide +kernel
theorem dX0_becomes_20 : decode cX0_becomes 20 = .ok (.aload_n 0, 1) := by decide +kernel
theorem dX0_becomes_21 : decode cX0_becomes 21 = .ok (.getfield 15, 3) := by decide +kernel
theorem dX0_becomes_24 : decode cX0_becomes 24 = .ok (.iconst 0, 1) := by decide +kernel
theorem dX0_becomes_25 : decode cX0_becomes 25 = .ok (.bipush 10, 2) := by decide +kernel
theorem dX0_becomes_27 : decode cX0_becomes 27 = .ok (.invokestatic 58, 3) := by decide +kernel
theorem dX0_becomes_30 : decode cX0_becomes 30 = .ok (.aload_n 1, 1) := by decide +kernel
theorem dX0_becomes_31 : decode cX0_becomes 31 = .ok (.getfield 18, 3) := by decide +kernel
theorem dX0_becomes_34 : decode cX0_becomes 34 = .ok (.iconst 0, 1) := by decide +kernel
theorem dX0_becomes_35 : decode cX0_becomes 35 = .ok (.aload_n 0, 1) := by decide +kernel
theorem dX0_becomes_36 : decode cX0_becomes 36 = .ok (.getfield 18, 3) := by decide +kernel
theorem dX0_becomes_39 : decode cX0_becomes 39 = .ok (.iconst 0, 1) := by decide +kernel
theorem dX0_becomes_40 : decode cX0_becomes 40 = .ok (.bipush 6, 2) := by decide +kernel
theorem dX0_becomes_42 : decode cX0_becomes 42 = .ok (.invokestatic 58, 3) := by decide +kernel
theorem dX0_becomes_45 : decode cX0_becomes 45 = .ok (.aload_n 1, 1) := by decide +kernel
theorem dX0_becomes_46 : decode cX0_becomes 46 = .ok (.getfield 21, 3) := by decide +kernel
theorem dX0_becomes_49 : decode cX0_becomes 49 = .ok (.iconst 0, 1) := by decide +kernel
theorem dX0_becomes_50 : decode cX0_becomes 50 = .ok (.aload_n 0, 1) := by decide +kernel
theorem dX0_becomes_51 : decode cX0_becomes 51 = .ok (.getfield 21, 3) := by decide +kernel
theorem dX0_becomes_54 : decode cX0_becomes 54 = .ok (.iconst 0, 1) := by decide +kernel
theorem dX0_becomes_55 : decode cX0_becomes 55 = .ok (.bipush 6, 2) := by decide +kernel
theorem dX0_becomes_57 : decode cX0_becomes 57 = .ok (.invokestatic 58, 3) := by decide +kernel
theorem dX0_becomes_60 : decode cX0_becomes 60 = .ok (.aload_n 1, 1) := by decide +kernel
theorem dX0_becomes_61 : decode cX0_becomes 61 = .ok (.getfield 24, 3) := by decide +kernel
theorem dX0_becomes_64 : decode cX0_becomes 64 = .ok (.iconst 0, 1) := by decide +kernel
theorem dX0_becomes_65 : decode cX0_becomes 65 = .ok (.aload_n 0, 1) := by decide +kernel
theorem dX0_becomes_66 : decode cX0_becomes 66 = .ok (.getfield 24, 3) := by decide +kernel
theorem dX0_becomes_69 : decode cX0_becomes 69 = .ok (.iconst 0, 1) := by decide +kernel
theorem dX0_becomes_70 : decode cX0_becomes 70 = .ok (.bipush 6, 2) := by decide +kernel
theorem dX0_becomes_72 : decode cX0_becomes 72 = .ok (.invokestatic 58, 3) := by decide +kernel
theorem dX0_becomes_75 : decode cX0_becomes 75 = .ok (.aload_n 1, 1) := by decide +kernel
theorem dX0_becomes_76 : decode cX0_becomes 76 = .ok (.getfield 27, 3) := by decide +kernel
theorem dX0_becomes_79 : decode cX0_becomes 79 = .ok (.iconst 0, 1) := by decide +kernel
theorem dX0_becomes_80 : decode cX0_becomes 80 = .ok (.aload_n 0, 1) := by decide +kernel
theorem dX0_becomes_81 : decode cX0_becomes 81 = .ok (.getfield 27, 3) := by decide +kernel
theorem dX0_becomes_84 : decode cX0_becomes 84 = .ok (.iconst 0, 1) := by decide +kernel
theorem dX0_becomes_85 : decode cX0_becomes 85 = .ok (.bipush 6, 2) := by decide +kernel
theorem dX0_becomes_87 : decode cX0_becomes 87 = .ok (.invokestatic 58, 3) := by decide +kernel
theorem dX0_becomes_90 : decode cX0_becomes 90 = .ok (.aload_n 1, 1) := by decide +kernel
theorem dX0_becomes_91 : decode cX0_becomes 91 = .ok (.getfield 30, 3) := by decide +kernel
theorem dX0_becomes_94 : decode cX0_becomes 94 = .ok (.iconst 0, 1) := by decide +kernel
theorem dX0_becomes_95 : decode cX0_becomes 95 = .ok (.aload_n 0, 1) := by decide +kernel
theorem dX0_becomes_96 : decode cX0_becomes 96 = .ok (.getfield 30, 3) := by decide +kernel
theorem dX0_becomes_99 : decode cX0_becomes 99 = .ok (.iconst 0, 1) := by decide +kernel
theorem dX0_becomes_100 : decode cX0_becomes 100 = .ok (.bipush 6, 2) := by decide +kernel
theorem dX0_becomes_102 : decode cX0_becomes 102 = .ok (.invokestatic 58, 3) := by decide +kernel
theorem dX0_becomes_105 : decode cX0_becomes 105 = .ok (.aload_n 0, 1) := by decide +kernel
theorem dX0_becomes_106 : decode cX0_becomes 106 = .ok (.aload_n 1, 1) := by decide +kernel
theorem dX0_becomes_107 : decode cX0_becomes 107 = .ok (.getfield 33, 3) := by decide +kernel
theorem dX0_becomes_110 : decode cX0_becomes 110 = .ok (.putfield 33, 3) := by decide +kernel
theorem dX0_becomes_113 : decode cX0_becomes 113 = .ok (.aload_n 0, 1) := by decide +kernel
theorem dX0_becomes_114 : decode cX0_becomes 114 = .ok (.aload_n 1, 1) := by decide +kernel
theorem dX0_becomes_115 : decode cX0_becomes 115 = .ok (.getfield 37, 3) := by decide +kernel
theorem dX0_becomes_118 : decode cX0_becomes 118 = .ok (.putfield 37, 3) := by decide +kernel
theorem dX0_becomes_121 : decode cX0_becomes 121 = .ok (.aload_n 0, 1) := by decide +kernel
theorem dX0_becomes_122 : decode cX0_becomes 122 = .ok (.iconst 0, 1) := by decide +kernel
theorem dX0_becomes_123 : decode cX0_becomes 123 = .ok (.putfield 40, 3) := by decide +kernel
theorem dX0_becomes_126 : decode cX0_becomes 126 = .ok (.aload_n 0, 1) := by decide +kernel
theorem dX0_becomes_127 : decode cX0_becomes 127 = .ok (.aload_n 1, 1) := by decide +kernel
theorem dX0_becomes_128 : decode cX0_becomes 128 = .ok (.getfield 43, 3) := by decide +kernel
theorem dX0_becomes_131 : decode cX0_becomes 131 = .ok (.putfield 43, 3) := by decide +kernel
theorem dX0_becomes_134 : decode cX0_becomes 134 = .ok (.aload_n 0, 1) := by decide +kernel
theorem dX0_becomes_135 : decode cX0_becomes 135 = .ok (.aload_n 1, 1) := by decide +kernel
theorem dX0_becomes_136 : decode cX0_becomes 136 = .ok (.getfield 46, 3) := by decide +kernel
theorem dX0_becomes_139 : decode cX0_becomes 139 = .ok (.putfield 46, 3) := by decide +kernel
theorem dX0_becomes_142 : decode cX0_becomes 142 = .ok (.aload_n 0, 1) := by decide +kernel
theorem dX0_becomes_143 : decode cX0_becomes 143 = .ok (.iconst 0, 1) := by decide +kernel
theorem dX0_becomes_144 : decode cX0_becomes 144 = .ok (.putfield 49, 3) := by decide +kernel
theorem dX0_becomes_147 : decode cX0_becomes 147 = .ok (.return_, 1) := by decide +kernel
theorem dX0_hasRoom_0 : decode cX0_hasRoom 0 = .ok (.aload_n 0, 1) := by decide +kernel
theorem dX0_hasRoom_1 : decode cX0_hasRoom 1 = .ok (.getfield 33, 3) := by decide +kernel
theorem dX0_hasRoom_4 : decode cX0_hasRoom 4 = .ok (.bipush 6, 2) := by decide +kernel
theorem dX0_hasRoom_6 : decode cX0_hasRoom 6 = .ok (.if_icmp .ge 7, 3) := by decide +kernel
theorem dX0_hasRoom_9 : decode cX0_hasRoom 9 = .ok (.iconst 1, 1) := by decide +kernel
theorem dX0_hasRoom_10 : decode cX0_hasRoom 10 = .ok (.goto 4, 3) := by decide +kernel
theorem dX0_hasRoom_13 : decode cX0_hasRoom 13 = .ok (.iconst 0, 1) := by decide +kernel
theorem dX0_hasRoom_14 : decode cX0_hasRoom 14 = .ok (.ireturn, 1) := by decide +kernel
theorem dX0_takesIn_0 : decode cX0_takesIn 0 = .ok (.aload_n 0, 1) := by decide +kernel
theorem dX0_takesIn_1 : decode cX0_takesIn 1 = .ok (.invokevirtual 64, 3) := by decide +kernel
theorem dX0_takesIn_4 : decode cX0_takesIn 4 = .ok (.ifCond .ne 4, 3) := by decide +kernel
theorem dX0_takesIn_7 : decode cX0_takesIn 7 = .ok (.return_, 1) := by decide +kernel
theorem dX0_takesIn_8 : decode cX0_takesIn 8 = .ok (.aload_n 0, 1) := by decide +kernel
theorem dX0_takesIn_9 : decode cX0_takesIn 9 = .ok (.getfield 18, 3) := by decide +kernel
theorem dX0_takesIn_12 : decode cX0_takesIn 12 = .ok (.aload_n 0, 1) := by decide +kernel
theorem dX0_takesIn_13 : decode cX0_takesIn 13 = .ok (.getfield 33, 3) := by decide +kernel
theorem dX0_takesIn_16 : decode cX0_takesIn 16 = .ok (.iload_n 1, 1) := by decide +kernel
theorem dX0_takesIn_17 : decode cX0_takesIn 17 = .ok (.iastore, 1) := by decide +kernel
theorem dX0_takesIn_18 : decode cX0_takesIn 18 = .ok (.aload_n 0, 1) := by decide +kernel
theorem dX0_takesIn_19 : decode cX0_takesIn 19 = .ok (.getfield 21, 3) := by decide +kernel
theorem dX0_takesIn_22 : decode cX0_takesIn 22 = .ok (.aload_n 0, 1) := by decide +kernel
theorem dX0_takesIn_23 : decode cX0_takesIn 23 = .ok (.getfield 33, 3) := by decide +kernel
theorem dX0_takesIn_26 : decode cX0_takesIn 26 = .ok (.iload_n 2, 1) := by decide +kernel
theorem dX0_takesIn_27 : decode cX0_takesIn 27 = .ok (.iastore, 1) := by decide +kernel
theorem dX0_takesIn_28 : decode cX0_takesIn 28 = .ok (.aload_n 0, 1) := by decide +kernel
theorem dX0_takesIn_29 : decode cX0_takesIn 29 = .ok (.getfield 24, 3) := by decide +kernel
theorem dX0_takesIn_32 : decode cX0_takesIn 32 = .ok (.aload_n 0, 1) := by decide +kernel
theorem dX0_takesIn_33 : decode cX0_takesIn 33 = .ok (.getfield 33, 3) := by decide +kernel
theorem dX0_takesIn_36 : decode cX0_takesIn 36 = .ok (.iload_n 3, 1) := by decide +kernel
theorem dX0_takesIn_37 : decode cX0_takesIn 37 = .ok (.iastore, 1) := by decide +kernel
theorem dX0_takesIn_38 : decode cX0_takesIn 38 = .ok (.aload_n 0, 1) := by decide +kernel
theorem dX0_takesIn_39 : decode cX0_takesIn 39 = .ok (.getfield 27, 3) := by decide +kernel
theorem dX0_takesIn_42 : decode cX0_takesIn 42 = .ok (.aload_n 0, 1) := by decide +kernel
theorem dX0_takesIn_43 : decode cX0_takesIn 43 = .ok (.getfield 33, 3) := by decide +kernel
theorem dX0_takesIn_46 : decode cX0_takesIn 46 = .ok (.iload 4, 2) := by decide +kernel
theorem dX0_takesIn_48 : decode cX0_takesIn 48 = .ok (.iastore, 1) := by decide +kernel
theorem dX0_takesIn_49 : decode cX0_takesIn 49 = .ok (.aload_n 0, 1) := by decide +kernel
theorem dX0_takesIn_50 : decode cX0_takesIn 50 = .ok (.getfield 30, 3) := by decide +kernel
theorem dX0_takesIn_53 : decode cX0_takesIn 53 = .ok (.aload_n 0, 1) := by decide +kernel
theorem dX0_takesIn_54 : decode cX0_takesIn 54 = .ok (.getfield 33, 3) := by decide +kernel
theorem dX0_takesIn_57 : decode cX0_takesIn 57 = .ok (.iconst 0, 1) := by decide +kernel
theorem dX0_takesIn_58 : decode cX0_takesIn 58 = .ok (.iastore, 1) := by decide +kernel
theorem dX0_takesIn_59 : decode cX0_takesIn 59 = .ok (.aload_n 0, 1) := by decide +kernel
theorem dX0_takesIn_60 : decode cX0_takesIn 60 = .ok (.dup, 1) := by decide +kernel
theorem dX0_takesIn_61 : decode cX0_takesIn 61 = .ok (.getfield 33, 3) := by decide +kernel
theorem dX0_takesIn_64 : decode cX0_takesIn 64 = .ok (.iconst 1, 1) := by decide +kernel
theorem dX0_takesIn_65 : decode cX0_takesIn 65 = .ok (.iadd, 1) := by decide +kernel
theorem dX0_takesIn_66 : decode cX0_takesIn 66 = .ok (.putfield 33, 3) := by decide +kernel
theorem dX0_takesIn_69 : decode cX0_takesIn 69 = .ok (.return_, 1) := by decide +kernel
theorem dX0_refill_0 : decode cX0_refill 0 = .ok (.aload_n 0, 1) := by decide +kernel
theorem dX0_refill_1 : decode cX0_refill 1 = .ok (.getfield 9, 3) := by decide +kernel
theorem dX0_refill_4 : decode cX0_refill 4 = .ok (.iload_n 1, 1) := by decide +kernel
theorem dX0_refill_5 : decode cX0_refill 5 = .ok (.iload_n 2, 1) := by decide +kernel
theorem dX0_refill_6 : decode cX0_refill 6 = .ok (.iastore, 1) := by decide +kernel
theorem dX0_refill_7 : decode cX0_refill 7 = .ok (.aload_n 0, 1) := by decide +kernel
theorem dX0_refill_8 : decode cX0_refill 8 = .ok (.getfield 15, 3) := by decide +kernel
theorem dX0_refill_11 : decode cX0_refill 11 = .ok (.iload_n 1, 1) := by decide +kernel
theorem dX0_refill_12 : decode cX0_refill 12 = .ok (.iconst 0, 1) := by decide +kernel
theorem dX0_refill_13 : decode cX0_refill 13 = .ok (.iastore, 1) := by decide +kernel
theorem dX0_refill_14 : decode cX0_refill 14 = .ok (.return_, 1) := by decide +kernel
theorem dX0_turnRest_0 : decode cX0_turnRest 0 = .ok (.aload_n 0, 1) := by decide +kernel
theorem dX0_turnRest_1 : decode cX0_turnRest 1 = .ok (.dup, 1) := by decide +kernel
theorem dX0_turnRest_2 : decode cX0_turnRest 2 = .ok (.getfield 37, 3) := by decide +kernel
theorem dX0_turnRest_5 : decode cX0_turnRest 5 = .ok (.iconst 1, 1) := by decide +kernel
theorem dX0_turnRest_6 : decode cX0_turnRest 6 = .ok (.iload_n 1, 1) := by decide +kernel
theorem dX0_turnRest_7 : decode cX0_turnRest 7 = .ok (.ishl, 1) := by decide +kernel
theorem dX0_turnRest_8 : decode cX0_turnRest 8 = .ok (.ixor, 1) := by decide +kernel
theorem dX0_turnRest_9 : decode cX0_turnRest 9 = .ok (.putfield 37, 3) := by decide +kernel
theorem dX0_turnRest_12 : decode cX0_turnRest 12 = .ok (.return_, 1) := by decide +kernel
theorem dX0_setBack_0 : decode cX0_setBack 0 = .ok (.aload_n 0, 1) := by decide +kernel
theorem dX0_setBack_1 : decode cX0_setBack 1 = .ok (.getfield 15, 3) := by decide +kernel
theorem dX0_setBack_4 : decode cX0_setBack 4 = .ok (.iconst 0, 1) := by decide +kernel
theorem dX0_setBack_5 : decode cX0_setBack 5 = .ok (.invokestatic 52, 3) := by decide +kernel
theorem dX0_setBack_8 : decode cX0_setBack 8 = .ok (.aload_n 0, 1) := by decide +kernel
theorem dX0_setBack_9 : decode cX0_setBack 9 = .ok (.getfield 30, 3) := by decide +kernel
theorem dX0_setBack_12 : decode cX0_setBack 12 = .ok (.iconst 0, 1) := by decide +kernel
theorem dX0_setBack_13 : decode cX0_setBack 13 = .ok (.invokestatic 52, 3) := by decide +kernel
theorem dX0_setBack_16 : decode cX0_setBack 16 = .ok (.return_, 1) := by decide +kernel
theorem dX0_leftIn_0 : decode cX0_leftIn 0 = .ok (.aload_n 0, 1) := by decide +kernel
theorem dX0_leftIn_1 : decode cX0_leftIn 1 = .ok (.getfield 9, 3) := by decide +kernel
theorem dX0_leftIn_4 : decode cX0_leftIn 4 = .ok (.iload_n 1, 1) := by decide +kernel
theorem dX0_leftIn_5 : decode cX0_leftIn 5 = .ok (.iaload, 1) := by decide +kernel
theorem dX0_leftIn_6 : decode cX0_leftIn 6 = .ok (.aload_n 0, 1) := by decide +kernel
theorem dX0_leftIn_7 : decode cX0_leftIn 7 = .ok (.getfield 15, 3) := by decide +kernel
theorem dX0_leftIn_10 : decode cX0_leftIn 10 = .ok (.iload_n 1, 1) := by decide +kernel
theorem dX0_leftIn_11 : decode cX0_leftIn 11 = .ok (.iaload, 1) := by decide +kernel
theorem dX0_leftIn_12 : decode cX0_leftIn 12 = .ok (.isub, 1) := by decide +kernel
theorem dX0_leftIn_13 : decode cX0_leftIn 13 = .ok (.ireturn, 1) := by decide +kernel
theorem dX0_isDone_0 : decode cX0_isDone 0 = .ok (.aload_n 0, 1) := by decide +kernel
theorem dX0_isDone_1 : decode cX0_isDone 1 = .ok (.getfield 15, 3) := by decide +kernel
theorem dX0_isDone_4 : decode cX0_isDone 4 = .ok (.iload_n 1, 1) := by decide +kernel
theorem dX0_isDone_5 : decode cX0_isDone 5 = .ok (.iaload, 1) := by decide +kernel
theorem dX0_isDone_6 : decode cX0_isDone 6 = .ok (.aload_n 0, 1) := by decide +kernel
theorem dX0_isDone_7 : decode cX0_isDone 7 = .ok (.getfield 9, 3) := by decide +kernel
theorem dX0_isDone_10 : decode cX0_isDone 10 = .ok (.iload_n 1, 1) := by decide +kernel
theorem dX0_isDone_11 : decode cX0_isDone 11 = .ok (.iaload, 1) := by decide +kernel
theorem dX0_isDone_12 : decode cX0_isDone 12 = .ok (.if_icmp .ne 7, 3) := by decide +kernel
theorem dX0_isDone_15 : decode cX0_isDone 15 = .ok (.iconst 1, 1) := by decide +kernel
theorem dX0_isDone_16 : decode cX0_isDone 16 = .ok (.goto 4, 3) := by decide +kernel
theorem dX0_isDone_19 : decode cX0_isDone 19 = .ok (.iconst 0, 1) := by decide +kernel
theorem dX0_isDone_20 : decode cX0_isDone 20 = .ok (.ireturn, 1) := by decide +kernel
theorem dX0_doneDips_0 : decode cX0_doneDips 0 = .ok (.iconst 0, 1) := by decide +kernel
theorem dX0_doneDips_1 : decode cX0_doneDips 1 = .ok (.istore_n 1, 1) := by decide +kernel
theorem dX0_doneDips_2 : decode cX0_doneDips 2 = .ok (.iconst 0, 1) := by decide +kernel
theorem dX0_doneDips_3 : decode cX0_doneDips 3 = .ok (.istore_n 2, 1) := by decide +kernel
theorem dX0_doneDips_4 : decode cX0_doneDips 4 = .ok (.iload_n 2, 1) := by decide +kernel
theorem dX0_doneDips_5 : decode cX0_doneDips 5 = .ok (.bipush 10, 2) := by decide +kernel
theorem dX0_doneDips_7 : decode cX0_doneDips 7 = .ok (.if_icmp .ge 27, 3) := by decide +kernel
theorem dX0_doneDips_10 : decode cX0_doneDips 10 = .ok (.iload_n 1, 1) := by decide +kernel
theorem dX0_doneDips_11 : decode cX0_doneDips 11 = .ok (.aload_n 0, 1) := by decide +kernel
theorem dX0_doneDips_12 : decode cX0_doneDips 12 = .ok (.iload_n 2, 1) := by decide +kernel
theorem dX0_doneDips_13 : decode cX0_doneDips 13 = .ok (.invokevirtual 68, 3) := by decide +kernel
theorem dX0_doneDips_16 : decode cX0_doneDips 16 = .ok (.ifCond .eq 9, 3) := by decide +kernel
theorem dX0_doneDips_19 : decode cX0_doneDips 19 = .ok (.iconst 1, 1) := by decide +kernel
theorem dX0_doneDips_20 : decode cX0_doneDips 20 = .ok (.iload_n 2, 1) := by decide +kernel
theorem dX0_doneDips_21 : decode cX0_doneDips 21 = .ok (.ishl, 1) := by decide +kernel
theorem dX0_doneDips_22 : decode cX0_doneDips 22 = .ok (.goto 4, 3) := by decide +kernel
theorem dX0_doneDips_25 : decode cX0_doneDips 25 = .ok (.iconst 0, 1) := by decide +kernel
theorem dX0_doneDips_26 : decode cX0_doneDips 26 = .ok (.ior, 1) := by decide +kernel
theorem dX0_doneDips_27 : decode cX0_doneDips 27 = .ok (.istore_n 1, 1) := by decide +kernel
theorem dX0_doneDips_28 : decode cX0_doneDips 28 = .ok (.iinc 2 1, 3) := by decide +kernel
theorem dX0_doneDips_31 : decode cX0_doneDips 31 = .ok (.goto (-27), 3) := by decide +kernel
theorem dX0_doneDips_34 : decode cX0_doneDips 34 = .ok (.iload_n 1, 1) := by decide +kernel
theorem dX0_doneDips_35 : decode cX0_doneDips 35 = .ok (.ireturn, 1) := by decide +kernel
theorem dX0_whoIsAt_0 : decode cX0_whoIsAt 0 = .ok (.iconst 0, 1) := by decide +kernel
theorem dX0_whoIsAt_1 : decode cX0_whoIsAt 1 = .ok (.istore_n 2, 1) := by decide +kernel
theorem dX0_whoIsAt_2 : decode cX0_whoIsAt 2 = .ok (.iconst 0, 1) := by decide +kernel
theorem dX0_whoIsAt_3 : decode cX0_whoIsAt 3 = .ok (.istore_n 3, 1) := by decide +kernel
theorem dX0_whoIsAt_4 : decode cX0_whoIsAt 4 = .ok (.iload_n 3, 1) := by decide +kernel
theorem dX0_whoIsAt_5 : decode cX0_whoIsAt 5 = .ok (.aload_n 0, 1) := by decide +kernel
theorem dX0_whoIsAt_6 : decode cX0_whoIsAt 6 = .ok (.getfield 33, 3) := by decide +kernel
theorem dX0_whoIsAt_9 : decode cX0_whoIsAt 9 = .ok (.if_icmp .ge 29, 3) := by decide +kernel
theorem dX0_whoIsAt_12 : decode cX0_whoIsAt 12 = .ok (.iload_n 2, 1) := by decide +kernel
theorem dX0_whoIsAt_13 : decode cX0_whoIsAt 13 = .ok (.aload_n 0, 1) := by decide +kernel
theorem dX0_whoIsAt_14 : decode cX0_whoIsAt 14 = .ok (.getfield 24, 3) := by decide +kernel
theorem dX0_whoIsAt_17 : decode cX0_whoIsAt 17 = .ok (.iload_n 3, 1) := by decide +kernel
theorem dX0_whoIsAt_18 : decode cX0_whoIsAt 18 = .ok (.iaload, 1) := by decide +kernel
theorem dX0_whoIsAt_19 : decode cX0_whoIsAt 19 = .ok (.iload_n 1, 1) := by decide +kernel
theorem dX0_whoIsAt_20 : decode cX0_whoIsAt 20 = .ok (.if_icmp .ne 9, 3) := by decide +kernel
theorem dX0_whoIsAt_23 : decode cX0_whoIsAt 23 = .ok (.iconst 1, 1) := by decide +kernel
theorem dX0_whoIsAt_24 : decode cX0_whoIsAt 24 = .ok (.iload_n 3, 1) := by decide +kernel
theorem dX0_whoIsAt_25 : decode cX0_whoIsAt 25 = .ok (.ishl, 1) := by decide +kernel
theorem dX0_whoIsAt_26 : decode cX0_whoIsAt 26 = .ok (.goto 4, 3) := by decide +kernel
theorem dX0_whoIsAt_29 : decode cX0_whoIsAt 29 = .ok (.iconst 0, 1) := by decide +kernel
theorem dX0_whoIsAt_30 : decode cX0_whoIsAt 30 = .ok (.ior, 1) := by decide +kernel
theorem dX0_whoIsAt_31 : decode cX0_whoIsAt 31 = .ok (.istore_n 2, 1) := by decide +kernel
theorem dX0_whoIsAt_32 : decode cX0_whoIsAt 32 = .ok (.iinc 3 1, 3) := by decide +kernel
theorem dX0_whoIsAt_35 : decode cX0_whoIsAt 35 = .ok (.goto (-31), 3) := by decide +kernel
theorem dX0_whoIsAt_38 : decode cX0_whoIsAt 38 = .ok (.iload_n 2, 1) := by decide +kernel
theorem dX0_whoIsAt_39 : decode cX0_whoIsAt 39 = .ok (.ireturn, 1) := by decide +kernel
theorem dX0_allGrains_0 : decode cX0_allGrains 0 = .ok (.iconst 0, 1) := by decide +kernel
theorem dX0_allGrains_1 : decode cX0_allGrains 1 = .ok (.istore_n 1, 1) := by decide +kernel
theorem dX0_allGrains_2 : decode cX0_allGrains 2 = .ok (.iconst 0, 1) := by decide +kernel
theorem dX0_allGrains_3 : decode cX0_allGrains 3 = .ok (.istore_n 2, 1) := by decide +kernel
theorem dX0_allGrains_4 : decode cX0_allGrains 4 = .ok (.iload_n 2, 1) := by decide +kernel
theorem dX0_allGrains_5 : decode cX0_allGrains 5 = .ok (.bipush 10, 2) := by decide +kernel
theorem dX0_allGrains_7 : decode cX0_allGrains 7 = .ok (.if_icmp .ge 18, 3) := by decide +kernel
theorem dX0_allGrains_10 : decode cX0_allGrains 10 = .ok (.iload_n 1, 1) := by decide +kernel
theorem dX0_allGrains_11 : decode cX0_allGrains 11 = .ok (.aload_n 0, 1) := by decide +kernel
theorem dX0_allGrains_12 : decode cX0_allGrains 12 = .ok (.getfield 9, 3) := by decide +kernel
theorem dX0_allGrains_15 : decode cX0_allGrains 15 = .ok (.iload_n 2, 1) := by decide +kernel
theorem dX0_allGrains_16 : decode cX0_allGrains 16 = .ok (.iaload, 1) := by decide +kernel
theorem dX0_allGrains_17 : decode cX0_allGrains 17 = .ok (.iadd, 1) := by decide +kernel
theorem dX0_allGrains_18 : decode cX0_allGrains 18 = .ok (.istore_n 1, 1) := by decide +kernel
theorem dX0_allGrains_19 : decode cX0_allGrains 19 = .ok (.iinc 2 1, 3) := by decide +kernel
theorem dX0_allGrains_22 : decode cX0_allGrains 22 = .ok (.goto (-18), 3) := by decide +kernel
theorem dX0_allGrains_25 : decode cX0_allGrains 25 = .ok (.iload_n 1, 1) := by decide +kernel
theorem dX0_allGrains_26 : decode cX0_allGrains 26 = .ok (.ireturn, 1) := by decide +kernel
theorem dX0_allDone_0 : decode cX0_allDone 0 = .ok (.iconst 0, 1) := by decide +kernel
theorem dX0_allDone_1 : decode cX0_allDone 1 = .ok (.istore_n 1, 1) := by decide +kernel
theorem dX0_allDone_2 : decode cX0_allDone 2 = .ok (.iconst 0, 1) := by decide +kernel
theorem dX0_allDone_3 : decode cX0_allDone 3 = .ok (.istore_n 2, 1) := by decide +kernel
theorem dX0_allDone_4 : decode cX0_allDone 4 = .ok (.iload_n 2, 1) := by decide +kernel
theorem dX0_allDone_5 : decode cX0_allDone 5 = .ok (.bipush 10, 2) := by decide +kernel
theorem dX0_allDone_7 : decode cX0_allDone 7 = .ok (.if_icmp .ge 18, 3) := by decide +kernel
theorem dX0_allDone_10 : decode cX0_allDone 10 = .ok (.iload_n 1, 1) := by decide +kernel
theorem dX0_allDone_11 : decode cX0_allDone 11 = .ok (.aload_n 0, 1) := by decide +kernel
theorem dX0_allDone_12 : decode cX0_allDone 12 = .ok (.getfield 15, 3) := by decide +kernel
theorem dX0_allDone_15 : decode cX0_allDone 15 = .ok (.iload_n 2, 1) := by decide +kernel
theorem dX0_allDone_16 : decode cX0_allDone 16 = .ok (.iaload, 1) := by decide +kernel
theorem dX0_allDone_17 : decode cX0_allDone 17 = .ok (.iadd, 1) := by decide +kernel
theorem dX0_allDone_18 : decode cX0_allDone 18 = .ok (.istore_n 1, 1) := by decide +kernel
theorem dX0_allDone_19 : decode cX0_allDone 19 = .ok (.iinc 2 1, 3) := by decide +kernel
theorem dX0_allDone_22 : decode cX0_allDone 22 = .ok (.goto (-18), 3) := by decide +kernel
theorem dX0_allDone_25 : decode cX0_allDone 25 = .ok (.iload_n 1, 1) := by decide +kernel
theorem dX0_allDone_26 : decode cX0_allDone 26 = .ok (.ireturn, 1) := by decide +kernel
theorem dX0_allBooks_0 : decode cX0_allBooks 0 = .ok (.iconst 0, 1) := by decide +kernel
theorem dX0_allBooks_1 : decode cX0_allBooks 1 = .ok (.istore_n 1, 1) := by decide +kernel
theorem dX0_allBooks_2 : decode cX0_allBooks 2 = .ok (.iconst 0, 1) := by decide +kernel
theorem dX0_allBooks_3 : decode cX0_allBooks 3 = .ok (.istore_n 2, 1) := by decide +kernel
theorem dX0_allBooks_4 : decode cX0_allBooks 4 = .ok (.iload_n 2, 1) := by decide +kernel
theorem dX0_allBooks_5 : decode cX0_allBooks 5 = .ok (.aload_n 0, 1) := by decide +kernel
theorem dX0_allBooks_6 : decode cX0_allBooks 6 = .ok (.getfield 33, 3) := by decide +kernel
theorem dX0_allBooks_9 : decode cX0_allBooks 9 = .ok (.if_icmp .ge 18, 3) := by decide +kernel
theorem dX0_allBooks_12 : decode cX0_allBooks 12 = .ok (.iload_n 1, 1) := by decide +kernel
theorem dX0_allBooks_13 : decode cX0_allBooks 13 = .ok (.aload_n 0, 1) := by decide +kernel
theorem dX0_allBooks_14 : decode cX0_allBooks 14 = .ok (.getfield 30, 3) := by decide +kernel
theorem dX0_allBooks_17 : decode cX0_allBooks 17 = .ok (.iload_n 2, 1) := by decide +kernel
theorem dX0_allBooks_18 : decode cX0_allBooks 18 = .ok (.iaload, 1) := by decide +kernel
theorem dX0_allBooks_19 : decode cX0_allBooks 19 = .ok (.iadd, 1) := by decide +kernel
theorem dX0_allBooks_20 : decode cX0_allBooks 20 = .ok (.istore_n 1, 1) := by decide +kernel
theorem dX0_allBooks_21 : decode cX0_allBooks 21 = .ok (.iinc 2 1, 3) := by decide +kernel
theorem dX0_allBooks_24 : decode cX0_allBooks 24 = .ok (.goto (-20), 3) := by decide +kernel
theorem dX0_allBooks_27 : decode cX0_allBooks 27 = .ok (.iload_n 1, 1) := by decide +kernel
theorem dX0_allBooks_28 : decode cX0_allBooks 28 = .ok (.ireturn, 1) := by decide +kernel
theorem dX0_passDays_0 : decode cX0_passDays 0 = .ok (.iconst 0, 1) := by decide +kernel
theorem dX0_passDays_1 : decode cX0_passDays 1 = .ok (.istore_n 2, 1) := by decide +kernel
theorem dX0_passDays_2 : decode cX0_passDays 2 = .ok (.iload_n 2, 1) := by decide +kernel
theorem dX0_passDays_3 : decode cX0_passDays 3 = .ok (.iload_n 1, 1) := by decide +kernel
theorem dX0_passDays_4 : decode cX0_passDays 4 = .ok (.if_icmp .ge 13, 3) := by decide +kernel
theorem dX0_passDays_7 : decode cX0_passDays 7 = .ok (.aload_n 0, 1) := by decide +kernel
theorem dX0_passDays_8 : decode cX0_passDays 8 = .ok (.invokevirtual 72, 3) := by decide +kernel
theorem dX0_passDays_11 : decode cX0_passDays 11 = .ok (.iinc 2 1, 3) := by decide +kernel
theorem dX0_passDays_14 : decode cX0_passDays 14 = .ok (.goto (-12), 3) := by decide +kernel
theorem dX0_passDays_17 : decode cX0_passDays 17 = .ok (.return_, 1) := by decide +kernel
theorem dX0_passDay_0 : decode cX0_passDay 0 = .ok (.aload_n 0, 1) := by decide +kernel
theorem dX0_passDay_1 : decode cX0_passDay 1 = .ok (.dup, 1) := by decide +kernel
theorem dX0_passDay_2 : decode cX0_passDay 2 = .ok (.getfield 46, 3) := by decide +kernel
theorem dX0_passDay_5 : decode cX0_passDay 5 = .ok (.iconst 1, 1) := by decide +kernel
theorem dX0_passDay_6 : decode cX0_passDay 6 = .ok (.iadd, 1) := by decide +kernel
theorem dX0_passDay_7 : decode cX0_passDay 7 = .ok (.putfield 46, 3) := by decide +kernel
theorem dX0_passDay_10 : decode cX0_passDay 10 = .ok (.iconst 0, 1) := by decide +kernel
theorem dX0_passDay_11 : decode cX0_passDay 11 = .ok (.istore_n 1, 1) := by decide +kernel
theorem dX0_passDay_12 : decode cX0_passDay 12 = .ok (.iload_n 1, 1) := by decide +kernel
theorem dX0_passDay_13 : decode cX0_passDay 13 = .ok (.aload_n 0, 1) := by decide +kernel
theorem dX0_passDay_14 : decode cX0_passDay 14 = .ok (.getfield 33, 3) := by decide +kernel
theorem dX0_passDay_17 : decode cX0_passDay 17 = .ok (.if_icmp .ge 46, 3) := by decide +kernel
theorem dX0_passDay_20 : decode cX0_passDay 20 = .ok (.aload_n 0, 1) := by decide +kernel
theorem dX0_passDay_21 : decode cX0_passDay 21 = .ok (.getfield 40, 3) := by decide +kernel
theorem dX0_passDay_24 : decode cX0_passDay 24 = .ok (.iload_n 1, 1) := by decide +kernel
theorem dX0_passDay_25 : decode cX0_passDay 25 = .ok (.invokestatic 75, 3) := by decide +kernel
theorem dX0_passDay_28 : decode cX0_passDay 28 = .ok (.ifCond .eq 13, 3) := by decide +kernel
theorem dX0_passDay_31 : decode cX0_passDay 31 = .ok (.aload_n 0, 1) := by decide +kernel
theorem dX0_passDay_32 : decode cX0_passDay 32 = .ok (.iload_n 1, 1) := by decide +kernel
theorem dX0_passDay_33 : decode cX0_passDay 33 = .ok (.bipush 15, 2) := by decide +kernel
theorem dX0_passDay_35 : decode cX0_passDay 35 = .ok (.invokevirtual 79, 3) := by decide +kernel
theorem dX0_passDay_38 : decode cX0_passDay 38 = .ok (.goto 19, 3) := by decide +kernel
theorem dX0_passDay_41 : decode cX0_passDay 41 = .ok (.aload_n 0, 1) := by decide +kernel
theorem dX0_passDay_42 : decode cX0_passDay 42 = .ok (.getfield 37, 3) := by decide +kernel
theorem dX0_passDay_45 : decode cX0_passDay 45 = .ok (.iload_n 1, 1) := by decide +kernel
theorem dX0_passDay_46 : decode cX0_passDay 46 = .ok (.invokestatic 75, 3) := by decide +kernel
theorem dX0_passDay_49 : decode cX0_passDay 49 = .ok (.ifCond .ne 8, 3) := by decide +kernel
theorem dX0_passDay_52 : decode cX0_passDay 52 = .ok (.aload_n 0, 1) := by decide +kernel
theorem dX0_passDay_53 : decode cX0_passDay 53 = .ok (.iload_n 1, 1) := by decide +kernel
theorem dX0_passDay_54 : decode cX0_passDay 54 = .ok (.invokevirtual 83, 3) := by decide +kernel
theorem dX0_passDay_57 : decode cX0_passDay 57 = .ok (.iinc 1 1, 3) := by decide +kernel
theorem dX0_passDay_60 : decode cX0_passDay 60 = .ok (.goto (-48), 3) := by decide +kernel
theorem dX0_passDay_63 : decode cX0_passDay 63 = .ok (.aload_n 0, 1) := by decide +kernel
theorem dX0_passDay_64 : decode cX0_passDay 64 = .ok (.getfield 43, 3) := by decide +kernel
theorem dX0_passDay_67 : decode cX0_passDay 67 = .ok (.ifCond .le 31, 3) := by decide +kernel
theorem dX0_passDay_70 : decode cX0_passDay 70 = .ok (.bipush 8, 2) := by decide +kernel
theorem dX0_passDay_72 : decode cX0_passDay 72 = .ok (.istore_n 1, 1) := by decide +kernel
theorem dX0_passDay_73 : decode cX0_passDay 73 = .ok (.iload_n 1, 1) := by decide +kernel
theorem dX0_passDay_74 : decode cX0_passDay 74 = .ok (.ifCond .lt 21, 3) := by decide +kernel
theorem dX0_passDay_77 : decode cX0_passDay 77 = .ok (.aload_n 0, 1) := by decide +kernel
theorem dX0_passDay_78 : decode cX0_passDay 78 = .ok (.iload_n 1, 1) := by decide +kernel
theorem dX0_passDay_79 : decode cX0_passDay 79 = .ok (.iload_n 1, 1) := by decide +kernel
theorem dX0_passDay_80 : decode cX0_passDay 80 = .ok (.iconst 1, 1) := by decide +kernel
theorem dX0_passDay_81 : decode cX0_passDay 81 = .ok (.iadd, 1) := by decide +kernel
theorem dX0_passDay_82 : decode cX0_passDay 82 = .ok (.aload_n 0, 1) := by decide +kernel
theorem dX0_passDay_83 : decode cX0_passDay 83 = .ok (.getfield 43, 3) := by decide +kernel
theorem dX0_passDay_86 : decode cX0_passDay 86 = .ok (.invokevirtual 87, 3) := by decide +kernel
theorem dX0_passDay_89 : decode cX0_passDay 89 = .ok (.iinc 1 (-1), 3) := by decide +kernel
theorem dX0_passDay_92 : decode cX0_passDay 92 = .ok (.goto (-19), 3) := by decide +kernel
theorem dX0_passDay_95 : decode cX0_passDay 95 = .ok (.goto 37, 3) := by decide +kernel
theorem dX0_passDay_98 : decode cX0_passDay 98 = .ok (.aload_n 0, 1) := by decide +kernel
theorem dX0_passDay_99 : decode cX0_passDay 99 = .ok (.getfield 43, 3) := by decide +kernel
theorem dX0_passDay_102 : decode cX0_passDay 102 = .ok (.ifCond .ge 30, 3) := by decide +kernel
theorem dX0_passDay_105 : decode cX0_passDay 105 = .ok (.iconst 1, 1) := by decide +kernel
theorem dX0_passDay_106 : decode cX0_passDay 106 = .ok (.istore_n 1, 1) := by decide +kernel
theorem dX0_passDay_107 : decode cX0_passDay 107 = .ok (.iload_n 1, 1) := by decide +kernel
theorem dX0_passDay_108 : decode cX0_passDay 108 = .ok (.bipush 10, 2) := by decide +kernel
theorem dX0_passDay_110 : decode cX0_passDay 110 = .ok (.if_icmp .ge 22, 3) := by decide +kernel
theorem dX0_passDay_113 : decode cX0_passDay 113 = .ok (.aload_n 0, 1) := by decide +kernel
theorem dX0_passDay_114 : decode cX0_passDay 114 = .ok (.iload_n 1, 1) := by decide +kernel
theorem dX0_passDay_115 : decode cX0_passDay 115 = .ok (.iload_n 1, 1) := by decide +kernel
theorem dX0_passDay_116 : decode cX0_passDay 116 = .ok (.iconst 1, 1) := by decide +kernel
theorem dX0_passDay_117 : decode cX0_passDay 117 = .ok (.isub, 1) := by decide +kernel
theorem dX0_passDay_118 : decode cX0_passDay 118 = .ok (.aload_n 0, 1) := by decide +kernel
theorem dX0_passDay_119 : decode cX0_passDay 119 = .ok (.getfield 43, 3) := by decide +kernel
theorem dX0_passDay_122 : decode cX0_passDay 122 = .ok (.ineg, 1) := by decide +kernel
theorem dX0_passDay_123 : decode cX0_passDay 123 = .ok (.invokevirtual 87, 3) := by decide +kernel
theorem dX0_passDay_126 : decode cX0_passDay 126 = .ok (.iinc 1 1, 3) := by decide +kernel
theorem dX0_passDay_129 : decode cX0_passDay 129 = .ok (.goto (-22), 3) := by decide +kernel
theorem dX0_passDay_132 : decode cX0_passDay 132 = .ok (.return_, 1) := by decide +kernel
theorem dX0_work_0 : decode cX0_work 0 = .ok (.aload_n 0, 1) := by decide +kernel
theorem dX0_work_1 : decode cX0_work 1 = .ok (.getfield 24, 3) := by decide +kernel
theorem dX0_work_4 : decode cX0_work 4 = .ok (.iload_n 1, 1) := by decide +kernel
theorem dX0_work_5 : decode cX0_work 5 = .ok (.iaload, 1) := by decide +kernel
theorem dX0_work_6 : decode cX0_work 6 = .ok (.istore_n 2, 1) := by decide +kernel
theorem dX0_work_7 : decode cX0_work 7 = .ok (.aload_n 0, 1) := by decide +kernel
theorem dX0_work_8 : decode cX0_work 8 = .ok (.getfield 18, 3) := by decide +kernel
theorem dX0_work_11 : decode cX0_work 11 = .ok (.iload_n 1, 1) := by decide +kernel
theorem dX0_work_12 : decode cX0_work 12 = .ok (.iaload, 1) := by decide +kernel
theorem dX0_work_13 : decode cX0_work 13 = .ok (.aload_n 0, 1) := by decide +kernel
theorem dX0_work_14 : decode cX0_work 14 = .ok (.getfield 21, 3) := by decide +kernel
theorem dX0_work_17 : decode cX0_work 17 = .ok (.iload_n 1, 1) := by decide +kernel
theorem dX0_work_18 : decode cX0_work 18 = .ok (.iaload, 1) := by decide +kernel
theorem dX0_work_19 : decode cX0_work 19 = .ok (.aload_n 0, 1) := by decide +kernel
theorem dX0_work_20 : decode cX0_work 20 = .ok (.iload_n 2, 1) := by decide +kernel
theorem dX0_work_21 : decode cX0_work 21 = .ok (.invokevirtual 91, 3) := by decide +kernel
theorem dX0_work_24 : decode cX0_work 24 = .ok (.aload_n 0, 1) := by decide +kernel
theorem dX0_work_25 : decode cX0_work 25 = .ok (.getfield 46, 3) := by decide +kernel
theorem dX0_work_28 : decode cX0_work 28 = .ok (.invokestatic 95, 3) := by decide +kernel
theorem dX0_work_31 : decode cX0_work 31 = .ok (.istore_n 3, 1) := by decide +kernel
theorem dX0_work_32 : decode cX0_work 32 = .ok (.aload_n 0, 1) := by decide +kernel
theorem dX0_work_33 : decode cX0_work 33 = .ok (.getfield 15, 3) := by decide +kernel
theorem dX0_work_36 : decode cX0_work 36 = .ok (.iload_n 2, 1) := by decide +kernel
theorem dX0_work_37 : decode cX0_work 37 = .ok (.dup2, 1) := by decide +kernel
theorem dX0_work_38 : decode cX0_work 38 = .ok (.iaload, 1) := by decide +kernel
theorem dX0_work_39 : decode cX0_work 39 = .ok (.iload_n 3, 1) := by decide +kernel
theorem dX0_work_40 : decode cX0_work 40 = .ok (.iadd, 1) := by decide +kernel
theorem dX0_work_41 : decode cX0_work 41 = .ok (.iastore, 1) := by decide +kernel
theorem dX0_work_42 : decode cX0_work 42 = .ok (.aload_n 0, 1) := by decide +kernel
theorem dX0_work_43 : decode cX0_work 43 = .ok (.iload_n 1, 1) := by decide +kernel
theorem dX0_work_44 : decode cX0_work 44 = .ok (.aload_n 0, 1) := by decide +kernel
theorem dX0_work_45 : decode cX0_work 45 = .ok (.getfield 18, 3) := by decide +kernel
theorem dX0_work_48 : decode cX0_work 48 = .ok (.iload_n 1, 1) := by decide +kernel
theorem dX0_work_49 : decode cX0_work 49 = .ok (.iaload, 1) := by decide +kernel
theorem dX0_work_50 : decode cX0_work 50 = .ok (.aload_n 0, 1) := by decide +kernel
theorem dX0_work_51 : decode cX0_work 51 = .ok (.getfield 21, 3) := by decide +kernel
theorem dX0_work_54 : decode cX0_work 54 = .ok (.iload_n 1, 1) := by decide +kernel
theorem dX0_work_55 : decode cX0_work 55 = .ok (.iaload, 1) := by decide +kernel
theorem dX0_work_56 : decode cX0_work 56 = .ok (.iload_n 3, 1) := by decide +kernel
theorem dX0_work_57 : decode cX0_work 57 = .ok (.invokestatic 101, 3) := by decide +kernel
theorem dX0_work_60 : decode cX0_work 60 = .ok (.invokevirtual 79, 3) := by decide +kernel
theorem dX0_work_63 : decode cX0_work 63 = .ok (.aload_n 0, 1) := by decide +kernel
theorem dX0_work_64 : decode cX0_work 64 = .ok (.getfield 27, 3) := by decide +kernel
theorem dX0_work_67 : decode cX0_work 67 = .ok (.iload_n 1, 1) := by decide +kernel
theorem dX0_work_68 : decode cX0_work 68 = .ok (.iaload, 1) := by decide +kernel
theorem dX0_work_69 : decode cX0_work 69 = .ok (.ifCond .ne 9, 3) := by decide +kernel
theorem dX0_work_72 : decode cX0_work 72 = .ok (.iload_n 2, 1) := by decide +kernel
theorem dX0_work_73 : decode cX0_work 73 = .ok (.iconst 1, 1) := by decide +kernel
theorem dX0_work_74 : decode cX0_work 74 = .ok (.iadd, 1) := by decide +kernel
theorem dX0_work_75 : decode cX0_work 75 = .ok (.goto 6, 3) := by decide +kernel
theorem dX0_work_78 : decode cX0_work 78 = .ok (.iload_n 2, 1) := by decide +kernel
theorem dX0_work_79 : decode cX0_work 79 = .ok (.iconst 1, 1) := by decide +kernel
theorem dX0_work_80 : decode cX0_work 80 = .ok (.isub, 1) := by decide +kernel
theorem dX0_work_81 : decode cX0_work 81 = .ok (.istore 4, 2) := by decide +kernel
theorem dX0_work_83 : decode cX0_work 83 = .ok (.aload_n 0, 1) := by decide +kernel
theorem dX0_work_84 : decode cX0_work 84 = .ok (.iload_n 2, 1) := by decide +kernel
theorem dX0_work_85 : decode cX0_work 85 = .ok (.invokevirtual 68, 3) := by decide +kernel
theorem dX0_work_88 : decode cX0_work 88 = .ok (.ifCond .eq 34, 3) := by decide +kernel
theorem dX0_work_91 : decode cX0_work 91 = .ok (.iload 4, 2) := by decide +kernel
theorem dX0_work_93 : decode cX0_work 93 = .ok (.invokestatic 105, 3) := by decide +kernel
theorem dX0_work_96 : decode cX0_work 96 = .ok (.ifCond .eq 26, 3) := by decide +kernel
theorem dX0_work_99 : decode cX0_work 99 = .ok (.aload_n 0, 1) := by decide +kernel
theorem dX0_work_100 : decode cX0_work 100 = .ok (.iload 4, 2) := by decide +kernel
theorem dX0_work_102 : decode cX0_work 102 = .ok (.aload_n 0, 1) := by decide +kernel
theorem dX0_work_103 : decode cX0_work 103 = .ok (.getfield 27, 3) := by decide +kernel
theorem dX0_work_106 : decode cX0_work 106 = .ok (.iload_n 1, 1) := by decide +kernel
theorem dX0_work_107 : decode cX0_work 107 = .ok (.iaload, 1) := by decide +kernel
theorem dX0_work_108 : decode cX0_work 108 = .ok (.invokevirtual 108, 3) := by decide +kernel
theorem dX0_work_111 : decode cX0_work 111 = .ok (.ifCond .ne 11, 3) := by decide +kernel
theorem dX0_work_114 : decode cX0_work 114 = .ok (.aload_n 0, 1) := by decide +kernel
theorem dX0_work_115 : decode cX0_work 115 = .ok (.getfield 24, 3) := by decide +kernel
theorem dX0_work_118 : decode cX0_work 118 = .ok (.iload_n 1, 1) := by decide +kernel
theorem dX0_work_119 : decode cX0_work 119 = .ok (.iload 4, 2) := by decide +kernel
theorem dX0_work_121 : decode cX0_work 121 = .ok (.iastore, 1) := by decide +kernel
theorem dX0_work_122 : decode cX0_work 122 = .ok (.return_, 1) := by decide +kernel
theorem dX0_write_0 : decode cX0_write 0 = .ok (.aload_n 0, 1) := by decide +kernel
theorem dX0_write_1 : decode cX0_write 1 = .ok (.getfield 30, 3) := by decide +kernel
theorem dX0_write_4 : decode cX0_write 4 = .ok (.iload_n 1, 1) := by decide +kernel
theorem dX0_write_5 : decode cX0_write 5 = .ok (.sipush 9999, 3) := by decide +kernel
theorem dX0_write_8 : decode cX0_write 8 = .ok (.aload_n 0, 1) := by decide +kernel
theorem dX0_write_9 : decode cX0_write 9 = .ok (.getfield 30, 3) := by decide +kernel
theorem dX0_write_12 : decode cX0_write 12 = .ok (.iload_n 1, 1) := by decide +kernel
theorem dX0_write_13 : decode cX0_write 13 = .ok (.iaload, 1) := by decide +kernel
theorem dX0_write_14 : decode cX0_write 14 = .ok (.iload_n 2, 1) := by decide +kernel
theorem dX0_write_15 : decode cX0_write 15 = .ok (.iadd, 1) := by decide +kernel
theorem dX0_write_16 : decode cX0_write 16 = .ok (.invokestatic 111, 3) := by decide +kernel
theorem dX0_write_19 : decode cX0_write 19 = .ok (.iastore, 1) := by decide +kernel
theorem dX0_write_20 : decode cX0_write 20 = .ok (.return_, 1) := by decide +kernel
theorem dX0_isBarred_0 : decode cX0_isBarred 0 = .ok (.iconst 0, 1) := by decide +kernel
theorem dX0_isBarred_1 : decode cX0_isBarred 1 = .ok (.istore_n 3, 1) := by decide +kernel
theorem dX0_isBarred_2 : decode cX0_isBarred 2 = .ok (.iload_n 3, 1) := by decide +kernel
theorem dX0_isBarred_3 : decode cX0_isBarred 3 = .ok (.aload_n 0, 1) := by decide +kernel
theorem dX0_isBarred_4 : decode cX0_isBarred 4 = .ok (.getfield 33, 3) := by decide +kernel
theorem dX0_isBarred_7 : decode cX0_isBarred 7 = .ok (.if_icmp .ge 31, 3) := by decide +kernel
theorem dX0_isBarred_10 : decode cX0_isBarred 10 = .ok (.aload_n 0, 1) := by decide +kernel
theorem dX0_isBarred_11 : decode cX0_isBarred 11 = .ok (.getfield 24, 3) := by decide +kernel
theorem dX0_isBarred_14 : decode cX0_isBarred 14 = .ok (.iload_n 3, 1) := by decide +kernel
theorem dX0_isBarred_15 : decode cX0_isBarred 15 = .ok (.iaload, 1) := by decide +kernel
theorem dX0_isBarred_16 : decode cX0_isBarred 16 = .ok (.iload_n 1, 1) := by decide +kernel
theorem dX0_isBarred_17 : decode cX0_isBarred 17 = .ok (.if_icmp .ne 15, 3) := by decide +kernel
theorem dX0_isBarred_20 : decode cX0_isBarred 20 = .ok (.aload_n 0, 1) := by decide +kernel
theorem dX0_isBarred_21 : decode cX0_isBarred 21 = .ok (.getfield 27, 3) := by decide +kernel
theorem dX0_isBarred_24 : decode cX0_isBarred 24 = .ok (.iload_n 3, 1) := by decide +kernel
theorem dX0_isBarred_25 : decode cX0_isBarred 25 = .ok (.iaload, 1) := by decide +kernel
theorem dX0_isBarred_26 : decode cX0_isBarred 26 = .ok (.iload_n 2, 1) := by decide +kernel
theorem dX0_isBarred_27 : decode cX0_isBarred 27 = .ok (.if_icmp .eq 5, 3) := by decide +kernel
theorem dX0_isBarred_30 : decode cX0_isBarred 30 = .ok (.iconst 1, 1) := by decide +kernel
theorem dX0_isBarred_31 : decode cX0_isBarred 31 = .ok (.ireturn, 1) := by decide +kernel
theorem dX0_isBarred_32 : decode cX0_isBarred 32 = .ok (.iinc 3 1, 3) := by decide +kernel
theorem dX0_isBarred_35 : decode cX0_isBarred 35 = .ok (.goto (-33), 3) := by decide +kernel
theorem dX0_isBarred_38 : decode cX0_isBarred 38 = .ok (.iconst 0, 1) := by decide +kernel
theorem dX0_isBarred_39 : decode cX0_isBarred 39 = .ok (.ireturn, 1) := by decide +kernel
theorem dX0_give_0 : decode cX0_give 0 = .ok (.iload_n 3, 1) := by decide +kernel
theorem dX0_give_1 : decode cX0_give 1 = .ok (.aload_n 0, 1) := by decide +kernel
theorem dX0_give_2 : decode cX0_give 2 = .ok (.getfield 9, 3) := by decide +kernel
theorem dX0_give_5 : decode cX0_give 5 = .ok (.iload_n 1, 1) := by decide +kernel
theorem dX0_give_6 : decode cX0_give 6 = .ok (.iaload, 1) := by decide +kernel
theorem dX0_give_7 : decode cX0_give 7 = .ok (.sipush 999, 3) := by decide +kernel
theorem dX0_give_10 : decode cX0_give 10 = .ok (.aload_n 0, 1) := by decide +kernel
theorem dX0_give_11 : decode cX0_give 11 = .ok (.getfield 9, 3) := by decide +kernel
theorem dX0_give_14 : decode cX0_give 14 = .ok (.iload_n 2, 1) := by decide +kernel
theorem dX0_give_15 : decode cX0_give 15 = .ok (.iaload, 1) := by decide +kernel
theorem dX0_give_16 : decode cX0_give 16 = .ok (.isub, 1) := by decide +kernel
theorem dX0_give_17 : decode cX0_give 17 = .ok (.invokestatic 111, 3) := by decide +kernel
theorem dX0_give_20 : decode cX0_give 20 = .ok (.invokestatic 111, 3) := by decide +kernel
theorem dX0_give_23 : decode cX0_give 23 = .ok (.istore 4, 2) := by decide +kernel
theorem dX0_give_25 : decode cX0_give 25 = .ok (.iconst 0, 1) := by decide +kernel
theorem dX0_give_26 : decode cX0_give 26 = .ok (.iload 4, 2) := by decide +kernel
theorem dX0_give_28 : decode cX0_give 28 = .ok (.aload_n 0, 1) := by decide +kernel
theorem dX0_give_29 : decode cX0_give 29 = .ok (.iload_n 1, 1) := by decide +kernel
theorem dX0_give_30 : decode cX0_give 30 = .ok (.invokevirtual 91, 3) := by decide +kernel
theorem dX0_give_33 : decode cX0_give 33 = .ok (.isub, 1) := by decide +kernel
theorem dX0_give_34 : decode cX0_give 34 = .ok (.invokestatic 117, 3) := by decide +kernel
theorem dX0_give_37 : decode cX0_give 37 = .ok (.istore 5, 2) := by decide +kernel
theorem dX0_give_39 : decode cX0_give 39 = .ok (.aload_n 0, 1) := by decide +kernel
theorem dX0_give_40 : decode cX0_give 40 = .ok (.getfield 9, 3) := by decide +kernel
theorem dX0_give_43 : decode cX0_give 43 = .ok (.iload_n 1, 1) := by decide +kernel
theorem dX0_give_44 : decode cX0_give 44 = .ok (.dup2, 1) := by decide +kernel
theorem dX0_give_45 : decode cX0_give 45 = .ok (.iaload, 1) := by decide +kernel
theorem dX0_give_46 : decode cX0_give 46 = .ok (.iload 4, 2) := by decide +kernel
theorem dX0_give_48 : decode cX0_give 48 = .ok (.isub, 1) := by decide +kernel
theorem dX0_give_49 : decode cX0_give 49 = .ok (.iastore, 1) := by decide +kernel
theorem dX0_give_50 : decode cX0_give 50 = .ok (.aload_n 0, 1) := by decide +kernel
theorem dX0_give_51 : decode cX0_give 51 = .ok (.getfield 15, 3) := by decide +kernel
theorem dX0_give_54 : decode cX0_give 54 = .ok (.iload_n 1, 1) := by decide +kernel
theorem dX0_give_55 : decode cX0_give 55 = .ok (.dup2, 1) := by decide +kernel
theorem dX0_give_56 : decode cX0_give 56 = .ok (.iaload, 1) := by decide +kernel
theorem dX0_give_57 : decode cX0_give 57 = .ok (.iload 5, 2) := by decide +kernel
theorem dX0_give_59 : decode cX0_give 59 = .ok (.isub, 1) := by decide +kernel
theorem dX0_give_60 : decode cX0_give 60 = .ok (.iastore, 1) := by decide +kernel
theorem dX0_give_61 : decode cX0_give 61 = .ok (.aload_n 0, 1) := by decide +kernel
theorem dX0_give_62 : decode cX0_give 62 = .ok (.getfield 9, 3) := by decide +kernel
theorem dX0_give_65 : decode cX0_give 65 = .ok (.iload_n 2, 1) := by decide +kernel
theorem dX0_give_66 : decode cX0_give 66 = .ok (.dup2, 1) := by decide +kernel
theorem dX0_give_67 : decode cX0_give 67 = .ok (.iaload, 1) := by decide +kernel
theorem dX0_give_68 : decode cX0_give 68 = .ok (.iload 4, 2) := by decide +kernel
theorem dX0_give_70 : decode cX0_give 70 = .ok (.iadd, 1) := by decide +kernel
theorem dX0_give_71 : decode cX0_give 71 = .ok (.iastore, 1) := by decide +kernel
theorem dX0_give_72 : decode cX0_give 72 = .ok (.aload_n 0, 1) := by decide +kernel
theorem dX0_give_73 : decode cX0_give 73 = .ok (.dup, 1) := by decide +kernel
theorem dX0_give_74 : decode cX0_give 74 = .ok (.getfield 49, 3) := by decide +kernel
theorem dX0_give_77 : decode cX0_give 77 = .ok (.iload 5, 2) := by decide +kernel
theorem dX0_give_79 : decode cX0_give 79 = .ok (.iadd, 1) := by decide +kernel
theorem dX0_give_80 : decode cX0_give 80 = .ok (.putfield 49, 3) := by decide +kernel
theorem dX0_give_83 : decode cX0_give 83 = .ok (.return_, 1) := by decide +kernel
theorem dX1_counts_0 : decode cX1_counts 0 = .ok (.bipush 10, 2) := by decide +kernel
theorem dX1_counts_2 : decode cX1_counts 2 = .ok (.iload_n 1, 1) := by decide +kernel
theorem dX1_counts_3 : decode cX1_counts 3 = .ok (.iadd, 1) := by decide +kernel
theorem dX1_counts_4 : decode cX1_counts 4 = .ok (.istore 4, 2) := by decide +kernel
theorem dX1_counts_6 : decode cX1_counts 6 = .ok (.iload 4, 2) := by decide +kernel
theorem dX1_counts_8 : decode cX1_counts 8 = .ok (.iconst 1, 1) := by decide +kernel
theorem dX1_counts_9 : decode cX1_counts 9 = .ok (.isub, 1) := by decide +kernel
theorem dX1_counts_10 : decode cX1_counts 10 = .ok (.istore 5, 2) := by decide +kernel
theorem dX1_counts_12 : decode cX1_counts 12 = .ok (.iload_n 2, 1) := by decide +kernel
theorem dX1_counts_13 : decode cX1_counts 13 = .ok (.iconst 1, 1) := by decide +kernel
theorem dX1_counts_14 : decode cX1_counts 14 = .ok (.iadd, 1) := by decide +kernel
theorem dX1_counts_15 : decode cX1_counts 15 = .ok (.iconst 2, 1) := by decide +kernel
theorem dX1_counts_16 : decode cX1_counts 16 = .ok (.idiv, 1) := by decide +kernel
theorem dX1_counts_17 : decode cX1_counts 17 = .ok (.istore 6, 2) := by decide +kernel
theorem dX1_counts_19 : decode cX1_counts 19 = .ok (.iload 4, 2) := by decide +kernel
theorem dX1_counts_21 : decode cX1_counts 21 = .ok (.iconst 2, 1) := by decide +kernel
theorem dX1_counts_22 : decode cX1_counts 22 = .ok (.idiv, 1) := by decide +kernel
theorem dX1_counts_23 : decode cX1_counts 23 = .ok (.istore 7, 2) := by decide +kernel
theorem dX1_counts_25 : decode cX1_counts 25 = .ok (.iload_n 0, 1) := by decide +kernel
theorem dX1_counts_26 : decode cX1_counts 26 = .ok (.tableswitch 111 1 7 #[42, 49, 56, 63, 74, 86, 103], 42) := by decide +kernel
theorem dX1_counts_68 : decode cX1_counts 68 = .ok (.iload 5, 2) := by decide +kernel
theorem dX1_counts_70 : decode cX1_counts 70 = .ok (.istore 8, 2) := by decide +kernel
theorem dX1_counts_72 : decode cX1_counts 72 = .ok (.goto 69, 3) := by decide +kernel
theorem dX1_counts_75 : decode cX1_counts 75 = .ok (.iload 6, 2) := by decide +kernel
theorem dX1_counts_77 : decode cX1_counts 77 = .ok (.istore 8, 2) := by decide +kernel
theorem dX1_counts_79 : decode cX1_counts 79 = .ok (.goto 62, 3) := by decide +kernel
theorem dX1_counts_82 : decode cX1_counts 82 = .ok (.iload 7, 2) := by decide +kernel
theorem dX1_counts_84 : decode cX1_counts 84 = .ok (.istore 8, 2) := by decide +kernel
theorem dX1_counts_86 : decode cX1_counts 86 = .ok (.goto 55, 3) := by decide +kernel
theorem dX1_counts_89 : decode cX1_counts 89 = .ok (.iload 5, 2) := by decide +kernel
theorem dX1_counts_91 : decode cX1_counts 91 = .ok (.iconst 2, 1) := by decide +kernel
theorem dX1_counts_92 : decode cX1_counts 92 = .ok (.idiv, 1) := by decide +kernel
theorem dX1_counts_93 : decode cX1_counts 93 = .ok (.iconst 1, 1) := by decide +kernel
theorem dX1_counts_94 : decode cX1_counts 94 = .ok (.iadd, 1) := by decide +kernel
theorem dX1_counts_95 : decode cX1_counts 95 = .ok (.istore 8, 2) := by decide +kernel
theorem dX1_counts_97 : decode cX1_counts 97 = .ok (.goto 44, 3) := by decide +kernel
theorem dX1_counts_100 : decode cX1_counts 100 = .ok (.bipush 20, 2) := by decide +kernel
theorem dX1_counts_102 : decode cX1_counts 102 = .ok (.iload 6, 2) := by decide +kernel
theorem dX1_counts_104 : decode cX1_counts 104 = .ok (.invokestatic 7, 3) := by decide +kernel
theorem dX1_counts_107 : decode cX1_counts 107 = .ok (.istore 8, 2) := by decide +kernel
theorem dX1_counts_109 : decode cX1_counts 109 = .ok (.goto 32, 3) := by decide +kernel
theorem dX1_counts_112 : decode cX1_counts 112 = .ok (.iload_n 3, 1) := by decide +kernel
theorem dX1_counts_113 : decode cX1_counts 113 = .ok (.iconst 2, 1) := by decide +kernel
theorem dX1_counts_114 : decode cX1_counts 114 = .ok (.irem, 1) := by decide +kernel
theorem dX1_counts_115 : decode cX1_counts 115 = .ok (.ifCond .ne 8, 3) := by decide +kernel
theorem dX1_counts_118 : decode cX1_counts 118 = .ok (.iload 7, 2) := by decide +kernel
theorem dX1_counts_120 : decode cX1_counts 120 = .ok (.goto 4, 3) := by decide +kernel
theorem dX1_counts_123 : decode cX1_counts 123 = .ok (.iconst 0, 1) := by decide +kernel
theorem dX1_counts_124 : decode cX1_counts 124 = .ok (.istore 8, 2) := by decide +kernel
theorem dX1_counts_126 : decode cX1_counts 126 = .ok (.goto 15, 3) := by decide +kernel
theorem dX1_counts_129 : decode cX1_counts 129 = .ok (.iload_n 1, 1) := by decide +kernel
theorem dX1_counts_130 : decode cX1_counts 130 = .ok (.iconst 1, 1) := by decide +kernel
theorem dX1_counts_131 : decode cX1_counts 131 = .ok (.iadd, 1) := by decide +kernel
theorem dX1_counts_132 : decode cX1_counts 132 = .ok (.istore 8, 2) := by decide +kernel
theorem dX1_counts_134 : decode cX1_counts 134 = .ok (.goto 7, 3) := by decide +kernel
theorem dX1_counts_137 : decode cX1_counts 137 = .ok (.iload 4, 2) := by decide +kernel
theorem dX1_counts_139 : decode cX1_counts 139 = .ok (.istore 8, 2) := by decide +kernel
theorem dX1_counts_141 : decode cX1_counts 141 = .ok (.iload_n 2, 1) := by decide +kernel
theorem dX1_counts_142 : decode cX1_counts 142 = .ok (.iload 8, 2) := by decide +kernel
theorem dX1_counts_144 : decode cX1_counts 144 = .ok (.invokestatic 13, 3) := by decide +kernel
theorem dX1_counts_147 : decode cX1_counts 147 = .ok (.ireturn, 1) := by decide +kernel
theorem dX1_books_0 : decode cX1_books 0 = .ok (.iload_n 0, 1) := by decide +kernel
theorem dX1_books_1 : decode cX1_books 1 = .ok (.tableswitch 59 2 6 #[35, 59, 59, 47, 51], 35) := by decide +kernel
theorem dX1_books_36 : decode cX1_books 36 = .ok (.iload_n 2, 1) := by decide +kernel
theorem dX1_books_37 : decode cX1_books 37 = .ok (.ifCond .le 9, 3) := by decide +kernel
theorem dX1_books_40 : decode cX1_books 40 = .ok (.iload_n 2, 1) := by decide +kernel
theorem dX1_books_41 : decode cX1_books 41 = .ok (.iload_n 1, 1) := by decide +kernel
theorem dX1_books_42 : decode cX1_books 42 = .ok (.iadd, 1) := by decide +kernel
theorem dX1_books_43 : decode cX1_books 43 = .ok (.goto 4, 3) := by decide +kernel
theorem dX1_books_46 : decode cX1_books 46 = .ok (.iconst 0, 1) := by decide +kernel
theorem dX1_books_47 : decode cX1_books 47 = .ok (.ireturn, 1) := by decide +kernel
theorem dX1_books_48 : decode cX1_books 48 = .ok (.iconst 2, 1) := by decide +kernel
theorem dX1_books_49 : decode cX1_books 49 = .ok (.iload_n 2, 1) := by decide +kernel
theorem dX1_books_50 : decode cX1_books 50 = .ok (.imul, 1) := by decide +kernel
theorem dX1_books_51 : decode cX1_books 51 = .ok (.ireturn, 1) := by decide +kernel
theorem dX1_books_52 : decode cX1_books 52 = .ok (.iconst 0, 1) := by decide +kernel
theorem dX1_books_53 : decode cX1_books 53 = .ok (.iload_n 2, 1) := by decide +kernel
theorem dX1_books_54 : decode cX1_books 54 = .ok (.iconst 1, 1) := by decide +kernel
theorem dX1_books_55 : decode cX1_books 55 = .ok (.isub, 1) := by decide +kernel
theorem dX1_books_56 : decode cX1_books 56 = .ok (.invokestatic 7, 3) := by decide +kernel
theorem dX1_books_59 : decode cX1_books 59 = .ok (.ireturn, 1) := by decide +kernel
theorem dX1_books_60 : decode cX1_books 60 = .ok (.iload_n 2, 1) := by decide +kernel
theorem dX1_books_61 : decode cX1_books 61 = .ok (.ireturn, 1) := by decide +kernel
theorem dX1_costOf_0 : decode cX1_costOf 0 = .ok (.iconst 4, 1) := by decide +kernel
theorem dX1_costOf_1 : decode cX1_costOf 1 = .ok (.istore_n 2, 1) := by decide +kernel
theorem dX1_costOf_2 : decode cX1_costOf 2 = .ok (.iconst 2, 1) := by decide +kernel
theorem dX1_costOf_3 : decode cX1_costOf 3 = .ok (.istore_n 3, 1) := by decide +kernel
theorem dX1_costOf_4 : decode cX1_costOf 4 = .ok (.iload_n 2, 1) := by decide +kernel
theorem dX1_costOf_5 : decode cX1_costOf 5 = .ok (.iconst 1, 1) := by decide +kernel
theorem dX1_costOf_6 : decode cX1_costOf 6 = .ok (.isub, 1) := by decide +kernel
theorem dX1_costOf_7 : decode cX1_costOf 7 = .ok (.istore 4, 2) := by decide +kernel
theorem dX1_costOf_9 : decode cX1_costOf 9 = .ok (.iload_n 0, 1) := by decide +kernel
theorem dX1_costOf_10 : decode cX1_costOf 10 = .ok (.tableswitch 58 1 6 #[38, 42, 44, 47, 49, 53], 38) := by decide +kernel
theorem dX1_costOf_48 : decode cX1_costOf 48 = .ok (.iload_n 2, 1) := by decide +kernel
theorem dX1_costOf_49 : decode cX1_costOf 49 = .ok (.iload_n 1, 1) := by decide +kernel
theorem dX1_costOf_50 : decode cX1_costOf 50 = .ok (.iadd, 1) := by decide +kernel
theorem dX1_costOf_51 : decode cX1_costOf 51 = .ok (.ireturn, 1) := by decide +kernel
theorem dX1_costOf_52 : decode cX1_costOf 52 = .ok (.iload_n 3, 1) := by decide +kernel
theorem dX1_costOf_53 : decode cX1_costOf 53 = .ok (.ireturn, 1) := by decide +kernel
theorem dX1_costOf_54 : decode cX1_costOf 54 = .ok (.iload 4, 2) := by decide +kernel
theorem dX1_costOf_56 : decode cX1_costOf 56 = .ok (.ireturn, 1) := by decide +kernel
theorem dX1_costOf_57 : decode cX1_costOf 57 = .ok (.iconst 0, 1) := by decide +kernel
theorem dX1_costOf_58 : decode cX1_costOf 58 = .ok (.ireturn, 1) := by decide +kernel
theorem dX1_costOf_59 : decode cX1_costOf 59 = .ok (.iload_n 3, 1) := by decide +kernel
theorem dX1_costOf_60 : decode cX1_costOf 60 = .ok (.iload_n 1, 1) := by decide +kernel
theorem dX1_costOf_61 : decode cX1_costOf 61 = .ok (.iadd, 1) := by decide +kernel
theorem dX1_costOf_62 : decode cX1_costOf 62 = .ok (.ireturn, 1) := by decide +kernel
theorem dX1_costOf_63 : decode cX1_costOf 63 = .ok (.iload 4, 2) := by decide +kernel
theorem dX1_costOf_65 : decode cX1_costOf 65 = .ok (.iconst 2, 1) := by decide +kernel
theorem dX1_costOf_66 : decode cX1_costOf 66 = .ok (.idiv, 1) := by decide +kernel
theorem dX1_costOf_67 : decode cX1_costOf 67 = .ok (.ireturn, 1) := by decide +kernel
theorem dX1_costOf_68 : decode cX1_costOf 68 = .ok (.iload_n 2, 1) := by decide +kernel
theorem dX1_costOf_69 : decode cX1_costOf 69 = .ok (.ireturn, 1) := by decide +kernel
theorem dX1_hasFailure_0 : decode cX1_hasFailure 0 = .ok (.iload_n 1, 1) := by decide +kernel
theorem dX1_hasFailure_1 : decode cX1_hasFailure 1 = .ok (.ifCond .eq 18, 3) := by decide +kernel
theorem dX1_hasFailure_4 : decode cX1_hasFailure 4 = .ok (.iload_n 0, 1) := by decide +kernel
theorem dX1_hasFailure_5 : decode cX1_hasFailure 5 = .ok (.iconst 3, 1) := by decide +kernel
theorem dX1_hasFailure_6 : decode cX1_hasFailure 6 = .ok (.if_icmp .eq 13, 3) := by decide +kernel
theorem dX1_hasFailure_9 : decode cX1_hasFailure 9 = .ok (.iload_n 0, 1) := by decide +kernel
theorem dX1_hasFailure_10 : decode cX1_hasFailure 10 = .ok (.bipush 6, 2) := by decide +kernel
theorem dX1_hasFailure_12 : decode cX1_hasFailure 12 = .ok (.if_icmp .eq 7, 3) := by decide +kernel
theorem dX1_hasFailure_15 : decode cX1_hasFailure 15 = .ok (.iconst 1, 1) := by decide +kernel
theorem dX1_hasFailure_16 : decode cX1_hasFailure 16 = .ok (.goto 4, 3) := by decide +kernel
theorem dX1_hasFailure_19 : decode cX1_hasFailure 19 = .ok (.iconst 0, 1) := by decide +kernel
theorem dX1_hasFailure_20 : decode cX1_hasFailure 20 = .ok (.ireturn, 1) := by decide +kernel
theorem dX1_failureOf_0 : decode cX1_failureOf 0 = .ok (.iload_n 0, 1) := by decide +kernel
theorem dX1_failureOf_1 : decode cX1_failureOf 1 = .ok (.lookupswitch 42 #[(2, 27), (5, 32)], 27) := by decide +kernel
theorem dX1_failureOf_28 : decode cX1_failureOf 28 = .ok (.bipush 100, 2) := by decide +kernel
theorem dX1_failureOf_30 : decode cX1_failureOf 30 = .ok (.iload_n 1, 1) := by decide +kernel
theorem dX1_failureOf_31 : decode cX1_failureOf 31 = .ok (.iadd, 1) := by decide +kernel
theorem dX1_failureOf_32 : decode cX1_failureOf 32 = .ok (.ireturn, 1) := by decide +kernel
theorem dX1_failureOf_33 : decode cX1_failureOf 33 = .ok (.sipush 200, 3) := by decide +kernel
theorem dX1_failureOf_36 : decode cX1_failureOf 36 = .ok (.iload_n 0, 1) := by decide +kernel
theorem dX1_failureOf_37 : decode cX1_failureOf 37 = .ok (.iload_n 1, 1) := by decide +kernel
theorem dX1_failureOf_38 : decode cX1_failureOf 38 = .ok (.invokestatic 18, 3) := by decide +kernel
theorem dX1_failureOf_41 : decode cX1_failureOf 41 = .ok (.iadd, 1) := by decide +kernel
theorem dX1_failureOf_42 : decode cX1_failureOf 42 = .ok (.ireturn, 1) := by decide +kernel
theorem dX1_failureOf_43 : decode cX1_failureOf 43 = .ok (.iload_n 1, 1) := by decide +kernel
theorem dX1_failureOf_44 : decode cX1_failureOf 44 = .ok (.ireturn, 1) := by decide +kernel
theorem dX2_init_0 : decode cX2_init 0 = .ok (.aload_n 0, 1) := by decide +kernel
theorem dX2_init_1 : decode cX2_init 1 = .ok (.invokespecial 3, 3) := by decide +kernel
theorem dX2_init_4 : decode cX2_init 4 = .ok (.aload_n 0, 1) := by decide +kernel
theorem dX2_init_5 : decode cX2_init 5 = .ok (.bipush 100, 2) := by decide +kernel
theorem dX2_init_7 : decode cX2_init 7 = .ok (.newarray .int, 2) := by decide +kernel
theorem dX2_init_9 : decode cX2_init 9 = .ok (.putfield 9, 3) := by decide +kernel
theorem dX2_init_12 : decode cX2_init 12 = .ok (.aload_n 0, 1) := by decide +kernel
theorem dX2_init_13 : decode cX2_init 13 = .ok (.iconst 0, 1) := by decide +kernel
theorem dX2_init_14 : decode cX2_init 14 = .ok (.putfield 15, 3) := by decide +kernel
theorem dX2_init_17 : decode cX2_init 17 = .ok (.aload_n 0, 1) := by decide +kernel
theorem dX2_init_18 : decode cX2_init 18 = .ok (.iconst 0, 1) := by decide +kernel
theorem dX2_init_19 : decode cX2_init 19 = .ok (.putfield 19, 3) := by decide +kernel
theorem dX2_init_22 : decode cX2_init 22 = .ok (.aload_n 0, 1) := by decide +kernel
theorem dX2_init_23 : decode cX2_init 23 = .ok (.iconst 0, 1) := by decide +kernel
theorem dX2_init_24 : decode cX2_init 24 = .ok (.putfield 22, 3) := by decide +kernel
theorem dX2_init_27 : decode cX2_init 27 = .ok (.aload_n 0, 1) := by decide +kernel
theorem dX2_init_28 : decode cX2_init 28 = .ok (.iconst 0, 1) := by decide +kernel
theorem dX2_init_29 : decode cX2_init 29 = .ok (.putfield 25, 3) := by decide +kernel
theorem dX2_init_32 : decode cX2_init 32 = .ok (.aload_n 0, 1) := by decide +kernel
theorem dX2_init_33 : decode cX2_init 33 = .ok (.iconst 0, 1) := by decide +kernel
theorem dX2_init_34 : decode cX2_init 34 = .ok (.putfield 28, 3) := by decide +kernel
theorem dX2_init_37 : decode cX2_init 37 = .ok (.return_, 1) := by decide +kernel
theorem dX2_holdNothing_0 : decode cX2_holdNothing 0 = .ok (.aload_n 0, 1) := by decide +kernel
theorem dX2_holdNothing_1 : decode cX2_holdNothing 1 = .ok (.iconst 0, 1) := by decide +kernel
theorem dX2_holdNothing_2 : decode cX2_holdNothing 2 = .ok (.putfield 15, 3) := by decide +kernel
theorem dX2_holdNothing_5 : decode cX2_holdNothing 5 = .ok (.return_, 1) := by decide +kernel
theorem dX2_holdKind_0 : decode cX2_holdKind 0 = .ok (.aload_n 0, 1) := by decide +kernel
theorem dX2_holdKind_1 : decode cX2_holdKind 1 = .ok (.iconst 1, 1) := by decide +kernel
theorem dX2_holdKind_2 : decode cX2_holdKind 2 = .ok (.putfield 15, 3) := by decide +kernel
theorem dX2_holdKind_5 : decode cX2_holdKind 5 = .ok (.aload_n 0, 1) := by decide +kernel
theorem dX2_holdKind_6 : decode cX2_holdKind 6 = .ok (.iload_n 1, 1) := by decide +kernel
theorem dX2_holdKind_7 : decode cX2_holdKind 7 = .ok (.putfield 19, 3) := by decide +kernel
theorem dX2_holdKind_10 : decode cX2_holdKind 10 = .ok (.aload_n 0, 1) := by decide +kernel
theorem dX2_holdKind_11 : decode cX2_holdKind 11 = .ok (.iload_n 2, 1) := by decide +kernel
theorem dX2_holdKind_12 : decode cX2_holdKind 12 = .ok (.putfield 22, 3) := by decide +kernel
theorem dX2_holdKind_15 : decode cX2_holdKind 15 = .ok (.return_, 1) := by decide +kernel
theorem dX2_holdRow_0 : decode cX2_holdRow 0 = .ok (.aload_n 0, 1) := by decide +kernel
theorem dX2_holdRow_1 : decode cX2_holdRow 1 = .ok (.iconst 2, 1) := by decide +kernel
theorem dX2_holdRow_2 : decode cX2_holdRow 2 = .ok (.putfield 15, 3) := by decide +kernel
theorem dX2_holdRow_5 : decode cX2_holdRow 5 = .ok (.aload_n 0, 1) := by decide +kernel
theorem dX2_holdRow_6 : decode cX2_holdRow 6 = .ok (.iload_n 1, 1) := by decide +kernel
theorem dX2_holdRow_7 : decode cX2_holdRow 7 = .ok (.putfield 25, 3) := by decide +kernel
theorem dX2_holdRow_10 : decode cX2_holdRow 10 = .ok (.aload_n 0, 1) := by decide +kernel
theorem dX2_holdRow_11 : decode cX2_holdRow 11 = .ok (.iload_n 2, 1) := by decide +kernel
theorem dX2_holdRow_12 : decode cX2_holdRow 12 = .ok (.putfield 28, 3) := by decide +kernel
theorem dX2_holdRow_15 : decode cX2_holdRow 15 = .ok (.aload_n 0, 1) := by decide +kernel
theorem dX2_holdRow_16 : decode cX2_holdRow 16 = .ok (.getfield 9, 3) := by decide +kernel
theorem dX2_holdRow_19 : decode cX2_holdRow 19 = .ok (.iconst 0, 1) := by decide +kernel
theorem dX2_holdRow_20 : decode cX2_holdRow 20 = .ok (.invokestatic 31, 3) := by decide +kernel
theorem dX2_holdRow_23 : decode cX2_holdRow 23 = .ok (.return_, 1) := by decide +kernel
theorem dX2_hasPlace_0 : decode cX2_hasPlace 0 = .ok (.iload_n 1, 1) := by decide +kernel
theorem dX2_hasPlace_1 : decode cX2_hasPlace 1 = .ok (.iconst 0, 1) := by decide +kernel
theorem dX2_hasPlace_2 : decode cX2_hasPlace 2 = .ok (.aload_n 0, 1) := by decide +kernel
theorem dX2_hasPlace_3 : decode cX2_hasPlace 3 = .ok (.getfield 28, 3) := by decide +kernel
theorem dX2_hasPlace_6 : decode cX2_hasPlace 6 = .ok (.iconst 1, 1) := by decide +kernel
theorem dX2_hasPlace_7 : decode cX2_hasPlace 7 = .ok (.isub, 1) := by decide +kernel
theorem dX2_hasPlace_8 : decode cX2_hasPlace 8 = .ok (.invokestatic 37, 3) := by decide +kernel
theorem dX2_hasPlace_11 : decode cX2_hasPlace 11 = .ok (.ireturn, 1) := by decide +kernel
theorem dX2_hasStretch_0 : decode cX2_hasStretch 0 = .ok (.iload_n 1, 1) := by decide +kernel
theorem dX2_hasStretch_1 : decode cX2_hasStretch 1 = .ok (.ifCond .lt 25, 3) := by decide +kernel
theorem dX2_hasStretch_4 : decode cX2_hasStretch 4 = .ok (.iload_n 2, 1) := by decide +kernel
theorem dX2_hasStretch_5 : decode cX2_hasStretch 5 = .ok (.aload_n 0, 1) := by decide +kernel
theorem dX2_hasStretch_6 : decode cX2_hasStretch 6 = .ok (.getfield 28, 3) := by decide +kernel
theorem dX2_hasStretch_9 : decode cX2_hasStretch 9 = .ok (.if_icmp .gt 17, 3) := by decide +kernel
theorem dX2_hasStretch_12 : decode cX2_hasStretch 12 = .ok (.iload_n 1, 1) := by decide +kernel
theorem dX2_hasStretch_13 : decode cX2_hasStretch 13 = .ok (.aload_n 0, 1) := by decide +kernel
theorem dX2_hasStretch_14 : decode cX2_hasStretch 14 = .ok (.getfield 28, 3) := by decide +kernel
theorem dX2_hasStretch_17 : decode cX2_hasStretch 17 = .ok (.iload_n 2, 1) := by decide +kernel
theorem dX2_hasStretch_18 : decode cX2_hasStretch 18 = .ok (.isub, 1) := by decide +kernel
theorem dX2_hasStretch_19 : decode cX2_hasStretch 19 = .ok (.if_icmp .gt 7, 3) := by decide +kernel
theorem dX2_hasStretch_22 : decode cX2_hasStretch 22 = .ok (.iconst 1, 1) := by decide +kernel
theorem dX2_hasStretch_23 : decode cX2_hasStretch 23 = .ok (.goto 4, 3) := by decide +kernel
theorem dX2_hasStretch_26 : decode cX2_hasStretch 26 = .ok (.iconst 0, 1) := by decide +kernel
theorem dX2_hasStretch_27 : decode cX2_hasStretch 27 = .ok (.ireturn, 1) := by decide +kernel
theorem dX2_set_0 : decode cX2_set 0 = .ok (.aload_n 0, 1) := by decide +kernel
theorem dX2_set_1 : decode cX2_set 1 = .ok (.getfield 9, 3) := by decide +kernel
theorem dX2_set_4 : decode cX2_set 4 = .ok (.iload_n 1, 1) := by decide +kernel
theorem dX2_set_5 : decode cX2_set 5 = .ok (.aload_n 0, 1) := by decide +kernel
theorem dX2_set_6 : decode cX2_set 6 = .ok (.getfield 25, 3) := by decide +kernel
theorem dX2_set_9 : decode cX2_set 9 = .ok (.ifCond .ne 8, 3) := by decide +kernel
theorem dX2_set_12 : decode cX2_set 12 = .ok (.iload_n 2, 1) := by decide +kernel
theorem dX2_set_13 : decode cX2_set 13 = .ok (.i2b, 1) := by decide +kernel
theorem dX2_set_14 : decode cX2_set 14 = .ok (.goto 17, 3) := by decide +kernel
theorem dX2_set_17 : decode cX2_set 17 = .ok (.aload_n 0, 1) := by decide +kernel
theorem dX2_set_18 : decode cX2_set 18 = .ok (.getfield 25, 3) := by decide +kernel
theorem dX2_set_21 : decode cX2_set 21 = .ok (.iconst 1, 1) := by decide +kernel
theorem dX2_set_22 : decode cX2_set 22 = .ok (.if_icmp .ne 8, 3) := by decide +kernel
theorem dX2_set_25 : decode cX2_set 25 = .ok (.iload_n 2, 1) := by decide +kernel
theorem dX2_set_26 : decode cX2_set 26 = .ok (.i2s, 1) := by decide +kernel
theorem dX2_set_27 : decode cX2_set 27 = .ok (.goto 4, 3) := by decide +kernel
theorem dX2_set_30 : decode cX2_set 30 = .ok (.iload_n 2, 1) := by decide +kernel
theorem dX2_set_31 : decode cX2_set 31 = .ok (.iastore, 1) := by decide +kernel
theorem dX2_set_32 : decode cX2_set 32 = .ok (.return_, 1) := by decide +kernel
theorem dX2_leastNumber_0 : decode cX2_leastNumber 0 = .ok (.aload_n 0, 1) := by decide +kernel
theorem dX2_leastNumber_1 : decode cX2_leastNumber 1 = .ok (.getfield 25, 3) := by decide +kernel
theorem dX2_leastNumber_4 : decode cX2_leastNumber 4 = .ok (.ifCond .ne 8, 3) := by decide +kernel
theorem dX2_leastNumber_7 : decode cX2_leastNumber 7 = .ok (.bipush (-128), 2) := by decide +kernel
theorem dX2_leastNumber_9 : decode cX2_leastNumber 9 = .ok (.goto 19, 3) := by decide +kernel
theorem dX2_leastNumber_12 : decode cX2_leastNumber 12 = .ok (.aload_n 0, 1) := by decide +kernel
theorem dX2_leastNumber_13 : decode cX2_leastNumber 13 = .ok (.getfield 25, 3) := by decide +kernel
theorem dX2_leastNumber_16 : decode cX2_leastNumber 16 = .ok (.iconst 1, 1) := by decide +kernel
theorem dX2_leastNumber_17 : decode cX2_leastNumber 17 = .ok (.if_icmp .ne 9, 3) := by decide +kernel
theorem dX2_leastNumber_20 : decode cX2_leastNumber 20 = .ok (.sipush (-32768), 3) := by decide +kernel
theorem dX2_leastNumber_23 : decode cX2_leastNumber 23 = .ok (.goto 5, 3) := by decide +kernel
theorem dX2_leastNumber_26 : decode cX2_leastNumber 26 = .ok (.ldc 41, 2) := by decide +kernel
theorem dX2_leastNumber_28 : decode cX2_leastNumber 28 = .ok (.ireturn, 1) := by decide +kernel
theorem dX2_isSkipped_0 : decode cX2_isSkipped 0 = .ok (.aload_n 0, 1) := by decide +kernel
theorem dX2_isSkipped_1 : decode cX2_isSkipped 1 = .ok (.getfield 9, 3) := by decide +kernel
theorem dX2_isSkipped_4 : decode cX2_isSkipped 4 = .ok (.iload_n 1, 1) := by decide +kernel
theorem dX2_isSkipped_5 : decode cX2_isSkipped 5 = .ok (.iaload, 1) := by decide +kernel
theorem dX2_isSkipped_6 : decode cX2_isSkipped 6 = .ok (.aload_n 0, 1) := by decide +kernel
theorem dX2_isSkipped_7 : decode cX2_isSkipped 7 = .ok (.invokevirtual 42, 3) := by decide +kernel
theorem dX2_isSkipped_10 : decode cX2_isSkipped 10 = .ok (.if_icmp .ne 7, 3) := by decide +kernel
theorem dX2_isSkipped_13 : decode cX2_isSkipped 13 = .ok (.iconst 1, 1) := by decide +kernel
theorem dX2_isSkipped_14 : decode cX2_isSkipped 14 = .ok (.goto 4, 3) := by decide +kernel
theorem dX2_isSkipped_17 : decode cX2_isSkipped 17 = .ok (.iconst 0, 1) := by decide +kernel
theorem dX2_isSkipped_18 : decode cX2_isSkipped 18 = .ok (.ireturn, 1) := by decide +kernel
theorem dX2_allows_0 : decode cX2_allows 0 = .ok (.aload_n 0, 1) := by decide +kernel
theorem dX2_allows_1 : decode cX2_allows 1 = .ok (.iload_n 1, 1) := by decide +kernel
theorem dX2_allows_2 : decode cX2_allows 2 = .ok (.invokevirtual 46, 3) := by decide +kernel
theorem dX2_allows_5 : decode cX2_allows 5 = .ok (.ifCond .ne 13, 3) := by decide +kernel
theorem dX2_allows_8 : decode cX2_allows 8 = .ok (.aload_n 0, 1) := by decide +kernel
theorem dX2_allows_9 : decode cX2_allows 9 = .ok (.getfield 9, 3) := by decide +kernel
theorem dX2_allows_12 : decode cX2_allows 12 = .ok (.iload_n 1, 1) := by decide +kernel
theorem dX2_allows_13 : decode cX2_allows 13 = .ok (.iaload, 1) := by decide +kernel
theorem dX2_allows_14 : decode cX2_allows 14 = .ok (.iload_n 2, 1) := by decide +kernel
theorem dX2_allows_15 : decode cX2_allows 15 = .ok (.if_icmp .ne 7, 3) := by decide +kernel
theorem dX2_allows_18 : decode cX2_allows 18 = .ok (.iconst 1, 1) := by decide +kernel
theorem dX2_allows_19 : decode cX2_allows 19 = .ok (.goto 4, 3) := by decide +kernel
theorem dX2_allows_22 : decode cX2_allows 22 = .ok (.iconst 0, 1) := by decide +kernel
theorem dX2_allows_23 : decode cX2_allows 23 = .ok (.ireturn, 1) := by decide +kernel
theorem dX2_behindLastTold_0 : decode cX2_behindLastTold 0 = .ok (.aload_n 0, 1) := by decide +kernel
theorem dX2_behindLastTold_1 : decode cX2_behindLastTold 1 = .ok (.getfield 28, 3) := by decide +kernel
theorem dX2_behindLastTold_4 : decode cX2_behindLastTold 4 = .ok (.istore_n 1, 1) := by decide +kernel
theorem dX2_behindLastTold_5 : decode cX2_behindLastTold 5 = .ok (.iload_n 1, 1) := by decide +kernel
theorem dX2_behindLastTold_6 : decode cX2_behindLastTold 6 = .ok (.ifCond .le 19, 3) := by decide +kernel
theorem dX2_behindLastTold_9 : decode cX2_behindLastTold 9 = .ok (.aload_n 0, 1) := by decide +kernel
theorem dX2_behindLastTold_10 : decode cX2_behindLastTold 10 = .ok (.iload_n 1, 1) := by decide +kernel
theorem dX2_behindLastTold_11 : decode cX2_behindLastTold 11 = .ok (.iconst 1, 1) := by decide +kernel
theorem dX2_behindLastTold_12 : decode cX2_behindLastTold 12 = .ok (.isub, 1) := by decide +kernel
theorem dX2_behindLastTold_13 : decode cX2_behindLastTold 13 = .ok (.invokevirtual 46, 3) := by decide +kernel
theorem dX2_behindLastTold_16 : decode cX2_behindLastTold 16 = .ok (.ifCond .eq 9, 3) := by decide +kernel
theorem dX2_behindLastTold_19 : decode cX2_behindLastTold 19 = .ok (.iinc 1 (-1), 3) := by decide +kernel
theorem dX2_behindLastTold_22 : decode cX2_behindLastTold 22 = .ok (.goto (-17), 3) := by decide +kernel
theorem dX2_behindLastTold_25 : decode cX2_behindLastTold 25 = .ok (.iload_n 1, 1) := by decide +kernel
theorem dX2_behindLastTold_26 : decode cX2_behindLastTold 26 = .ok (.ireturn, 1) := by decide +kernel
theorem dX3_placeOfBadForm_0 : decode cX3_placeOfBadForm 0 = .ok (.iconst 0, 1) := by decide +kernel
theorem dX3_placeOfBadForm_1 : decode cX3_placeOfBadForm 1 = .ok (.istore_n 1, 1) := by decide +kernel
theorem dX3_placeOfBadForm_2 : decode cX3_placeOfBadForm 2 = .ok (.aload_n 0, 1) := by decide +kernel
theorem dX3_placeOfBadForm_3 : decode cX3_placeOfBadForm 3 = .ok (.iload_n 1, 1) := by decide +kernel
theorem dX3_placeOfBadForm_4 : decode cX3_placeOfBadForm 4 = .ok (.invokestatic 9, 3) := by decide +kernel
theorem dX3_placeOfBadForm_7 : decode cX3_placeOfBadForm 7 = .ok (.invokestatic 15, 3) := by decide +kernel
theorem dX3_placeOfBadForm_10 : decode cX3_placeOfBadForm 10 = .ok (.istore_n 2, 1) := by decide +kernel
theorem dX3_placeOfBadForm_11 : decode cX3_placeOfBadForm 11 = .ok (.iload_n 2, 1) := by decide +kernel
theorem dX3_placeOfBadForm_12 : decode cX3_placeOfBadForm 12 = .ok (.ifCond .ge 5, 3) := by decide +kernel
theorem dX3_placeOfBadForm_15 : decode cX3_placeOfBadForm 15 = .ok (.iload_n 1, 1) := by decide +kernel
theorem dX3_placeOfBadForm_16 : decode cX3_placeOfBadForm 16 = .ok (.ireturn, 1) := by decide +kernel
theorem dX3_placeOfBadForm_17 : decode cX3_placeOfBadForm 17 = .ok (.iload_n 1, 1) := by decide +kernel
theorem dX3_placeOfBadForm_18 : decode cX3_placeOfBadForm 18 = .ok (.iload_n 2, 1) := by decide +kernel
theorem dX3_placeOfBadForm_19 : decode cX3_placeOfBadForm 19 = .ok (.iadd, 1) := by decide +kernel
theorem dX3_placeOfBadForm_20 : decode cX3_placeOfBadForm 20 = .ok (.iconst 1, 1) := by decide +kernel
theorem dX3_placeOfBadForm_21 : decode cX3_placeOfBadForm 21 = .ok (.iadd, 1) := by decide +kernel
theorem dX3_placeOfBadForm_22 : decode cX3_placeOfBadForm 22 = .ok (.istore_n 3, 1) := by decide +kernel
theorem dX3_placeOfBadForm_23 : decode cX3_placeOfBadForm 23 = .ok (.iload_n 1, 1) := by decide +kernel
theorem dX3_placeOfBadForm_24 : decode cX3_placeOfBadForm 24 = .ok (.iconst 1, 1) := by decide +kernel
theorem dX3_placeOfBadForm_25 : decode cX3_placeOfBadForm 25 = .ok (.iadd, 1) := by decide +kernel
theorem dX3_placeOfBadForm_26 : decode cX3_placeOfBadForm 26 = .ok (.istore 4, 2) := by decide +kernel
theorem dX3_placeOfBadForm_28 : decode cX3_placeOfBadForm 28 = .ok (.iload 4, 2) := by decide +kernel
theorem dX3_placeOfBadForm_30 : decode cX3_placeOfBadForm 30 = .ok (.iload_n 3, 1) := by decide +kernel
theorem dX3_placeOfBadForm_31 : decode cX3_placeOfBadForm 31 = .ok (.if_icmp .ge 24, 3) := by decide +kernel
theorem dX3_placeOfBadForm_34 : decode cX3_placeOfBadForm 34 = .ok (.aload_n 0, 1) := by decide +kernel
theorem dX3_placeOfBadForm_35 : decode cX3_placeOfBadForm 35 = .ok (.iload 4, 2) := by decide +kernel
theorem dX3_placeOfBadForm_37 : decode cX3_placeOfBadForm 37 = .ok (.invokestatic 9, 3) := by decide +kernel
theorem dX3_placeOfBadForm_40 : decode cX3_placeOfBadForm 40 = .ok (.invokestatic 19, 3) := by decide +kernel
theorem dX3_placeOfBadForm_43 : decode cX3_placeOfBadForm 43 = .ok (.ifCond .ne 6, 3) := by decide +kernel
theorem dX3_placeOfBadForm_46 : decode cX3_placeOfBadForm 46 = .ok (.iload 4, 2) := by decide +kernel
theorem dX3_placeOfBadForm_48 : decode cX3_placeOfBadForm 48 = .ok (.ireturn, 1) := by decide +kernel
theorem dX3_placeOfBadForm_49 : decode cX3_placeOfBadForm 49 = .ok (.iinc 4 1, 3) := by decide +kernel
theorem dX3_placeOfBadForm_52 : decode cX3_placeOfBadForm 52 = .ok (.goto (-24), 3) := by decide +kernel
theorem dX3_placeOfBadForm_55 : decode cX3_placeOfBadForm 55 = .ok (.aload_n 0, 1) := by decide +kernel
theorem dX3_placeOfBadForm_56 : decode cX3_placeOfBadForm 56 = .ok (.iload_n 3, 1) := by decide +kernel
theorem dX3_placeOfBadForm_57 : decode cX3_placeOfBadForm 57 = .ok (.invokestatic 9, 3) := by decide +kernel
theorem dX3_placeOfBadForm_60 : decode cX3_placeOfBadForm 60 = .ok (.bipush 59, 2) := by decide +kernel
theorem dX3_placeOfBadForm_62 : decode cX3_placeOfBadForm 62 = .ok (.if_icmp .eq 5, 3) := by decide +kernel
theorem dX3_placeOfBadForm_65 : decode cX3_placeOfBadForm 65 = .ok (.iload_n 3, 1) := by decide +kernel
theorem dX3_placeOfBadForm_66 : decode cX3_placeOfBadForm 66 = .ok (.ireturn, 1) := by decide +kernel
theorem dX3_placeOfBadForm_67 : decode cX3_placeOfBadForm 67 = .ok (.iload_n 1, 1) := by decide +kernel
theorem dX3_placeOfBadForm_68 : decode cX3_placeOfBadForm 68 = .ok (.iload_n 2, 1) := by decide +kernel
theorem dX3_placeOfBadForm_69 : decode cX3_placeOfBadForm 69 = .ok (.iconst 2, 1) := by decide +kernel
theorem dX3_placeOfBadForm_70 : decode cX3_placeOfBadForm 70 = .ok (.iadd, 1) := by decide +kernel
theorem dX3_placeOfBadForm_71 : decode cX3_placeOfBadForm 71 = .ok (.iadd, 1) := by decide +kernel
theorem dX3_placeOfBadForm_72 : decode cX3_placeOfBadForm 72 = .ok (.istore_n 1, 1) := by decide +kernel
theorem dX3_placeOfBadForm_73 : decode cX3_placeOfBadForm 73 = .ok (.iload_n 1, 1) := by decide +kernel
theorem dX3_placeOfBadForm_74 : decode cX3_placeOfBadForm 74 = .ok (.aload_n 0, 1) := by decide +kernel
theorem dX3_placeOfBadForm_75 : decode cX3_placeOfBadForm 75 = .ok (.getfield 23, 3) := by decide +kernel
theorem dX3_placeOfBadForm_78 : decode cX3_placeOfBadForm 78 = .ok (.if_icmp .lt (-76), 3) := by decide +kernel
theorem dX3_placeOfBadForm_81 : decode cX3_placeOfBadForm 81 = .ok (.iconst (-1), 1) := by decide +kernel
theorem dX3_placeOfBadForm_82 : decode cX3_placeOfBadForm 82 = .ok (.ireturn, 1) := by decide +kernel
theorem dX3_lengthOfStatement_0 : decode cX3_lengthOfStatement 0 = .ok (.iconst 2, 1) := by decide +kernel
theorem dX3_lengthOfStatement_1 : decode cX3_lengthOfStatement 1 = .ok (.iconst 0, 1) := by decide +kernel
theorem dX3_lengthOfStatement_2 : decode cX3_lengthOfStatement 2 = .ok (.aload_n 0, 1) := by decide +kernel
theorem dX3_lengthOfStatement_3 : decode cX3_lengthOfStatement 3 = .ok (.iload_n 1, 1) := by decide +kernel
theorem dX3_lengthOfStatement_4 : decode cX3_lengthOfStatement 4 = .ok (.invokestatic 9, 3) := by decide +kernel
theorem dX3_lengthOfStatement_7 : decode cX3_lengthOfStatement 7 = .ok (.invokestatic 15, 3) := by decide +kernel
theorem dX3_lengthOfStatement_10 : decode cX3_lengthOfStatement 10 = .ok (.invokestatic 29, 3) := by decide +kernel
theorem dX3_lengthOfStatement_13 : decode cX3_lengthOfStatement 13 = .ok (.iadd, 1) := by decide +kernel
theorem dX3_lengthOfStatement_14 : decode cX3_lengthOfStatement 14 = .ok (.ireturn, 1) := by decide +kernel
theorem dX3_isDoneOn_0 : decode cX3_isDoneOn 0 = .ok (.aload_n 1, 1) := by decide +kernel
theorem dX3_isDoneOn_1 : decode cX3_isDoneOn 1 = .ok (.iload_n 2, 1) := by decide +kernel
theorem dX3_isDoneOn_2 : decode cX3_isDoneOn 2 = .ok (.iconst 1, 1) := by decide +kernel
theorem dX3_isDoneOn_3 : decode cX3_isDoneOn 3 = .ok (.iadd, 1) := by decide +kernel
theorem dX3_isDoneOn_4 : decode cX3_isDoneOn 4 = .ok (.invokestatic 35, 3) := by decide +kernel
theorem dX3_isDoneOn_7 : decode cX3_isDoneOn 7 = .ok (.istore_n 3, 1) := by decide +kernel
theorem dX3_isDoneOn_8 : decode cX3_isDoneOn 8 = .ok (.aload_n 1, 1) := by decide +kernel
theorem dX3_isDoneOn_9 : decode cX3_isDoneOn 9 = .ok (.iload_n 2, 1) := by decide +kernel
theorem dX3_isDoneOn_10 : decode cX3_isDoneOn 10 = .ok (.invokestatic 9, 3) := by decide +kernel
theorem dX3_isDoneOn_13 : decode cX3_isDoneOn 13 = .ok (.lookupswitch 109 #[(99, 59), (101, 89), (102, 103), (103, 67), (114, 97), (119, 82)], 59) := by decide +kernel
theorem dX3_isDoneOn_72 : decode cX3_isDoneOn 72 = .ok (.aload_n 0, 1) := by decide +kernel
theorem dX3_isDoneOn_73 : decode cX3_isDoneOn 73 = .ok (.iload_n 3, 1) := by decide +kernel
theorem dX3_isDoneOn_74 : decode cX3_isDoneOn 74 = .ok (.aload_n 1, 1) := by decide +kernel
theorem dX3_isDoneOn_75 : decode cX3_isDoneOn 75 = .ok (.iload_n 2, 1) := by decide +kernel
theorem dX3_isDoneOn_76 : decode cX3_isDoneOn 76 = .ok (.invokestatic 38, 3) := by decide +kernel
theorem dX3_isDoneOn_79 : decode cX3_isDoneOn 79 = .ok (.ireturn, 1) := by decide +kernel
theorem dX3_isDoneOn_80 : decode cX3_isDoneOn 80 = .ok (.aload_n 0, 1) := by decide +kernel
theorem dX3_isDoneOn_81 : decode cX3_isDoneOn 81 = .ok (.iload_n 3, 1) := by decide +kernel
theorem dX3_isDoneOn_82 : decode cX3_isDoneOn 82 = .ok (.aload_n 1, 1) := by decide +kernel
theorem dX3_isDoneOn_83 : decode cX3_isDoneOn 83 = .ok (.iload_n 2, 1) := by decide +kernel
theorem dX3_isDoneOn_84 : decode cX3_isDoneOn 84 = .ok (.iconst 2, 1) := by decide +kernel
theorem dX3_isDoneOn_85 : decode cX3_isDoneOn 85 = .ok (.iadd, 1) := by decide +kernel
theorem dX3_isDoneOn_86 : decode cX3_isDoneOn 86 = .ok (.iconst 3, 1) := by decide +kernel
theorem dX3_isDoneOn_87 : decode cX3_isDoneOn 87 = .ok (.invokestatic 42, 3) := by decide +kernel
theorem dX3_isDoneOn_90 : decode cX3_isDoneOn 90 = .ok (.invokevirtual 46, 3) := by decide +kernel
theorem dX3_isDoneOn_93 : decode cX3_isDoneOn 93 = .ok (.iconst 1, 1) := by decide +kernel
theorem dX3_isDoneOn_94 : decode cX3_isDoneOn 94 = .ok (.ireturn, 1) := by decide +kernel
theorem dX3_isDoneOn_95 : decode cX3_isDoneOn 95 = .ok (.aload_n 0, 1) := by decide +kernel
theorem dX3_isDoneOn_96 : decode cX3_isDoneOn 96 = .ok (.iload_n 3, 1) := by decide +kernel
theorem dX3_isDoneOn_97 : decode cX3_isDoneOn 97 = .ok (.putfield 52, 3) := by decide +kernel
theorem dX3_isDoneOn_100 : decode cX3_isDoneOn 100 = .ok (.iconst 1, 1) := by decide +kernel
theorem dX3_isDoneOn_101 : decode cX3_isDoneOn 101 = .ok (.ireturn, 1) := by decide +kernel
theorem dX3_isDoneOn_102 : decode cX3_isDoneOn 102 = .ok (.aload_n 0, 1) := by decide +kernel
theorem dX3_isDoneOn_103 : decode cX3_isDoneOn 103 = .ok (.iload_n 3, 1) := by decide +kernel
theorem dX3_isDoneOn_104 : decode cX3_isDoneOn 104 = .ok (.ineg, 1) := by decide +kernel
theorem dX3_isDoneOn_105 : decode cX3_isDoneOn 105 = .ok (.putfield 52, 3) := by decide +kernel
theorem dX3_isDoneOn_108 : decode cX3_isDoneOn 108 = .ok (.iconst 1, 1) := by decide +kernel
theorem dX3_isDoneOn_109 : decode cX3_isDoneOn 109 = .ok (.ireturn, 1) := by decide +kernel
theorem dX3_isDoneOn_110 : decode cX3_isDoneOn 110 = .ok (.aload_n 0, 1) := by decide +kernel
theorem dX3_isDoneOn_111 : decode cX3_isDoneOn 111 = .ok (.iload_n 3, 1) := by decide +kernel
theorem dX3_isDoneOn_112 : decode cX3_isDoneOn 112 = .ok (.invokestatic 55, 3) := by decide +kernel
theorem dX3_isDoneOn_115 : decode cX3_isDoneOn 115 = .ok (.ireturn, 1) := by decide +kernel
theorem dX3_isDoneOn_116 : decode cX3_isDoneOn 116 = .ok (.aload_n 0, 1) := by decide +kernel
theorem dX3_isDoneOn_117 : decode cX3_isDoneOn 117 = .ok (.invokevirtual 59, 3) := by decide +kernel
theorem dX3_isDoneOn_120 : decode cX3_isDoneOn 120 = .ok (.iconst 1, 1) := by decide +kernel
theorem dX3_isDoneOn_121 : decode cX3_isDoneOn 121 = .ok (.ireturn, 1) := by decide +kernel
theorem dX3_isDoneOn_122 : decode cX3_isDoneOn 122 = .ok (.aload_n 0, 1) := by decide +kernel
theorem dX3_isDoneOn_123 : decode cX3_isDoneOn 123 = .ok (.aload_n 1, 1) := by decide +kernel
theorem dX3_isDoneOn_124 : decode cX3_isDoneOn 124 = .ok (.iload_n 2, 1) := by decide +kernel
theorem dX3_isDoneOn_125 : decode cX3_isDoneOn 125 = .ok (.iconst 1, 1) := by decide +kernel
theorem dX3_isDoneOn_126 : decode cX3_isDoneOn 126 = .ok (.iadd, 1) := by decide +kernel
theorem dX3_isDoneOn_127 : decode cX3_isDoneOn 127 = .ok (.iconst 2, 1) := by decide +kernel
theorem dX3_isDoneOn_128 : decode cX3_isDoneOn 128 = .ok (.invokestatic 42, 3) := by decide +kernel
theorem dX3_isDoneOn_131 : decode cX3_isDoneOn 131 = .ok (.invokestatic 62, 3) := by decide +kernel
theorem dX3_isDoneOn_134 : decode cX3_isDoneOn 134 = .ok (.ireturn, 1) := by decide +kernel
theorem dX3_comesOn_0 : decode cX3_comesOn 0 = .ok (.aload_n 2, 1) := by decide +kernel
theorem dX3_comesOn_1 : decode cX3_comesOn 1 = .ok (.iload_n 3, 1) := by decide +kernel
theorem dX3_comesOn_2 : decode cX3_comesOn 2 = .ok (.iconst 4, 1) := by decide +kernel
theorem dX3_comesOn_3 : decode cX3_comesOn 3 = .ok (.iadd, 1) := by decide +kernel
theorem dX3_comesOn_4 : decode cX3_comesOn 4 = .ok (.invokestatic 35, 3) := by decide +kernel
theorem dX3_comesOn_7 : decode cX3_comesOn 7 = .ok (.istore 4, 2) := by decide +kernel
theorem dX3_comesOn_9 : decode cX3_comesOn 9 = .ok (.iload_n 1, 1) := by decide +kernel
theorem dX3_comesOn_10 : decode cX3_comesOn 10 = .ok (.bipush 8, 2) := by decide +kernel
theorem dX3_comesOn_12 : decode cX3_comesOn 12 = .ok (.if_icmp .ge 16, 3) := by decide +kernel
theorem dX3_comesOn_15 : decode cX3_comesOn 15 = .ok (.iload 4, 2) := by decide +kernel
theorem dX3_comesOn_17 : decode cX3_comesOn 17 = .ok (.iconst 1, 1) := by decide +kernel
theorem dX3_comesOn_18 : decode cX3_comesOn 18 = .ok (.if_icmp .gt 10, 3) := by decide +kernel
theorem dX3_comesOn_21 : decode cX3_comesOn 21 = .ok (.aload_n 0, 1) := by decide +kernel
theorem dX3_comesOn_22 : decode cX3_comesOn 22 = .ok (.invokevirtual 65, 3) := by decide +kernel
theorem dX3_comesOn_25 : decode cX3_comesOn 25 = .ok (.ifCond .ne 5, 3) := by decide +kernel
theorem dX3_comesOn_28 : decode cX3_comesOn 28 = .ok (.iconst 0, 1) := by decide +kernel
theorem dX3_comesOn_29 : decode cX3_comesOn 29 = .ok (.ireturn, 1) := by decide +kernel
theorem dX3_comesOn_30 : decode cX3_comesOn 30 = .ok (.aload_n 0, 1) := by decide +kernel
theorem dX3_comesOn_31 : decode cX3_comesOn 31 = .ok (.iload_n 1, 1) := by decide +kernel
theorem dX3_comesOn_32 : decode cX3_comesOn 32 = .ok (.aload_n 2, 1) := by decide +kernel
theorem dX3_comesOn_33 : decode cX3_comesOn 33 = .ok (.iload_n 3, 1) := by decide +kernel
theorem dX3_comesOn_34 : decode cX3_comesOn 34 = .ok (.iconst 2, 1) := by decide +kernel
theorem dX3_comesOn_35 : decode cX3_comesOn 35 = .ok (.iadd, 1) := by decide +kernel
theorem dX3_comesOn_36 : decode cX3_comesOn 36 = .ok (.invokestatic 35, 3) := by decide +kernel
theorem dX3_comesOn_39 : decode cX3_comesOn 39 = .ok (.aload_n 2, 1) := by decide +kernel
theorem dX3_comesOn_40 : decode cX3_comesOn 40 = .ok (.iload_n 3, 1) := by decide +kernel
theorem dX3_comesOn_41 : decode cX3_comesOn 41 = .ok (.iconst 3, 1) := by decide +kernel
theorem dX3_comesOn_42 : decode cX3_comesOn 42 = .ok (.iadd, 1) := by decide +kernel
theorem dX3_comesOn_43 : decode cX3_comesOn 43 = .ok (.invokestatic 35, 3) := by decide +kernel
theorem dX3_comesOn_46 : decode cX3_comesOn 46 = .ok (.iload 4, 2) := by decide +kernel
theorem dX3_comesOn_48 : decode cX3_comesOn 48 = .ok (.invokevirtual 69, 3) := by decide +kernel
theorem dX3_comesOn_51 : decode cX3_comesOn 51 = .ok (.iconst 1, 1) := by decide +kernel
theorem dX3_comesOn_52 : decode cX3_comesOn 52 = .ok (.ireturn, 1) := by decide +kernel
theorem dX3_restsOn_0 : decode cX3_restsOn 0 = .ok (.iload_n 1, 1) := by decide +kernel
theorem dX3_restsOn_1 : decode cX3_restsOn 1 = .ok (.aload_n 0, 1) := by decide +kernel
theorem dX3_restsOn_2 : decode cX3_restsOn 2 = .ok (.getfield 73, 3) := by decide +kernel
theorem dX3_restsOn_5 : decode cX3_restsOn 5 = .ok (.if_icmp .lt 5, 3) := by decide +kernel
theorem dX3_restsOn_8 : decode cX3_restsOn 8 = .ok (.iconst 0, 1) := by decide +kernel
theorem dX3_restsOn_9 : decode cX3_restsOn 9 = .ok (.ireturn, 1) := by decide +kernel
theorem dX3_restsOn_10 : decode cX3_restsOn 10 = .ok (.aload_n 0, 1) := by decide +kernel
theorem dX3_restsOn_11 : decode cX3_restsOn 11 = .ok (.iload_n 1, 1) := by decide +kernel
theorem dX3_restsOn_12 : decode cX3_restsOn 12 = .ok (.invokevirtual 76, 3) := by decide +kernel
theorem dX3_restsOn_15 : decode cX3_restsOn 15 = .ok (.iconst 1, 1) := by decide +kernel
theorem dX3_restsOn_16 : decode cX3_restsOn 16 = .ok (.ireturn, 1) := by decide +kernel
theorem dX3_daysPassOn_0 : decode cX3_daysPassOn 0 = .ok (.iload_n 1, 1) := by decide +kernel
theorem dX3_daysPassOn_1 : decode cX3_daysPassOn 1 = .ok (.iconst 1, 1) := by decide +kernel
theorem dX3_daysPassOn_2 : decode cX3_daysPassOn 2 = .ok (.bipush 60, 2) := by decide +kernel
theorem dX3_daysPassOn_4 : decode cX3_daysPassOn 4 = .ok (.invokestatic 80, 3) := by decide +kernel
theorem dX3_daysPassOn_7 : decode cX3_daysPassOn 7 = .ok (.ifCond .eq 15, 3) := by decide +kernel
theorem dX3_daysPassOn_10 : decode cX3_daysPassOn 10 = .ok (.aload_n 0, 1) := by decide +kernel
theorem dX3_daysPassOn_11 : decode cX3_daysPassOn 11 = .ok (.getfield 84, 3) := by decide +kernel
theorem dX3_daysPassOn_14 : decode cX3_daysPassOn 14 = .ok (.iload_n 1, 1) := by decide +kernel
theorem dX3_daysPassOn_15 : decode cX3_daysPassOn 15 = .ok (.iadd, 1) := by decide +kernel
theorem dX3_daysPassOn_16 : decode cX3_daysPassOn 16 = .ok (.sipush 999, 3) := by decide +kernel
theorem dX3_daysPassOn_19 : decode cX3_daysPassOn 19 = .ok (.if_icmp .le 5, 3) := by decide +kernel
theorem dX3_daysPassOn_22 : decode cX3_daysPassOn 22 = .ok (.iconst 0, 1) := by decide +kernel
theorem dX3_daysPassOn_23 : decode cX3_daysPassOn 23 = .ok (.ireturn, 1) := by decide +kernel
theorem dX3_daysPassOn_24 : decode cX3_daysPassOn 24 = .ok (.aload_n 0, 1) := by decide +kernel
theorem dX3_daysPassOn_25 : decode cX3_daysPassOn 25 = .ok (.iload_n 1, 1) := by decide +kernel
theorem dX3_daysPassOn_26 : decode cX3_daysPassOn 26 = .ok (.invokevirtual 87, 3) := by decide +kernel
theorem dX3_daysPassOn_29 : decode cX3_daysPassOn 29 = .ok (.iconst 1, 1) := by decide +kernel
theorem dX3_daysPassOn_30 : decode cX3_daysPassOn 30 = .ok (.ireturn, 1) := by decide +kernel
theorem dX3_digitsBehind_0 : decode cX3_digitsBehind 0 = .ok (.iload_n 0, 1) := by decide +kernel
theorem dX3_digitsBehind_1 : decode cX3_digitsBehind 1 = .ok (.tableswitch 107 99 119 #[99, 101, 103, 105, 99, 107, 107, 107, 107, 107, 107, 107, 107, 107, 107, 103, 107, 107, 107, 107, 103], 99) := by decide +kernel
theorem dX3_digitsBehind_100 : decode cX3_digitsBehind 100 = .ok (.iconst 4, 1) := by decide +kernel
theorem dX3_digitsBehind_101 : decode cX3_digitsBehind 101 = .ok (.ireturn, 1) := by decide +kernel
theorem dX3_digitsBehind_102 : decode cX3_digitsBehind 102 = .ok (.iconst 2, 1) := by decide +kernel
theorem dX3_digitsBehind_103 : decode cX3_digitsBehind 103 = .ok (.ireturn, 1) := by decide +kernel
theorem dX3_digitsBehind_104 : decode cX3_digitsBehind 104 = .ok (.iconst 1, 1) := by decide +kernel
theorem dX3_digitsBehind_105 : decode cX3_digitsBehind 105 = .ok (.ireturn, 1) := by decide +kernel
theorem dX3_digitsBehind_106 : decode cX3_digitsBehind 106 = .ok (.iconst 0, 1) := by decide +kernel
theorem dX3_digitsBehind_107 : decode cX3_digitsBehind 107 = .ok (.ireturn, 1) := by decide +kernel
theorem dX3_digitsBehind_108 : decode cX3_digitsBehind 108 = .ok (.iconst (-1), 1) := by decide +kernel
theorem dX3_digitsBehind_109 : decode cX3_digitsBehind 109 = .ok (.ireturn, 1) := by decide +kernel
theorem dX3_isDigit_0 : decode cX3_isDigit 0 = .ok (.iload_n 0, 1) := by decide +kernel
theorem dX3_isDigit_1 : decode cX3_isDigit 1 = .ok (.bipush 48, 2) := by decide +kernel
theorem dX3_isDigit_3 : decode cX3_isDigit 3 = .ok (.bipush 57, 2) := by decide +kernel
theorem dX3_isDigit_5 : decode cX3_isDigit 5 = .ok (.invokestatic 80, 3) := by decide +kernel
theorem dX3_isDigit_8 : decode cX3_isDigit 8 = .ok (.ireturn, 1) := by decide +kernel
theorem dX3_byteAt_0 : decode cX3_byteAt 0 = .ok (.aload_n 0, 1) := by decide +kernel
theorem dX3_byteAt_1 : decode cX3_byteAt 1 = .ok (.iload_n 1, 1) := by decide +kernel
theorem dX3_byteAt_2 : decode cX3_byteAt 2 = .ok (.invokevirtual 90, 3) := by decide +kernel
theorem dX3_byteAt_5 : decode cX3_byteAt 5 = .ok (.ifCond .eq 12, 3) := by decide +kernel
theorem dX3_byteAt_8 : decode cX3_byteAt 8 = .ok (.aload_n 0, 1) := by decide +kernel
theorem dX3_byteAt_9 : decode cX3_byteAt 9 = .ok (.getfield 93, 3) := by decide +kernel
theorem dX3_byteAt_12 : decode cX3_byteAt 12 = .ok (.iload_n 1, 1) := by decide +kernel
theorem dX3_byteAt_13 : decode cX3_byteAt 13 = .ok (.iaload, 1) := by decide +kernel
theorem dX3_byteAt_14 : decode cX3_byteAt 14 = .ok (.goto 4, 3) := by decide +kernel
theorem dX3_byteAt_17 : decode cX3_byteAt 17 = .ok (.iconst (-1), 1) := by decide +kernel
theorem dX3_byteAt_18 : decode cX3_byteAt 18 = .ok (.ireturn, 1) := by decide +kernel
theorem dX3_digitAt_0 : decode cX3_digitAt 0 = .ok (.aload_n 0, 1) := by decide +kernel
theorem dX3_digitAt_1 : decode cX3_digitAt 1 = .ok (.iload_n 1, 1) := by decide +kernel
theorem dX3_digitAt_2 : decode cX3_digitAt 2 = .ok (.invokestatic 9, 3) := by decide +kernel
theorem dX3_digitAt_5 : decode cX3_digitAt 5 = .ok (.istore_n 2, 1) := by decide +kernel
theorem dX3_digitAt_6 : decode cX3_digitAt 6 = .ok (.iload_n 2, 1) := by decide +kernel
theorem dX3_digitAt_7 : decode cX3_digitAt 7 = .ok (.invokestatic 19, 3) := by decide +kernel
theorem dX3_digitAt_10 : decode cX3_digitAt 10 = .ok (.ifCond .eq 10, 3) := by decide +kernel
theorem dX3_digitAt_13 : decode cX3_digitAt 13 = .ok (.iload_n 2, 1) := by decide +kernel
theorem dX3_digitAt_14 : decode cX3_digitAt 14 = .ok (.bipush 48, 2) := by decide +kernel
theorem dX3_digitAt_16 : decode cX3_digitAt 16 = .ok (.isub, 1) := by decide +kernel
theorem dX3_digitAt_17 : decode cX3_digitAt 17 = .ok (.goto 4, 3) := by decide +kernel
theorem dX3_digitAt_20 : decode cX3_digitAt 20 = .ok (.iconst 0, 1) := by decide +kernel
theorem dX3_digitAt_21 : decode cX3_digitAt 21 = .ok (.ireturn, 1) := by decide +kernel
theorem dX3_numberAt_0 : decode cX3_numberAt 0 = .ok (.iconst 0, 1) := by decide +kernel
theorem dX3_numberAt_1 : decode cX3_numberAt 1 = .ok (.istore_n 3, 1) := by decide +kernel
theorem dX3_numberAt_2 : decode cX3_numberAt 2 = .ok (.iconst 0, 1) := by decide +kernel
theorem dX3_numberAt_3 : decode cX3_numberAt 3 = .ok (.istore 4, 2) := by decide +kernel
theorem dX3_numberAt_5 : decode cX3_numberAt 5 = .ok (.iload 4, 2) := by decide +kernel
theorem dX3_numberAt_7 : decode cX3_numberAt 7 = .ok (.iload_n 2, 1) := by decide +kernel
theorem dX3_numberAt_8 : decode cX3_numberAt 8 = .ok (.if_icmp .ge 23, 3) := by decide +kernel
theorem dX3_numberAt_11 : decode cX3_numberAt 11 = .ok (.bipush 10, 2) := by decide +kernel
theorem dX3_numberAt_13 : decode cX3_numberAt 13 = .ok (.iload_n 3, 1) := by decide +kernel
theorem dX3_numberAt_14 : decode cX3_numberAt 14 = .ok (.imul, 1) := by decide +kernel
theorem dX3_numberAt_15 : decode cX3_numberAt 15 = .ok (.aload_n 0, 1) := by decide +kernel
theorem dX3_numberAt_16 : decode cX3_numberAt 16 = .ok (.iload_n 1, 1) := by decide +kernel
theorem dX3_numberAt_17 : decode cX3_numberAt 17 = .ok (.iload 4, 2) := by decide +kernel
theorem dX3_numberAt_19 : decode cX3_numberAt 19 = .ok (.iadd, 1) := by decide +kernel
theorem dX3_numberAt_20 : decode cX3_numberAt 20 = .ok (.invokestatic 35, 3) := by decide +kernel
theorem dX3_numberAt_23 : decode cX3_numberAt 23 = .ok (.iadd, 1) := by decide +kernel
theorem dX3_numberAt_24 : decode cX3_numberAt 24 = .ok (.istore_n 3, 1) := by decide +kernel
theorem dX3_numberAt_25 : decode cX3_numberAt 25 = .ok (.iinc 4 1, 3) := by decide +kernel
theorem dX3_numberAt_28 : decode cX3_numberAt 28 = .ok (.goto (-23), 3) := by decide +kernel
theorem dX3_numberAt_31 : decode cX3_numberAt 31 = .ok (.iload_n 3, 1) := by decide +kernel
theorem dX3_numberAt_32 : decode cX3_numberAt 32 = .ok (.ireturn, 1) := by decide +kernel
theorem dX4_init_0 : decode cX4_init 0 = .ok (.aload_n 0, 1) := by decide +kernel
theorem dX4_init_1 : decode cX4_init 1 = .ok (.invokespecial 3, 3) := by decide +kernel
theorem dX4_init_4 : decode cX4_init 4 = .ok (.aload_n 0, 1) := by decide +kernel
theorem dX4_init_5 : decode cX4_init 5 = .ok (.new 9, 3) := by decide +kernel
theorem dX4_init_8 : decode cX4_init 8 = .ok (.dup, 1) := by decide +kernel
theorem dX4_init_9 : decode cX4_init 9 = .ok (.invokespecial 11, 3) := by decide +kernel
theorem dX4_init_12 : decode cX4_init 12 = .ok (.putfield 12, 3) := by decide +kernel
theorem dX4_init_15 : decode cX4_init 15 = .ok (.aload_n 0, 1) := by decide +kernel
theorem dX4_init_16 : decode cX4_init 16 = .ok (.new 9, 3) := by decide +kernel
theorem dX4_init_19 : decode cX4_init 19 = .ok (.dup, 1) := by decide +kernel
theorem dX4_init_20 : decode cX4_init 20 = .ok (.invokespecial 11, 3) := by decide +kernel
theorem dX4_init_23 : decode cX4_init 23 = .ok (.putfield 16, 3) := by decide +kernel
theorem dX4_init_26 : decode cX4_init 26 = .ok (.aload_n 0, 1) := by decide +kernel
theorem dX4_init_27 : decode cX4_init 27 = .ok (.new 9, 3) := by decide +kernel
theorem dX4_init_30 : decode cX4_init 30 = .ok (.dup, 1) := by decide +kernel
theorem dX4_init_31 : decode cX4_init 31 = .ok (.invokespecial 11, 3) := by decide +kernel
theorem dX4_init_34 : decode cX4_init 34 = .ok (.putfield 19, 3) := by decide +kernel
theorem dX4_init_37 : decode cX4_init 37 = .ok (.aload_n 0, 1) := by decide +kernel
theorem dX4_init_38 : decode cX4_init 38 = .ok (.iconst 0, 1) := by decide +kernel
theorem dX4_init_39 : decode cX4_init 39 = .ok (.putfield 22, 3) := by decide +kernel
theorem dX4_init_42 : decode cX4_init 42 = .ok (.aload_n 0, 1) := by decide +kernel
theorem dX4_init_43 : decode cX4_init 43 = .ok (.bipush 8, 2) := by decide +kernel
theorem dX4_init_45 : decode cX4_init 45 = .ok (.anewarray 26, 3) := by decide +kernel
theorem dX4_init_48 : decode cX4_init 48 = .ok (.putfield 28, 3) := by decide +kernel
theorem dX4_init_51 : decode cX4_init 51 = .ok (.aload_n 0, 1) := by decide +kernel
theorem dX4_init_52 : decode cX4_init 52 = .ok (.iconst 4, 1) := by decide +kernel
theorem dX4_init_53 : decode cX4_init 53 = .ok (.newarray .int, 2) := by decide +kernel
theorem dX4_init_55 : decode cX4_init 55 = .ok (.putfield 32, 3) := by decide +kernel
theorem dX4_init_58 : decode cX4_init 58 = .ok (.aload_n 0, 1) := by decide +kernel
theorem dX4_init_59 : decode cX4_init 59 = .ok (.iconst 4, 1) := by decide +kernel
theorem dX4_init_60 : decode cX4_init 60 = .ok (.newarray .int, 2) := by decide +kernel
theorem dX4_init_62 : decode cX4_init 62 = .ok (.putfield 36, 3) := by decide +kernel
theorem dX4_init_65 : decode cX4_init 65 = .ok (.iconst 0, 1) := by decide +kernel
theorem dX4_init_66 : decode cX4_init 66 = .ok (.istore_n 1, 1) := by decide +kernel
theorem dX4_init_67 : decode cX4_init 67 = .ok (.iload_n 1, 1) := by decide +kernel
theorem dX4_init_68 : decode cX4_init 68 = .ok (.bipush 8, 2) := by decide +kernel
theorem dX4_init_70 : decode cX4_init 70 = .ok (.if_icmp .ge 22, 3) := by decide +kernel
theorem dX4_init_73 : decode cX4_init 73 = .ok (.aload_n 0, 1) := by decide +kernel
theorem dX4_init_74 : decode cX4_init 74 = .ok (.getfield 28, 3) := by decide +kernel
theorem dX4_init_77 : decode cX4_init 77 = .ok (.iload_n 1, 1) := by decide +kernel
theorem dX4_init_78 : decode cX4_init 78 = .ok (.new 26, 3) := by decide +kernel
theorem dX4_init_81 : decode cX4_init 81 = .ok (.dup, 1) := by decide +kernel
theorem dX4_init_82 : decode cX4_init 82 = .ok (.invokespecial 39, 3) := by decide +kernel
theorem dX4_init_85 : decode cX4_init 85 = .ok (.aastore, 1) := by decide +kernel
theorem dX4_init_86 : decode cX4_init 86 = .ok (.iinc 1 1, 3) := by decide +kernel
theorem dX4_init_89 : decode cX4_init 89 = .ok (.goto (-22), 3) := by decide +kernel
theorem dX4_init_92 : decode cX4_init 92 = .ok (.return_, 1) := by decide +kernel
theorem dX4_desert_0 : decode cX4_desert 0 = .ok (.aload_n 0, 1) := by decide +kernel
theorem dX4_desert_1 : decode cX4_desert 1 = .ok (.iload_n 1, 1) := by decide +kernel
theorem dX4_desert_2 : decode cX4_desert 2 = .ok (.invokevirtual 40, 3) := by decide +kernel
theorem dX4_desert_5 : decode cX4_desert 5 = .ok (.astore_n 2, 1) := by decide +kernel
theorem dX4_desert_6 : decode cX4_desert 6 = .ok (.aload_n 2, 1) := by decide +kernel
theorem dX4_desert_7 : decode cX4_desert 7 = .ok (.ifnonnull 5, 3) := by decide +kernel
theorem dX4_desert_10 : decode cX4_desert 10 = .ok (.iconst (-1), 1) := by decide +kernel
theorem dX4_desert_11 : decode cX4_desert 11 = .ok (.ireturn, 1) := by decide +kernel
theorem dX4_desert_12 : decode cX4_desert 12 = .ok (.aload_n 2, 1) := by decide +kernel
theorem dX4_desert_13 : decode cX4_desert 13 = .ok (.getfield 44, 3) := by decide +kernel
theorem dX4_desert_16 : decode cX4_desert 16 = .ok (.ifCond .ne 6, 3) := by decide +kernel
theorem dX4_desert_19 : decode cX4_desert 19 = .ok (.bipush (-11), 2) := by decide +kernel
theorem dX4_desert_21 : decode cX4_desert 21 = .ok (.ireturn, 1) := by decide +kernel
theorem dX4_desert_22 : decode cX4_desert 22 = .ok (.aload_n 2, 1) := by decide +kernel
theorem dX4_desert_23 : decode cX4_desert 23 = .ok (.getfield 44, 3) := by decide +kernel
theorem dX4_desert_26 : decode cX4_desert 26 = .ok (.iconst 2, 1) := by decide +kernel
theorem dX4_desert_27 : decode cX4_desert 27 = .ok (.if_icmp .ne 10, 3) := by decide +kernel
theorem dX4_desert_30 : decode cX4_desert 30 = .ok (.aload_n 2, 1) := by decide +kernel
theorem dX4_desert_31 : decode cX4_desert 31 = .ok (.getfield 48, 3) := by decide +kernel
theorem dX4_desert_34 : decode cX4_desert 34 = .ok (.ifCond .eq 6, 3) := by decide +kernel
theorem dX4_desert_37 : decode cX4_desert 37 = .ok (.bipush (-12), 2) := by decide +kernel
theorem dX4_desert_39 : decode cX4_desert 39 = .ok (.ireturn, 1) := by decide +kernel
theorem dX4_desert_40 : decode cX4_desert 40 = .ok (.aload_n 2, 1) := by decide +kernel
theorem dX4_desert_41 : decode cX4_desert 41 = .ok (.invokestatic 51, 3) := by decide +kernel
theorem dX4_desert_44 : decode cX4_desert 44 = .ok (.istore_n 3, 1) := by decide +kernel
theorem dX4_desert_45 : decode cX4_desert 45 = .ok (.iload_n 3, 1) := by decide +kernel
theorem dX4_desert_46 : decode cX4_desert 46 = .ok (.ifCond .lt 9, 3) := by decide +kernel
theorem dX4_desert_49 : decode cX4_desert 49 = .ok (.sipush (-1000), 3) := by decide +kernel
theorem dX4_desert_52 : decode cX4_desert 52 = .ok (.iload_n 3, 1) := by decide +kernel
theorem dX4_desert_53 : decode cX4_desert 53 = .ok (.isub, 1) := by decide +kernel
theorem dX4_desert_54 : decode cX4_desert 54 = .ok (.ireturn, 1) := by decide +kernel
theorem dX4_desert_55 : decode cX4_desert 55 = .ok (.aload_n 0, 1) := by decide +kernel
theorem dX4_desert_56 : decode cX4_desert 56 = .ok (.getfield 16, 3) := by decide +kernel
theorem dX4_desert_59 : decode cX4_desert 59 = .ok (.aload_n 0, 1) := by decide +kernel
theorem dX4_desert_60 : decode cX4_desert 60 = .ok (.getfield 12, 3) := by decide +kernel
theorem dX4_desert_63 : decode cX4_desert 63 = .ok (.invokevirtual 57, 3) := by decide +kernel
theorem dX4_desert_66 : decode cX4_desert 66 = .ok (.iconst 0, 1) := by decide +kernel
theorem dX4_desert_67 : decode cX4_desert 67 = .ok (.istore 4, 2) := by decide +kernel
theorem dX4_desert_69 : decode cX4_desert 69 = .ok (.iconst 0, 1) := by decide +kernel
theorem dX4_desert_70 : decode cX4_desert 70 = .ok (.istore 5, 2) := by decide +kernel
theorem dX4_desert_72 : decode cX4_desert 72 = .ok (.iload 5, 2) := by decide +kernel
theorem dX4_desert_74 : decode cX4_desert 74 = .ok (.aload_n 2, 1) := by decide +kernel
theorem dX4_desert_75 : decode cX4_desert 75 = .ok (.getfield 61, 3) := by decide +kernel
theorem dX4_desert_78 : decode cX4_desert 78 = .ok (.if_icmp .ge 40, 3) := by decide +kernel
theorem dX4_desert_81 : decode cX4_desert 81 = .ok (.aload_n 0, 1) := by decide +kernel
theorem dX4_desert_82 : decode cX4_desert 82 = .ok (.getfield 16, 3) := by decide +kernel
theorem dX4_desert_85 : decode cX4_desert 85 = .ok (.aload_n 2, 1) := by decide +kernel
theorem dX4_desert_86 : decode cX4_desert 86 = .ok (.iload 5, 2) := by decide +kernel
theorem dX4_desert_88 : decode cX4_desert 88 = .ok (.invokestatic 64, 3) := by decide +kernel
theorem dX4_desert_91 : decode cX4_desert 91 = .ok (.ifCond .ne 10, 3) := by decide +kernel
theorem dX4_desert_94 : decode cX4_desert 94 = .ok (.sipush (-2000), 3) := by decide +kernel
theorem dX4_desert_97 : decode cX4_desert 97 = .ok (.iload 5, 2) := by decide +kernel
theorem dX4_desert_99 : decode cX4_desert 99 = .ok (.isub, 1) := by decide +kernel
theorem dX4_desert_100 : decode cX4_desert 100 = .ok (.ireturn, 1) := by decide +kernel
theorem dX4_desert_101 : decode cX4_desert 101 = .ok (.iinc 4 1, 3) := by decide +kernel
theorem dX4_desert_104 : decode cX4_desert 104 = .ok (.iload 5, 2) := by decide +kernel
theorem dX4_desert_106 : decode cX4_desert 106 = .ok (.aload_n 2, 1) := by decide +kernel
theorem dX4_desert_107 : decode cX4_desert 107 = .ok (.iload 5, 2) := by decide +kernel
theorem dX4_desert_109 : decode cX4_desert 109 = .ok (.invokestatic 68, 3) := by decide +kernel
theorem dX4_desert_112 : decode cX4_desert 112 = .ok (.iadd, 1) := by decide +kernel
theorem dX4_desert_113 : decode cX4_desert 113 = .ok (.istore 5, 2) := by decide +kernel
theorem dX4_desert_115 : decode cX4_desert 115 = .ok (.goto (-43), 3) := by decide +kernel
theorem dX4_desert_118 : decode cX4_desert 118 = .ok (.aload_n 0, 1) := by decide +kernel
theorem dX4_desert_119 : decode cX4_desert 119 = .ok (.getfield 12, 3) := by decide +kernel
theorem dX4_desert_122 : decode cX4_desert 122 = .ok (.aload_n 0, 1) := by decide +kernel
theorem dX4_desert_123 : decode cX4_desert 123 = .ok (.getfield 16, 3) := by decide +kernel
theorem dX4_desert_126 : decode cX4_desert 126 = .ok (.invokevirtual 57, 3) := by decide +kernel
theorem dX4_desert_129 : decode cX4_desert 129 = .ok (.iload 4, 2) := by decide +kernel
theorem dX4_desert_131 : decode cX4_desert 131 = .ok (.ireturn, 1) := by decide +kernel
theorem dX4_corporal_0 : decode cX4_corporal 0 = .ok (.aload_n 0, 1) := by decide +kernel
theorem dX4_corporal_1 : decode cX4_corporal 1 = .ok (.iload_n 1, 1) := by decide +kernel
theorem dX4_corporal_2 : decode cX4_corporal 2 = .ok (.invokevirtual 72, 3) := by decide +kernel
theorem dX4_corporal_5 : decode cX4_corporal 5 = .ok (.ifCond .ne 5, 3) := by decide +kernel
theorem dX4_corporal_8 : decode cX4_corporal 8 = .ok (.iconst (-1), 1) := by decide +kernel
theorem dX4_corporal_9 : decode cX4_corporal 9 = .ok (.ireturn, 1) := by decide +kernel
theorem dX4_corporal_10 : decode cX4_corporal 10 = .ok (.iload_n 2, 1) := by decide +kernel
theorem dX4_corporal_11 : decode cX4_corporal 11 = .ok (.tableswitch 158 0 6 #[41, 51, 61, 71, 81, 91, 111], 41) := by decide +kernel
theorem dX4_corporal_52 : decode cX4_corporal 52 = .ok (.aload_n 0, 1) := by decide +kernel
theorem dX4_corporal_53 : decode cX4_corporal 53 = .ok (.getfield 12, 3) := by decide +kernel
theorem dX4_corporal_56 : decode cX4_corporal 56 = .ok (.getfield 76, 3) := by decide +kernel
theorem dX4_corporal_59 : decode cX4_corporal 59 = .ok (.iload_n 1, 1) := by decide +kernel
theorem dX4_corporal_60 : decode cX4_corporal 60 = .ok (.iaload, 1) := by decide +kernel
theorem dX4_corporal_61 : decode cX4_corporal 61 = .ok (.ireturn, 1) := by decide +kernel
theorem dX4_corporal_62 : decode cX4_corporal 62 = .ok (.aload_n 0, 1) := by decide +kernel
theorem dX4_corporal_63 : decode cX4_corporal 63 = .ok (.getfield 12, 3) := by decide +kernel
theorem dX4_corporal_66 : decode cX4_corporal 66 = .ok (.getfield 79, 3) := by decide +kernel
theorem dX4_corporal_69 : decode cX4_corporal 69 = .ok (.iload_n 1, 1) := by decide +kernel
theorem dX4_corporal_70 : decode cX4_corporal 70 = .ok (.iaload, 1) := by decide +kernel
theorem dX4_corporal_71 : decode cX4_corporal 71 = .ok (.ireturn, 1) := by decide +kernel
theorem dX4_corporal_72 : decode cX4_corporal 72 = .ok (.aload_n 0, 1) := by decide +kernel
theorem dX4_corporal_73 : decode cX4_corporal 73 = .ok (.getfield 12, 3) := by decide +kernel
theorem dX4_corporal_76 : decode cX4_corporal 76 = .ok (.getfield 82, 3) := by decide +kernel
theorem dX4_corporal_79 : decode cX4_corporal 79 = .ok (.iload_n 1, 1) := by decide +kernel
theorem dX4_corporal_80 : decode cX4_corporal 80 = .ok (.iaload, 1) := by decide +kernel
theorem dX4_corporal_81 : decode cX4_corporal 81 = .ok (.ireturn, 1) := by decide +kernel
theorem dX4_corporal_82 : decode cX4_corporal 82 = .ok (.aload_n 0, 1) := by decide +kernel
theorem dX4_corporal_83 : decode cX4_corporal 83 = .ok (.getfield 12, 3) := by decide +kernel
theorem dX4_corporal_86 : decode cX4_corporal 86 = .ok (.getfield 85, 3) := by decide +kernel
theorem dX4_corporal_89 : decode cX4_corporal 89 = .ok (.iload_n 1, 1) := by decide +kernel
theorem dX4_corporal_90 : decode cX4_corporal 90 = .ok (.iaload, 1) := by decide +kernel
theorem dX4_corporal_91 : decode cX4_corporal 91 = .ok (.ireturn, 1) := by decide +kernel
theorem dX4_corporal_92 : decode cX4_corporal 92 = .ok (.aload_n 0, 1) := by decide +kernel
theorem dX4_corporal_93 : decode cX4_corporal 93 = .ok (.getfield 12, 3) := by decide +kernel
theorem dX4_corporal_96 : decode cX4_corporal 96 = .ok (.getfield 88, 3) := by decide +kernel
theorem dX4_corporal_99 : decode cX4_corporal 99 = .ok (.iload_n 1, 1) := by decide +kernel
theorem dX4_corporal_100 : decode cX4_corporal 100 = .ok (.iaload, 1) := by decide +kernel
theorem dX4_corporal_101 : decode cX4_corporal 101 = .ok (.ireturn, 1) := by decide +kernel
theorem dX4_corporal_102 : decode cX4_corporal 102 = .ok (.aload_n 0, 1) := by decide +kernel
theorem dX4_corporal_103 : decode cX4_corporal 103 = .ok (.getfield 12, 3) := by decide +kernel
theorem dX4_corporal_106 : decode cX4_corporal 106 = .ok (.getfield 91, 3) := by decide +kernel
theorem dX4_corporal_109 : decode cX4_corporal 109 = .ok (.iload_n 1, 1) := by decide +kernel
theorem dX4_corporal_110 : decode cX4_corporal 110 = .ok (.invokestatic 94, 3) := by decide +kernel
theorem dX4_corporal_113 : decode cX4_corporal 113 = .ok (.ifCond .eq 7, 3) := by decide +kernel
theorem dX4_corporal_116 : decode cX4_corporal 116 = .ok (.iconst 1, 1) := by decide +kernel
theorem dX4_corporal_117 : decode cX4_corporal 117 = .ok (.goto 4, 3) := by decide +kernel
theorem dX4_corporal_120 : decode cX4_corporal 120 = .ok (.iconst 0, 1) := by decide +kernel
theorem dX4_corporal_121 : decode cX4_corporal 121 = .ok (.ireturn, 1) := by decide +kernel
theorem dX4_corporal_122 : decode cX4_corporal 122 = .ok (.aload_n 0, 1) := by decide +kernel
theorem dX4_corporal_123 : decode cX4_corporal 123 = .ok (.getfield 12, 3) := by decide +kernel
theorem dX4_corporal_126 : decode cX4_corporal 126 = .ok (.getfield 76, 3) := by decide +kernel
theorem dX4_corporal_129 : decode cX4_corporal 129 = .ok (.iload_n 1, 1) := by decide +kernel
theorem dX4_corporal_130 : decode cX4_corporal 130 = .ok (.iaload, 1) := by decide +kernel
theorem dX4_corporal_131 : decode cX4_corporal 131 = .ok (.aload_n 0, 1) := by decide +kernel
theorem dX4_corporal_132 : decode cX4_corporal 132 = .ok (.getfield 12, 3) := by decide +kernel
theorem dX4_corporal_135 : decode cX4_corporal 135 = .ok (.getfield 79, 3) := by decide +kernel
theorem dX4_corporal_138 : decode cX4_corporal 138 = .ok (.iload_n 1, 1) := by decide +kernel
theorem dX4_corporal_139 : decode cX4_corporal 139 = .ok (.iaload, 1) := by decide +kernel
theorem dX4_corporal_140 : decode cX4_corporal 140 = .ok (.aload_n 0, 1) := by decide +kernel
theorem dX4_corporal_141 : decode cX4_corporal 141 = .ok (.getfield 12, 3) := by decide +kernel
theorem dX4_corporal_144 : decode cX4_corporal 144 = .ok (.aload_n 0, 1) := by decide +kernel
theorem dX4_corporal_145 : decode cX4_corporal 145 = .ok (.getfield 12, 3) := by decide +kernel
theorem dX4_corporal_148 : decode cX4_corporal 148 = .ok (.getfield 82, 3) := by decide +kernel
theorem dX4_corporal_151 : decode cX4_corporal 151 = .ok (.iload_n 1, 1) := by decide +kernel
theorem dX4_corporal_152 : decode cX4_corporal 152 = .ok (.iaload, 1) := by decide +kernel
theorem dX4_corporal_153 : decode cX4_corporal 153 = .ok (.invokevirtual 98, 3) := by decide +kernel
theorem dX4_corporal_156 : decode cX4_corporal 156 = .ok (.aload_n 0, 1) := by decide +kernel
theorem dX4_corporal_157 : decode cX4_corporal 157 = .ok (.getfield 12, 3) := by decide +kernel
theorem dX4_corporal_160 : decode cX4_corporal 160 = .ok (.getfield 102, 3) := by decide +kernel
theorem dX4_corporal_163 : decode cX4_corporal 163 = .ok (.iconst 1, 1) := by decide +kernel
theorem dX4_corporal_164 : decode cX4_corporal 164 = .ok (.iadd, 1) := by decide +kernel
theorem dX4_corporal_165 : decode cX4_corporal 165 = .ok (.invokestatic 105, 3) := by decide +kernel
theorem dX4_corporal_168 : decode cX4_corporal 168 = .ok (.ireturn, 1) := by decide +kernel
theorem dX4_corporal_169 : decode cX4_corporal 169 = .ok (.iconst (-1), 1) := by decide +kernel
theorem dX4_corporal_170 : decode cX4_corporal 170 = .ok (.ireturn, 1) := by decide +kernel
theorem dX4_dip_0 : decode cX4_dip 0 = .ok (.iload_n 1, 1) := by decide +kernel
theorem dX4_dip_1 : decode cX4_dip 1 = .ok (.invokestatic 111, 3) := by decide +kernel
theorem dX4_dip_4 : decode cX4_dip 4 = .ok (.ifCond .ne 5, 3) := by decide +kernel
theorem dX4_dip_7 : decode cX4_dip 7 = .ok (.iconst (-1), 1) := by decide +kernel
theorem dX4_dip_8 : decode cX4_dip 8 = .ok (.ireturn, 1) := by decide +kernel
theorem dX4_dip_9 : decode cX4_dip 9 = .ok (.iload_n 2, 1) := by decide +kernel
theorem dX4_dip_10 : decode cX4_dip 10 = .ok (.tableswitch 55 0 2 #[26, 36, 46], 26) := by decide +kernel
theorem dX4_dip_36 : decode cX4_dip 36 = .ok (.aload_n 0, 1) := by decide +kernel
theorem dX4_dip_37 : decode cX4_dip 37 = .ok (.getfield 12, 3) := by decide +kernel
theorem dX4_dip_40 : decode cX4_dip 40 = .ok (.getfield 114, 3) := by decide +kernel
theorem dX4_dip_43 : decode cX4_dip 43 = .ok (.iload_n 1, 1) := by decide +kernel
theorem dX4_dip_44 : decode cX4_dip 44 = .ok (.iaload, 1) := by decide +kernel
theorem dX4_dip_45 : decode cX4_dip 45 = .ok (.ireturn, 1) := by decide +kernel
theorem dX4_dip_46 : decode cX4_dip 46 = .ok (.aload_n 0, 1) := by decide +kernel
theorem dX4_dip_47 : decode cX4_dip 47 = .ok (.getfield 12, 3) := by decide +kernel
theorem dX4_dip_50 : decode cX4_dip 50 = .ok (.getfield 117, 3) := by decide +kernel
theorem dX4_dip_53 : decode cX4_dip 53 = .ok (.iload_n 1, 1) := by decide +kernel
theorem dX4_dip_54 : decode cX4_dip 54 = .ok (.iaload, 1) := by decide +kernel
theorem dX4_dip_55 : decode cX4_dip 55 = .ok (.ireturn, 1) := by decide +kernel
theorem dX4_dip_56 : decode cX4_dip 56 = .ok (.aload_n 0, 1) := by decide +kernel
theorem dX4_dip_57 : decode cX4_dip 57 = .ok (.getfield 12, 3) := by decide +kernel
theorem dX4_dip_60 : decode cX4_dip 60 = .ok (.iload_n 1, 1) := by decide +kernel
theorem dX4_dip_61 : decode cX4_dip 61 = .ok (.invokevirtual 120, 3) := by decide +kernel
theorem dX4_dip_64 : decode cX4_dip 64 = .ok (.ireturn, 1) := by decide +kernel
theorem dX4_dip_65 : decode cX4_dip 65 = .ok (.iconst (-1), 1) := by decide +kernel
theorem dX4_dip_66 : decode cX4_dip 66 = .ok (.ireturn, 1) := by decide +kernel
theorem dX4_comes_0 : decode cX4_comes 0 = .ok (.iload_n 2, 1) := by decide +kernel
theorem dX4_comes_1 : decode cX4_comes 1 = .ok (.invokestatic 111, 3) := by decide +kernel
theorem dX4_comes_4 : decode cX4_comes 4 = .ok (.ifCond .eq 12, 3) := by decide +kernel
theorem dX4_comes_7 : decode cX4_comes 7 = .ok (.iload_n 3, 1) := by decide +kernel
theorem dX4_comes_8 : decode cX4_comes 8 = .ok (.iconst 0, 1) := by decide +kernel
theorem dX4_comes_9 : decode cX4_comes 9 = .ok (.iconst 1, 1) := by decide +kernel
theorem dX4_comes_10 : decode cX4_comes 10 = .ok (.invokestatic 123, 3) := by decide +kernel
theorem dX4_comes_13 : decode cX4_comes 13 = .ok (.ifCond .ne 5, 3) := by decide +kernel
theorem dX4_comes_16 : decode cX4_comes 16 = .ok (.iconst (-1), 1) := by decide +kernel
theorem dX4_comes_17 : decode cX4_comes 17 = .ok (.ireturn, 1) := by decide +kernel
theorem dX4_comes_18 : decode cX4_comes 18 = .ok (.aload_n 0, 1) := by decide +kernel
theorem dX4_comes_19 : decode cX4_comes 19 = .ok (.iload_n 1, 1) := by decide +kernel
theorem dX4_comes_20 : decode cX4_comes 20 = .ok (.invokevirtual 40, 3) := by decide +kernel
theorem dX4_comes_23 : decode cX4_comes 23 = .ok (.astore 4, 2) := by decide +kernel
theorem dX4_comes_25 : decode cX4_comes 25 = .ok (.aload 4, 2) := by decide +kernel
theorem dX4_comes_27 : decode cX4_comes 27 = .ok (.iconst 1, 1) := by decide +kernel
theorem dX4_comes_28 : decode cX4_comes 28 = .ok (.invokestatic 127, 3) := by decide +kernel
theorem dX4_comes_31 : decode cX4_comes 31 = .ok (.istore 5, 2) := by decide +kernel
theorem dX4_comes_33 : decode cX4_comes 33 = .ok (.aload 4, 2) := by decide +kernel
theorem dX4_comes_35 : decode cX4_comes 35 = .ok (.ifnull 8, 3) := by decide +kernel
theorem dX4_comes_38 : decode cX4_comes 38 = .ok (.iload 5, 2) := by decide +kernel
theorem dX4_comes_40 : decode cX4_comes 40 = .ok (.ifCond .eq 6, 3) := by decide +kernel
theorem dX4_comes_43 : decode cX4_comes 43 = .ok (.iload 5, 2) := by decide +kernel
theorem dX4_comes_45 : decode cX4_comes 45 = .ok (.ireturn, 1) := by decide +kernel
theorem dX4_comes_46 : decode cX4_comes 46 = .ok (.aload_n 0, 1) := by decide +kernel
theorem dX4_comes_47 : decode cX4_comes 47 = .ok (.getfield 12, 3) := by decide +kernel
theorem dX4_comes_50 : decode cX4_comes 50 = .ok (.invokevirtual 130, 3) := by decide +kernel
theorem dX4_comes_53 : decode cX4_comes 53 = .ok (.ifCond .ne 6, 3) := by decide +kernel
theorem dX4_comes_56 : decode cX4_comes 56 = .ok (.bipush (-2), 2) := by decide +kernel
theorem dX4_comes_58 : decode cX4_comes 58 = .ok (.ireturn, 1) := by decide +kernel
theorem dX4_comes_59 : decode cX4_comes 59 = .ok (.aload_n 0, 1) := by decide +kernel
theorem dX4_comes_60 : decode cX4_comes 60 = .ok (.getfield 12, 3) := by decide +kernel
theorem dX4_comes_63 : decode cX4_comes 63 = .ok (.aload 4, 2) := by decide +kernel
theorem dX4_comes_65 : decode cX4_comes 65 = .ok (.getfield 134, 3) := by decide +kernel
theorem dX4_comes_68 : decode cX4_comes 68 = .ok (.aload 4, 2) := by decide +kernel
theorem dX4_comes_70 : decode cX4_comes 70 = .ok (.getfield 136, 3) := by decide +kernel
theorem dX4_comes_73 : decode cX4_comes 73 = .ok (.iload_n 2, 1) := by decide +kernel
theorem dX4_comes_74 : decode cX4_comes 74 = .ok (.iload_n 3, 1) := by decide +kernel
theorem dX4_comes_75 : decode cX4_comes 75 = .ok (.invokevirtual 138, 3) := by decide +kernel
theorem dX4_comes_78 : decode cX4_comes 78 = .ok (.aload_n 0, 1) := by decide +kernel
theorem dX4_comes_79 : decode cX4_comes 79 = .ok (.getfield 12, 3) := by decide +kernel
theorem dX4_comes_82 : decode cX4_comes 82 = .ok (.getfield 142, 3) := by decide +kernel
theorem dX4_comes_85 : decode cX4_comes 85 = .ok (.iconst 1, 1) := by decide +kernel
theorem dX4_comes_86 : decode cX4_comes 86 = .ok (.isub, 1) := by decide +kernel
theorem dX4_comes_87 : decode cX4_comes 87 = .ok (.ireturn, 1) := by decide +kernel
theorem dX4_fills_0 : decode cX4_fills 0 = .ok (.iload_n 1, 1) := by decide +kernel
theorem dX4_fills_1 : decode cX4_fills 1 = .ok (.invokestatic 111, 3) := by decide +kernel
theorem dX4_fills_4 : decode cX4_fills 4 = .ok (.ifCond .eq 14, 3) := by decide +kernel
theorem dX4_fills_7 : decode cX4_fills 7 = .ok (.iload_n 2, 1) := by decide +kernel
theorem dX4_fills_8 : decode cX4_fills 8 = .ok (.iconst 0, 1) := by decide +kernel
theorem dX4_fills_9 : decode cX4_fills 9 = .ok (.sipush 999, 3) := by decide +kernel
theorem dX4_fills_12 : decode cX4_fills 12 = .ok (.invokestatic 123, 3) := by decide +kernel
theorem dX4_fills_15 : decode cX4_fills 15 = .ok (.ifCond .ne 5, 3) := by decide +kernel
theorem dX4_fills_18 : decode cX4_fills 18 = .ok (.iconst (-1), 1) := by decide +kernel
theorem dX4_fills_19 : decode cX4_fills 19 = .ok (.ireturn, 1) := by decide +kernel
theorem dX4_fills_20 : decode cX4_fills 20 = .ok (.aload_n 0, 1) := by decide +kernel
theorem dX4_fills_21 : decode cX4_fills 21 = .ok (.getfield 12, 3) := by decide +kernel
theorem dX4_fills_24 : decode cX4_fills 24 = .ok (.getfield 114, 3) := by decide +kernel
theorem dX4_fills_27 : decode cX4_fills 27 = .ok (.iload_n 1, 1) := by decide +kernel
theorem dX4_fills_28 : decode cX4_fills 28 = .ok (.iaload, 1) := by decide +kernel
theorem dX4_fills_29 : decode cX4_fills 29 = .ok (.istore_n 3, 1) := by decide +kernel
theorem dX4_fills_30 : decode cX4_fills 30 = .ok (.aload_n 0, 1) := by decide +kernel
theorem dX4_fills_31 : decode cX4_fills 31 = .ok (.getfield 12, 3) := by decide +kernel
theorem dX4_fills_34 : decode cX4_fills 34 = .ok (.iload_n 1, 1) := by decide +kernel
theorem dX4_fills_35 : decode cX4_fills 35 = .ok (.iload_n 2, 1) := by decide +kernel
theorem dX4_fills_36 : decode cX4_fills 36 = .ok (.invokevirtual 145, 3) := by decide +kernel
theorem dX4_fills_39 : decode cX4_fills 39 = .ok (.iload_n 3, 1) := by decide +kernel
theorem dX4_fills_40 : decode cX4_fills 40 = .ok (.ireturn, 1) := by decide +kernel
theorem dX4_blows_0 : decode cX4_blows 0 = .ok (.iload_n 1, 1) := by decide +kernel
theorem dX4_blows_1 : decode cX4_blows 1 = .ok (.bipush (-9), 2) := by decide +kernel
theorem dX4_blows_3 : decode cX4_blows 3 = .ok (.bipush 9, 2) := by decide +kernel
theorem dX4_blows_5 : decode cX4_blows 5 = .ok (.invokestatic 123, 3) := by decide +kernel
theorem dX4_blows_8 : decode cX4_blows 8 = .ok (.ifCond .ne 6, 3) := by decide +kernel
theorem dX4_blows_11 : decode cX4_blows 11 = .ok (.ldc 149, 2) := by decide +kernel
theorem dX4_blows_13 : decode cX4_blows 13 = .ok (.ireturn, 1) := by decide +kernel
theorem dX4_blows_14 : decode cX4_blows 14 = .ok (.aload_n 0, 1) := by decide +kernel
theorem dX4_blows_15 : decode cX4_blows 15 = .ok (.getfield 12, 3) := by decide +kernel
theorem dX4_blows_18 : decode cX4_blows 18 = .ok (.getfield 150, 3) := by decide +kernel
theorem dX4_blows_21 : decode cX4_blows 21 = .ok (.istore_n 2, 1) := by decide +kernel
theorem dX4_blows_22 : decode cX4_blows 22 = .ok (.aload_n 0, 1) := by decide +kernel
theorem dX4_blows_23 : decode cX4_blows 23 = .ok (.getfield 12, 3) := by decide +kernel
theorem dX4_blows_26 : decode cX4_blows 26 = .ok (.iload_n 1, 1) := by decide +kernel
theorem dX4_blows_27 : decode cX4_blows 27 = .ok (.putfield 150, 3) := by decide +kernel
theorem dX4_blows_30 : decode cX4_blows 30 = .ok (.iload_n 2, 1) := by decide +kernel
theorem dX4_blows_31 : decode cX4_blows 31 = .ok (.ireturn, 1) := by decide +kernel
theorem dX4_rests_0 : decode cX4_rests 0 = .ok (.aload_n 0, 1) := by decide +kernel
theorem dX4_rests_1 : decode cX4_rests 1 = .ok (.iload_n 1, 1) := by decide +kernel
theorem dX4_rests_2 : decode cX4_rests 2 = .ok (.invokevirtual 72, 3) := by decide +kernel
theorem dX4_rests_5 : decode cX4_rests 5 = .ok (.ifCond .ne 5, 3) := by decide +kernel
theorem dX4_rests_8 : decode cX4_rests 8 = .ok (.iconst (-1), 1) := by decide +kernel
theorem dX4_rests_9 : decode cX4_rests 9 = .ok (.ireturn, 1) := by decide +kernel
theorem dX4_rests_10 : decode cX4_rests 10 = .ok (.aload_n 0, 1) := by decide +kernel
theorem dX4_rests_11 : decode cX4_rests 11 = .ok (.getfield 12, 3) := by decide +kernel
theorem dX4_rests_14 : decode cX4_rests 14 = .ok (.iload_n 1, 1) := by decide +kernel
theorem dX4_rests_15 : decode cX4_rests 15 = .ok (.invokevirtual 153, 3) := by decide +kernel
theorem dX4_rests_18 : decode cX4_rests 18 = .ok (.aload_n 0, 1) := by decide +kernel
theorem dX4_rests_19 : decode cX4_rests 19 = .ok (.getfield 12, 3) := by decide +kernel
theorem dX4_rests_22 : decode cX4_rests 22 = .ok (.getfield 91, 3) := by decide +kernel
theorem dX4_rests_25 : decode cX4_rests 25 = .ok (.iload_n 1, 1) := by decide +kernel
theorem dX4_rests_26 : decode cX4_rests 26 = .ok (.invokestatic 94, 3) := by decide +kernel
theorem dX4_rests_29 : decode cX4_rests 29 = .ok (.ifCond .eq 7, 3) := by decide +kernel
theorem dX4_rests_32 : decode cX4_rests 32 = .ok (.iconst 1, 1) := by decide +kernel
theorem dX4_rests_33 : decode cX4_rests 33 = .ok (.goto 4, 3) := by decide +kernel
theorem dX4_rests_36 : decode cX4_rests 36 = .ok (.iconst 0, 1) := by decide +kernel
theorem dX4_rests_37 : decode cX4_rests 37 = .ok (.ireturn, 1) := by decide +kernel
theorem dX4_moves_0 : decode cX4_moves 0 = .ok (.aload_n 0, 1) := by decide +kernel
theorem dX4_moves_1 : decode cX4_moves 1 = .ok (.iload_n 1, 1) := by decide +kernel
theorem dX4_moves_2 : decode cX4_moves 2 = .ok (.invokevirtual 72, 3) := by decide +kernel
theorem dX4_moves_5 : decode cX4_moves 5 = .ok (.ifCond .eq 10, 3) := by decide +kernel
theorem dX4_moves_8 : decode cX4_moves 8 = .ok (.iload_n 2, 1) := by decide +kernel
theorem dX4_moves_9 : decode cX4_moves 9 = .ok (.invokestatic 111, 3) := by decide +kernel
theorem dX4_moves_12 : decode cX4_moves 12 = .ok (.ifCond .ne 5, 3) := by decide +kernel
theorem dX4_moves_15 : decode cX4_moves 15 = .ok (.iconst (-1), 1) := by decide +kernel
theorem dX4_moves_16 : decode cX4_moves 16 = .ok (.ireturn, 1) := by decide +kernel
theorem dX4_moves_17 : decode cX4_moves 17 = .ok (.aload_n 0, 1) := by decide +kernel
theorem dX4_moves_18 : decode cX4_moves 18 = .ok (.getfield 12, 3) := by decide +kernel
theorem dX4_moves_21 : decode cX4_moves 21 = .ok (.getfield 82, 3) := by decide +kernel
theorem dX4_moves_24 : decode cX4_moves 24 = .ok (.iload_n 1, 1) := by decide +kernel
theorem dX4_moves_25 : decode cX4_moves 25 = .ok (.iaload, 1) := by decide +kernel
theorem dX4_moves_26 : decode cX4_moves 26 = .ok (.istore_n 3, 1) := by decide +kernel
theorem dX4_moves_27 : decode cX4_moves 27 = .ok (.aload_n 0, 1) := by decide +kernel
theorem dX4_moves_28 : decode cX4_moves 28 = .ok (.getfield 12, 3) := by decide +kernel
theorem dX4_moves_31 : decode cX4_moves 31 = .ok (.getfield 82, 3) := by decide +kernel
theorem dX4_moves_34 : decode cX4_moves 34 = .ok (.iload_n 1, 1) := by decide +kernel
theorem dX4_moves_35 : decode cX4_moves 35 = .ok (.iload_n 2, 1) := by decide +kernel
theorem dX4_moves_36 : decode cX4_moves 36 = .ok (.iastore, 1) := by decide +kernel
theorem dX4_moves_37 : decode cX4_moves 37 = .ok (.iload_n 3, 1) := by decide +kernel
theorem dX4_moves_38 : decode cX4_moves 38 = .ok (.ireturn, 1) := by decide +kernel
theorem dX4_flood_0 : decode cX4_flood 0 = .ok (.aload_n 0, 1) := by decide +kernel
theorem dX4_flood_1 : decode cX4_flood 1 = .ok (.getfield 12, 3) := by decide +kernel
theorem dX4_flood_4 : decode cX4_flood 4 = .ok (.invokevirtual 157, 3) := by decide +kernel
theorem dX4_flood_7 : decode cX4_flood 7 = .ok (.istore_n 1, 1) := by decide +kernel
theorem dX4_flood_8 : decode cX4_flood 8 = .ok (.aload_n 0, 1) := by decide +kernel
theorem dX4_flood_9 : decode cX4_flood 9 = .ok (.getfield 12, 3) := by decide +kernel
theorem dX4_flood_12 : decode cX4_flood 12 = .ok (.invokevirtual 161, 3) := by decide +kernel
theorem dX4_flood_15 : decode cX4_flood 15 = .ok (.iload_n 1, 1) := by decide +kernel
theorem dX4_flood_16 : decode cX4_flood 16 = .ok (.ireturn, 1) := by decide +kernel
theorem dX4_days_0 : decode cX4_days 0 = .ok (.iload_n 1, 1) := by decide +kernel
theorem dX4_days_1 : decode cX4_days 1 = .ok (.iconst 1, 1) := by decide +kernel
theorem dX4_days_2 : decode cX4_days 2 = .ok (.bipush 60, 2) := by decide +kernel
theorem dX4_days_4 : decode cX4_days 4 = .ok (.invokestatic 123, 3) := by decide +kernel
theorem dX4_days_7 : decode cX4_days 7 = .ok (.ifCond .ne 5, 3) := by decide +kernel
theorem dX4_days_10 : decode cX4_days 10 = .ok (.iconst (-1), 1) := by decide +kernel
theorem dX4_days_11 : decode cX4_days 11 = .ok (.ireturn, 1) := by decide +kernel
theorem dX4_days_12 : decode cX4_days 12 = .ok (.aload_n 0, 1) := by decide +kernel
theorem dX4_days_13 : decode cX4_days 13 = .ok (.getfield 12, 3) := by decide +kernel
theorem dX4_days_16 : decode cX4_days 16 = .ok (.getfield 102, 3) := by decide +kernel
theorem dX4_days_19 : decode cX4_days 19 = .ok (.iload_n 1, 1) := by decide +kernel
theorem dX4_days_20 : decode cX4_days 20 = .ok (.iadd, 1) := by decide +kernel
theorem dX4_days_21 : decode cX4_days 21 = .ok (.sipush 999, 3) := by decide +kernel
theorem dX4_days_24 : decode cX4_days 24 = .ok (.if_icmp .le 6, 3) := by decide +kernel
theorem dX4_days_27 : decode cX4_days 27 = .ok (.bipush (-3), 2) := by decide +kernel
theorem dX4_days_29 : decode cX4_days 29 = .ok (.ireturn, 1) := by decide +kernel
theorem dX4_days_30 : decode cX4_days 30 = .ok (.aload_n 0, 1) := by decide +kernel
theorem dX4_days_31 : decode cX4_days 31 = .ok (.getfield 12, 3) := by decide +kernel
theorem dX4_days_34 : decode cX4_days 34 = .ok (.iload_n 1, 1) := by decide +kernel
theorem dX4_days_35 : decode cX4_days 35 = .ok (.invokevirtual 164, 3) := by decide +kernel
theorem dX4_days_38 : decode cX4_days 38 = .ok (.aload_n 0, 1) := by decide +kernel
theorem dX4_days_39 : decode cX4_days 39 = .ok (.getfield 12, 3) := by decide +kernel
theorem dX4_days_42 : decode cX4_days 42 = .ok (.invokevirtual 157, 3) := by decide +kernel
theorem dX4_days_45 : decode cX4_days 45 = .ok (.ireturn, 1) := by decide +kernel
theorem dX4_corporalThen_0 : decode cX4_corporalThen 0 = .ok (.aload_n 0, 1) := by decide +kernel
theorem dX4_corporalThen_1 : decode cX4_corporalThen 1 = .ok (.iload_n 1, 1) := by decide +kernel
theorem dX4_corporalThen_2 : decode cX4_corporalThen 2 = .ok (.invokevirtual 72, 3) := by decide +kernel
theorem dX4_corporalThen_5 : decode cX4_corporalThen 5 = .ok (.ifCond .eq 19, 3) := by decide +kernel
theorem dX4_corporalThen_8 : decode cX4_corporalThen 8 = .ok (.iload_n 2, 1) := by decide +kernel
theorem dX4_corporalThen_9 : decode cX4_corporalThen 9 = .ok (.invokestatic 167, 3) := by decide +kernel
theorem dX4_corporalThen_12 : decode cX4_corporalThen 12 = .ok (.ifCond .eq 12, 3) := by decide +kernel
theorem dX4_corporalThen_15 : decode cX4_corporalThen 15 = .ok (.iload_n 3, 1) := by decide +kernel
theorem dX4_corporalThen_16 : decode cX4_corporalThen 16 = .ok (.iconst 0, 1) := by decide +kernel
theorem dX4_corporalThen_17 : decode cX4_corporalThen 17 = .ok (.iconst 1, 1) := by decide +kernel
theorem dX4_corporalThen_18 : decode cX4_corporalThen 18 = .ok (.invokestatic 123, 3) := by decide +kernel
theorem dX4_corporalThen_21 : decode cX4_corporalThen 21 = .ok (.ifCond .ne 5, 3) := by decide +kernel
theorem dX4_corporalThen_24 : decode cX4_corporalThen 24 = .ok (.iconst (-1), 1) := by decide +kernel
theorem dX4_corporalThen_25 : decode cX4_corporalThen 25 = .ok (.ireturn, 1) := by decide +kernel
theorem dX4_corporalThen_26 : decode cX4_corporalThen 26 = .ok (.aload_n 0, 1) := by decide +kernel
theorem dX4_corporalThen_27 : decode cX4_corporalThen 27 = .ok (.iload_n 2, 1) := by decide +kernel
theorem dX4_corporalThen_28 : decode cX4_corporalThen 28 = .ok (.invokevirtual 170, 3) := by decide +kernel
theorem dX4_corporalThen_31 : decode cX4_corporalThen 31 = .ok (.iload_n 3, 1) := by decide +kernel
theorem dX4_corporalThen_32 : decode cX4_corporalThen 32 = .ok (.ifCond .ne 15, 3) := by decide +kernel
theorem dX4_corporalThen_35 : decode cX4_corporalThen 35 = .ok (.aload_n 0, 1) := by decide +kernel
theorem dX4_corporalThen_36 : decode cX4_corporalThen 36 = .ok (.getfield 16, 3) := by decide +kernel
theorem dX4_corporalThen_39 : decode cX4_corporalThen 39 = .ok (.getfield 82, 3) := by decide +kernel
theorem dX4_corporalThen_42 : decode cX4_corporalThen 42 = .ok (.iload_n 1, 1) := by decide +kernel
theorem dX4_corporalThen_43 : decode cX4_corporalThen 43 = .ok (.iaload, 1) := by decide +kernel
theorem dX4_corporalThen_44 : decode cX4_corporalThen 44 = .ok (.goto 12, 3) := by decide +kernel
theorem dX4_corporalThen_47 : decode cX4_corporalThen 47 = .ok (.aload_n 0, 1) := by decide +kernel
theorem dX4_corporalThen_48 : decode cX4_corporalThen 48 = .ok (.getfield 16, 3) := by decide +kernel
theorem dX4_corporalThen_51 : decode cX4_corporalThen 51 = .ok (.getfield 88, 3) := by decide +kernel
theorem dX4_corporalThen_54 : decode cX4_corporalThen 54 = .ok (.iload_n 1, 1) := by decide +kernel
theorem dX4_corporalThen_55 : decode cX4_corporalThen 55 = .ok (.iaload, 1) := by decide +kernel
theorem dX4_corporalThen_56 : decode cX4_corporalThen 56 = .ok (.ireturn, 1) := by decide +kernel
theorem dX4_dipThen_0 : decode cX4_dipThen 0 = .ok (.iload_n 1, 1) := by decide +kernel
theorem dX4_dipThen_1 : decode cX4_dipThen 1 = .ok (.invokestatic 111, 3) := by decide +kernel
theorem dX4_dipThen_4 : decode cX4_dipThen 4 = .ok (.ifCond .eq 19, 3) := by decide +kernel
theorem dX4_dipThen_7 : decode cX4_dipThen 7 = .ok (.iload_n 2, 1) := by decide +kernel
theorem dX4_dipThen_8 : decode cX4_dipThen 8 = .ok (.invokestatic 167, 3) := by decide +kernel
theorem dX4_dipThen_11 : decode cX4_dipThen 11 = .ok (.ifCond .eq 12, 3) := by decide +kernel
theorem dX4_dipThen_14 : decode cX4_dipThen 14 = .ok (.iload_n 3, 1) := by decide +kernel
theorem dX4_dipThen_15 : decode cX4_dipThen 15 = .ok (.iconst 0, 1) := by decide +kernel
theorem dX4_dipThen_16 : decode cX4_dipThen 16 = .ok (.iconst 1, 1) := by decide +kernel
theorem dX4_dipThen_17 : decode cX4_dipThen 17 = .ok (.invokestatic 123, 3) := by decide +kernel
theorem dX4_dipThen_20 : decode cX4_dipThen 20 = .ok (.ifCond .ne 5, 3) := by decide +kernel
theorem dX4_dipThen_23 : decode cX4_dipThen 23 = .ok (.iconst (-1), 1) := by decide +kernel
theorem dX4_dipThen_24 : decode cX4_dipThen 24 = .ok (.ireturn, 1) := by decide +kernel
theorem dX4_dipThen_25 : decode cX4_dipThen 25 = .ok (.aload_n 0, 1) := by decide +kernel
theorem dX4_dipThen_26 : decode cX4_dipThen 26 = .ok (.iload_n 2, 1) := by decide +kernel
theorem dX4_dipThen_27 : decode cX4_dipThen 27 = .ok (.invokevirtual 170, 3) := by decide +kernel
theorem dX4_dipThen_30 : decode cX4_dipThen 30 = .ok (.iload_n 3, 1) := by decide +kernel
theorem dX4_dipThen_31 : decode cX4_dipThen 31 = .ok (.ifCond .ne 15, 3) := by decide +kernel
theorem dX4_dipThen_34 : decode cX4_dipThen 34 = .ok (.aload_n 0, 1) := by decide +kernel
theorem dX4_dipThen_35 : decode cX4_dipThen 35 = .ok (.getfield 16, 3) := by decide +kernel
theorem dX4_dipThen_38 : decode cX4_dipThen 38 = .ok (.getfield 114, 3) := by decide +kernel
theorem dX4_dipThen_41 : decode cX4_dipThen 41 = .ok (.iload_n 1, 1) := by decide +kernel
theorem dX4_dipThen_42 : decode cX4_dipThen 42 = .ok (.iaload, 1) := by decide +kernel
theorem dX4_dipThen_43 : decode cX4_dipThen 43 = .ok (.goto 12, 3) := by decide +kernel
theorem dX4_dipThen_46 : decode cX4_dipThen 46 = .ok (.aload_n 0, 1) := by decide +kernel
theorem dX4_dipThen_47 : decode cX4_dipThen 47 = .ok (.getfield 16, 3) := by decide +kernel
theorem dX4_dipThen_50 : decode cX4_dipThen 50 = .ok (.getfield 117, 3) := by decide +kernel
theorem dX4_dipThen_53 : decode cX4_dipThen 53 = .ok (.iload_n 1, 1) := by decide +kernel
theorem dX4_dipThen_54 : decode cX4_dipThen 54 = .ok (.iaload, 1) := by decide +kernel
theorem dX4_dipThen_55 : decode cX4_dipThen 55 = .ok (.ireturn, 1) := by decide +kernel
theorem dX4_dipsDone_0 : decode cX4_dipsDone 0 = .ok (.iload_n 1, 1) := by decide +kernel
theorem dX4_dipsDone_1 : decode cX4_dipsDone 1 = .ok (.invokestatic 167, 3) := by decide +kernel
theorem dX4_dipsDone_4 : decode cX4_dipsDone 4 = .ok (.ifCond .ne 5, 3) := by decide +kernel
theorem dX4_dipsDone_7 : decode cX4_dipsDone 7 = .ok (.iconst (-1), 1) := by decide +kernel
theorem dX4_dipsDone_8 : decode cX4_dipsDone 8 = .ok (.ireturn, 1) := by decide +kernel
theorem dX4_dipsDone_9 : decode cX4_dipsDone 9 = .ok (.aload_n 0, 1) := by decide +kernel
theorem dX4_dipsDone_10 : decode cX4_dipsDone 10 = .ok (.iload_n 1, 1) := by decide +kernel
theorem dX4_dipsDone_11 : decode cX4_dipsDone 11 = .ok (.invokevirtual 170, 3) := by decide +kernel
theorem dX4_dipsDone_14 : decode cX4_dipsDone 14 = .ok (.aload_n 0, 1) := by decide +kernel
theorem dX4_dipsDone_15 : decode cX4_dipsDone 15 = .ok (.getfield 16, 3) := by decide +kernel
theorem dX4_dipsDone_18 : decode cX4_dipsDone 18 = .ok (.invokevirtual 173, 3) := by decide +kernel
theorem dX4_dipsDone_21 : decode cX4_dipsDone 21 = .ok (.ireturn, 1) := by decide +kernel
theorem dX4_ends_0 : decode cX4_ends 0 = .ok (.iload_n 1, 1) := by decide +kernel
theorem dX4_ends_1 : decode cX4_ends 1 = .ok (.iconst (-1), 1) := by decide +kernel
theorem dX4_ends_2 : decode cX4_ends 2 = .ok (.if_icmp .eq 12, 3) := by decide +kernel
theorem dX4_ends_5 : decode cX4_ends 5 = .ok (.iload_n 1, 1) := by decide +kernel
theorem dX4_ends_6 : decode cX4_ends 6 = .ok (.invokestatic 111, 3) := by decide +kernel
theorem dX4_ends_9 : decode cX4_ends 9 = .ok (.ifCond .ne 5, 3) := by decide +kernel
theorem dX4_ends_12 : decode cX4_ends 12 = .ok (.iconst (-1), 1) := by decide +kernel
theorem dX4_ends_13 : decode cX4_ends 13 = .ok (.ireturn, 1) := by decide +kernel
theorem dX4_ends_14 : decode cX4_ends 14 = .ok (.iload_n 1, 1) := by decide +kernel
theorem dX4_ends_15 : decode cX4_ends 15 = .ok (.iconst (-1), 1) := by decide +kernel
theorem dX4_ends_16 : decode cX4_ends 16 = .ok (.if_icmp .ne 9, 3) := by decide +kernel
theorem dX4_ends_19 : decode cX4_ends 19 = .ok (.sipush 1023, 3) := by decide +kernel
theorem dX4_ends_22 : decode cX4_ends 22 = .ok (.goto 6, 3) := by decide +kernel
theorem dX4_ends_25 : decode cX4_ends 25 = .ok (.iconst 1, 1) := by decide +kernel
theorem dX4_ends_26 : decode cX4_ends 26 = .ok (.iload_n 1, 1) := by decide +kernel
theorem dX4_ends_27 : decode cX4_ends 27 = .ok (.ishl, 1) := by decide +kernel
theorem dX4_ends_28 : decode cX4_ends 28 = .ok (.istore_n 2, 1) := by decide +kernel
theorem dX4_ends_29 : decode cX4_ends 29 = .ok (.aload_n 0, 1) := by decide +kernel
theorem dX4_ends_30 : decode cX4_ends 30 = .ok (.getfield 16, 3) := by decide +kernel
theorem dX4_ends_33 : decode cX4_ends 33 = .ok (.aload_n 0, 1) := by decide +kernel
theorem dX4_ends_34 : decode cX4_ends 34 = .ok (.getfield 12, 3) := by decide +kernel
theorem dX4_ends_37 : decode cX4_ends 37 = .ok (.invokevirtual 57, 3) := by decide +kernel
theorem dX4_ends_40 : decode cX4_ends 40 = .ok (.iconst 0, 1) := by decide +kernel
theorem dX4_ends_41 : decode cX4_ends 41 = .ok (.istore_n 3, 1) := by decide +kernel
theorem dX4_ends_42 : decode cX4_ends 42 = .ok (.iload_n 3, 1) := by decide +kernel
theorem dX4_ends_43 : decode cX4_ends 43 = .ok (.bipush 60, 2) := by decide +kernel
theorem dX4_ends_45 : decode cX4_ends 45 = .ok (.if_icmp .gt 31, 3) := by decide +kernel
theorem dX4_ends_48 : decode cX4_ends 48 = .ok (.aload_n 0, 1) := by decide +kernel
theorem dX4_ends_49 : decode cX4_ends 49 = .ok (.getfield 16, 3) := by decide +kernel
theorem dX4_ends_52 : decode cX4_ends 52 = .ok (.invokevirtual 173, 3) := by decide +kernel
theorem dX4_ends_55 : decode cX4_ends 55 = .ok (.iload_n 2, 1) := by decide +kernel
theorem dX4_ends_56 : decode cX4_ends 56 = .ok (.iand, 1) := by decide +kernel
theorem dX4_ends_57 : decode cX4_ends 57 = .ok (.iload_n 2, 1) := by decide +kernel
theorem dX4_ends_58 : decode cX4_ends 58 = .ok (.if_icmp .ne 5, 3) := by decide +kernel
theorem dX4_ends_61 : decode cX4_ends 61 = .ok (.iload_n 3, 1) := by decide +kernel
theorem dX4_ends_62 : decode cX4_ends 62 = .ok (.ireturn, 1) := by decide +kernel
theorem dX4_ends_63 : decode cX4_ends 63 = .ok (.aload_n 0, 1) := by decide +kernel
theorem dX4_ends_64 : decode cX4_ends 64 = .ok (.getfield 16, 3) := by decide +kernel
theorem dX4_ends_67 : decode cX4_ends 67 = .ok (.invokevirtual 176, 3) := by decide +kernel
theorem dX4_ends_70 : decode cX4_ends 70 = .ok (.iinc 3 1, 3) := by decide +kernel
theorem dX4_ends_73 : decode cX4_ends 73 = .ok (.goto (-31), 3) := by decide +kernel
theorem dX4_ends_76 : decode cX4_ends 76 = .ok (.bipush (-4), 2) := by decide +kernel
theorem dX4_ends_78 : decode cX4_ends 78 = .ok (.ireturn, 1) := by decide +kernel
theorem dX4_meet_0 : decode cX4_meet 0 = .ok (.aload_n 0, 1) := by decide +kernel
theorem dX4_meet_1 : decode cX4_meet 1 = .ok (.iload_n 1, 1) := by decide +kernel
theorem dX4_meet_2 : decode cX4_meet 2 = .ok (.invokevirtual 72, 3) := by decide +kernel
theorem dX4_meet_5 : decode cX4_meet 5 = .ok (.ifCond .eq 16, 3) := by decide +kernel
theorem dX4_meet_8 : decode cX4_meet 8 = .ok (.aload_n 0, 1) := by decide +kernel
theorem dX4_meet_9 : decode cX4_meet 9 = .ok (.iload_n 2, 1) := by decide +kernel
theorem dX4_meet_10 : decode cX4_meet 10 = .ok (.invokevirtual 72, 3) := by decide +kernel
theorem dX4_meet_13 : decode cX4_meet 13 = .ok (.ifCond .eq 8, 3) := by decide +kernel
theorem dX4_meet_16 : decode cX4_meet 16 = .ok (.iload_n 1, 1) := by decide +kernel
theorem dX4_meet_17 : decode cX4_meet 17 = .ok (.iload_n 2, 1) := by decide +kernel
theorem dX4_meet_18 : decode cX4_meet 18 = .ok (.if_icmp .ne 5, 3) := by decide +kernel
theorem dX4_meet_21 : decode cX4_meet 21 = .ok (.iconst (-1), 1) := by decide +kernel
theorem dX4_meet_22 : decode cX4_meet 22 = .ok (.ireturn, 1) := by decide +kernel
theorem dX4_meet_23 : decode cX4_meet 23 = .ok (.aload_n 0, 1) := by decide +kernel
theorem dX4_meet_24 : decode cX4_meet 24 = .ok (.getfield 16, 3) := by decide +kernel
theorem dX4_meet_27 : decode cX4_meet 27 = .ok (.aload_n 0, 1) := by decide +kernel
theorem dX4_meet_28 : decode cX4_meet 28 = .ok (.getfield 12, 3) := by decide +kernel
theorem dX4_meet_31 : decode cX4_meet 31 = .ok (.invokevirtual 57, 3) := by decide +kernel
theorem dX4_meet_34 : decode cX4_meet 34 = .ok (.iconst 0, 1) := by decide +kernel
theorem dX4_meet_35 : decode cX4_meet 35 = .ok (.istore_n 3, 1) := by decide +kernel
theorem dX4_meet_36 : decode cX4_meet 36 = .ok (.iload_n 3, 1) := by decide +kernel
theorem dX4_meet_37 : decode cX4_meet 37 = .ok (.bipush 60, 2) := by decide +kernel
theorem dX4_meet_39 : decode cX4_meet 39 = .ok (.if_icmp .gt 44, 3) := by decide +kernel
theorem dX4_meet_42 : decode cX4_meet 42 = .ok (.aload_n 0, 1) := by decide +kernel
theorem dX4_meet_43 : decode cX4_meet 43 = .ok (.getfield 16, 3) := by decide +kernel
theorem dX4_meet_46 : decode cX4_meet 46 = .ok (.getfield 82, 3) := by decide +kernel
theorem dX4_meet_49 : decode cX4_meet 49 = .ok (.iload_n 1, 1) := by decide +kernel
theorem dX4_meet_50 : decode cX4_meet 50 = .ok (.iaload, 1) := by decide +kernel
theorem dX4_meet_51 : decode cX4_meet 51 = .ok (.aload_n 0, 1) := by decide +kernel
theorem dX4_meet_52 : decode cX4_meet 52 = .ok (.getfield 16, 3) := by decide +kernel
theorem dX4_meet_55 : decode cX4_meet 55 = .ok (.getfield 82, 3) := by decide +kernel
theorem dX4_meet_58 : decode cX4_meet 58 = .ok (.iload_n 2, 1) := by decide +kernel
theorem dX4_meet_59 : decode cX4_meet 59 = .ok (.iaload, 1) := by decide +kernel
theorem dX4_meet_60 : decode cX4_meet 60 = .ok (.isub, 1) := by decide +kernel
theorem dX4_meet_61 : decode cX4_meet 61 = .ok (.invokestatic 179, 3) := by decide +kernel
theorem dX4_meet_64 : decode cX4_meet 64 = .ok (.iconst 1, 1) := by decide +kernel
theorem dX4_meet_65 : decode cX4_meet 65 = .ok (.if_icmp .gt 5, 3) := by decide +kernel
theorem dX4_meet_68 : decode cX4_meet 68 = .ok (.iload_n 3, 1) := by decide +kernel
theorem dX4_meet_69 : decode cX4_meet 69 = .ok (.ireturn, 1) := by decide +kernel
theorem dX4_meet_70 : decode cX4_meet 70 = .ok (.aload_n 0, 1) := by decide +kernel
theorem dX4_meet_71 : decode cX4_meet 71 = .ok (.getfield 16, 3) := by decide +kernel
theorem dX4_meet_74 : decode cX4_meet 74 = .ok (.invokevirtual 176, 3) := by decide +kernel
theorem dX4_meet_77 : decode cX4_meet 77 = .ok (.iinc 3 1, 3) := by decide +kernel
theorem dX4_meet_80 : decode cX4_meet 80 = .ok (.goto (-44), 3) := by decide +kernel
theorem dX4_meet_83 : decode cX4_meet 83 = .ok (.bipush (-4), 2) := by decide +kernel
theorem dX4_meet_85 : decode cX4_meet 85 = .ok (.ireturn, 1) := by decide +kernel
theorem dX4_line_0 : decode cX4_line 0 = .ok (.iload_n 1, 1) := by decide +kernel
theorem dX4_line_1 : decode cX4_line 1 = .ok (.invokestatic 167, 3) := by decide +kernel
theorem dX4_line_4 : decode cX4_line 4 = .ok (.ifCond .ne 5, 3) := by decide +kernel
theorem dX4_line_7 : decode cX4_line 7 = .ok (.iconst (-1), 1) := by decide +kernel
theorem dX4_line_8 : decode cX4_line 8 = .ok (.ireturn, 1) := by decide +kernel
theorem dX4_line_9 : decode cX4_line 9 = .ok (.aload_n 0, 1) := by decide +kernel
theorem dX4_line_10 : decode cX4_line 10 = .ok (.iload_n 1, 1) := by decide +kernel
theorem dX4_line_11 : decode cX4_line 11 = .ok (.invokevirtual 170, 3) := by decide +kernel
theorem dX4_line_14 : decode cX4_line 14 = .ok (.iconst 0, 1) := by decide +kernel
theorem dX4_line_15 : decode cX4_line 15 = .ok (.istore_n 2, 1) := by decide +kernel
theorem dX4_line_16 : decode cX4_line 16 = .ok (.bipush 9, 2) := by decide +kernel
theorem dX4_line_18 : decode cX4_line 18 = .ok (.istore_n 3, 1) := by decide +kernel
theorem dX4_line_19 : decode cX4_line 19 = .ok (.iconst 0, 1) := by decide +kernel
theorem dX4_line_20 : decode cX4_line 20 = .ok (.istore 4, 2) := by decide +kernel
theorem dX4_line_22 : decode cX4_line 22 = .ok (.iload 4, 2) := by decide +kernel
theorem dX4_line_24 : decode cX4_line 24 = .ok (.aload_n 0, 1) := by decide +kernel
theorem dX4_line_25 : decode cX4_line 25 = .ok (.getfield 16, 3) := by decide +kernel
theorem dX4_line_28 : decode cX4_line 28 = .ok (.getfield 142, 3) := by decide +kernel
theorem dX4_line_31 : decode cX4_line 31 = .ok (.if_icmp .ge 55, 3) := by decide +kernel
theorem dX4_line_34 : decode cX4_line 34 = .ok (.aload_n 0, 1) := by decide +kernel
theorem dX4_line_35 : decode cX4_line 35 = .ok (.getfield 16, 3) := by decide +kernel
theorem dX4_line_38 : decode cX4_line 38 = .ok (.getfield 85, 3) := by decide +kernel
theorem dX4_line_41 : decode cX4_line 41 = .ok (.iload 4, 2) := by decide +kernel
theorem dX4_line_43 : decode cX4_line 43 = .ok (.iaload, 1) := by decide +kernel
theorem dX4_line_44 : decode cX4_line 44 = .ok (.ifCond .ne 21, 3) := by decide +kernel
theorem dX4_line_47 : decode cX4_line 47 = .ok (.iload_n 2, 1) := by decide +kernel
theorem dX4_line_48 : decode cX4_line 48 = .ok (.aload_n 0, 1) := by decide +kernel
theorem dX4_line_49 : decode cX4_line 49 = .ok (.getfield 16, 3) := by decide +kernel
theorem dX4_line_52 : decode cX4_line 52 = .ok (.getfield 82, 3) := by decide +kernel
theorem dX4_line_55 : decode cX4_line 55 = .ok (.iload 4, 2) := by decide +kernel
theorem dX4_line_57 : decode cX4_line 57 = .ok (.iaload, 1) := by decide +kernel
theorem dX4_line_58 : decode cX4_line 58 = .ok (.invokestatic 184, 3) := by decide +kernel
theorem dX4_line_61 : decode cX4_line 61 = .ok (.istore_n 2, 1) := by decide +kernel
theorem dX4_line_62 : decode cX4_line 62 = .ok (.goto 18, 3) := by decide +kernel
theorem dX4_line_65 : decode cX4_line 65 = .ok (.iload_n 3, 1) := by decide +kernel
theorem dX4_line_66 : decode cX4_line 66 = .ok (.aload_n 0, 1) := by decide +kernel
theorem dX4_line_67 : decode cX4_line 67 = .ok (.getfield 16, 3) := by decide +kernel
theorem dX4_line_70 : decode cX4_line 70 = .ok (.getfield 82, 3) := by decide +kernel
theorem dX4_line_73 : decode cX4_line 73 = .ok (.iload 4, 2) := by decide +kernel
theorem dX4_line_75 : decode cX4_line 75 = .ok (.iaload, 1) := by decide +kernel
theorem dX4_line_76 : decode cX4_line 76 = .ok (.invokestatic 188, 3) := by decide +kernel
theorem dX4_line_79 : decode cX4_line 79 = .ok (.istore_n 3, 1) := by decide +kernel
theorem dX4_line_80 : decode cX4_line 80 = .ok (.iinc 4 1, 3) := by decide +kernel
theorem dX4_line_83 : decode cX4_line 83 = .ok (.goto (-61), 3) := by decide +kernel
theorem dX4_line_86 : decode cX4_line 86 = .ok (.bipush 10, 2) := by decide +kernel
theorem dX4_line_88 : decode cX4_line 88 = .ok (.iload_n 2, 1) := by decide +kernel
theorem dX4_line_89 : decode cX4_line 89 = .ok (.imul, 1) := by decide +kernel
theorem dX4_line_90 : decode cX4_line 90 = .ok (.iload_n 3, 1) := by decide +kernel
theorem dX4_line_91 : decode cX4_line 91 = .ok (.iadd, 1) := by decide +kernel
theorem dX4_line_92 : decode cX4_line 92 = .ok (.ireturn, 1) := by decide +kernel
theorem dX4_treaty_0 : decode cX4_treaty 0 = .ok (.iload_n 1, 1) := by decide +kernel
theorem dX4_treaty_1 : decode cX4_treaty 1 = .ok (.invokestatic 167, 3) := by decide +kernel
theorem dX4_treaty_4 : decode cX4_treaty 4 = .ok (.ifCond .ne 6, 3) := by decide +kernel
theorem dX4_treaty_7 : decode cX4_treaty 7 = .ok (.ldc 149, 2) := by decide +kernel
theorem dX4_treaty_9 : decode cX4_treaty 9 = .ok (.ireturn, 1) := by decide +kernel
theorem dX4_treaty_10 : decode cX4_treaty 10 = .ok (.aload_n 0, 1) := by decide +kernel
theorem dX4_treaty_11 : decode cX4_treaty 11 = .ok (.iload_n 1, 1) := by decide +kernel
theorem dX4_treaty_12 : decode cX4_treaty 12 = .ok (.invokevirtual 170, 3) := by decide +kernel
theorem dX4_treaty_15 : decode cX4_treaty 15 = .ok (.iconst 0, 1) := by decide +kernel
theorem dX4_treaty_16 : decode cX4_treaty 16 = .ok (.istore_n 2, 1) := by decide +kernel
theorem dX4_treaty_17 : decode cX4_treaty 17 = .ok (.iconst 0, 1) := by decide +kernel
theorem dX4_treaty_18 : decode cX4_treaty 18 = .ok (.istore_n 3, 1) := by decide +kernel
theorem dX4_treaty_19 : decode cX4_treaty 19 = .ok (.iload_n 3, 1) := by decide +kernel
theorem dX4_treaty_20 : decode cX4_treaty 20 = .ok (.aload_n 0, 1) := by decide +kernel
theorem dX4_treaty_21 : decode cX4_treaty 21 = .ok (.getfield 16, 3) := by decide +kernel
theorem dX4_treaty_24 : decode cX4_treaty 24 = .ok (.getfield 142, 3) := by decide +kernel
theorem dX4_treaty_27 : decode cX4_treaty 27 = .ok (.if_icmp .ge 46, 3) := by decide +kernel
theorem dX4_treaty_30 : decode cX4_treaty 30 = .ok (.iload_n 2, 1) := by decide +kernel
theorem dX4_treaty_31 : decode cX4_treaty 31 = .ok (.aload_n 0, 1) := by decide +kernel
theorem dX4_treaty_32 : decode cX4_treaty 32 = .ok (.getfield 16, 3) := by decide +kernel
theorem dX4_treaty_35 : decode cX4_treaty 35 = .ok (.getfield 85, 3) := by decide +kernel
theorem dX4_treaty_38 : decode cX4_treaty 38 = .ok (.iload_n 3, 1) := by decide +kernel
theorem dX4_treaty_39 : decode cX4_treaty 39 = .ok (.iaload, 1) := by decide +kernel
theorem dX4_treaty_40 : decode cX4_treaty 40 = .ok (.ifCond .ne 15, 3) := by decide +kernel
theorem dX4_treaty_43 : decode cX4_treaty 43 = .ok (.aload_n 0, 1) := by decide +kernel
theorem dX4_treaty_44 : decode cX4_treaty 44 = .ok (.getfield 16, 3) := by decide +kernel
theorem dX4_treaty_47 : decode cX4_treaty 47 = .ok (.getfield 88, 3) := by decide +kernel
theorem dX4_treaty_50 : decode cX4_treaty 50 = .ok (.iload_n 3, 1) := by decide +kernel
theorem dX4_treaty_51 : decode cX4_treaty 51 = .ok (.iaload, 1) := by decide +kernel
theorem dX4_treaty_52 : decode cX4_treaty 52 = .ok (.goto 13, 3) := by decide +kernel
theorem dX4_treaty_55 : decode cX4_treaty 55 = .ok (.aload_n 0, 1) := by decide +kernel
theorem dX4_treaty_56 : decode cX4_treaty 56 = .ok (.getfield 16, 3) := by decide +kernel
theorem dX4_treaty_59 : decode cX4_treaty 59 = .ok (.getfield 88, 3) := by decide +kernel
theorem dX4_treaty_62 : decode cX4_treaty 62 = .ok (.iload_n 3, 1) := by decide +kernel
theorem dX4_treaty_63 : decode cX4_treaty 63 = .ok (.iaload, 1) := by decide +kernel
theorem dX4_treaty_64 : decode cX4_treaty 64 = .ok (.ineg, 1) := by decide +kernel
theorem dX4_treaty_65 : decode cX4_treaty 65 = .ok (.iadd, 1) := by decide +kernel
theorem dX4_treaty_66 : decode cX4_treaty 66 = .ok (.istore_n 2, 1) := by decide +kernel
theorem dX4_treaty_67 : decode cX4_treaty 67 = .ok (.iinc 3 1, 3) := by decide +kernel
theorem dX4_treaty_70 : decode cX4_treaty 70 = .ok (.goto (-51), 3) := by decide +kernel
theorem dX4_treaty_73 : decode cX4_treaty 73 = .ok (.iload_n 2, 1) := by decide +kernel
theorem dX4_treaty_74 : decode cX4_treaty 74 = .ok (.ireturn, 1) := by decide +kernel
theorem dX4_bestWind_0 : decode cX4_bestWind 0 = .ok (.iload_n 1, 1) := by decide +kernel
theorem dX4_bestWind_1 : decode cX4_bestWind 1 = .ok (.invokestatic 167, 3) := by decide +kernel
theorem dX4_bestWind_4 : decode cX4_bestWind 4 = .ok (.ifCond .eq 12, 3) := by decide +kernel
theorem dX4_bestWind_7 : decode cX4_bestWind 7 = .ok (.iload_n 2, 1) := by decide +kernel
theorem dX4_bestWind_8 : decode cX4_bestWind 8 = .ok (.iconst 0, 1) := by decide +kernel
theorem dX4_bestWind_9 : decode cX4_bestWind 9 = .ok (.iconst 1, 1) := by decide +kernel
theorem dX4_bestWind_10 : decode cX4_bestWind 10 = .ok (.invokestatic 123, 3) := by decide +kernel
theorem dX4_bestWind_13 : decode cX4_bestWind 13 = .ok (.ifCond .ne 6, 3) := by decide +kernel
theorem dX4_bestWind_16 : decode cX4_bestWind 16 = .ok (.ldc 149, 2) := by decide +kernel
theorem dX4_bestWind_18 : decode cX4_bestWind 18 = .ok (.ireturn, 1) := by decide +kernel
theorem dX4_bestWind_19 : decode cX4_bestWind 19 = .ok (.bipush (-9), 2) := by decide +kernel
theorem dX4_bestWind_21 : decode cX4_bestWind 21 = .ok (.istore_n 3, 1) := by decide +kernel
theorem dX4_bestWind_22 : decode cX4_bestWind 22 = .ok (.iconst (-1), 1) := by decide +kernel
theorem dX4_bestWind_23 : decode cX4_bestWind 23 = .ok (.istore 4, 2) := by decide +kernel
theorem dX4_bestWind_25 : decode cX4_bestWind 25 = .ok (.bipush (-9), 2) := by decide +kernel
theorem dX4_bestWind_27 : decode cX4_bestWind 27 = .ok (.istore 5, 2) := by decide +kernel
theorem dX4_bestWind_29 : decode cX4_bestWind 29 = .ok (.iload 5, 2) := by decide +kernel
theorem dX4_bestWind_31 : decode cX4_bestWind 31 = .ok (.bipush 9, 2) := by decide +kernel
theorem dX4_bestWind_33 : decode cX4_bestWind 33 = .ok (.if_icmp .gt 60, 3) := by decide +kernel
theorem dX4_bestWind_36 : decode cX4_bestWind 36 = .ok (.aload_n 0, 1) := by decide +kernel
theorem dX4_bestWind_37 : decode cX4_bestWind 37 = .ok (.getfield 16, 3) := by decide +kernel
theorem dX4_bestWind_40 : decode cX4_bestWind 40 = .ok (.aload_n 0, 1) := by decide +kernel
theorem dX4_bestWind_41 : decode cX4_bestWind 41 = .ok (.getfield 12, 3) := by decide +kernel
theorem dX4_bestWind_44 : decode cX4_bestWind 44 = .ok (.invokevirtual 57, 3) := by decide +kernel
theorem dX4_bestWind_47 : decode cX4_bestWind 47 = .ok (.aload_n 0, 1) := by decide +kernel
theorem dX4_bestWind_48 : decode cX4_bestWind 48 = .ok (.getfield 16, 3) := by decide +kernel
theorem dX4_bestWind_51 : decode cX4_bestWind 51 = .ok (.iload 5, 2) := by decide +kernel
theorem dX4_bestWind_53 : decode cX4_bestWind 53 = .ok (.putfield 150, 3) := by decide +kernel
theorem dX4_bestWind_56 : decode cX4_bestWind 56 = .ok (.aload_n 0, 1) := by decide +kernel
theorem dX4_bestWind_57 : decode cX4_bestWind 57 = .ok (.getfield 16, 3) := by decide +kernel
theorem dX4_bestWind_60 : decode cX4_bestWind 60 = .ok (.iload_n 1, 1) := by decide +kernel
theorem dX4_bestWind_61 : decode cX4_bestWind 61 = .ok (.invokevirtual 164, 3) := by decide +kernel
theorem dX4_bestWind_64 : decode cX4_bestWind 64 = .ok (.aload_n 0, 1) := by decide +kernel
theorem dX4_bestWind_65 : decode cX4_bestWind 65 = .ok (.getfield 16, 3) := by decide +kernel
theorem dX4_bestWind_68 : decode cX4_bestWind 68 = .ok (.invokevirtual 157, 3) := by decide +kernel
theorem dX4_bestWind_71 : decode cX4_bestWind 71 = .ok (.istore 6, 2) := by decide +kernel
theorem dX4_bestWind_73 : decode cX4_bestWind 73 = .ok (.iload 6, 2) := by decide +kernel
theorem dX4_bestWind_75 : decode cX4_bestWind 75 = .ok (.iload 4, 2) := by decide +kernel
theorem dX4_bestWind_77 : decode cX4_bestWind 77 = .ok (.if_icmp .le 10, 3) := by decide +kernel
theorem dX4_bestWind_80 : decode cX4_bestWind 80 = .ok (.iload 6, 2) := by decide +kernel
theorem dX4_bestWind_82 : decode cX4_bestWind 82 = .ok (.istore 4, 2) := by decide +kernel
theorem dX4_bestWind_84 : decode cX4_bestWind 84 = .ok (.iload 5, 2) := by decide +kernel
theorem dX4_bestWind_86 : decode cX4_bestWind 86 = .ok (.istore_n 3, 1) := by decide +kernel
theorem dX4_bestWind_87 : decode cX4_bestWind 87 = .ok (.iinc 5 1, 3) := by decide +kernel
theorem dX4_bestWind_90 : decode cX4_bestWind 90 = .ok (.goto (-61), 3) := by decide +kernel
theorem dX4_bestWind_93 : decode cX4_bestWind 93 = .ok (.iload_n 2, 1) := by decide +kernel
theorem dX4_bestWind_94 : decode cX4_bestWind 94 = .ok (.ifCond .ne 7, 3) := by decide +kernel
theorem dX4_bestWind_97 : decode cX4_bestWind 97 = .ok (.iload_n 3, 1) := by decide +kernel
theorem dX4_bestWind_98 : decode cX4_bestWind 98 = .ok (.goto 5, 3) := by decide +kernel
theorem dX4_bestWind_101 : decode cX4_bestWind 101 = .ok (.iload 4, 2) := by decide +kernel
theorem dX4_bestWind_103 : decode cX4_bestWind 103 = .ok (.ireturn, 1) := by decide +kernel
theorem dX4_send_0 : decode cX4_send 0 = .ok (.aload_n 0, 1) := by decide +kernel
theorem dX4_send_1 : decode cX4_send 1 = .ok (.iload_n 1, 1) := by decide +kernel
theorem dX4_send_2 : decode cX4_send 2 = .ok (.invokevirtual 72, 3) := by decide +kernel
theorem dX4_send_5 : decode cX4_send 5 = .ok (.ifCond .eq 19, 3) := by decide +kernel
theorem dX4_send_8 : decode cX4_send 8 = .ok (.iload_n 2, 1) := by decide +kernel
theorem dX4_send_9 : decode cX4_send 9 = .ok (.invokestatic 167, 3) := by decide +kernel
theorem dX4_send_12 : decode cX4_send 12 = .ok (.ifCond .eq 12, 3) := by decide +kernel
theorem dX4_send_15 : decode cX4_send 15 = .ok (.iload_n 3, 1) := by decide +kernel
theorem dX4_send_16 : decode cX4_send 16 = .ok (.iconst 0, 1) := by decide +kernel
theorem dX4_send_17 : decode cX4_send 17 = .ok (.iconst 1, 1) := by decide +kernel
theorem dX4_send_18 : decode cX4_send 18 = .ok (.invokestatic 123, 3) := by decide +kernel
theorem dX4_send_21 : decode cX4_send 21 = .ok (.ifCond .ne 5, 3) := by decide +kernel
theorem dX4_send_24 : decode cX4_send 24 = .ok (.iconst (-1), 1) := by decide +kernel
theorem dX4_send_25 : decode cX4_send 25 = .ok (.ireturn, 1) := by decide +kernel
theorem dX4_send_26 : decode cX4_send 26 = .ok (.iconst 0, 1) := by decide +kernel
theorem dX4_send_27 : decode cX4_send 27 = .ok (.istore 4, 2) := by decide +kernel
theorem dX4_send_29 : decode cX4_send 29 = .ok (.iconst (-1), 1) := by decide +kernel
theorem dX4_send_30 : decode cX4_send 30 = .ok (.istore 5, 2) := by decide +kernel
theorem dX4_send_32 : decode cX4_send 32 = .ok (.iconst 0, 1) := by decide +kernel
theorem dX4_send_33 : decode cX4_send 33 = .ok (.istore 6, 2) := by decide +kernel
theorem dX4_send_35 : decode cX4_send 35 = .ok (.iload 6, 2) := by decide +kernel
theorem dX4_send_37 : decode cX4_send 37 = .ok (.bipush 10, 2) := by decide +kernel
theorem dX4_send_39 : decode cX4_send 39 = .ok (.if_icmp .ge 66, 3) := by decide +kernel
theorem dX4_send_42 : decode cX4_send 42 = .ok (.aload_n 0, 1) := by decide +kernel
theorem dX4_send_43 : decode cX4_send 43 = .ok (.getfield 16, 3) := by decide +kernel
theorem dX4_send_46 : decode cX4_send 46 = .ok (.aload_n 0, 1) := by decide +kernel
theorem dX4_send_47 : decode cX4_send 47 = .ok (.getfield 12, 3) := by decide +kernel
theorem dX4_send_50 : decode cX4_send 50 = .ok (.invokevirtual 57, 3) := by decide +kernel
theorem dX4_send_53 : decode cX4_send 53 = .ok (.aload_n 0, 1) := by decide +kernel
theorem dX4_send_54 : decode cX4_send 54 = .ok (.getfield 16, 3) := by decide +kernel
theorem dX4_send_57 : decode cX4_send 57 = .ok (.getfield 82, 3) := by decide +kernel
theorem dX4_send_60 : decode cX4_send 60 = .ok (.iload_n 1, 1) := by decide +kernel
theorem dX4_send_61 : decode cX4_send 61 = .ok (.iload 6, 2) := by decide +kernel
theorem dX4_send_63 : decode cX4_send 63 = .ok (.iastore, 1) := by decide +kernel
theorem dX4_send_64 : decode cX4_send 64 = .ok (.aload_n 0, 1) := by decide +kernel
theorem dX4_send_65 : decode cX4_send 65 = .ok (.getfield 16, 3) := by decide +kernel
theorem dX4_send_68 : decode cX4_send 68 = .ok (.iload_n 2, 1) := by decide +kernel
theorem dX4_send_69 : decode cX4_send 69 = .ok (.invokevirtual 164, 3) := by decide +kernel
theorem dX4_send_72 : decode cX4_send 72 = .ok (.aload_n 0, 1) := by decide +kernel
theorem dX4_send_73 : decode cX4_send 73 = .ok (.getfield 16, 3) := by decide +kernel
theorem dX4_send_76 : decode cX4_send 76 = .ok (.invokevirtual 173, 3) := by decide +kernel
theorem dX4_send_79 : decode cX4_send 79 = .ok (.invokestatic 191, 3) := by decide +kernel
theorem dX4_send_82 : decode cX4_send 82 = .ok (.istore 7, 2) := by decide +kernel
theorem dX4_send_84 : decode cX4_send 84 = .ok (.iload 7, 2) := by decide +kernel
theorem dX4_send_86 : decode cX4_send 86 = .ok (.iload 5, 2) := by decide +kernel
theorem dX4_send_88 : decode cX4_send 88 = .ok (.if_icmp .le 11, 3) := by decide +kernel
theorem dX4_send_91 : decode cX4_send 91 = .ok (.iload 7, 2) := by decide +kernel
theorem dX4_send_93 : decode cX4_send 93 = .ok (.istore 5, 2) := by decide +kernel
theorem dX4_send_95 : decode cX4_send 95 = .ok (.iload 6, 2) := by decide +kernel
theorem dX4_send_97 : decode cX4_send 97 = .ok (.istore 4, 2) := by decide +kernel
theorem dX4_send_99 : decode cX4_send 99 = .ok (.iinc 6 1, 3) := by decide +kernel
theorem dX4_send_102 : decode cX4_send 102 = .ok (.goto (-67), 3) := by decide +kernel
theorem dX4_send_105 : decode cX4_send 105 = .ok (.iload_n 3, 1) := by decide +kernel
theorem dX4_send_106 : decode cX4_send 106 = .ok (.ifCond .ne 8, 3) := by decide +kernel
theorem dX4_send_109 : decode cX4_send 109 = .ok (.iload 4, 2) := by decide +kernel
theorem dX4_send_111 : decode cX4_send 111 = .ok (.goto 5, 3) := by decide +kernel
theorem dX4_send_114 : decode cX4_send 114 = .ok (.iload 5, 2) := by decide +kernel
theorem dX4_send_116 : decode cX4_send 116 = .ok (.ireturn, 1) := by decide +kernel
theorem dX4_idle_0 : decode cX4_idle 0 = .ok (.iload_n 1, 1) := by decide +kernel
theorem dX4_idle_1 : decode cX4_idle 1 = .ok (.invokestatic 167, 3) := by decide +kernel
theorem dX4_idle_4 : decode cX4_idle 4 = .ok (.ifCond .ne 5, 3) := by decide +kernel
theorem dX4_idle_7 : decode cX4_idle 7 = .ok (.iconst (-1), 1) := by decide +kernel
theorem dX4_idle_8 : decode cX4_idle 8 = .ok (.ireturn, 1) := by decide +kernel
theorem dX4_idle_9 : decode cX4_idle 9 = .ok (.aload_n 0, 1) := by decide +kernel
theorem dX4_idle_10 : decode cX4_idle 10 = .ok (.iload_n 1, 1) := by decide +kernel
theorem dX4_idle_11 : decode cX4_idle 11 = .ok (.invokevirtual 170, 3) := by decide +kernel
theorem dX4_idle_14 : decode cX4_idle 14 = .ok (.aload_n 0, 1) := by decide +kernel
theorem dX4_idle_15 : decode cX4_idle 15 = .ok (.getfield 16, 3) := by decide +kernel
theorem dX4_idle_18 : decode cX4_idle 18 = .ok (.invokevirtual 157, 3) := by decide +kernel
theorem dX4_idle_21 : decode cX4_idle 21 = .ok (.istore_n 2, 1) := by decide +kernel
theorem dX4_idle_22 : decode cX4_idle 22 = .ok (.iconst 0, 1) := by decide +kernel
theorem dX4_idle_23 : decode cX4_idle 23 = .ok (.istore_n 3, 1) := by decide +kernel
theorem dX4_idle_24 : decode cX4_idle 24 = .ok (.iload_n 3, 1) := by decide +kernel
theorem dX4_idle_25 : decode cX4_idle 25 = .ok (.aload_n 0, 1) := by decide +kernel
theorem dX4_idle_26 : decode cX4_idle 26 = .ok (.getfield 12, 3) := by decide +kernel
theorem dX4_idle_29 : decode cX4_idle 29 = .ok (.getfield 142, 3) := by decide +kernel
theorem dX4_idle_32 : decode cX4_idle 32 = .ok (.if_icmp .ge 56, 3) := by decide +kernel
theorem dX4_idle_35 : decode cX4_idle 35 = .ok (.aload_n 0, 1) := by decide +kernel
theorem dX4_idle_36 : decode cX4_idle 36 = .ok (.getfield 16, 3) := by decide +kernel
theorem dX4_idle_39 : decode cX4_idle 39 = .ok (.aload_n 0, 1) := by decide +kernel
theorem dX4_idle_40 : decode cX4_idle 40 = .ok (.getfield 12, 3) := by decide +kernel
theorem dX4_idle_43 : decode cX4_idle 43 = .ok (.invokevirtual 57, 3) := by decide +kernel
theorem dX4_idle_46 : decode cX4_idle 46 = .ok (.aload_n 0, 1) := by decide +kernel
theorem dX4_idle_47 : decode cX4_idle 47 = .ok (.getfield 16, 3) := by decide +kernel
theorem dX4_idle_50 : decode cX4_idle 50 = .ok (.dup, 1) := by decide +kernel
theorem dX4_idle_51 : decode cX4_idle 51 = .ok (.getfield 91, 3) := by decide +kernel
theorem dX4_idle_54 : decode cX4_idle 54 = .ok (.iconst 1, 1) := by decide +kernel
theorem dX4_idle_55 : decode cX4_idle 55 = .ok (.iload_n 3, 1) := by decide +kernel
theorem dX4_idle_56 : decode cX4_idle 56 = .ok (.ishl, 1) := by decide +kernel
theorem dX4_idle_57 : decode cX4_idle 57 = .ok (.ior, 1) := by decide +kernel
theorem dX4_idle_58 : decode cX4_idle 58 = .ok (.putfield 91, 3) := by decide +kernel
theorem dX4_idle_61 : decode cX4_idle 61 = .ok (.aload_n 0, 1) := by decide +kernel
theorem dX4_idle_62 : decode cX4_idle 62 = .ok (.getfield 16, 3) := by decide +kernel
theorem dX4_idle_65 : decode cX4_idle 65 = .ok (.iload_n 1, 1) := by decide +kernel
theorem dX4_idle_66 : decode cX4_idle 66 = .ok (.invokevirtual 164, 3) := by decide +kernel
theorem dX4_idle_69 : decode cX4_idle 69 = .ok (.aload_n 0, 1) := by decide +kernel
theorem dX4_idle_70 : decode cX4_idle 70 = .ok (.getfield 16, 3) := by decide +kernel
theorem dX4_idle_73 : decode cX4_idle 73 = .ok (.invokevirtual 157, 3) := by decide +kernel
theorem dX4_idle_76 : decode cX4_idle 76 = .ok (.iload_n 2, 1) := by decide +kernel
theorem dX4_idle_77 : decode cX4_idle 77 = .ok (.if_icmp .lt 5, 3) := by decide +kernel
theorem dX4_idle_80 : decode cX4_idle 80 = .ok (.iload_n 3, 1) := by decide +kernel
theorem dX4_idle_81 : decode cX4_idle 81 = .ok (.ireturn, 1) := by decide +kernel
theorem dX4_idle_82 : decode cX4_idle 82 = .ok (.iinc 3 1, 3) := by decide +kernel
theorem dX4_idle_85 : decode cX4_idle 85 = .ok (.goto (-61), 3) := by decide +kernel
theorem dX4_idle_88 : decode cX4_idle 88 = .ok (.bipush (-4), 2) := by decide +kernel
theorem dX4_idle_90 : decode cX4_idle 90 = .ok (.ireturn, 1) := by decide +kernel
theorem dX4_slowest_0 : decode cX4_slowest 0 = .ok (.iload_n 1, 1) := by decide +kernel
theorem dX4_slowest_1 : decode cX4_slowest 1 = .ok (.invokestatic 167, 3) := by decide +kernel
theorem dX4_slowest_4 : decode cX4_slowest 4 = .ok (.ifCond .ne 5, 3) := by decide +kernel
theorem dX4_slowest_7 : decode cX4_slowest 7 = .ok (.iconst (-1), 1) := by decide +kernel
theorem dX4_slowest_8 : decode cX4_slowest 8 = .ok (.ireturn, 1) := by decide +kernel
theorem dX4_slowest_9 : decode cX4_slowest 9 = .ok (.aload_n 0, 1) := by decide +kernel
theorem dX4_slowest_10 : decode cX4_slowest 10 = .ok (.iload_n 1, 1) := by decide +kernel
theorem dX4_slowest_11 : decode cX4_slowest 11 = .ok (.invokevirtual 170, 3) := by decide +kernel
theorem dX4_slowest_14 : decode cX4_slowest 14 = .ok (.bipush (-4), 2) := by decide +kernel
theorem dX4_slowest_16 : decode cX4_slowest 16 = .ok (.istore_n 2, 1) := by decide +kernel
theorem dX4_slowest_17 : decode cX4_slowest 17 = .ok (.sipush 10000, 3) := by decide +kernel
theorem dX4_slowest_20 : decode cX4_slowest 20 = .ok (.istore_n 3, 1) := by decide +kernel
theorem dX4_slowest_21 : decode cX4_slowest 21 = .ok (.iconst 0, 1) := by decide +kernel
theorem dX4_slowest_22 : decode cX4_slowest 22 = .ok (.istore 4, 2) := by decide +kernel
theorem dX4_slowest_24 : decode cX4_slowest 24 = .ok (.iload 4, 2) := by decide +kernel
theorem dX4_slowest_26 : decode cX4_slowest 26 = .ok (.aload_n 0, 1) := by decide +kernel
theorem dX4_slowest_27 : decode cX4_slowest 27 = .ok (.getfield 12, 3) := by decide +kernel
theorem dX4_slowest_30 : decode cX4_slowest 30 = .ok (.getfield 142, 3) := by decide +kernel
theorem dX4_slowest_33 : decode cX4_slowest 33 = .ok (.if_icmp .ge 44, 3) := by decide +kernel
theorem dX4_slowest_36 : decode cX4_slowest 36 = .ok (.aload_n 0, 1) := by decide +kernel
theorem dX4_slowest_37 : decode cX4_slowest 37 = .ok (.getfield 16, 3) := by decide +kernel
theorem dX4_slowest_40 : decode cX4_slowest 40 = .ok (.getfield 88, 3) := by decide +kernel
theorem dX4_slowest_43 : decode cX4_slowest 43 = .ok (.iload 4, 2) := by decide +kernel
theorem dX4_slowest_45 : decode cX4_slowest 45 = .ok (.iaload, 1) := by decide +kernel
theorem dX4_slowest_46 : decode cX4_slowest 46 = .ok (.aload_n 0, 1) := by decide +kernel
theorem dX4_slowest_47 : decode cX4_slowest 47 = .ok (.getfield 12, 3) := by decide +kernel
theorem dX4_slowest_50 : decode cX4_slowest 50 = .ok (.getfield 88, 3) := by decide +kernel
theorem dX4_slowest_53 : decode cX4_slowest 53 = .ok (.iload 4, 2) := by decide +kernel
theorem dX4_slowest_55 : decode cX4_slowest 55 = .ok (.iaload, 1) := by decide +kernel
theorem dX4_slowest_56 : decode cX4_slowest 56 = .ok (.isub, 1) := by decide +kernel
theorem dX4_slowest_57 : decode cX4_slowest 57 = .ok (.istore 5, 2) := by decide +kernel
theorem dX4_slowest_59 : decode cX4_slowest 59 = .ok (.iload 5, 2) := by decide +kernel
theorem dX4_slowest_61 : decode cX4_slowest 61 = .ok (.iload_n 3, 1) := by decide +kernel
theorem dX4_slowest_62 : decode cX4_slowest 62 = .ok (.if_icmp .ge 9, 3) := by decide +kernel
theorem dX4_slowest_65 : decode cX4_slowest 65 = .ok (.iload 5, 2) := by decide +kernel
theorem dX4_slowest_67 : decode cX4_slowest 67 = .ok (.istore_n 3, 1) := by decide +kernel
theorem dX4_slowest_68 : decode cX4_slowest 68 = .ok (.iload 4, 2) := by decide +kernel
theorem dX4_slowest_70 : decode cX4_slowest 70 = .ok (.istore_n 2, 1) := by decide +kernel
theorem dX4_slowest_71 : decode cX4_slowest 71 = .ok (.iinc 4 1, 3) := by decide +kernel
theorem dX4_slowest_74 : decode cX4_slowest 74 = .ok (.goto (-50), 3) := by decide +kernel
theorem dX4_slowest_77 : decode cX4_slowest 77 = .ok (.iload_n 2, 1) := by decide +kernel
theorem dX4_slowest_78 : decode cX4_slowest 78 = .ok (.ireturn, 1) := by decide +kernel
theorem dX4_lost_0 : decode cX4_lost 0 = .ok (.iload_n 1, 1) := by decide +kernel
theorem dX4_lost_1 : decode cX4_lost 1 = .ok (.invokestatic 167, 3) := by decide +kernel
theorem dX4_lost_4 : decode cX4_lost 4 = .ok (.ifCond .ne 5, 3) := by decide +kernel
theorem dX4_lost_7 : decode cX4_lost 7 = .ok (.iconst (-1), 1) := by decide +kernel
theorem dX4_lost_8 : decode cX4_lost 8 = .ok (.ireturn, 1) := by decide +kernel
theorem dX4_lost_9 : decode cX4_lost 9 = .ok (.aload_n 0, 1) := by decide +kernel
theorem dX4_lost_10 : decode cX4_lost 10 = .ok (.iload_n 1, 1) := by decide +kernel
theorem dX4_lost_11 : decode cX4_lost 11 = .ok (.invokevirtual 170, 3) := by decide +kernel
theorem dX4_lost_14 : decode cX4_lost 14 = .ok (.aload_n 0, 1) := by decide +kernel
theorem dX4_lost_15 : decode cX4_lost 15 = .ok (.getfield 16, 3) := by decide +kernel
theorem dX4_lost_18 : decode cX4_lost 18 = .ok (.getfield 196, 3) := by decide +kernel
theorem dX4_lost_21 : decode cX4_lost 21 = .ok (.ireturn, 1) := by decide +kernel
theorem dX4_heap_0 : decode cX4_heap 0 = .ok (.iload_n 1, 1) := by decide +kernel
theorem dX4_heap_1 : decode cX4_heap 1 = .ok (.invokestatic 167, 3) := by decide +kernel
theorem dX4_heap_4 : decode cX4_heap 4 = .ok (.ifCond .eq 12, 3) := by decide +kernel
theorem dX4_heap_7 : decode cX4_heap 7 = .ok (.iload_n 2, 1) := by decide +kernel
theorem dX4_heap_8 : decode cX4_heap 8 = .ok (.iconst 0, 1) := by decide +kernel
theorem dX4_heap_9 : decode cX4_heap 9 = .ok (.iconst 1, 1) := by decide +kernel
theorem dX4_heap_10 : decode cX4_heap 10 = .ok (.invokestatic 123, 3) := by decide +kernel
theorem dX4_heap_13 : decode cX4_heap 13 = .ok (.ifCond .ne 5, 3) := by decide +kernel
theorem dX4_heap_16 : decode cX4_heap 16 = .ok (.iconst (-1), 1) := by decide +kernel
theorem dX4_heap_17 : decode cX4_heap 17 = .ok (.ireturn, 1) := by decide +kernel
theorem dX4_heap_18 : decode cX4_heap 18 = .ok (.aload_n 0, 1) := by decide +kernel
theorem dX4_heap_19 : decode cX4_heap 19 = .ok (.iload_n 1, 1) := by decide +kernel
theorem dX4_heap_20 : decode cX4_heap 20 = .ok (.invokevirtual 170, 3) := by decide +kernel
theorem dX4_heap_23 : decode cX4_heap 23 = .ok (.iconst 0, 1) := by decide +kernel
theorem dX4_heap_24 : decode cX4_heap 24 = .ok (.istore_n 3, 1) := by decide +kernel
theorem dX4_heap_25 : decode cX4_heap 25 = .ok (.iconst 1, 1) := by decide +kernel
theorem dX4_heap_26 : decode cX4_heap 26 = .ok (.istore 4, 2) := by decide +kernel
theorem dX4_heap_28 : decode cX4_heap 28 = .ok (.iload 4, 2) := by decide +kernel
theorem dX4_heap_30 : decode cX4_heap 30 = .ok (.bipush 10, 2) := by decide +kernel
theorem dX4_heap_32 : decode cX4_heap 32 = .ok (.if_icmp .ge 34, 3) := by decide +kernel
theorem dX4_heap_35 : decode cX4_heap 35 = .ok (.aload_n 0, 1) := by decide +kernel
theorem dX4_heap_36 : decode cX4_heap 36 = .ok (.getfield 16, 3) := by decide +kernel
theorem dX4_heap_39 : decode cX4_heap 39 = .ok (.getfield 114, 3) := by decide +kernel
theorem dX4_heap_42 : decode cX4_heap 42 = .ok (.iload 4, 2) := by decide +kernel
theorem dX4_heap_44 : decode cX4_heap 44 = .ok (.iaload, 1) := by decide +kernel
theorem dX4_heap_45 : decode cX4_heap 45 = .ok (.aload_n 0, 1) := by decide +kernel
theorem dX4_heap_46 : decode cX4_heap 46 = .ok (.getfield 16, 3) := by decide +kernel
theorem dX4_heap_49 : decode cX4_heap 49 = .ok (.getfield 114, 3) := by decide +kernel
theorem dX4_heap_52 : decode cX4_heap 52 = .ok (.iload_n 3, 1) := by decide +kernel
theorem dX4_heap_53 : decode cX4_heap 53 = .ok (.iaload, 1) := by decide +kernel
theorem dX4_heap_54 : decode cX4_heap 54 = .ok (.if_icmp .le 6, 3) := by decide +kernel
theorem dX4_heap_57 : decode cX4_heap 57 = .ok (.iload 4, 2) := by decide +kernel
theorem dX4_heap_59 : decode cX4_heap 59 = .ok (.istore_n 3, 1) := by decide +kernel
theorem dX4_heap_60 : decode cX4_heap 60 = .ok (.iinc 4 1, 3) := by decide +kernel
theorem dX4_heap_63 : decode cX4_heap 63 = .ok (.goto (-35), 3) := by decide +kernel
theorem dX4_heap_66 : decode cX4_heap 66 = .ok (.iload_n 2, 1) := by decide +kernel
theorem dX4_heap_67 : decode cX4_heap 67 = .ok (.ifCond .ne 7, 3) := by decide +kernel
theorem dX4_heap_70 : decode cX4_heap 70 = .ok (.iload_n 3, 1) := by decide +kernel
theorem dX4_heap_71 : decode cX4_heap 71 = .ok (.goto 12, 3) := by decide +kernel
theorem dX4_heap_74 : decode cX4_heap 74 = .ok (.aload_n 0, 1) := by decide +kernel
theorem dX4_heap_75 : decode cX4_heap 75 = .ok (.getfield 16, 3) := by decide +kernel
theorem dX4_heap_78 : decode cX4_heap 78 = .ok (.getfield 114, 3) := by decide +kernel
theorem dX4_heap_81 : decode cX4_heap 81 = .ok (.iload_n 3, 1) := by decide +kernel
theorem dX4_heap_82 : decode cX4_heap 82 = .ok (.iaload, 1) := by decide +kernel
theorem dX4_heap_83 : decode cX4_heap 83 = .ok (.ireturn, 1) := by decide +kernel
theorem dX4_begin_0 : decode cX4_begin 0 = .ok (.aload_n 0, 1) := by decide +kernel
theorem dX4_begin_1 : decode cX4_begin 1 = .ok (.iload_n 1, 1) := by decide +kernel
theorem dX4_begin_2 : decode cX4_begin 2 = .ok (.invokevirtual 72, 3) := by decide +kernel
theorem dX4_begin_5 : decode cX4_begin 5 = .ok (.ifCond .eq 10, 3) := by decide +kernel
theorem dX4_begin_8 : decode cX4_begin 8 = .ok (.iload_n 2, 1) := by decide +kernel
theorem dX4_begin_9 : decode cX4_begin 9 = .ok (.invokestatic 167, 3) := by decide +kernel
theorem dX4_begin_12 : decode cX4_begin 12 = .ok (.ifCond .ne 5, 3) := by decide +kernel
theorem dX4_begin_15 : decode cX4_begin 15 = .ok (.iconst (-1), 1) := by decide +kernel
theorem dX4_begin_16 : decode cX4_begin 16 = .ok (.ireturn, 1) := by decide +kernel
theorem dX4_begin_17 : decode cX4_begin 17 = .ok (.iconst 0, 1) := by decide +kernel
theorem dX4_begin_18 : decode cX4_begin 18 = .ok (.istore_n 3, 1) := by decide +kernel
theorem dX4_begin_19 : decode cX4_begin 19 = .ok (.iconst (-1), 1) := by decide +kernel
theorem dX4_begin_20 : decode cX4_begin 20 = .ok (.istore 4, 2) := by decide +kernel
theorem dX4_begin_22 : decode cX4_begin 22 = .ok (.iconst 0, 1) := by decide +kernel
theorem dX4_begin_23 : decode cX4_begin 23 = .ok (.istore 5, 2) := by decide +kernel
theorem dX4_begin_25 : decode cX4_begin 25 = .ok (.iload 5, 2) := by decide +kernel
theorem dX4_begin_27 : decode cX4_begin 27 = .ok (.iconst 1, 1) := by decide +kernel
theorem dX4_begin_28 : decode cX4_begin 28 = .ok (.if_icmp .gt 100, 3) := by decide +kernel
theorem dX4_begin_31 : decode cX4_begin 31 = .ok (.iconst 0, 1) := by decide +kernel
theorem dX4_begin_32 : decode cX4_begin 32 = .ok (.istore 6, 2) := by decide +kernel
theorem dX4_begin_34 : decode cX4_begin 34 = .ok (.iload 6, 2) := by decide +kernel
theorem dX4_begin_36 : decode cX4_begin 36 = .ok (.bipush 10, 2) := by decide +kernel
theorem dX4_begin_38 : decode cX4_begin 38 = .ok (.if_icmp .ge 84, 3) := by decide +kernel
theorem dX4_begin_41 : decode cX4_begin 41 = .ok (.aload_n 0, 1) := by decide +kernel
theorem dX4_begin_42 : decode cX4_begin 42 = .ok (.getfield 16, 3) := by decide +kernel
theorem dX4_begin_45 : decode cX4_begin 45 = .ok (.aload_n 0, 1) := by decide +kernel
theorem dX4_begin_46 : decode cX4_begin 46 = .ok (.getfield 12, 3) := by decide +kernel
theorem dX4_begin_49 : decode cX4_begin 49 = .ok (.invokevirtual 57, 3) := by decide +kernel
theorem dX4_begin_52 : decode cX4_begin 52 = .ok (.aload_n 0, 1) := by decide +kernel
theorem dX4_begin_53 : decode cX4_begin 53 = .ok (.getfield 16, 3) := by decide +kernel
theorem dX4_begin_56 : decode cX4_begin 56 = .ok (.getfield 85, 3) := by decide +kernel
theorem dX4_begin_59 : decode cX4_begin 59 = .ok (.iload_n 1, 1) := by decide +kernel
theorem dX4_begin_60 : decode cX4_begin 60 = .ok (.iload 5, 2) := by decide +kernel
theorem dX4_begin_62 : decode cX4_begin 62 = .ok (.iastore, 1) := by decide +kernel
theorem dX4_begin_63 : decode cX4_begin 63 = .ok (.aload_n 0, 1) := by decide +kernel
theorem dX4_begin_64 : decode cX4_begin 64 = .ok (.getfield 16, 3) := by decide +kernel
theorem dX4_begin_67 : decode cX4_begin 67 = .ok (.getfield 82, 3) := by decide +kernel
theorem dX4_begin_70 : decode cX4_begin 70 = .ok (.iload_n 1, 1) := by decide +kernel
theorem dX4_begin_71 : decode cX4_begin 71 = .ok (.iload 6, 2) := by decide +kernel
theorem dX4_begin_73 : decode cX4_begin 73 = .ok (.iastore, 1) := by decide +kernel
theorem dX4_begin_74 : decode cX4_begin 74 = .ok (.aload_n 0, 1) := by decide +kernel
theorem dX4_begin_75 : decode cX4_begin 75 = .ok (.getfield 16, 3) := by decide +kernel
theorem dX4_begin_78 : decode cX4_begin 78 = .ok (.iload_n 2, 1) := by decide +kernel
theorem dX4_begin_79 : decode cX4_begin 79 = .ok (.invokevirtual 164, 3) := by decide +kernel
theorem dX4_begin_82 : decode cX4_begin 82 = .ok (.aload_n 0, 1) := by decide +kernel
theorem dX4_begin_83 : decode cX4_begin 83 = .ok (.getfield 16, 3) := by decide +kernel
theorem dX4_begin_86 : decode cX4_begin 86 = .ok (.getfield 88, 3) := by decide +kernel
theorem dX4_begin_89 : decode cX4_begin 89 = .ok (.iload_n 1, 1) := by decide +kernel
theorem dX4_begin_90 : decode cX4_begin 90 = .ok (.iaload, 1) := by decide +kernel
theorem dX4_begin_91 : decode cX4_begin 91 = .ok (.iload 4, 2) := by decide +kernel
theorem dX4_begin_93 : decode cX4_begin 93 = .ok (.if_icmp .le 23, 3) := by decide +kernel
theorem dX4_begin_96 : decode cX4_begin 96 = .ok (.aload_n 0, 1) := by decide +kernel
theorem dX4_begin_97 : decode cX4_begin 97 = .ok (.getfield 16, 3) := by decide +kernel
theorem dX4_begin_100 : decode cX4_begin 100 = .ok (.getfield 88, 3) := by decide +kernel
theorem dX4_begin_103 : decode cX4_begin 103 = .ok (.iload_n 1, 1) := by decide +kernel
theorem dX4_begin_104 : decode cX4_begin 104 = .ok (.iaload, 1) := by decide +kernel
theorem dX4_begin_105 : decode cX4_begin 105 = .ok (.istore 4, 2) := by decide +kernel
theorem dX4_begin_107 : decode cX4_begin 107 = .ok (.bipush 10, 2) := by decide +kernel
theorem dX4_begin_109 : decode cX4_begin 109 = .ok (.iload 5, 2) := by decide +kernel
theorem dX4_begin_111 : decode cX4_begin 111 = .ok (.imul, 1) := by decide +kernel
theorem dX4_begin_112 : decode cX4_begin 112 = .ok (.iload 6, 2) := by decide +kernel
theorem dX4_begin_114 : decode cX4_begin 114 = .ok (.iadd, 1) := by decide +kernel
theorem dX4_begin_115 : decode cX4_begin 115 = .ok (.istore_n 3, 1) := by decide +kernel
theorem dX4_begin_116 : decode cX4_begin 116 = .ok (.iinc 6 1, 3) := by decide +kernel
theorem dX4_begin_119 : decode cX4_begin 119 = .ok (.goto (-85), 3) := by decide +kernel
theorem dX4_begin_122 : decode cX4_begin 122 = .ok (.iinc 5 1, 3) := by decide +kernel
theorem dX4_begin_125 : decode cX4_begin 125 = .ok (.goto (-100), 3) := by decide +kernel
theorem dX4_begin_128 : decode cX4_begin 128 = .ok (.iload_n 3, 1) := by decide +kernel
theorem dX4_begin_129 : decode cX4_begin 129 = .ok (.ireturn, 1) := by decide +kernel
theorem dX4_pairs_0 : decode cX4_pairs 0 = .ok (.iconst 0, 1) := by decide +kernel
theorem dX4_pairs_1 : decode cX4_pairs 1 = .ok (.istore_n 1, 1) := by decide +kernel
theorem dX4_pairs_2 : decode cX4_pairs 2 = .ok (.iconst 0, 1) := by decide +kernel
theorem dX4_pairs_3 : decode cX4_pairs 3 = .ok (.istore_n 2, 1) := by decide +kernel
theorem dX4_pairs_4 : decode cX4_pairs 4 = .ok (.iconst 0, 1) := by decide +kernel
theorem dX4_pairs_5 : decode cX4_pairs 5 = .ok (.istore_n 3, 1) := by decide +kernel
theorem dX4_pairs_6 : decode cX4_pairs 6 = .ok (.iload_n 3, 1) := by decide +kernel
theorem dX4_pairs_7 : decode cX4_pairs 7 = .ok (.bipush 10, 2) := by decide +kernel
theorem dX4_pairs_9 : decode cX4_pairs 9 = .ok (.if_icmp .ge 85, 3) := by decide +kernel
theorem dX4_pairs_12 : decode cX4_pairs 12 = .ok (.iconst 0, 1) := by decide +kernel
theorem dX4_pairs_13 : decode cX4_pairs 13 = .ok (.istore 4, 2) := by decide +kernel
theorem dX4_pairs_15 : decode cX4_pairs 15 = .ok (.iload 4, 2) := by decide +kernel
theorem dX4_pairs_17 : decode cX4_pairs 17 = .ok (.aload_n 0, 1) := by decide +kernel
theorem dX4_pairs_18 : decode cX4_pairs 18 = .ok (.getfield 12, 3) := by decide +kernel
theorem dX4_pairs_21 : decode cX4_pairs 21 = .ok (.getfield 142, 3) := by decide +kernel
theorem dX4_pairs_24 : decode cX4_pairs 24 = .ok (.if_icmp .ge 64, 3) := by decide +kernel
theorem dX4_pairs_27 : decode cX4_pairs 27 = .ok (.aload_n 0, 1) := by decide +kernel
theorem dX4_pairs_28 : decode cX4_pairs 28 = .ok (.getfield 12, 3) := by decide +kernel
theorem dX4_pairs_31 : decode cX4_pairs 31 = .ok (.getfield 85, 3) := by decide +kernel
theorem dX4_pairs_34 : decode cX4_pairs 34 = .ok (.iload 4, 2) := by decide +kernel
theorem dX4_pairs_36 : decode cX4_pairs 36 = .ok (.iaload, 1) := by decide +kernel
theorem dX4_pairs_37 : decode cX4_pairs 37 = .ok (.ifCond .ne 26, 3) := by decide +kernel
theorem dX4_pairs_40 : decode cX4_pairs 40 = .ok (.aload_n 0, 1) := by decide +kernel
theorem dX4_pairs_41 : decode cX4_pairs 41 = .ok (.getfield 12, 3) := by decide +kernel
theorem dX4_pairs_44 : decode cX4_pairs 44 = .ok (.getfield 82, 3) := by decide +kernel
theorem dX4_pairs_47 : decode cX4_pairs 47 = .ok (.iload 4, 2) := by decide +kernel
theorem dX4_pairs_49 : decode cX4_pairs 49 = .ok (.iaload, 1) := by decide +kernel
theorem dX4_pairs_50 : decode cX4_pairs 50 = .ok (.iload_n 3, 1) := by decide +kernel
theorem dX4_pairs_51 : decode cX4_pairs 51 = .ok (.if_icmp .ne 12, 3) := by decide +kernel
theorem dX4_pairs_54 : decode cX4_pairs 54 = .ok (.aload_n 0, 1) := by decide +kernel
theorem dX4_pairs_55 : decode cX4_pairs 55 = .ok (.iload_n 3, 1) := by decide +kernel
theorem dX4_pairs_56 : decode cX4_pairs 56 = .ok (.iload_n 2, 1) := by decide +kernel
theorem dX4_pairs_57 : decode cX4_pairs 57 = .ok (.invokevirtual 199, 3) := by decide +kernel
theorem dX4_pairs_60 : decode cX4_pairs 60 = .ok (.goto 5, 3) := by decide +kernel
theorem dX4_pairs_63 : decode cX4_pairs 63 = .ok (.bipush (-4), 2) := by decide +kernel
theorem dX4_pairs_65 : decode cX4_pairs 65 = .ok (.istore 5, 2) := by decide +kernel
theorem dX4_pairs_67 : decode cX4_pairs 67 = .ok (.iload 5, 2) := by decide +kernel
theorem dX4_pairs_69 : decode cX4_pairs 69 = .ok (.ifCond .lt 13, 3) := by decide +kernel
theorem dX4_pairs_72 : decode cX4_pairs 72 = .ok (.iload_n 2, 1) := by decide +kernel
theorem dX4_pairs_73 : decode cX4_pairs 73 = .ok (.iconst 1, 1) := by decide +kernel
theorem dX4_pairs_74 : decode cX4_pairs 74 = .ok (.iload 5, 2) := by decide +kernel
theorem dX4_pairs_76 : decode cX4_pairs 76 = .ok (.ishl, 1) := by decide +kernel
theorem dX4_pairs_77 : decode cX4_pairs 77 = .ok (.ior, 1) := by decide +kernel
theorem dX4_pairs_78 : decode cX4_pairs 78 = .ok (.istore_n 2, 1) := by decide +kernel
theorem dX4_pairs_79 : decode cX4_pairs 79 = .ok (.iinc 1 1, 3) := by decide +kernel
theorem dX4_pairs_82 : decode cX4_pairs 82 = .ok (.iinc 4 1, 3) := by decide +kernel
theorem dX4_pairs_85 : decode cX4_pairs 85 = .ok (.goto (-70), 3) := by decide +kernel
theorem dX4_pairs_88 : decode cX4_pairs 88 = .ok (.iinc 3 1, 3) := by decide +kernel
theorem dX4_pairs_91 : decode cX4_pairs 91 = .ok (.goto (-85), 3) := by decide +kernel
theorem dX4_pairs_94 : decode cX4_pairs 94 = .ok (.iload_n 1, 1) := by decide +kernel
theorem dX4_pairs_95 : decode cX4_pairs 95 = .ok (.ireturn, 1) := by decide +kernel
theorem dX4_even_0 : decode cX4_even 0 = .ok (.iload_n 1, 1) := by decide +kernel
theorem dX4_even_1 : decode cX4_even 1 = .ok (.iconst 0, 1) := by decide +kernel
theorem dX4_even_2 : decode cX4_even 2 = .ok (.iconst 1, 1) := by decide +kernel
theorem dX4_even_3 : decode cX4_even 3 = .ok (.invokestatic 123, 3) := by decide +kernel
theorem dX4_even_6 : decode cX4_even 6 = .ok (.ifCond .ne 5, 3) := by decide +kernel
theorem dX4_even_9 : decode cX4_even 9 = .ok (.iconst (-1), 1) := by decide +kernel
theorem dX4_even_10 : decode cX4_even 10 = .ok (.ireturn, 1) := by decide +kernel
theorem dX4_even_11 : decode cX4_even 11 = .ok (.aload_n 0, 1) := by decide +kernel
theorem dX4_even_12 : decode cX4_even 12 = .ok (.getfield 12, 3) := by decide +kernel
theorem dX4_even_15 : decode cX4_even 15 = .ok (.invokevirtual 202, 3) := by decide +kernel
theorem dX4_even_18 : decode cX4_even 18 = .ok (.istore_n 2, 1) := by decide +kernel
theorem dX4_even_19 : decode cX4_even 19 = .ok (.iconst 0, 1) := by decide +kernel
theorem dX4_even_20 : decode cX4_even 20 = .ok (.istore_n 3, 1) := by decide +kernel
theorem dX4_even_21 : decode cX4_even 21 = .ok (.iconst 0, 1) := by decide +kernel
theorem dX4_even_22 : decode cX4_even 22 = .ok (.istore 4, 2) := by decide +kernel
theorem dX4_even_24 : decode cX4_even 24 = .ok (.iload_n 2, 1) := by decide +kernel
theorem dX4_even_25 : decode cX4_even 25 = .ok (.iconst 1, 1) := by decide +kernel
theorem dX4_even_26 : decode cX4_even 26 = .ok (.iadd, 1) := by decide +kernel
theorem dX4_even_27 : decode cX4_even 27 = .ok (.istore 5, 2) := by decide +kernel
theorem dX4_even_29 : decode cX4_even 29 = .ok (.iconst 0, 1) := by decide +kernel
theorem dX4_even_30 : decode cX4_even 30 = .ok (.istore 6, 2) := by decide +kernel
theorem dX4_even_32 : decode cX4_even 32 = .ok (.iload 6, 2) := by decide +kernel
theorem dX4_even_34 : decode cX4_even 34 = .ok (.bipush 9, 2) := by decide +kernel
theorem dX4_even_36 : decode cX4_even 36 = .ok (.if_icmp .ge 47, 3) := by decide +kernel
theorem dX4_even_39 : decode cX4_even 39 = .ok (.iload_n 3, 1) := by decide +kernel
theorem dX4_even_40 : decode cX4_even 40 = .ok (.aload_n 0, 1) := by decide +kernel
theorem dX4_even_41 : decode cX4_even 41 = .ok (.getfield 12, 3) := by decide +kernel
theorem dX4_even_44 : decode cX4_even 44 = .ok (.getfield 114, 3) := by decide +kernel
theorem dX4_even_47 : decode cX4_even 47 = .ok (.iload 6, 2) := by decide +kernel
theorem dX4_even_49 : decode cX4_even 49 = .ok (.iaload, 1) := by decide +kernel
theorem dX4_even_50 : decode cX4_even 50 = .ok (.iadd, 1) := by decide +kernel
theorem dX4_even_51 : decode cX4_even 51 = .ok (.istore_n 3, 1) := by decide +kernel
theorem dX4_even_52 : decode cX4_even 52 = .ok (.iload_n 3, 1) := by decide +kernel
theorem dX4_even_53 : decode cX4_even 53 = .ok (.iload_n 2, 1) := by decide +kernel
theorem dX4_even_54 : decode cX4_even 54 = .ok (.iload_n 3, 1) := by decide +kernel
theorem dX4_even_55 : decode cX4_even 55 = .ok (.isub, 1) := by decide +kernel
theorem dX4_even_56 : decode cX4_even 56 = .ok (.isub, 1) := by decide +kernel
theorem dX4_even_57 : decode cX4_even 57 = .ok (.invokestatic 179, 3) := by decide +kernel
theorem dX4_even_60 : decode cX4_even 60 = .ok (.istore 7, 2) := by decide +kernel
theorem dX4_even_62 : decode cX4_even 62 = .ok (.iload 7, 2) := by decide +kernel
theorem dX4_even_64 : decode cX4_even 64 = .ok (.iload 5, 2) := by decide +kernel
theorem dX4_even_66 : decode cX4_even 66 = .ok (.if_icmp .ge 11, 3) := by decide +kernel
theorem dX4_even_69 : decode cX4_even 69 = .ok (.iload 7, 2) := by decide +kernel
theorem dX4_even_71 : decode cX4_even 71 = .ok (.istore 5, 2) := by decide +kernel
theorem dX4_even_73 : decode cX4_even 73 = .ok (.iload 6, 2) := by decide +kernel
theorem dX4_even_75 : decode cX4_even 75 = .ok (.istore 4, 2) := by decide +kernel
theorem dX4_even_77 : decode cX4_even 77 = .ok (.iinc 6 1, 3) := by decide +kernel
theorem dX4_even_80 : decode cX4_even 80 = .ok (.goto (-48), 3) := by decide +kernel
theorem dX4_even_83 : decode cX4_even 83 = .ok (.iload_n 1, 1) := by decide +kernel
theorem dX4_even_84 : decode cX4_even 84 = .ok (.ifCond .ne 8, 3) := by decide +kernel
theorem dX4_even_87 : decode cX4_even 87 = .ok (.iload 4, 2) := by decide +kernel
theorem dX4_even_89 : decode cX4_even 89 = .ok (.goto 5, 3) := by decide +kernel
theorem dX4_even_92 : decode cX4_even 92 = .ok (.iload 5, 2) := by decide +kernel
theorem dX4_even_94 : decode cX4_even 94 = .ok (.ireturn, 1) := by decide +kernel
theorem dX4_howMany_0 : decode cX4_howMany 0 = .ok (.iload_n 2, 1) := by decide +kernel
theorem dX4_howMany_1 : decode cX4_howMany 1 = .ok (.invokestatic 111, 3) := by decide +kernel
theorem dX4_howMany_4 : decode cX4_howMany 4 = .ok (.ifCond .eq 12, 3) := by decide +kernel
theorem dX4_howMany_7 : decode cX4_howMany 7 = .ok (.iload_n 3, 1) := by decide +kernel
theorem dX4_howMany_8 : decode cX4_howMany 8 = .ok (.iconst 0, 1) := by decide +kernel
theorem dX4_howMany_9 : decode cX4_howMany 9 = .ok (.iconst 2, 1) := by decide +kernel
theorem dX4_howMany_10 : decode cX4_howMany 10 = .ok (.invokestatic 123, 3) := by decide +kernel
theorem dX4_howMany_13 : decode cX4_howMany 13 = .ok (.ifCond .ne 5, 3) := by decide +kernel
theorem dX4_howMany_16 : decode cX4_howMany 16 = .ok (.iconst (-1), 1) := by decide +kernel
theorem dX4_howMany_17 : decode cX4_howMany 17 = .ok (.ireturn, 1) := by decide +kernel
theorem dX4_howMany_18 : decode cX4_howMany 18 = .ok (.aload_n 0, 1) := by decide +kernel
theorem dX4_howMany_19 : decode cX4_howMany 19 = .ok (.iload_n 1, 1) := by decide +kernel
theorem dX4_howMany_20 : decode cX4_howMany 20 = .ok (.invokevirtual 40, 3) := by decide +kernel
theorem dX4_howMany_23 : decode cX4_howMany 23 = .ok (.astore 4, 2) := by decide +kernel
theorem dX4_howMany_25 : decode cX4_howMany 25 = .ok (.aload 4, 2) := by decide +kernel
theorem dX4_howMany_27 : decode cX4_howMany 27 = .ok (.iconst 2, 1) := by decide +kernel
theorem dX4_howMany_28 : decode cX4_howMany 28 = .ok (.invokestatic 127, 3) := by decide +kernel
theorem dX4_howMany_31 : decode cX4_howMany 31 = .ok (.istore 5, 2) := by decide +kernel
theorem dX4_howMany_33 : decode cX4_howMany 33 = .ok (.aload 4, 2) := by decide +kernel
theorem dX4_howMany_35 : decode cX4_howMany 35 = .ok (.ifnull 8, 3) := by decide +kernel
theorem dX4_howMany_38 : decode cX4_howMany 38 = .ok (.iload 5, 2) := by decide +kernel
theorem dX4_howMany_40 : decode cX4_howMany 40 = .ok (.ifCond .eq 6, 3) := by decide +kernel
theorem dX4_howMany_43 : decode cX4_howMany 43 = .ok (.iload 5, 2) := by decide +kernel
theorem dX4_howMany_45 : decode cX4_howMany 45 = .ok (.ireturn, 1) := by decide +kernel
theorem dX4_howMany_46 : decode cX4_howMany 46 = .ok (.iconst 0, 1) := by decide +kernel
theorem dX4_howMany_47 : decode cX4_howMany 47 = .ok (.istore 6, 2) := by decide +kernel
theorem dX4_howMany_49 : decode cX4_howMany 49 = .ok (.bipush (-4), 2) := by decide +kernel
theorem dX4_howMany_51 : decode cX4_howMany 51 = .ok (.istore 7, 2) := by decide +kernel
theorem dX4_howMany_53 : decode cX4_howMany 53 = .ok (.bipush (-4), 2) := by decide +kernel
theorem dX4_howMany_55 : decode cX4_howMany 55 = .ok (.istore 8, 2) := by decide +kernel
theorem dX4_howMany_57 : decode cX4_howMany 57 = .ok (.aload 4, 2) := by decide +kernel
theorem dX4_howMany_59 : decode cX4_howMany 59 = .ok (.invokevirtual 205, 3) := by decide +kernel
theorem dX4_howMany_62 : decode cX4_howMany 62 = .ok (.istore 9, 2) := by decide +kernel
theorem dX4_howMany_64 : decode cX4_howMany 64 = .ok (.aload_n 0, 1) := by decide +kernel
theorem dX4_howMany_65 : decode cX4_howMany 65 = .ok (.getfield 12, 3) := by decide +kernel
theorem dX4_howMany_68 : decode cX4_howMany 68 = .ok (.getfield 117, 3) := by decide +kernel
theorem dX4_howMany_71 : decode cX4_howMany 71 = .ok (.iload_n 2, 1) := by decide +kernel
theorem dX4_howMany_72 : decode cX4_howMany 72 = .ok (.iaload, 1) := by decide +kernel
theorem dX4_howMany_73 : decode cX4_howMany 73 = .ok (.istore 10, 2) := by decide +kernel
theorem dX4_howMany_75 : decode cX4_howMany 75 = .ok (.iload 10, 2) := by decide +kernel
theorem dX4_howMany_77 : decode cX4_howMany 77 = .ok (.sipush 999, 3) := by decide +kernel
theorem dX4_howMany_80 : decode cX4_howMany 80 = .ok (.if_icmp .gt 46, 3) := by decide +kernel
theorem dX4_howMany_83 : decode cX4_howMany 83 = .ok (.aload_n 0, 1) := by decide +kernel
theorem dX4_howMany_84 : decode cX4_howMany 84 = .ok (.aload 4, 2) := by decide +kernel
theorem dX4_howMany_86 : decode cX4_howMany 86 = .ok (.iload 9, 2) := by decide +kernel
theorem dX4_howMany_88 : decode cX4_howMany 88 = .ok (.iload_n 2, 1) := by decide +kernel
theorem dX4_howMany_89 : decode cX4_howMany 89 = .ok (.iload 10, 2) := by decide +kernel
theorem dX4_howMany_91 : decode cX4_howMany 91 = .ok (.invokevirtual 208, 3) := by decide +kernel
theorem dX4_howMany_94 : decode cX4_howMany 94 = .ok (.ifCond .eq 26, 3) := by decide +kernel
theorem dX4_howMany_97 : decode cX4_howMany 97 = .ok (.iinc 6 1, 3) := by decide +kernel
theorem dX4_howMany_100 : decode cX4_howMany 100 = .ok (.iload 7, 2) := by decide +kernel
theorem dX4_howMany_102 : decode cX4_howMany 102 = .ok (.bipush (-4), 2) := by decide +kernel
theorem dX4_howMany_104 : decode cX4_howMany 104 = .ok (.if_icmp .ne 8, 3) := by decide +kernel
theorem dX4_howMany_107 : decode cX4_howMany 107 = .ok (.iload 10, 2) := by decide +kernel
theorem dX4_howMany_109 : decode cX4_howMany 109 = .ok (.goto 5, 3) := by decide +kernel
theorem dX4_howMany_112 : decode cX4_howMany 112 = .ok (.iload 7, 2) := by decide +kernel
theorem dX4_howMany_114 : decode cX4_howMany 114 = .ok (.istore 7, 2) := by decide +kernel
theorem dX4_howMany_116 : decode cX4_howMany 116 = .ok (.iload 10, 2) := by decide +kernel
theorem dX4_howMany_118 : decode cX4_howMany 118 = .ok (.istore 8, 2) := by decide +kernel
theorem dX4_howMany_120 : decode cX4_howMany 120 = .ok (.iinc 10 1, 3) := by decide +kernel
theorem dX4_howMany_123 : decode cX4_howMany 123 = .ok (.goto (-48), 3) := by decide +kernel
theorem dX4_howMany_126 : decode cX4_howMany 126 = .ok (.iload_n 3, 1) := by decide +kernel
theorem dX4_howMany_127 : decode cX4_howMany 127 = .ok (.ifCond .ne 8, 3) := by decide +kernel
theorem dX4_howMany_130 : decode cX4_howMany 130 = .ok (.iload 6, 2) := by decide +kernel
theorem dX4_howMany_132 : decode cX4_howMany 132 = .ok (.goto 15, 3) := by decide +kernel
theorem dX4_howMany_135 : decode cX4_howMany 135 = .ok (.iload_n 3, 1) := by decide +kernel
theorem dX4_howMany_136 : decode cX4_howMany 136 = .ok (.iconst 1, 1) := by decide +kernel
theorem dX4_howMany_137 : decode cX4_howMany 137 = .ok (.if_icmp .ne 8, 3) := by decide +kernel
theorem dX4_howMany_140 : decode cX4_howMany 140 = .ok (.iload 7, 2) := by decide +kernel
theorem dX4_howMany_142 : decode cX4_howMany 142 = .ok (.goto 5, 3) := by decide +kernel
theorem dX4_howMany_145 : decode cX4_howMany 145 = .ok (.iload 8, 2) := by decide +kernel
theorem dX4_howMany_147 : decode cX4_howMany 147 = .ok (.ireturn, 1) := by decide +kernel
theorem dX4_whatIs_0 : decode cX4_whatIs 0 = .ok (.aload_n 0, 1) := by decide +kernel
theorem dX4_whatIs_1 : decode cX4_whatIs 1 = .ok (.iload_n 2, 1) := by decide +kernel
theorem dX4_whatIs_2 : decode cX4_whatIs 2 = .ok (.invokevirtual 72, 3) := by decide +kernel
theorem dX4_whatIs_5 : decode cX4_whatIs 5 = .ok (.ifCond .eq 12, 3) := by decide +kernel
theorem dX4_whatIs_8 : decode cX4_whatIs 8 = .ok (.iload_n 3, 1) := by decide +kernel
theorem dX4_whatIs_9 : decode cX4_whatIs 9 = .ok (.iconst 0, 1) := by decide +kernel
theorem dX4_whatIs_10 : decode cX4_whatIs 10 = .ok (.iconst 1, 1) := by decide +kernel
theorem dX4_whatIs_11 : decode cX4_whatIs 11 = .ok (.invokestatic 123, 3) := by decide +kernel
theorem dX4_whatIs_14 : decode cX4_whatIs 14 = .ok (.ifCond .ne 5, 3) := by decide +kernel
theorem dX4_whatIs_17 : decode cX4_whatIs 17 = .ok (.iconst (-1), 1) := by decide +kernel
theorem dX4_whatIs_18 : decode cX4_whatIs 18 = .ok (.ireturn, 1) := by decide +kernel
theorem dX4_whatIs_19 : decode cX4_whatIs 19 = .ok (.aload_n 0, 1) := by decide +kernel
theorem dX4_whatIs_20 : decode cX4_whatIs 20 = .ok (.iload_n 1, 1) := by decide +kernel
theorem dX4_whatIs_21 : decode cX4_whatIs 21 = .ok (.invokevirtual 40, 3) := by decide +kernel
theorem dX4_whatIs_24 : decode cX4_whatIs 24 = .ok (.astore 4, 2) := by decide +kernel
theorem dX4_whatIs_26 : decode cX4_whatIs 26 = .ok (.aload 4, 2) := by decide +kernel
theorem dX4_whatIs_28 : decode cX4_whatIs 28 = .ok (.iconst 2, 1) := by decide +kernel
theorem dX4_whatIs_29 : decode cX4_whatIs 29 = .ok (.invokestatic 127, 3) := by decide +kernel
theorem dX4_whatIs_32 : decode cX4_whatIs 32 = .ok (.istore 5, 2) := by decide +kernel
theorem dX4_whatIs_34 : decode cX4_whatIs 34 = .ok (.aload 4, 2) := by decide +kernel
theorem dX4_whatIs_36 : decode cX4_whatIs 36 = .ok (.ifnull 8, 3) := by decide +kernel
theorem dX4_whatIs_39 : decode cX4_whatIs 39 = .ok (.iload 5, 2) := by decide +kernel
theorem dX4_whatIs_41 : decode cX4_whatIs 41 = .ok (.ifCond .eq 6, 3) := by decide +kernel
theorem dX4_whatIs_44 : decode cX4_whatIs 44 = .ok (.iload 5, 2) := by decide +kernel
theorem dX4_whatIs_46 : decode cX4_whatIs 46 = .ok (.ireturn, 1) := by decide +kernel
theorem dX4_whatIs_47 : decode cX4_whatIs 47 = .ok (.iconst 0, 1) := by decide +kernel
theorem dX4_whatIs_48 : decode cX4_whatIs 48 = .ok (.istore 6, 2) := by decide +kernel
theorem dX4_whatIs_50 : decode cX4_whatIs 50 = .ok (.aload 4, 2) := by decide +kernel
theorem dX4_whatIs_52 : decode cX4_whatIs 52 = .ok (.invokevirtual 205, 3) := by decide +kernel
theorem dX4_whatIs_55 : decode cX4_whatIs 55 = .ok (.istore 7, 2) := by decide +kernel
theorem dX4_whatIs_57 : decode cX4_whatIs 57 = .ok (.iload_n 3, 1) := by decide +kernel
theorem dX4_whatIs_58 : decode cX4_whatIs 58 = .ok (.ifCond .ne 8, 3) := by decide +kernel
theorem dX4_whatIs_61 : decode cX4_whatIs 61 = .ok (.bipush 8, 2) := by decide +kernel
theorem dX4_whatIs_63 : decode cX4_whatIs 63 = .ok (.goto 5, 3) := by decide +kernel
theorem dX4_whatIs_66 : decode cX4_whatIs 66 = .ok (.bipush 10, 2) := by decide +kernel
theorem dX4_whatIs_68 : decode cX4_whatIs 68 = .ok (.istore 8, 2) := by decide +kernel
theorem dX4_whatIs_70 : decode cX4_whatIs 70 = .ok (.iconst 0, 1) := by decide +kernel
theorem dX4_whatIs_71 : decode cX4_whatIs 71 = .ok (.istore 9, 2) := by decide +kernel
theorem dX4_whatIs_73 : decode cX4_whatIs 73 = .ok (.iload 9, 2) := by decide +kernel
theorem dX4_whatIs_75 : decode cX4_whatIs 75 = .ok (.iload 8, 2) := by decide +kernel
theorem dX4_whatIs_77 : decode cX4_whatIs 77 = .ok (.if_icmp .ge 70, 3) := by decide +kernel
theorem dX4_whatIs_80 : decode cX4_whatIs 80 = .ok (.aload_n 0, 1) := by decide +kernel
theorem dX4_whatIs_81 : decode cX4_whatIs 81 = .ok (.getfield 16, 3) := by decide +kernel
theorem dX4_whatIs_84 : decode cX4_whatIs 84 = .ok (.aload_n 0, 1) := by decide +kernel
theorem dX4_whatIs_85 : decode cX4_whatIs 85 = .ok (.getfield 12, 3) := by decide +kernel
theorem dX4_whatIs_88 : decode cX4_whatIs 88 = .ok (.invokevirtual 57, 3) := by decide +kernel
theorem dX4_whatIs_91 : decode cX4_whatIs 91 = .ok (.iload_n 3, 1) := by decide +kernel
theorem dX4_whatIs_92 : decode cX4_whatIs 92 = .ok (.ifCond .ne 17, 3) := by decide +kernel
theorem dX4_whatIs_95 : decode cX4_whatIs 95 = .ok (.aload_n 0, 1) := by decide +kernel
theorem dX4_whatIs_96 : decode cX4_whatIs 96 = .ok (.getfield 16, 3) := by decide +kernel
theorem dX4_whatIs_99 : decode cX4_whatIs 99 = .ok (.getfield 76, 3) := by decide +kernel
theorem dX4_whatIs_102 : decode cX4_whatIs 102 = .ok (.iload_n 2, 1) := by decide +kernel
theorem dX4_whatIs_103 : decode cX4_whatIs 103 = .ok (.iload 9, 2) := by decide +kernel
theorem dX4_whatIs_105 : decode cX4_whatIs 105 = .ok (.iastore, 1) := by decide +kernel
theorem dX4_whatIs_106 : decode cX4_whatIs 106 = .ok (.goto 14, 3) := by decide +kernel
theorem dX4_whatIs_109 : decode cX4_whatIs 109 = .ok (.aload_n 0, 1) := by decide +kernel
theorem dX4_whatIs_110 : decode cX4_whatIs 110 = .ok (.getfield 16, 3) := by decide +kernel
theorem dX4_whatIs_113 : decode cX4_whatIs 113 = .ok (.getfield 79, 3) := by decide +kernel
theorem dX4_whatIs_116 : decode cX4_whatIs 116 = .ok (.iload_n 2, 1) := by decide +kernel
theorem dX4_whatIs_117 : decode cX4_whatIs 117 = .ok (.iload 9, 2) := by decide +kernel
theorem dX4_whatIs_119 : decode cX4_whatIs 119 = .ok (.iastore, 1) := by decide +kernel
theorem dX4_whatIs_120 : decode cX4_whatIs 120 = .ok (.aload_n 0, 1) := by decide +kernel
theorem dX4_whatIs_121 : decode cX4_whatIs 121 = .ok (.aload 4, 2) := by decide +kernel
theorem dX4_whatIs_123 : decode cX4_whatIs 123 = .ok (.iload 7, 2) := by decide +kernel
theorem dX4_whatIs_125 : decode cX4_whatIs 125 = .ok (.iload_n 2, 1) := by decide +kernel
theorem dX4_whatIs_126 : decode cX4_whatIs 126 = .ok (.invokevirtual 212, 3) := by decide +kernel
theorem dX4_whatIs_129 : decode cX4_whatIs 129 = .ok (.ifCond .eq 12, 3) := by decide +kernel
theorem dX4_whatIs_132 : decode cX4_whatIs 132 = .ok (.iload 6, 2) := by decide +kernel
theorem dX4_whatIs_134 : decode cX4_whatIs 134 = .ok (.iconst 1, 1) := by decide +kernel
theorem dX4_whatIs_135 : decode cX4_whatIs 135 = .ok (.iload 9, 2) := by decide +kernel
theorem dX4_whatIs_137 : decode cX4_whatIs 137 = .ok (.ishl, 1) := by decide +kernel
theorem dX4_whatIs_138 : decode cX4_whatIs 138 = .ok (.ior, 1) := by decide +kernel
theorem dX4_whatIs_139 : decode cX4_whatIs 139 = .ok (.istore 6, 2) := by decide +kernel
theorem dX4_whatIs_141 : decode cX4_whatIs 141 = .ok (.iinc 9 1, 3) := by decide +kernel
theorem dX4_whatIs_144 : decode cX4_whatIs 144 = .ok (.goto (-71), 3) := by decide +kernel
theorem dX4_whatIs_147 : decode cX4_whatIs 147 = .ok (.iload 6, 2) := by decide +kernel
theorem dX4_whatIs_149 : decode cX4_whatIs 149 = .ok (.ireturn, 1) := by decide +kernel
theorem dX4_two_0 : decode cX4_two 0 = .ok (.aload_n 0, 1) := by decide +kernel
theorem dX4_two_1 : decode cX4_two 1 = .ok (.iload_n 1, 1) := by decide +kernel
theorem dX4_two_2 : decode cX4_two 2 = .ok (.invokevirtual 72, 3) := by decide +kernel
theorem dX4_two_5 : decode cX4_two 5 = .ok (.ifCond .eq 16, 3) := by decide +kernel
theorem dX4_two_8 : decode cX4_two 8 = .ok (.aload_n 0, 1) := by decide +kernel
theorem dX4_two_9 : decode cX4_two 9 = .ok (.iload_n 2, 1) := by decide +kernel
theorem dX4_two_10 : decode cX4_two 10 = .ok (.invokevirtual 72, 3) := by decide +kernel
theorem dX4_two_13 : decode cX4_two 13 = .ok (.ifCond .eq 8, 3) := by decide +kernel
theorem dX4_two_16 : decode cX4_two 16 = .ok (.iload_n 1, 1) := by decide +kernel
theorem dX4_two_17 : decode cX4_two 17 = .ok (.iload_n 2, 1) := by decide +kernel
theorem dX4_two_18 : decode cX4_two 18 = .ok (.if_icmp .ne 5, 3) := by decide +kernel
theorem dX4_two_21 : decode cX4_two 21 = .ok (.iconst (-1), 1) := by decide +kernel
theorem dX4_two_22 : decode cX4_two 22 = .ok (.ireturn, 1) := by decide +kernel
theorem dX4_two_23 : decode cX4_two 23 = .ok (.iconst 0, 1) := by decide +kernel
theorem dX4_two_24 : decode cX4_two 24 = .ok (.istore_n 3, 1) := by decide +kernel
theorem dX4_two_25 : decode cX4_two 25 = .ok (.iload_n 3, 1) := by decide +kernel
theorem dX4_two_26 : decode cX4_two 26 = .ok (.aload_n 0, 1) := by decide +kernel
theorem dX4_two_27 : decode cX4_two 27 = .ok (.getfield 32, 3) := by decide +kernel
theorem dX4_two_30 : decode cX4_two 30 = .ok (.arraylength, 1) := by decide +kernel
theorem dX4_two_31 : decode cX4_two 31 = .ok (.if_icmp .ge 16, 3) := by decide +kernel
theorem dX4_two_34 : decode cX4_two 34 = .ok (.aload_n 0, 1) := by decide +kernel
theorem dX4_two_35 : decode cX4_two 35 = .ok (.iload_n 1, 1) := by decide +kernel
theorem dX4_two_36 : decode cX4_two 36 = .ok (.iload_n 2, 1) := by decide +kernel
theorem dX4_two_37 : decode cX4_two 37 = .ok (.iload_n 3, 1) := by decide +kernel
theorem dX4_two_38 : decode cX4_two 38 = .ok (.invokevirtual 216, 3) := by decide +kernel
theorem dX4_two_41 : decode cX4_two 41 = .ok (.iinc 3 1, 3) := by decide +kernel
theorem dX4_two_44 : decode cX4_two 44 = .ok (.goto (-19), 3) := by decide +kernel
theorem dX4_two_47 : decode cX4_two 47 = .ok (.iconst 0, 1) := by decide +kernel
theorem dX4_two_48 : decode cX4_two 48 = .ok (.istore_n 3, 1) := by decide +kernel
theorem dX4_two_49 : decode cX4_two 49 = .ok (.iload_n 3, 1) := by decide +kernel
theorem dX4_two_50 : decode cX4_two 50 = .ok (.aload_n 0, 1) := by decide +kernel
theorem dX4_two_51 : decode cX4_two 51 = .ok (.getfield 32, 3) := by decide +kernel
theorem dX4_two_54 : decode cX4_two 54 = .ok (.arraylength, 1) := by decide +kernel
theorem dX4_two_55 : decode cX4_two 55 = .ok (.if_icmp .ge 78, 3) := by decide +kernel
theorem dX4_two_58 : decode cX4_two 58 = .ok (.aload_n 0, 1) := by decide +kernel
theorem dX4_two_59 : decode cX4_two 59 = .ok (.getfield 32, 3) := by decide +kernel
theorem dX4_two_62 : decode cX4_two 62 = .ok (.iload_n 3, 1) := by decide +kernel
theorem dX4_two_63 : decode cX4_two 63 = .ok (.iaload, 1) := by decide +kernel
theorem dX4_two_64 : decode cX4_two 64 = .ok (.aload_n 0, 1) := by decide +kernel
theorem dX4_two_65 : decode cX4_two 65 = .ok (.getfield 32, 3) := by decide +kernel
theorem dX4_two_68 : decode cX4_two 68 = .ok (.iload_n 3, 1) := by decide +kernel
theorem dX4_two_69 : decode cX4_two 69 = .ok (.iconst 2, 1) := by decide +kernel
theorem dX4_two_70 : decode cX4_two 70 = .ok (.ixor, 1) := by decide +kernel
theorem dX4_two_71 : decode cX4_two 71 = .ok (.iaload, 1) := by decide +kernel
theorem dX4_two_72 : decode cX4_two 72 = .ok (.if_icmp .lt 7, 3) := by decide +kernel
theorem dX4_two_75 : decode cX4_two 75 = .ok (.iconst 1, 1) := by decide +kernel
theorem dX4_two_76 : decode cX4_two 76 = .ok (.goto 4, 3) := by decide +kernel
theorem dX4_two_79 : decode cX4_two 79 = .ok (.iconst 0, 1) := by decide +kernel
theorem dX4_two_80 : decode cX4_two 80 = .ok (.istore 4, 2) := by decide +kernel
theorem dX4_two_82 : decode cX4_two 82 = .ok (.aload_n 0, 1) := by decide +kernel
theorem dX4_two_83 : decode cX4_two 83 = .ok (.getfield 36, 3) := by decide +kernel
theorem dX4_two_86 : decode cX4_two 86 = .ok (.iload_n 3, 1) := by decide +kernel
theorem dX4_two_87 : decode cX4_two 87 = .ok (.iaload, 1) := by decide +kernel
theorem dX4_two_88 : decode cX4_two 88 = .ok (.aload_n 0, 1) := by decide +kernel
theorem dX4_two_89 : decode cX4_two 89 = .ok (.getfield 36, 3) := by decide +kernel
theorem dX4_two_92 : decode cX4_two 92 = .ok (.iload_n 3, 1) := by decide +kernel
theorem dX4_two_93 : decode cX4_two 93 = .ok (.iconst 1, 1) := by decide +kernel
theorem dX4_two_94 : decode cX4_two 94 = .ok (.ixor, 1) := by decide +kernel
theorem dX4_two_95 : decode cX4_two 95 = .ok (.iaload, 1) := by decide +kernel
theorem dX4_two_96 : decode cX4_two 96 = .ok (.if_icmp .lt 7, 3) := by decide +kernel
theorem dX4_two_99 : decode cX4_two 99 = .ok (.iconst 1, 1) := by decide +kernel
theorem dX4_two_100 : decode cX4_two 100 = .ok (.goto 4, 3) := by decide +kernel
theorem dX4_two_103 : decode cX4_two 103 = .ok (.iconst 0, 1) := by decide +kernel
theorem dX4_two_104 : decode cX4_two 104 = .ok (.istore 5, 2) := by decide +kernel
theorem dX4_two_106 : decode cX4_two 106 = .ok (.iload 4, 2) := by decide +kernel
theorem dX4_two_108 : decode cX4_two 108 = .ok (.ifCond .eq 19, 3) := by decide +kernel
theorem dX4_two_111 : decode cX4_two 111 = .ok (.iload 5, 2) := by decide +kernel
theorem dX4_two_113 : decode cX4_two 113 = .ok (.ifCond .eq 14, 3) := by decide +kernel
theorem dX4_two_116 : decode cX4_two 116 = .ok (.bipush 10, 2) := by decide +kernel
theorem dX4_two_118 : decode cX4_two 118 = .ok (.iload_n 3, 1) := by decide +kernel
theorem dX4_two_119 : decode cX4_two 119 = .ok (.iconst 1, 1) := by decide +kernel
theorem dX4_two_120 : decode cX4_two 120 = .ok (.ishr, 1) := by decide +kernel
theorem dX4_two_121 : decode cX4_two 121 = .ok (.imul, 1) := by decide +kernel
theorem dX4_two_122 : decode cX4_two 122 = .ok (.iload_n 3, 1) := by decide +kernel
theorem dX4_two_123 : decode cX4_two 123 = .ok (.iconst 1, 1) := by decide +kernel
theorem dX4_two_124 : decode cX4_two 124 = .ok (.iand, 1) := by decide +kernel
theorem dX4_two_125 : decode cX4_two 125 = .ok (.iadd, 1) := by decide +kernel
theorem dX4_two_126 : decode cX4_two 126 = .ok (.ireturn, 1) := by decide +kernel
theorem dX4_two_127 : decode cX4_two 127 = .ok (.iinc 3 1, 3) := by decide +kernel
theorem dX4_two_130 : decode cX4_two 130 = .ok (.goto (-81), 3) := by decide +kernel
theorem dX4_two_133 : decode cX4_two 133 = .ok (.bipush (-4), 2) := by decide +kernel
theorem dX4_two_135 : decode cX4_two 135 = .ok (.ireturn, 1) := by decide +kernel
theorem dX4_storm_0 : decode cX4_storm 0 = .ok (.iload_n 1, 1) := by decide +kernel
theorem dX4_storm_1 : decode cX4_storm 1 = .ok (.invokestatic 111, 3) := by decide +kernel
theorem dX4_storm_4 : decode cX4_storm 4 = .ok (.ifCond .eq 33, 3) := by decide +kernel
theorem dX4_storm_7 : decode cX4_storm 7 = .ok (.iload_n 2, 1) := by decide +kernel
theorem dX4_storm_8 : decode cX4_storm 8 = .ok (.iconst 0, 1) := by decide +kernel
theorem dX4_storm_9 : decode cX4_storm 9 = .ok (.bipush 7, 2) := by decide +kernel
theorem dX4_storm_11 : decode cX4_storm 11 = .ok (.invokestatic 123, 3) := by decide +kernel
theorem dX4_storm_14 : decode cX4_storm 14 = .ok (.ifCond .eq 23, 3) := by decide +kernel
theorem dX4_storm_17 : decode cX4_storm 17 = .ok (.iload_n 3, 1) := by decide +kernel
theorem dX4_storm_18 : decode cX4_storm 18 = .ok (.iconst 2, 1) := by decide +kernel
theorem dX4_storm_19 : decode cX4_storm 19 = .ok (.bipush 20, 2) := by decide +kernel
theorem dX4_storm_21 : decode cX4_storm 21 = .ok (.invokestatic 123, 3) := by decide +kernel
theorem dX4_storm_24 : decode cX4_storm 24 = .ok (.ifCond .eq 13, 3) := by decide +kernel
theorem dX4_storm_27 : decode cX4_storm 27 = .ok (.iload 4, 2) := by decide +kernel
theorem dX4_storm_29 : decode cX4_storm 29 = .ok (.iconst 0, 1) := by decide +kernel
theorem dX4_storm_30 : decode cX4_storm 30 = .ok (.iconst 1, 1) := by decide +kernel
theorem dX4_storm_31 : decode cX4_storm 31 = .ok (.invokestatic 123, 3) := by decide +kernel
theorem dX4_storm_34 : decode cX4_storm 34 = .ok (.ifCond .ne 7, 3) := by decide +kernel
theorem dX4_storm_37 : decode cX4_storm 37 = .ok (.ldc2_w 220, 3) := by decide +kernel
theorem dX4_storm_40 : decode cX4_storm 40 = .ok (.lreturn, 1) := by decide +kernel
theorem dX4_storm_41 : decode cX4_storm 41 = .ok (.lconst 0, 1) := by decide +kernel
theorem dX4_storm_42 : decode cX4_storm 42 = .ok (.lstore 5, 2) := by decide +kernel
theorem dX4_storm_44 : decode cX4_storm 44 = .ok (.iconst 0, 1) := by decide +kernel
theorem dX4_storm_45 : decode cX4_storm 45 = .ok (.istore 7, 2) := by decide +kernel
theorem dX4_storm_47 : decode cX4_storm 47 = .ok (.iload 7, 2) := by decide +kernel
theorem dX4_storm_49 : decode cX4_storm 49 = .ok (.iconst 1, 1) := by decide +kernel
theorem dX4_storm_50 : decode cX4_storm 50 = .ok (.iload_n 2, 1) := by decide +kernel
theorem dX4_storm_51 : decode cX4_storm 51 = .ok (.ishl, 1) := by decide +kernel
theorem dX4_storm_52 : decode cX4_storm 52 = .ok (.if_icmp .ge 114, 3) := by decide +kernel
theorem dX4_storm_55 : decode cX4_storm 55 = .ok (.aload_n 0, 1) := by decide +kernel
theorem dX4_storm_56 : decode cX4_storm 56 = .ok (.getfield 16, 3) := by decide +kernel
theorem dX4_storm_59 : decode cX4_storm 59 = .ok (.aload_n 0, 1) := by decide +kernel
theorem dX4_storm_60 : decode cX4_storm 60 = .ok (.getfield 12, 3) := by decide +kernel
theorem dX4_storm_63 : decode cX4_storm 63 = .ok (.invokevirtual 57, 3) := by decide +kernel
theorem dX4_storm_66 : decode cX4_storm 66 = .ok (.lconst 1, 1) := by decide +kernel
theorem dX4_storm_67 : decode cX4_storm 67 = .ok (.lstore 8, 2) := by decide +kernel
theorem dX4_storm_69 : decode cX4_storm 69 = .ok (.iconst 0, 1) := by decide +kernel
theorem dX4_storm_70 : decode cX4_storm 70 = .ok (.istore 10, 2) := by decide +kernel
theorem dX4_storm_72 : decode cX4_storm 72 = .ok (.iload 10, 2) := by decide +kernel
theorem dX4_storm_74 : decode cX4_storm 74 = .ok (.iload_n 2, 1) := by decide +kernel
theorem dX4_storm_75 : decode cX4_storm 75 = .ok (.if_icmp .ge 67, 3) := by decide +kernel
theorem dX4_storm_78 : decode cX4_storm 78 = .ok (.iload 7, 2) := by decide +kernel
theorem dX4_storm_80 : decode cX4_storm 80 = .ok (.iload 10, 2) := by decide +kernel
theorem dX4_storm_82 : decode cX4_storm 82 = .ok (.invokestatic 94, 3) := by decide +kernel
theorem dX4_storm_85 : decode cX4_storm 85 = .ok (.istore 11, 2) := by decide +kernel
theorem dX4_storm_87 : decode cX4_storm 87 = .ok (.aload_n 0, 1) := by decide +kernel
theorem dX4_storm_88 : decode cX4_storm 88 = .ok (.getfield 16, 3) := by decide +kernel
theorem dX4_storm_91 : decode cX4_storm 91 = .ok (.iload 11, 2) := by decide +kernel
theorem dX4_storm_93 : decode cX4_storm 93 = .ok (.ifCond .eq 8, 3) := by decide +kernel
theorem dX4_storm_96 : decode cX4_storm 96 = .ok (.bipush 9, 2) := by decide +kernel
theorem dX4_storm_98 : decode cX4_storm 98 = .ok (.goto 10, 3) := by decide +kernel
theorem dX4_storm_101 : decode cX4_storm 101 = .ok (.aload_n 0, 1) := by decide +kernel
theorem dX4_storm_102 : decode cX4_storm 102 = .ok (.getfield 12, 3) := by decide +kernel
theorem dX4_storm_105 : decode cX4_storm 105 = .ok (.getfield 150, 3) := by decide +kernel
theorem dX4_storm_108 : decode cX4_storm 108 = .ok (.putfield 150, 3) := by decide +kernel
theorem dX4_storm_111 : decode cX4_storm 111 = .ok (.lload 8, 2) := by decide +kernel
theorem dX4_storm_113 : decode cX4_storm 113 = .ok (.iload 11, 2) := by decide +kernel
theorem dX4_storm_115 : decode cX4_storm 115 = .ok (.ifCond .eq 7, 3) := by decide +kernel
theorem dX4_storm_118 : decode cX4_storm 118 = .ok (.lconst 1, 1) := by decide +kernel
theorem dX4_storm_119 : decode cX4_storm 119 = .ok (.goto 7, 3) := by decide +kernel
theorem dX4_storm_122 : decode cX4_storm 122 = .ok (.iload_n 3, 1) := by decide +kernel
theorem dX4_storm_123 : decode cX4_storm 123 = .ok (.iconst 1, 1) := by decide +kernel
theorem dX4_storm_124 : decode cX4_storm 124 = .ok (.isub, 1) := by decide +kernel
theorem dX4_storm_125 : decode cX4_storm 125 = .ok (.i2l, 1) := by decide +kernel
theorem dX4_storm_126 : decode cX4_storm 126 = .ok (.lmul, 1) := by decide +kernel
theorem dX4_storm_127 : decode cX4_storm 127 = .ok (.lstore 8, 2) := by decide +kernel
theorem dX4_storm_129 : decode cX4_storm 129 = .ok (.aload_n 0, 1) := by decide +kernel
theorem dX4_storm_130 : decode cX4_storm 130 = .ok (.getfield 16, 3) := by decide +kernel
theorem dX4_storm_133 : decode cX4_storm 133 = .ok (.invokevirtual 176, 3) := by decide +kernel
theorem dX4_storm_136 : decode cX4_storm 136 = .ok (.iinc 10 1, 3) := by decide +kernel
theorem dX4_storm_139 : decode cX4_storm 139 = .ok (.goto (-67), 3) := by decide +kernel
theorem dX4_storm_142 : decode cX4_storm 142 = .ok (.aload_n 0, 1) := by decide +kernel
theorem dX4_storm_143 : decode cX4_storm 143 = .ok (.getfield 16, 3) := by decide +kernel
theorem dX4_storm_146 : decode cX4_storm 146 = .ok (.iload_n 1, 1) := by decide +kernel
theorem dX4_storm_147 : decode cX4_storm 147 = .ok (.invokevirtual 222, 3) := by decide +kernel
theorem dX4_storm_150 : decode cX4_storm 150 = .ok (.ifCond .eq 10, 3) := by decide +kernel
theorem dX4_storm_153 : decode cX4_storm 153 = .ok (.lload 5, 2) := by decide +kernel
theorem dX4_storm_155 : decode cX4_storm 155 = .ok (.lload 8, 2) := by decide +kernel
theorem dX4_storm_157 : decode cX4_storm 157 = .ok (.ladd, 1) := by decide +kernel
theorem dX4_storm_158 : decode cX4_storm 158 = .ok (.lstore 5, 2) := by decide +kernel
theorem dX4_storm_160 : decode cX4_storm 160 = .ok (.iinc 7 1, 3) := by decide +kernel
theorem dX4_storm_163 : decode cX4_storm 163 = .ok (.goto (-116), 3) := by decide +kernel
theorem dX4_storm_166 : decode cX4_storm 166 = .ok (.lconst 1, 1) := by decide +kernel
theorem dX4_storm_167 : decode cX4_storm 167 = .ok (.lstore 7, 2) := by decide +kernel
theorem dX4_storm_169 : decode cX4_storm 169 = .ok (.iconst 0, 1) := by decide +kernel
theorem dX4_storm_170 : decode cX4_storm 170 = .ok (.istore 9, 2) := by decide +kernel
theorem dX4_storm_172 : decode cX4_storm 172 = .ok (.iload 9, 2) := by decide +kernel
theorem dX4_storm_174 : decode cX4_storm 174 = .ok (.iload_n 2, 1) := by decide +kernel
theorem dX4_storm_175 : decode cX4_storm 175 = .ok (.if_icmp .ge 16, 3) := by decide +kernel
theorem dX4_storm_178 : decode cX4_storm 178 = .ok (.lload 7, 2) := by decide +kernel
theorem dX4_storm_180 : decode cX4_storm 180 = .ok (.iload_n 3, 1) := by decide +kernel
theorem dX4_storm_181 : decode cX4_storm 181 = .ok (.i2l, 1) := by decide +kernel
theorem dX4_storm_182 : decode cX4_storm 182 = .ok (.lmul, 1) := by decide +kernel
theorem dX4_storm_183 : decode cX4_storm 183 = .ok (.lstore 7, 2) := by decide +kernel
theorem dX4_storm_185 : decode cX4_storm 185 = .ok (.iinc 9 1, 3) := by decide +kernel
theorem dX4_storm_188 : decode cX4_storm 188 = .ok (.goto (-16), 3) := by decide +kernel
theorem dX4_storm_191 : decode cX4_storm 191 = .ok (.lload 5, 2) := by decide +kernel
theorem dX4_storm_193 : decode cX4_storm 193 = .ok (.lload 7, 2) := by decide +kernel
theorem dX4_storm_195 : decode cX4_storm 195 = .ok (.iload 4, 2) := by decide +kernel
theorem dX4_storm_197 : decode cX4_storm 197 = .ok (.invokestatic 225, 3) := by decide +kernel
theorem dX4_storm_200 : decode cX4_storm 200 = .ok (.lreturn, 1) := by decide +kernel
theorem dX4_mean_0 : decode cX4_mean 0 = .ok (.iload_n 1, 1) := by decide +kernel
theorem dX4_mean_1 : decode cX4_mean 1 = .ok (.iconst 0, 1) := by decide +kernel
theorem dX4_mean_2 : decode cX4_mean 2 = .ok (.iconst 1, 1) := by decide +kernel
theorem dX4_mean_3 : decode cX4_mean 3 = .ok (.invokestatic 123, 3) := by decide +kernel
theorem dX4_mean_6 : decode cX4_mean 6 = .ok (.ifCond .ne 7, 3) := by decide +kernel
theorem dX4_mean_9 : decode cX4_mean 9 = .ok (.ldc2_w 220, 3) := by decide +kernel
theorem dX4_mean_12 : decode cX4_mean 12 = .ok (.lreturn, 1) := by decide +kernel
theorem dX4_mean_13 : decode cX4_mean 13 = .ok (.aload_n 0, 1) := by decide +kernel
theorem dX4_mean_14 : decode cX4_mean 14 = .ok (.getfield 12, 3) := by decide +kernel
theorem dX4_mean_17 : decode cX4_mean 17 = .ok (.invokevirtual 202, 3) := by decide +kernel
theorem dX4_mean_20 : decode cX4_mean 20 = .ok (.i2l, 1) := by decide +kernel
theorem dX4_mean_21 : decode cX4_mean 21 = .ok (.ldc2_w 229, 3) := by decide +kernel
theorem dX4_mean_24 : decode cX4_mean 24 = .ok (.iload_n 1, 1) := by decide +kernel
theorem dX4_mean_25 : decode cX4_mean 25 = .ok (.invokestatic 225, 3) := by decide +kernel
theorem dX4_mean_28 : decode cX4_mean 28 = .ok (.lreturn, 1) := by decide +kernel
theorem dX4_forged_0 : decode cX4_forged 0 = .ok (.aload_n 0, 1) := by decide +kernel
theorem dX4_forged_1 : decode cX4_forged 1 = .ok (.iload_n 1, 1) := by decide +kernel
theorem dX4_forged_2 : decode cX4_forged 2 = .ok (.invokevirtual 40, 3) := by decide +kernel
theorem dX4_forged_5 : decode cX4_forged 5 = .ok (.astore_n 2, 1) := by decide +kernel
theorem dX4_forged_6 : decode cX4_forged 6 = .ok (.aload_n 2, 1) := by decide +kernel
theorem dX4_forged_7 : decode cX4_forged 7 = .ok (.iconst 2, 1) := by decide +kernel
theorem dX4_forged_8 : decode cX4_forged 8 = .ok (.invokestatic 127, 3) := by decide +kernel
theorem dX4_forged_11 : decode cX4_forged 11 = .ok (.istore_n 3, 1) := by decide +kernel
theorem dX4_forged_12 : decode cX4_forged 12 = .ok (.aload_n 2, 1) := by decide +kernel
theorem dX4_forged_13 : decode cX4_forged 13 = .ok (.ifnull 7, 3) := by decide +kernel
theorem dX4_forged_16 : decode cX4_forged 16 = .ok (.iload_n 3, 1) := by decide +kernel
theorem dX4_forged_17 : decode cX4_forged 17 = .ok (.ifCond .eq 5, 3) := by decide +kernel
theorem dX4_forged_20 : decode cX4_forged 20 = .ok (.iload_n 3, 1) := by decide +kernel
theorem dX4_forged_21 : decode cX4_forged 21 = .ok (.ireturn, 1) := by decide +kernel
theorem dX4_forged_22 : decode cX4_forged 22 = .ok (.iconst 0, 1) := by decide +kernel
theorem dX4_forged_23 : decode cX4_forged 23 = .ok (.istore 4, 2) := by decide +kernel
theorem dX4_forged_25 : decode cX4_forged 25 = .ok (.iload 4, 2) := by decide +kernel
theorem dX4_forged_27 : decode cX4_forged 27 = .ok (.aload_n 2, 1) := by decide +kernel
theorem dX4_forged_28 : decode cX4_forged 28 = .ok (.getfield 61, 3) := by decide +kernel
theorem dX4_forged_31 : decode cX4_forged 31 = .ok (.if_icmp .ge 43, 3) := by decide +kernel
theorem dX4_forged_34 : decode cX4_forged 34 = .ok (.iload 4, 2) := by decide +kernel
theorem dX4_forged_36 : decode cX4_forged 36 = .ok (.bipush 10, 2) := by decide +kernel
theorem dX4_forged_38 : decode cX4_forged 38 = .ok (.if_icmp .ge 27, 3) := by decide +kernel
theorem dX4_forged_41 : decode cX4_forged 41 = .ok (.aload_n 2, 1) := by decide +kernel
theorem dX4_forged_42 : decode cX4_forged 42 = .ok (.getfield 231, 3) := by decide +kernel
theorem dX4_forged_45 : decode cX4_forged 45 = .ok (.iload 4, 2) := by decide +kernel
theorem dX4_forged_47 : decode cX4_forged 47 = .ok (.iaload, 1) := by decide +kernel
theorem dX4_forged_48 : decode cX4_forged 48 = .ok (.iconst 0, 1) := by decide +kernel
theorem dX4_forged_49 : decode cX4_forged 49 = .ok (.aload_n 0, 1) := by decide +kernel
theorem dX4_forged_50 : decode cX4_forged 50 = .ok (.getfield 12, 3) := by decide +kernel
theorem dX4_forged_53 : decode cX4_forged 53 = .ok (.getfield 114, 3) := by decide +kernel
theorem dX4_forged_56 : decode cX4_forged 56 = .ok (.iload 4, 2) := by decide +kernel
theorem dX4_forged_58 : decode cX4_forged 58 = .ok (.iaload, 1) := by decide +kernel
theorem dX4_forged_59 : decode cX4_forged 59 = .ok (.invokestatic 123, 3) := by decide +kernel
theorem dX4_forged_62 : decode cX4_forged 62 = .ok (.ifCond .ne 6, 3) := by decide +kernel
theorem dX4_forged_65 : decode cX4_forged 65 = .ok (.iload 4, 2) := by decide +kernel
theorem dX4_forged_67 : decode cX4_forged 67 = .ok (.ireturn, 1) := by decide +kernel
theorem dX4_forged_68 : decode cX4_forged 68 = .ok (.iinc 4 1, 3) := by decide +kernel
theorem dX4_forged_71 : decode cX4_forged 71 = .ok (.goto (-46), 3) := by decide +kernel
theorem dX4_forged_74 : decode cX4_forged 74 = .ok (.bipush (-4), 2) := by decide +kernel
theorem dX4_forged_76 : decode cX4_forged 76 = .ok (.ireturn, 1) := by decide +kernel
theorem dX4_judge_0 : decode cX4_judge 0 = .ok (.aload_n 0, 1) := by decide +kernel
theorem dX4_judge_1 : decode cX4_judge 1 = .ok (.iload_n 1, 1) := by decide +kernel
theorem dX4_judge_2 : decode cX4_judge 2 = .ok (.invokevirtual 40, 3) := by decide +kernel
theorem dX4_judge_5 : decode cX4_judge 5 = .ok (.astore_n 2, 1) := by decide +kernel
theorem dX4_judge_6 : decode cX4_judge 6 = .ok (.aload_n 2, 1) := by decide +kernel
theorem dX4_judge_7 : decode cX4_judge 7 = .ok (.iconst 2, 1) := by decide +kernel
theorem dX4_judge_8 : decode cX4_judge 8 = .ok (.invokestatic 127, 3) := by decide +kernel
theorem dX4_judge_11 : decode cX4_judge 11 = .ok (.istore_n 3, 1) := by decide +kernel
theorem dX4_judge_12 : decode cX4_judge 12 = .ok (.aload_n 2, 1) := by decide +kernel
theorem dX4_judge_13 : decode cX4_judge 13 = .ok (.ifnull 7, 3) := by decide +kernel
theorem dX4_judge_16 : decode cX4_judge 16 = .ok (.iload_n 3, 1) := by decide +kernel
theorem dX4_judge_17 : decode cX4_judge 17 = .ok (.ifCond .eq 5, 3) := by decide +kernel
theorem dX4_judge_20 : decode cX4_judge 20 = .ok (.iload_n 3, 1) := by decide +kernel
theorem dX4_judge_21 : decode cX4_judge 21 = .ok (.ireturn, 1) := by decide +kernel
theorem dX4_judge_22 : decode cX4_judge 22 = .ok (.aload_n 0, 1) := by decide +kernel
theorem dX4_judge_23 : decode cX4_judge 23 = .ok (.getfield 16, 3) := by decide +kernel
theorem dX4_judge_26 : decode cX4_judge 26 = .ok (.aload_n 0, 1) := by decide +kernel
theorem dX4_judge_27 : decode cX4_judge 27 = .ok (.getfield 12, 3) := by decide +kernel
theorem dX4_judge_30 : decode cX4_judge 30 = .ok (.invokevirtual 57, 3) := by decide +kernel
theorem dX4_judge_33 : decode cX4_judge 33 = .ok (.iconst 0, 1) := by decide +kernel
theorem dX4_judge_34 : decode cX4_judge 34 = .ok (.istore 4, 2) := by decide +kernel
theorem dX4_judge_36 : decode cX4_judge 36 = .ok (.iload 4, 2) := by decide +kernel
theorem dX4_judge_38 : decode cX4_judge 38 = .ok (.aload_n 2, 1) := by decide +kernel
theorem dX4_judge_39 : decode cX4_judge 39 = .ok (.getfield 61, 3) := by decide +kernel
theorem dX4_judge_42 : decode cX4_judge 42 = .ok (.if_icmp .ge 35, 3) := by decide +kernel
theorem dX4_judge_45 : decode cX4_judge 45 = .ok (.aload_n 2, 1) := by decide +kernel
theorem dX4_judge_46 : decode cX4_judge 46 = .ok (.iload 4, 2) := by decide +kernel
theorem dX4_judge_48 : decode cX4_judge 48 = .ok (.aload_n 0, 1) := by decide +kernel
theorem dX4_judge_49 : decode cX4_judge 49 = .ok (.getfield 16, 3) := by decide +kernel
theorem dX4_judge_52 : decode cX4_judge 52 = .ok (.invokevirtual 157, 3) := by decide +kernel
theorem dX4_judge_55 : decode cX4_judge 55 = .ok (.invokevirtual 234, 3) := by decide +kernel
theorem dX4_judge_58 : decode cX4_judge 58 = .ok (.ifCond .ne 6, 3) := by decide +kernel
theorem dX4_judge_61 : decode cX4_judge 61 = .ok (.iload 4, 2) := by decide +kernel
theorem dX4_judge_63 : decode cX4_judge 63 = .ok (.ireturn, 1) := by decide +kernel
theorem dX4_judge_64 : decode cX4_judge 64 = .ok (.aload_n 0, 1) := by decide +kernel
theorem dX4_judge_65 : decode cX4_judge 65 = .ok (.getfield 16, 3) := by decide +kernel
theorem dX4_judge_68 : decode cX4_judge 68 = .ok (.invokevirtual 176, 3) := by decide +kernel
theorem dX4_judge_71 : decode cX4_judge 71 = .ok (.iinc 4 1, 3) := by decide +kernel
theorem dX4_judge_74 : decode cX4_judge 74 = .ok (.goto (-38), 3) := by decide +kernel
theorem dX4_judge_77 : decode cX4_judge 77 = .ok (.bipush (-4), 2) := by decide +kernel
theorem dX4_judge_79 : decode cX4_judge 79 = .ok (.ireturn, 1) := by decide +kernel
theorem dX4_deserts_0 : decode cX4_deserts 0 = .ok (.iload_n 1, 1) := by decide +kernel
theorem dX4_deserts_1 : decode cX4_deserts 1 = .ok (.iconst 1, 1) := by decide +kernel
theorem dX4_deserts_2 : decode cX4_deserts 2 = .ok (.bipush 20, 2) := by decide +kernel
theorem dX4_deserts_4 : decode cX4_deserts 4 = .ok (.invokestatic 123, 3) := by decide +kernel
theorem dX4_deserts_7 : decode cX4_deserts 7 = .ok (.ifCond .eq 12, 3) := by decide +kernel
theorem dX4_deserts_10 : decode cX4_deserts 10 = .ok (.iload_n 3, 1) := by decide +kernel
theorem dX4_deserts_11 : decode cX4_deserts 11 = .ok (.iconst 0, 1) := by decide +kernel
theorem dX4_deserts_12 : decode cX4_deserts 12 = .ok (.iconst 1, 1) := by decide +kernel
theorem dX4_deserts_13 : decode cX4_deserts 13 = .ok (.invokestatic 123, 3) := by decide +kernel
theorem dX4_deserts_16 : decode cX4_deserts 16 = .ok (.ifCond .ne 5, 3) := by decide +kernel
theorem dX4_deserts_19 : decode cX4_deserts 19 = .ok (.iconst (-1), 1) := by decide +kernel
theorem dX4_deserts_20 : decode cX4_deserts 20 = .ok (.ireturn, 1) := by decide +kernel
theorem dX4_deserts_21 : decode cX4_deserts 21 = .ok (.aload_n 0, 1) := by decide +kernel
theorem dX4_deserts_22 : decode cX4_deserts 22 = .ok (.getfield 12, 3) := by decide +kernel
theorem dX4_deserts_25 : decode cX4_deserts 25 = .ok (.invokevirtual 157, 3) := by decide +kernel
theorem dX4_deserts_28 : decode cX4_deserts 28 = .ok (.istore 4, 2) := by decide +kernel
theorem dX4_deserts_30 : decode cX4_deserts 30 = .ok (.iconst 0, 1) := by decide +kernel
theorem dX4_deserts_31 : decode cX4_deserts 31 = .ok (.istore 5, 2) := by decide +kernel
theorem dX4_deserts_33 : decode cX4_deserts 33 = .ok (.iconst 0, 1) := by decide +kernel
theorem dX4_deserts_34 : decode cX4_deserts 34 = .ok (.istore 6, 2) := by decide +kernel
theorem dX4_deserts_36 : decode cX4_deserts 36 = .ok (.iload_n 2, 1) := by decide +kernel
theorem dX4_deserts_37 : decode cX4_deserts 37 = .ok (.istore 7, 2) := by decide +kernel
theorem dX4_deserts_39 : decode cX4_deserts 39 = .ok (.iconst 0, 1) := by decide +kernel
theorem dX4_deserts_40 : decode cX4_deserts 40 = .ok (.istore 8, 2) := by decide +kernel
theorem dX4_deserts_42 : decode cX4_deserts 42 = .ok (.iload 8, 2) := by decide +kernel
theorem dX4_deserts_44 : decode cX4_deserts 44 = .ok (.iload_n 1, 1) := by decide +kernel
theorem dX4_deserts_45 : decode cX4_deserts 45 = .ok (.if_icmp .ge 99, 3) := by decide +kernel
theorem dX4_deserts_48 : decode cX4_deserts 48 = .ok (.aload_n 0, 1) := by decide +kernel
theorem dX4_deserts_49 : decode cX4_deserts 49 = .ok (.getfield 16, 3) := by decide +kernel
theorem dX4_deserts_52 : decode cX4_deserts 52 = .ok (.aload_n 0, 1) := by decide +kernel
theorem dX4_deserts_53 : decode cX4_deserts 53 = .ok (.getfield 12, 3) := by decide +kernel
theorem dX4_deserts_56 : decode cX4_deserts 56 = .ok (.invokevirtual 57, 3) := by decide +kernel
theorem dX4_deserts_59 : decode cX4_deserts 59 = .ok (.iconst 0, 1) := by decide +kernel
theorem dX4_deserts_60 : decode cX4_deserts 60 = .ok (.istore 9, 2) := by decide +kernel
theorem dX4_deserts_62 : decode cX4_deserts 62 = .ok (.iload 9, 2) := by decide +kernel
theorem dX4_deserts_64 : decode cX4_deserts 64 = .ok (.bipush 10, 2) := by decide +kernel
theorem dX4_deserts_66 : decode cX4_deserts 66 = .ok (.if_icmp .ge 33, 3) := by decide +kernel
theorem dX4_deserts_69 : decode cX4_deserts 69 = .ok (.iload 7, 2) := by decide +kernel
theorem dX4_deserts_71 : decode cX4_deserts 71 = .ok (.invokestatic 237, 3) := by decide +kernel
theorem dX4_deserts_74 : decode cX4_deserts 74 = .ok (.istore 7, 2) := by decide +kernel
theorem dX4_deserts_76 : decode cX4_deserts 76 = .ok (.aload_n 0, 1) := by decide +kernel
theorem dX4_deserts_77 : decode cX4_deserts 77 = .ok (.getfield 16, 3) := by decide +kernel
theorem dX4_deserts_80 : decode cX4_deserts 80 = .ok (.iload 9, 2) := by decide +kernel
theorem dX4_deserts_82 : decode cX4_deserts 82 = .ok (.iload 7, 2) := by decide +kernel
theorem dX4_deserts_84 : decode cX4_deserts 84 = .ok (.sipush 200, 3) := by decide +kernel
theorem dX4_deserts_87 : decode cX4_deserts 87 = .ok (.invokestatic 240, 3) := by decide +kernel
theorem dX4_deserts_90 : decode cX4_deserts 90 = .ok (.invokevirtual 145, 3) := by decide +kernel
theorem dX4_deserts_93 : decode cX4_deserts 93 = .ok (.iinc 9 1, 3) := by decide +kernel
theorem dX4_deserts_96 : decode cX4_deserts 96 = .ok (.goto (-34), 3) := by decide +kernel
theorem dX4_deserts_99 : decode cX4_deserts 99 = .ok (.aload_n 0, 1) := by decide +kernel
theorem dX4_deserts_100 : decode cX4_deserts 100 = .ok (.getfield 16, 3) := by decide +kernel
theorem dX4_deserts_103 : decode cX4_deserts 103 = .ok (.bipush 10, 2) := by decide +kernel
theorem dX4_deserts_105 : decode cX4_deserts 105 = .ok (.invokevirtual 164, 3) := by decide +kernel
theorem dX4_deserts_108 : decode cX4_deserts 108 = .ok (.iload 5, 2) := by decide +kernel
theorem dX4_deserts_110 : decode cX4_deserts 110 = .ok (.aload_n 0, 1) := by decide +kernel
theorem dX4_deserts_111 : decode cX4_deserts 111 = .ok (.getfield 16, 3) := by decide +kernel
theorem dX4_deserts_114 : decode cX4_deserts 114 = .ok (.invokevirtual 173, 3) := by decide +kernel
theorem dX4_deserts_117 : decode cX4_deserts 117 = .ok (.invokestatic 191, 3) := by decide +kernel
theorem dX4_deserts_120 : decode cX4_deserts 120 = .ok (.iadd, 1) := by decide +kernel
theorem dX4_deserts_121 : decode cX4_deserts 121 = .ok (.istore 5, 2) := by decide +kernel
theorem dX4_deserts_123 : decode cX4_deserts 123 = .ok (.iload 6, 2) := by decide +kernel
theorem dX4_deserts_125 : decode cX4_deserts 125 = .ok (.aload_n 0, 1) := by decide +kernel
theorem dX4_deserts_126 : decode cX4_deserts 126 = .ok (.getfield 16, 3) := by decide +kernel
theorem dX4_deserts_129 : decode cX4_deserts 129 = .ok (.invokevirtual 157, 3) := by decide +kernel
theorem dX4_deserts_132 : decode cX4_deserts 132 = .ok (.iload 4, 2) := by decide +kernel
theorem dX4_deserts_134 : decode cX4_deserts 134 = .ok (.isub, 1) := by decide +kernel
theorem dX4_deserts_135 : decode cX4_deserts 135 = .ok (.iadd, 1) := by decide +kernel
theorem dX4_deserts_136 : decode cX4_deserts 136 = .ok (.istore 6, 2) := by decide +kernel
theorem dX4_deserts_138 : decode cX4_deserts 138 = .ok (.iinc 8 1, 3) := by decide +kernel
theorem dX4_deserts_141 : decode cX4_deserts 141 = .ok (.goto (-99), 3) := by decide +kernel
theorem dX4_deserts_144 : decode cX4_deserts 144 = .ok (.iload_n 3, 1) := by decide +kernel
theorem dX4_deserts_145 : decode cX4_deserts 145 = .ok (.ifCond .ne 8, 3) := by decide +kernel
theorem dX4_deserts_148 : decode cX4_deserts 148 = .ok (.iload 5, 2) := by decide +kernel
theorem dX4_deserts_150 : decode cX4_deserts 150 = .ok (.goto 5, 3) := by decide +kernel
theorem dX4_deserts_153 : decode cX4_deserts 153 = .ok (.iload 6, 2) := by decide +kernel
theorem dX4_deserts_155 : decode cX4_deserts 155 = .ok (.ireturn, 1) := by decide +kernel
theorem dX4_image_0 : decode cX4_image 0 = .ok (.aload_n 0, 1) := by decide +kernel
theorem dX4_image_1 : decode cX4_image 1 = .ok (.getfield 19, 3) := by decide +kernel
theorem dX4_image_4 : decode cX4_image 4 = .ok (.aload_n 0, 1) := by decide +kernel
theorem dX4_image_5 : decode cX4_image 5 = .ok (.getfield 12, 3) := by decide +kernel
theorem dX4_image_8 : decode cX4_image 8 = .ok (.invokevirtual 57, 3) := by decide +kernel
theorem dX4_image_11 : decode cX4_image 11 = .ok (.aload_n 0, 1) := by decide +kernel
theorem dX4_image_12 : decode cX4_image 12 = .ok (.iconst 1, 1) := by decide +kernel
theorem dX4_image_13 : decode cX4_image 13 = .ok (.putfield 22, 3) := by decide +kernel
theorem dX4_image_16 : decode cX4_image 16 = .ok (.aload_n 0, 1) := by decide +kernel
theorem dX4_image_17 : decode cX4_image 17 = .ok (.getfield 12, 3) := by decide +kernel
theorem dX4_image_20 : decode cX4_image 20 = .ok (.getfield 102, 3) := by decide +kernel
theorem dX4_image_23 : decode cX4_image 23 = .ok (.ireturn, 1) := by decide +kernel
theorem dX4_restore_0 : decode cX4_restore 0 = .ok (.aload_n 0, 1) := by decide +kernel
theorem dX4_restore_1 : decode cX4_restore 1 = .ok (.getfield 22, 3) := by decide +kernel
theorem dX4_restore_4 : decode cX4_restore 4 = .ok (.ifCond .ne 6, 3) := by decide +kernel
theorem dX4_restore_7 : decode cX4_restore 7 = .ok (.bipush (-3), 2) := by decide +kernel
theorem dX4_restore_9 : decode cX4_restore 9 = .ok (.ireturn, 1) := by decide +kernel
theorem dX4_restore_10 : decode cX4_restore 10 = .ok (.aload_n 0, 1) := by decide +kernel
theorem dX4_restore_11 : decode cX4_restore 11 = .ok (.getfield 12, 3) := by decide +kernel
theorem dX4_restore_14 : decode cX4_restore 14 = .ok (.aload_n 0, 1) := by decide +kernel
theorem dX4_restore_15 : decode cX4_restore 15 = .ok (.getfield 19, 3) := by decide +kernel
theorem dX4_restore_18 : decode cX4_restore 18 = .ok (.invokevirtual 57, 3) := by decide +kernel
theorem dX4_restore_21 : decode cX4_restore 21 = .ok (.aload_n 0, 1) := by decide +kernel
theorem dX4_restore_22 : decode cX4_restore 22 = .ok (.getfield 12, 3) := by decide +kernel
theorem dX4_restore_25 : decode cX4_restore 25 = .ok (.getfield 102, 3) := by decide +kernel
theorem dX4_restore_28 : decode cX4_restore 28 = .ok (.ireturn, 1) := by decide +kernel
theorem dX4_count_0 : decode cX4_count 0 = .ok (.iload_n 1, 1) := by decide +kernel
theorem dX4_count_1 : decode cX4_count 1 = .ok (.tableswitch 102 0 6 #[43, 51, 59, 67, 75, 83, 91], 43) := by decide +kernel
theorem dX4_count_44 : decode cX4_count 44 = .ok (.aload_n 0, 1) := by decide +kernel
theorem dX4_count_45 : decode cX4_count 45 = .ok (.getfield 12, 3) := by decide +kernel
theorem dX4_count_48 : decode cX4_count 48 = .ok (.getfield 142, 3) := by decide +kernel
theorem dX4_count_51 : decode cX4_count 51 = .ok (.ireturn, 1) := by decide +kernel
theorem dX4_count_52 : decode cX4_count 52 = .ok (.aload_n 0, 1) := by decide +kernel
theorem dX4_count_53 : decode cX4_count 53 = .ok (.getfield 12, 3) := by decide +kernel
theorem dX4_count_56 : decode cX4_count 56 = .ok (.getfield 102, 3) := by decide +kernel
theorem dX4_count_59 : decode cX4_count 59 = .ok (.ireturn, 1) := by decide +kernel
theorem dX4_count_60 : decode cX4_count 60 = .ok (.aload_n 0, 1) := by decide +kernel
theorem dX4_count_61 : decode cX4_count 61 = .ok (.getfield 12, 3) := by decide +kernel
theorem dX4_count_64 : decode cX4_count 64 = .ok (.invokevirtual 202, 3) := by decide +kernel
theorem dX4_count_67 : decode cX4_count 67 = .ok (.ireturn, 1) := by decide +kernel
theorem dX4_count_68 : decode cX4_count 68 = .ok (.aload_n 0, 1) := by decide +kernel
theorem dX4_count_69 : decode cX4_count 69 = .ok (.getfield 12, 3) := by decide +kernel
theorem dX4_count_72 : decode cX4_count 72 = .ok (.invokevirtual 243, 3) := by decide +kernel
theorem dX4_count_75 : decode cX4_count 75 = .ok (.ireturn, 1) := by decide +kernel
theorem dX4_count_76 : decode cX4_count 76 = .ok (.aload_n 0, 1) := by decide +kernel
theorem dX4_count_77 : decode cX4_count 77 = .ok (.getfield 12, 3) := by decide +kernel
theorem dX4_count_80 : decode cX4_count 80 = .ok (.invokevirtual 157, 3) := by decide +kernel
theorem dX4_count_83 : decode cX4_count 83 = .ok (.ireturn, 1) := by decide +kernel
theorem dX4_count_84 : decode cX4_count 84 = .ok (.aload_n 0, 1) := by decide +kernel
theorem dX4_count_85 : decode cX4_count 85 = .ok (.getfield 12, 3) := by decide +kernel
theorem dX4_count_88 : decode cX4_count 88 = .ok (.getfield 91, 3) := by decide +kernel
theorem dX4_count_91 : decode cX4_count 91 = .ok (.ireturn, 1) := by decide +kernel
theorem dX4_count_92 : decode cX4_count 92 = .ok (.aload_n 0, 1) := by decide +kernel
theorem dX4_count_93 : decode cX4_count 93 = .ok (.getfield 12, 3) := by decide +kernel
theorem dX4_count_96 : decode cX4_count 96 = .ok (.getfield 150, 3) := by decide +kernel
theorem dX4_count_99 : decode cX4_count 99 = .ok (.bipush 9, 2) := by decide +kernel
theorem dX4_count_101 : decode cX4_count 101 = .ok (.iadd, 1) := by decide +kernel
theorem dX4_count_102 : decode cX4_count 102 = .ok (.ireturn, 1) := by decide +kernel
theorem dX4_count_103 : decode cX4_count 103 = .ok (.iconst (-1), 1) := by decide +kernel
theorem dX4_count_104 : decode cX4_count 104 = .ok (.ireturn, 1) := by decide +kernel
theorem dX4_keep_0 : decode cX4_keep 0 = .ok (.aload_n 0, 1) := by decide +kernel
theorem dX4_keep_1 : decode cX4_keep 1 = .ok (.iload_n 1, 1) := by decide +kernel
theorem dX4_keep_2 : decode cX4_keep 2 = .ok (.invokevirtual 40, 3) := by decide +kernel
theorem dX4_keep_5 : decode cX4_keep 5 = .ok (.astore 5, 2) := by decide +kernel
theorem dX4_keep_7 : decode cX4_keep 7 = .ok (.aload 5, 2) := by decide +kernel
theorem dX4_keep_9 : decode cX4_keep 9 = .ok (.ifnull 12, 3) := by decide +kernel
theorem dX4_keep_12 : decode cX4_keep 12 = .ok (.iload_n 2, 1) := by decide +kernel
theorem dX4_keep_13 : decode cX4_keep 13 = .ok (.iconst 0, 1) := by decide +kernel
theorem dX4_keep_14 : decode cX4_keep 14 = .ok (.iconst 1, 1) := by decide +kernel
theorem dX4_keep_15 : decode cX4_keep 15 = .ok (.invokestatic 123, 3) := by decide +kernel
theorem dX4_keep_18 : decode cX4_keep 18 = .ok (.ifCond .ne 5, 3) := by decide +kernel
theorem dX4_keep_21 : decode cX4_keep 21 = .ok (.iconst (-1), 1) := by decide +kernel
theorem dX4_keep_22 : decode cX4_keep 22 = .ok (.ireturn, 1) := by decide +kernel
theorem dX4_keep_23 : decode cX4_keep 23 = .ok (.iload_n 2, 1) := by decide +kernel
theorem dX4_keep_24 : decode cX4_keep 24 = .ok (.ifCond .ne 10, 3) := by decide +kernel
theorem dX4_keep_27 : decode cX4_keep 27 = .ok (.aload 5, 2) := by decide +kernel
theorem dX4_keep_29 : decode cX4_keep 29 = .ok (.invokevirtual 246, 3) := by decide +kernel
theorem dX4_keep_32 : decode cX4_keep 32 = .ok (.iconst 0, 1) := by decide +kernel
theorem dX4_keep_33 : decode cX4_keep 33 = .ok (.ireturn, 1) := by decide +kernel
theorem dX4_keep_34 : decode cX4_keep 34 = .ok (.iload_n 3, 1) := by decide +kernel
theorem dX4_keep_35 : decode cX4_keep 35 = .ok (.iconst 0, 1) := by decide +kernel
theorem dX4_keep_36 : decode cX4_keep 36 = .ok (.bipush 7, 2) := by decide +kernel
theorem dX4_keep_38 : decode cX4_keep 38 = .ok (.invokestatic 123, 3) := by decide +kernel
theorem dX4_keep_41 : decode cX4_keep 41 = .ok (.ifCond .eq 14, 3) := by decide +kernel
theorem dX4_keep_44 : decode cX4_keep 44 = .ok (.iload 4, 2) := by decide +kernel
theorem dX4_keep_46 : decode cX4_keep 46 = .ok (.iconst 0, 1) := by decide +kernel
theorem dX4_keep_47 : decode cX4_keep 47 = .ok (.bipush 9, 2) := by decide +kernel
theorem dX4_keep_49 : decode cX4_keep 49 = .ok (.invokestatic 123, 3) := by decide +kernel
theorem dX4_keep_52 : decode cX4_keep 52 = .ok (.ifCond .ne 5, 3) := by decide +kernel
theorem dX4_keep_55 : decode cX4_keep 55 = .ok (.iconst (-1), 1) := by decide +kernel
theorem dX4_keep_56 : decode cX4_keep 56 = .ok (.ireturn, 1) := by decide +kernel
theorem dX4_keep_57 : decode cX4_keep 57 = .ok (.aload 5, 2) := by decide +kernel
theorem dX4_keep_59 : decode cX4_keep 59 = .ok (.iload_n 3, 1) := by decide +kernel
theorem dX4_keep_60 : decode cX4_keep 60 = .ok (.iload 4, 2) := by decide +kernel
theorem dX4_keep_62 : decode cX4_keep 62 = .ok (.invokevirtual 249, 3) := by decide +kernel
theorem dX4_keep_65 : decode cX4_keep 65 = .ok (.iconst 0, 1) := by decide +kernel
theorem dX4_keep_66 : decode cX4_keep 66 = .ok (.ireturn, 1) := by decide +kernel
theorem dX4_row_0 : decode cX4_row 0 = .ok (.aload_n 0, 1) := by decide +kernel
theorem dX4_row_1 : decode cX4_row 1 = .ok (.iload_n 1, 1) := by decide +kernel
theorem dX4_row_2 : decode cX4_row 2 = .ok (.invokevirtual 40, 3) := by decide +kernel
theorem dX4_row_5 : decode cX4_row 5 = .ok (.astore 4, 2) := by decide +kernel
theorem dX4_row_7 : decode cX4_row 7 = .ok (.aload 4, 2) := by decide +kernel
theorem dX4_row_9 : decode cX4_row 9 = .ok (.ifnull 18, 3) := by decide +kernel
theorem dX4_row_12 : decode cX4_row 12 = .ok (.iload_n 2, 1) := by decide +kernel
theorem dX4_row_13 : decode cX4_row 13 = .ok (.iconst 0, 1) := by decide +kernel
theorem dX4_row_14 : decode cX4_row 14 = .ok (.iconst 2, 1) := by decide +kernel
theorem dX4_row_15 : decode cX4_row 15 = .ok (.invokestatic 123, 3) := by decide +kernel
theorem dX4_row_18 : decode cX4_row 18 = .ok (.ifCond .eq 9, 3) := by decide +kernel
theorem dX4_row_21 : decode cX4_row 21 = .ok (.iload_n 3, 1) := by decide +kernel
theorem dX4_row_22 : decode cX4_row 22 = .ok (.bipush 100, 2) := by decide +kernel
theorem dX4_row_24 : decode cX4_row 24 = .ok (.if_icmp .le 5, 3) := by decide +kernel
theorem dX4_row_27 : decode cX4_row 27 = .ok (.iconst (-1), 1) := by decide +kernel
theorem dX4_row_28 : decode cX4_row 28 = .ok (.ireturn, 1) := by decide +kernel
theorem dX4_row_29 : decode cX4_row 29 = .ok (.iload_n 3, 1) := by decide +kernel
theorem dX4_row_30 : decode cX4_row 30 = .ok (.ifCond .ge 6, 3) := by decide +kernel
theorem dX4_row_33 : decode cX4_row 33 = .ok (.bipush (-14), 2) := by decide +kernel
theorem dX4_row_35 : decode cX4_row 35 = .ok (.ireturn, 1) := by decide +kernel
theorem dX4_row_36 : decode cX4_row 36 = .ok (.aload 4, 2) := by decide +kernel
theorem dX4_row_38 : decode cX4_row 38 = .ok (.iload_n 2, 1) := by decide +kernel
theorem dX4_row_39 : decode cX4_row 39 = .ok (.iload_n 3, 1) := by decide +kernel
theorem dX4_row_40 : decode cX4_row 40 = .ok (.invokevirtual 252, 3) := by decide +kernel
theorem dX4_row_43 : decode cX4_row 43 = .ok (.iconst 0, 1) := by decide +kernel
theorem dX4_row_44 : decode cX4_row 44 = .ok (.ireturn, 1) := by decide +kernel
theorem dX4_put_0 : decode cX4_put 0 = .ok (.aload_n 0, 1) := by decide +kernel
theorem dX4_put_1 : decode cX4_put 1 = .ok (.iload_n 1, 1) := by decide +kernel
theorem dX4_put_2 : decode cX4_put 2 = .ok (.invokevirtual 40, 3) := by decide +kernel
theorem dX4_put_5 : decode cX4_put 5 = .ok (.astore 4, 2) := by decide +kernel
theorem dX4_put_7 : decode cX4_put 7 = .ok (.aload 4, 2) := by decide +kernel
theorem dX4_put_9 : decode cX4_put 9 = .ok (.iconst 2, 1) := by decide +kernel
theorem dX4_put_10 : decode cX4_put 10 = .ok (.invokestatic 127, 3) := by decide +kernel
theorem dX4_put_13 : decode cX4_put 13 = .ok (.istore 5, 2) := by decide +kernel
theorem dX4_put_15 : decode cX4_put 15 = .ok (.aload 4, 2) := by decide +kernel
theorem dX4_put_17 : decode cX4_put 17 = .ok (.ifnull 8, 3) := by decide +kernel
theorem dX4_put_20 : decode cX4_put 20 = .ok (.iload 5, 2) := by decide +kernel
theorem dX4_put_22 : decode cX4_put 22 = .ok (.ifCond .eq 6, 3) := by decide +kernel
theorem dX4_put_25 : decode cX4_put 25 = .ok (.iload 5, 2) := by decide +kernel
theorem dX4_put_27 : decode cX4_put 27 = .ok (.ireturn, 1) := by decide +kernel
theorem dX4_put_28 : decode cX4_put 28 = .ok (.aload 4, 2) := by decide +kernel
theorem dX4_put_30 : decode cX4_put 30 = .ok (.iload_n 2, 1) := by decide +kernel
theorem dX4_put_31 : decode cX4_put 31 = .ok (.invokevirtual 255, 3) := by decide +kernel
theorem dX4_put_34 : decode cX4_put 34 = .ok (.ifCond .ne 6, 3) := by decide +kernel
theorem dX4_put_37 : decode cX4_put 37 = .ok (.bipush (-13), 2) := by decide +kernel
theorem dX4_put_39 : decode cX4_put 39 = .ok (.ireturn, 1) := by decide +kernel
theorem dX4_put_40 : decode cX4_put 40 = .ok (.aload 4, 2) := by decide +kernel
theorem dX4_put_42 : decode cX4_put 42 = .ok (.iload_n 2, 1) := by decide +kernel
theorem dX4_put_43 : decode cX4_put 43 = .ok (.iload_n 3, 1) := by decide +kernel
theorem dX4_put_44 : decode cX4_put 44 = .ok (.invokevirtual 258, 3) := by decide +kernel
theorem dX4_put_47 : decode cX4_put 47 = .ok (.iconst 0, 1) := by decide +kernel
theorem dX4_put_48 : decode cX4_put 48 = .ok (.ireturn, 1) := by decide +kernel
theorem dX4_element_0 : decode cX4_element 0 = .ok (.aload_n 0, 1) := by decide +kernel
theorem dX4_element_1 : decode cX4_element 1 = .ok (.iload_n 1, 1) := by decide +kernel
theorem dX4_element_2 : decode cX4_element 2 = .ok (.invokevirtual 40, 3) := by decide +kernel
theorem dX4_element_5 : decode cX4_element 5 = .ok (.astore_n 3, 1) := by decide +kernel
theorem dX4_element_6 : decode cX4_element 6 = .ok (.aload_n 3, 1) := by decide +kernel
theorem dX4_element_7 : decode cX4_element 7 = .ok (.ifnonnull 14, 3) := by decide +kernel
theorem dX4_element_10 : decode cX4_element 10 = .ok (.new 261, 3) := by decide +kernel
theorem dX4_element_13 : decode cX4_element 13 = .ok (.dup, 1) := by decide +kernel
theorem dX4_element_14 : decode cX4_element 14 = .ok (.ldc_w 263, 3) := by decide +kernel
theorem dX4_element_17 : decode cX4_element 17 = .ok (.invokespecial 265, 3) := by decide +kernel
theorem dX4_element_20 : decode cX4_element 20 = .ok (.athrow, 1) := by decide +kernel
theorem dX4_element_21 : decode cX4_element 21 = .ok (.aload_n 3, 1) := by decide +kernel
theorem dX4_element_22 : decode cX4_element 22 = .ok (.getfield 44, 3) := by decide +kernel
theorem dX4_element_25 : decode cX4_element 25 = .ok (.iconst 2, 1) := by decide +kernel
theorem dX4_element_26 : decode cX4_element 26 = .ok (.if_icmp .ne 11, 3) := by decide +kernel
theorem dX4_element_29 : decode cX4_element 29 = .ok (.aload_n 3, 1) := by decide +kernel
theorem dX4_element_30 : decode cX4_element 30 = .ok (.iload_n 2, 1) := by decide +kernel
theorem dX4_element_31 : decode cX4_element 31 = .ok (.invokevirtual 255, 3) := by decide +kernel
theorem dX4_element_34 : decode cX4_element 34 = .ok (.ifCond .ne 14, 3) := by decide +kernel
theorem dX4_element_37 : decode cX4_element 37 = .ok (.new 268, 3) := by decide +kernel
theorem dX4_element_40 : decode cX4_element 40 = .ok (.dup, 1) := by decide +kernel
theorem dX4_element_41 : decode cX4_element 41 = .ok (.ldc_w 270, 3) := by decide +kernel
theorem dX4_element_44 : decode cX4_element 44 = .ok (.invokespecial 272, 3) := by decide +kernel
theorem dX4_element_47 : decode cX4_element 47 = .ok (.athrow, 1) := by decide +kernel
theorem dX4_element_48 : decode cX4_element 48 = .ok (.aload_n 3, 1) := by decide +kernel
theorem dX4_element_49 : decode cX4_element 49 = .ok (.getfield 231, 3) := by decide +kernel
theorem dX4_element_52 : decode cX4_element 52 = .ok (.iload_n 2, 1) := by decide +kernel
theorem dX4_element_53 : decode cX4_element 53 = .ok (.iaload, 1) := by decide +kernel
theorem dX4_element_54 : decode cX4_element 54 = .ok (.i2l, 1) := by decide +kernel
theorem dX4_element_55 : decode cX4_element 55 = .ok (.lreturn, 1) := by decide +kernel
theorem dX4_copy_0 : decode cX4_copy 0 = .ok (.aload_n 0, 1) := by decide +kernel
theorem dX4_copy_1 : decode cX4_copy 1 = .ok (.iload_n 1, 1) := by decide +kernel
theorem dX4_copy_2 : decode cX4_copy 2 = .ok (.invokevirtual 40, 3) := by decide +kernel
theorem dX4_copy_5 : decode cX4_copy 5 = .ok (.astore 6, 2) := by decide +kernel
theorem dX4_copy_7 : decode cX4_copy 7 = .ok (.aload_n 0, 1) := by decide +kernel
theorem dX4_copy_8 : decode cX4_copy 8 = .ok (.iload_n 3, 1) := by decide +kernel
theorem dX4_copy_9 : decode cX4_copy 9 = .ok (.invokevirtual 40, 3) := by decide +kernel
theorem dX4_copy_12 : decode cX4_copy 12 = .ok (.astore 7, 2) := by decide +kernel
theorem dX4_copy_14 : decode cX4_copy 14 = .ok (.aload 6, 2) := by decide +kernel
theorem dX4_copy_16 : decode cX4_copy 16 = .ok (.ifnull 8, 3) := by decide +kernel
theorem dX4_copy_19 : decode cX4_copy 19 = .ok (.aload 7, 2) := by decide +kernel
theorem dX4_copy_21 : decode cX4_copy 21 = .ok (.ifnonnull 5, 3) := by decide +kernel
theorem dX4_copy_24 : decode cX4_copy 24 = .ok (.iconst (-1), 1) := by decide +kernel
theorem dX4_copy_25 : decode cX4_copy 25 = .ok (.ireturn, 1) := by decide +kernel
theorem dX4_copy_26 : decode cX4_copy 26 = .ok (.aload 6, 2) := by decide +kernel
theorem dX4_copy_28 : decode cX4_copy 28 = .ok (.getfield 44, 3) := by decide +kernel
theorem dX4_copy_31 : decode cX4_copy 31 = .ok (.ifCond .eq 11, 3) := by decide +kernel
theorem dX4_copy_34 : decode cX4_copy 34 = .ok (.aload 7, 2) := by decide +kernel
theorem dX4_copy_36 : decode cX4_copy 36 = .ok (.getfield 44, 3) := by decide +kernel
theorem dX4_copy_39 : decode cX4_copy 39 = .ok (.ifCond .ne 6, 3) := by decide +kernel
theorem dX4_copy_42 : decode cX4_copy 42 = .ok (.bipush (-11), 2) := by decide +kernel
theorem dX4_copy_44 : decode cX4_copy 44 = .ok (.ireturn, 1) := by decide +kernel
theorem dX4_copy_45 : decode cX4_copy 45 = .ok (.aload 6, 2) := by decide +kernel
theorem dX4_copy_47 : decode cX4_copy 47 = .ok (.getfield 44, 3) := by decide +kernel
theorem dX4_copy_50 : decode cX4_copy 50 = .ok (.iconst 2, 1) := by decide +kernel
theorem dX4_copy_51 : decode cX4_copy 51 = .ok (.if_icmp .ne 25, 3) := by decide +kernel
theorem dX4_copy_54 : decode cX4_copy 54 = .ok (.aload 7, 2) := by decide +kernel
theorem dX4_copy_56 : decode cX4_copy 56 = .ok (.getfield 44, 3) := by decide +kernel
theorem dX4_copy_59 : decode cX4_copy 59 = .ok (.iconst 2, 1) := by decide +kernel
theorem dX4_copy_60 : decode cX4_copy 60 = .ok (.if_icmp .ne 16, 3) := by decide +kernel
theorem dX4_copy_63 : decode cX4_copy 63 = .ok (.aload 6, 2) := by decide +kernel
theorem dX4_copy_65 : decode cX4_copy 65 = .ok (.getfield 48, 3) := by decide +kernel
theorem dX4_copy_68 : decode cX4_copy 68 = .ok (.aload 7, 2) := by decide +kernel
theorem dX4_copy_70 : decode cX4_copy 70 = .ok (.getfield 48, 3) := by decide +kernel
theorem dX4_copy_73 : decode cX4_copy 73 = .ok (.if_icmp .eq 6, 3) := by decide +kernel
theorem dX4_copy_76 : decode cX4_copy 76 = .ok (.bipush (-12), 2) := by decide +kernel
theorem dX4_copy_78 : decode cX4_copy 78 = .ok (.ireturn, 1) := by decide +kernel
theorem dX4_copy_79 : decode cX4_copy 79 = .ok (.iload 5, 2) := by decide +kernel
theorem dX4_copy_81 : decode cX4_copy 81 = .ok (.ifCond .lt 26, 3) := by decide +kernel
theorem dX4_copy_84 : decode cX4_copy 84 = .ok (.aload 6, 2) := by decide +kernel
theorem dX4_copy_86 : decode cX4_copy 86 = .ok (.iload_n 2, 1) := by decide +kernel
theorem dX4_copy_87 : decode cX4_copy 87 = .ok (.iload 5, 2) := by decide +kernel
theorem dX4_copy_89 : decode cX4_copy 89 = .ok (.invokevirtual 273, 3) := by decide +kernel
theorem dX4_copy_92 : decode cX4_copy 92 = .ok (.ifCond .eq 15, 3) := by decide +kernel
theorem dX4_copy_95 : decode cX4_copy 95 = .ok (.aload 7, 2) := by decide +kernel
theorem dX4_copy_97 : decode cX4_copy 97 = .ok (.iload 4, 2) := by decide +kernel
theorem dX4_copy_99 : decode cX4_copy 99 = .ok (.iload 5, 2) := by decide +kernel
theorem dX4_copy_101 : decode cX4_copy 101 = .ok (.invokevirtual 273, 3) := by decide +kernel
theorem dX4_copy_104 : decode cX4_copy 104 = .ok (.ifCond .ne 6, 3) := by decide +kernel
theorem dX4_copy_107 : decode cX4_copy 107 = .ok (.bipush (-13), 2) := by decide +kernel
theorem dX4_copy_109 : decode cX4_copy 109 = .ok (.ireturn, 1) := by decide +kernel
theorem dX4_copy_110 : decode cX4_copy 110 = .ok (.aload 6, 2) := by decide +kernel
theorem dX4_copy_112 : decode cX4_copy 112 = .ok (.getfield 231, 3) := by decide +kernel
theorem dX4_copy_115 : decode cX4_copy 115 = .ok (.iload_n 2, 1) := by decide +kernel
theorem dX4_copy_116 : decode cX4_copy 116 = .ok (.aload 7, 2) := by decide +kernel
theorem dX4_copy_118 : decode cX4_copy 118 = .ok (.getfield 231, 3) := by decide +kernel
theorem dX4_copy_121 : decode cX4_copy 121 = .ok (.iload 4, 2) := by decide +kernel
theorem dX4_copy_123 : decode cX4_copy 123 = .ok (.iload 5, 2) := by decide +kernel
theorem dX4_copy_125 : decode cX4_copy 125 = .ok (.invokestatic 276, 3) := by decide +kernel
theorem dX4_copy_128 : decode cX4_copy 128 = .ok (.iload 5, 2) := by decide +kernel
theorem dX4_copy_130 : decode cX4_copy 130 = .ok (.ireturn, 1) := by decide +kernel
theorem dX4_cost_0 : decode cX4_cost 0 = .ok (.aload_n 0, 1) := by decide +kernel
theorem dX4_cost_1 : decode cX4_cost 1 = .ok (.iload_n 1, 1) := by decide +kernel
theorem dX4_cost_2 : decode cX4_cost 2 = .ok (.invokevirtual 40, 3) := by decide +kernel
theorem dX4_cost_5 : decode cX4_cost 5 = .ok (.astore_n 2, 1) := by decide +kernel
theorem dX4_cost_6 : decode cX4_cost 6 = .ok (.aload_n 2, 1) := by decide +kernel
theorem dX4_cost_7 : decode cX4_cost 7 = .ok (.iconst 1, 1) := by decide +kernel
theorem dX4_cost_8 : decode cX4_cost 8 = .ok (.invokestatic 127, 3) := by decide +kernel
theorem dX4_cost_11 : decode cX4_cost 11 = .ok (.istore_n 3, 1) := by decide +kernel
theorem dX4_cost_12 : decode cX4_cost 12 = .ok (.aload_n 2, 1) := by decide +kernel
theorem dX4_cost_13 : decode cX4_cost 13 = .ok (.ifnull 7, 3) := by decide +kernel
theorem dX4_cost_16 : decode cX4_cost 16 = .ok (.iload_n 3, 1) := by decide +kernel
theorem dX4_cost_17 : decode cX4_cost 17 = .ok (.ifCond .eq 5, 3) := by decide +kernel
theorem dX4_cost_20 : decode cX4_cost 20 = .ok (.iload_n 3, 1) := by decide +kernel
theorem dX4_cost_21 : decode cX4_cost 21 = .ok (.ireturn, 1) := by decide +kernel
theorem dX4_cost_22 : decode cX4_cost 22 = .ok (.aload_n 2, 1) := by decide +kernel
theorem dX4_cost_23 : decode cX4_cost 23 = .ok (.getfield 134, 3) := by decide +kernel
theorem dX4_cost_26 : decode cX4_cost 26 = .ok (.aload_n 2, 1) := by decide +kernel
theorem dX4_cost_27 : decode cX4_cost 27 = .ok (.getfield 136, 3) := by decide +kernel
theorem dX4_cost_30 : decode cX4_cost 30 = .ok (.invokestatic 282, 3) := by decide +kernel
theorem dX4_cost_33 : decode cX4_cost 33 = .ok (.ireturn, 1) := by decide +kernel
theorem dX4_toss_0 : decode cX4_toss 0 = .ok (.aload_n 0, 1) := by decide +kernel
theorem dX4_toss_1 : decode cX4_toss 1 = .ok (.iload_n 1, 1) := by decide +kernel
theorem dX4_toss_2 : decode cX4_toss 2 = .ok (.invokevirtual 40, 3) := by decide +kernel
theorem dX4_toss_5 : decode cX4_toss 5 = .ok (.astore_n 2, 1) := by decide +kernel
theorem dX4_toss_6 : decode cX4_toss 6 = .ok (.aload_n 2, 1) := by decide +kernel
theorem dX4_toss_7 : decode cX4_toss 7 = .ok (.iconst 1, 1) := by decide +kernel
theorem dX4_toss_8 : decode cX4_toss 8 = .ok (.invokestatic 127, 3) := by decide +kernel
theorem dX4_toss_11 : decode cX4_toss 11 = .ok (.istore_n 3, 1) := by decide +kernel
theorem dX4_toss_12 : decode cX4_toss 12 = .ok (.aload_n 2, 1) := by decide +kernel
theorem dX4_toss_13 : decode cX4_toss 13 = .ok (.ifnull 7, 3) := by decide +kernel
theorem dX4_toss_16 : decode cX4_toss 16 = .ok (.iload_n 3, 1) := by decide +kernel
theorem dX4_toss_17 : decode cX4_toss 17 = .ok (.ifCond .eq 5, 3) := by decide +kernel
theorem dX4_toss_20 : decode cX4_toss 20 = .ok (.iload_n 3, 1) := by decide +kernel
theorem dX4_toss_21 : decode cX4_toss 21 = .ok (.ireturn, 1) := by decide +kernel
theorem dX4_toss_22 : decode cX4_toss 22 = .ok (.aload_n 2, 1) := by decide +kernel
theorem dX4_toss_23 : decode cX4_toss 23 = .ok (.getfield 134, 3) := by decide +kernel
theorem dX4_toss_26 : decode cX4_toss 26 = .ok (.aload_n 2, 1) := by decide +kernel
theorem dX4_toss_27 : decode cX4_toss 27 = .ok (.getfield 136, 3) := by decide +kernel
theorem dX4_toss_30 : decode cX4_toss 30 = .ok (.invokestatic 285, 3) := by decide +kernel
theorem dX4_toss_33 : decode cX4_toss 33 = .ok (.ifCond .ne 6, 3) := by decide +kernel
theorem dX4_toss_36 : decode cX4_toss 36 = .ok (.bipush (-15), 2) := by decide +kernel
theorem dX4_toss_38 : decode cX4_toss 38 = .ok (.ireturn, 1) := by decide +kernel
theorem dX4_toss_39 : decode cX4_toss 39 = .ok (.aload_n 2, 1) := by decide +kernel
theorem dX4_toss_40 : decode cX4_toss 40 = .ok (.getfield 134, 3) := by decide +kernel
theorem dX4_toss_43 : decode cX4_toss 43 = .ok (.aload_n 2, 1) := by decide +kernel
theorem dX4_toss_44 : decode cX4_toss 44 = .ok (.getfield 136, 3) := by decide +kernel
theorem dX4_toss_47 : decode cX4_toss 47 = .ok (.invokestatic 288, 3) := by decide +kernel
theorem dX4_toss_50 : decode cX4_toss 50 = .ok (.ireturn, 1) := by decide +kernel
theorem dX4_isWithin_0 : decode cX4_isWithin 0 = .ok (.iload_n 0, 1) := by decide +kernel
theorem dX4_isWithin_1 : decode cX4_isWithin 1 = .ok (.iload_n 1, 1) := by decide +kernel
theorem dX4_isWithin_2 : decode cX4_isWithin 2 = .ok (.if_icmp .lt 12, 3) := by decide +kernel
theorem dX4_isWithin_5 : decode cX4_isWithin 5 = .ok (.iload_n 0, 1) := by decide +kernel
theorem dX4_isWithin_6 : decode cX4_isWithin 6 = .ok (.iload_n 2, 1) := by decide +kernel
theorem dX4_isWithin_7 : decode cX4_isWithin 7 = .ok (.if_icmp .gt 7, 3) := by decide +kernel
theorem dX4_isWithin_10 : decode cX4_isWithin 10 = .ok (.iconst 1, 1) := by decide +kernel
theorem dX4_isWithin_11 : decode cX4_isWithin 11 = .ok (.goto 4, 3) := by decide +kernel
theorem dX4_isWithin_14 : decode cX4_isWithin 14 = .ok (.iconst 0, 1) := by decide +kernel
theorem dX4_isWithin_15 : decode cX4_isWithin 15 = .ok (.ireturn, 1) := by decide +kernel
theorem dX4_isDip_0 : decode cX4_isDip 0 = .ok (.iload_n 0, 1) := by decide +kernel
theorem dX4_isDip_1 : decode cX4_isDip 1 = .ok (.iconst 0, 1) := by decide +kernel
theorem dX4_isDip_2 : decode cX4_isDip 2 = .ok (.bipush 9, 2) := by decide +kernel
theorem dX4_isDip_4 : decode cX4_isDip 4 = .ok (.invokestatic 123, 3) := by decide +kernel
theorem dX4_isDip_7 : decode cX4_isDip 7 = .ok (.ireturn, 1) := by decide +kernel
theorem dX4_isDaysOn_0 : decode cX4_isDaysOn 0 = .ok (.iload_n 0, 1) := by decide +kernel
theorem dX4_isDaysOn_1 : decode cX4_isDaysOn 1 = .ok (.iconst 0, 1) := by decide +kernel
theorem dX4_isDaysOn_2 : decode cX4_isDaysOn 2 = .ok (.bipush 60, 2) := by decide +kernel
theorem dX4_isDaysOn_4 : decode cX4_isDaysOn 4 = .ok (.invokestatic 123, 3) := by decide +kernel
theorem dX4_isDaysOn_7 : decode cX4_isDaysOn 7 = .ok (.ireturn, 1) := by decide +kernel
theorem dX4_hasBit_0 : decode cX4_hasBit 0 = .ok (.iload_n 0, 1) := by decide +kernel
theorem dX4_hasBit_1 : decode cX4_hasBit 1 = .ok (.iload_n 1, 1) := by decide +kernel
theorem dX4_hasBit_2 : decode cX4_hasBit 2 = .ok (.ishr, 1) := by decide +kernel
theorem dX4_hasBit_3 : decode cX4_hasBit 3 = .ok (.iconst 1, 1) := by decide +kernel
theorem dX4_hasBit_4 : decode cX4_hasBit 4 = .ok (.iand, 1) := by decide +kernel
theorem dX4_hasBit_5 : decode cX4_hasBit 5 = .ok (.iconst 1, 1) := by decide +kernel
theorem dX4_hasBit_6 : decode cX4_hasBit 6 = .ok (.if_icmp .ne 7, 3) := by decide +kernel
theorem dX4_hasBit_9 : decode cX4_hasBit 9 = .ok (.iconst 1, 1) := by decide +kernel
theorem dX4_hasBit_10 : decode cX4_hasBit 10 = .ok (.goto 4, 3) := by decide +kernel
theorem dX4_hasBit_13 : decode cX4_hasBit 13 = .ok (.iconst 0, 1) := by decide +kernel
theorem dX4_hasBit_14 : decode cX4_hasBit 14 = .ok (.ireturn, 1) := by decide +kernel
theorem dX4_isCorporal_0 : decode cX4_isCorporal 0 = .ok (.iload_n 1, 1) := by decide +kernel
theorem dX4_isCorporal_1 : decode cX4_isCorporal 1 = .ok (.iconst 0, 1) := by decide +kernel
theorem dX4_isCorporal_2 : decode cX4_isCorporal 2 = .ok (.aload_n 0, 1) := by decide +kernel
theorem dX4_isCorporal_3 : decode cX4_isCorporal 3 = .ok (.getfield 12, 3) := by decide +kernel
theorem dX4_isCorporal_6 : decode cX4_isCorporal 6 = .ok (.getfield 142, 3) := by decide +kernel
theorem dX4_isCorporal_9 : decode cX4_isCorporal 9 = .ok (.iconst 1, 1) := by decide +kernel
theorem dX4_isCorporal_10 : decode cX4_isCorporal 10 = .ok (.isub, 1) := by decide +kernel
theorem dX4_isCorporal_11 : decode cX4_isCorporal 11 = .ok (.invokestatic 123, 3) := by decide +kernel
theorem dX4_isCorporal_14 : decode cX4_isCorporal 14 = .ok (.ireturn, 1) := by decide +kernel
theorem dX4_shelfOrNull_0 : decode cX4_shelfOrNull 0 = .ok (.iload_n 1, 1) := by decide +kernel
theorem dX4_shelfOrNull_1 : decode cX4_shelfOrNull 1 = .ok (.iconst 0, 1) := by decide +kernel
theorem dX4_shelfOrNull_2 : decode cX4_shelfOrNull 2 = .ok (.bipush 7, 2) := by decide +kernel
theorem dX4_shelfOrNull_4 : decode cX4_shelfOrNull 4 = .ok (.invokestatic 123, 3) := by decide +kernel
theorem dX4_shelfOrNull_7 : decode cX4_shelfOrNull 7 = .ok (.ifCond .eq 12, 3) := by decide +kernel
theorem dX4_shelfOrNull_10 : decode cX4_shelfOrNull 10 = .ok (.aload_n 0, 1) := by decide +kernel
theorem dX4_shelfOrNull_11 : decode cX4_shelfOrNull 11 = .ok (.getfield 28, 3) := by decide +kernel
theorem dX4_shelfOrNull_14 : decode cX4_shelfOrNull 14 = .ok (.iload_n 1, 1) := by decide +kernel
theorem dX4_shelfOrNull_15 : decode cX4_shelfOrNull 15 = .ok (.aaload, 1) := by decide +kernel
theorem dX4_shelfOrNull_16 : decode cX4_shelfOrNull 16 = .ok (.goto 4, 3) := by decide +kernel
theorem dX4_shelfOrNull_19 : decode cX4_shelfOrNull 19 = .ok (.aconst_null, 1) := by decide +kernel
theorem dX4_shelfOrNull_20 : decode cX4_shelfOrNull 20 = .ok (.areturn, 1) := by decide +kernel
theorem dX4_refusalUnless_0 : decode cX4_refusalUnless 0 = .ok (.aload_n 0, 1) := by decide +kernel
theorem dX4_refusalUnless_1 : decode cX4_refusalUnless 1 = .ok (.ifnonnull 5, 3) := by decide +kernel
theorem dX4_refusalUnless_4 : decode cX4_refusalUnless 4 = .ok (.iconst (-1), 1) := by decide +kernel
theorem dX4_refusalUnless_5 : decode cX4_refusalUnless 5 = .ok (.ireturn, 1) := by decide +kernel
theorem dX4_refusalUnless_6 : decode cX4_refusalUnless 6 = .ok (.aload_n 0, 1) := by decide +kernel
theorem dX4_refusalUnless_7 : decode cX4_refusalUnless 7 = .ok (.getfield 44, 3) := by decide +kernel
theorem dX4_refusalUnless_10 : decode cX4_refusalUnless 10 = .ok (.ifCond .ne 6, 3) := by decide +kernel
theorem dX4_refusalUnless_13 : decode cX4_refusalUnless 13 = .ok (.bipush (-11), 2) := by decide +kernel
theorem dX4_refusalUnless_15 : decode cX4_refusalUnless 15 = .ok (.ireturn, 1) := by decide +kernel
theorem dX4_refusalUnless_16 : decode cX4_refusalUnless 16 = .ok (.aload_n 0, 1) := by decide +kernel
theorem dX4_refusalUnless_17 : decode cX4_refusalUnless 17 = .ok (.getfield 44, 3) := by decide +kernel
theorem dX4_refusalUnless_20 : decode cX4_refusalUnless 20 = .ok (.iload_n 1, 1) := by decide +kernel
theorem dX4_refusalUnless_21 : decode cX4_refusalUnless 21 = .ok (.if_icmp .ne 7, 3) := by decide +kernel
theorem dX4_refusalUnless_24 : decode cX4_refusalUnless 24 = .ok (.iconst 0, 1) := by decide +kernel
theorem dX4_refusalUnless_25 : decode cX4_refusalUnless 25 = .ok (.goto 5, 3) := by decide +kernel
theorem dX4_refusalUnless_28 : decode cX4_refusalUnless 28 = .ok (.bipush (-12), 2) := by decide +kernel
theorem dX4_refusalUnless_30 : decode cX4_refusalUnless 30 = .ok (.ireturn, 1) := by decide +kernel
theorem dX4_lookOn_0 : decode cX4_lookOn 0 = .ok (.aload_n 0, 1) := by decide +kernel
theorem dX4_lookOn_1 : decode cX4_lookOn 1 = .ok (.getfield 16, 3) := by decide +kernel
theorem dX4_lookOn_4 : decode cX4_lookOn 4 = .ok (.aload_n 0, 1) := by decide +kernel
theorem dX4_lookOn_5 : decode cX4_lookOn 5 = .ok (.getfield 12, 3) := by decide +kernel
theorem dX4_lookOn_8 : decode cX4_lookOn 8 = .ok (.invokevirtual 57, 3) := by decide +kernel
theorem dX4_lookOn_11 : decode cX4_lookOn 11 = .ok (.aload_n 0, 1) := by decide +kernel
theorem dX4_lookOn_12 : decode cX4_lookOn 12 = .ok (.getfield 16, 3) := by decide +kernel
theorem dX4_lookOn_15 : decode cX4_lookOn 15 = .ok (.iload_n 1, 1) := by decide +kernel
theorem dX4_lookOn_16 : decode cX4_lookOn 16 = .ok (.invokevirtual 164, 3) := by decide +kernel
theorem dX4_lookOn_19 : decode cX4_lookOn 19 = .ok (.return_, 1) := by decide +kernel
theorem dX4_leastInReach_0 : decode cX4_leastInReach 0 = .ok (.bipush (-4), 2) := by decide +kernel
theorem dX4_leastInReach_2 : decode cX4_leastInReach 2 = .ok (.istore_n 3, 1) := by decide +kernel
theorem dX4_leastInReach_3 : decode cX4_leastInReach 3 = .ok (.bipush 10, 2) := by decide +kernel
theorem dX4_leastInReach_5 : decode cX4_leastInReach 5 = .ok (.istore 4, 2) := by decide +kernel
theorem dX4_leastInReach_7 : decode cX4_leastInReach 7 = .ok (.iconst 0, 1) := by decide +kernel
theorem dX4_leastInReach_8 : decode cX4_leastInReach 8 = .ok (.istore 5, 2) := by decide +kernel
theorem dX4_leastInReach_10 : decode cX4_leastInReach 10 = .ok (.iload 5, 2) := by decide +kernel
theorem dX4_leastInReach_12 : decode cX4_leastInReach 12 = .ok (.aload_n 0, 1) := by decide +kernel
theorem dX4_leastInReach_13 : decode cX4_leastInReach 13 = .ok (.getfield 12, 3) := by decide +kernel
theorem dX4_leastInReach_16 : decode cX4_leastInReach 16 = .ok (.getfield 142, 3) := by decide +kernel
theorem dX4_leastInReach_19 : decode cX4_leastInReach 19 = .ok (.if_icmp .ge 93, 3) := by decide +kernel
theorem dX4_leastInReach_22 : decode cX4_leastInReach 22 = .ok (.aload_n 0, 1) := by decide +kernel
theorem dX4_leastInReach_23 : decode cX4_leastInReach 23 = .ok (.getfield 12, 3) := by decide +kernel
theorem dX4_leastInReach_26 : decode cX4_leastInReach 26 = .ok (.getfield 85, 3) := by decide +kernel
theorem dX4_leastInReach_29 : decode cX4_leastInReach 29 = .ok (.iload 5, 2) := by decide +kernel
theorem dX4_leastInReach_31 : decode cX4_leastInReach 31 = .ok (.iaload, 1) := by decide +kernel
theorem dX4_leastInReach_32 : decode cX4_leastInReach 32 = .ok (.iconst 1, 1) := by decide +kernel
theorem dX4_leastInReach_33 : decode cX4_leastInReach 33 = .ok (.if_icmp .ne 16, 3) := by decide +kernel
theorem dX4_leastInReach_36 : decode cX4_leastInReach 36 = .ok (.iload_n 2, 1) := by decide +kernel
theorem dX4_leastInReach_37 : decode cX4_leastInReach 37 = .ok (.iload 5, 2) := by decide +kernel
theorem dX4_leastInReach_39 : decode cX4_leastInReach 39 = .ok (.invokestatic 94, 3) := by decide +kernel
theorem dX4_leastInReach_42 : decode cX4_leastInReach 42 = .ok (.ifCond .ne 7, 3) := by decide +kernel
theorem dX4_leastInReach_45 : decode cX4_leastInReach 45 = .ok (.iconst 1, 1) := by decide +kernel
theorem dX4_leastInReach_46 : decode cX4_leastInReach 46 = .ok (.goto 4, 3) := by decide +kernel
theorem dX4_leastInReach_49 : decode cX4_leastInReach 49 = .ok (.iconst 0, 1) := by decide +kernel
theorem dX4_leastInReach_50 : decode cX4_leastInReach 50 = .ok (.istore 6, 2) := by decide +kernel
theorem dX4_leastInReach_52 : decode cX4_leastInReach 52 = .ok (.iload 6, 2) := by decide +kernel
theorem dX4_leastInReach_54 : decode cX4_leastInReach 54 = .ok (.ifCond .eq 52, 3) := by decide +kernel
theorem dX4_leastInReach_57 : decode cX4_leastInReach 57 = .ok (.aload_n 0, 1) := by decide +kernel
theorem dX4_leastInReach_58 : decode cX4_leastInReach 58 = .ok (.getfield 12, 3) := by decide +kernel
theorem dX4_leastInReach_61 : decode cX4_leastInReach 61 = .ok (.getfield 82, 3) := by decide +kernel
theorem dX4_leastInReach_64 : decode cX4_leastInReach 64 = .ok (.iload 5, 2) := by decide +kernel
theorem dX4_leastInReach_66 : decode cX4_leastInReach 66 = .ok (.iaload, 1) := by decide +kernel
theorem dX4_leastInReach_67 : decode cX4_leastInReach 67 = .ok (.iload_n 1, 1) := by decide +kernel
theorem dX4_leastInReach_68 : decode cX4_leastInReach 68 = .ok (.isub, 1) := by decide +kernel
theorem dX4_leastInReach_69 : decode cX4_leastInReach 69 = .ok (.invokestatic 179, 3) := by decide +kernel
theorem dX4_leastInReach_72 : decode cX4_leastInReach 72 = .ok (.iconst 3, 1) := by decide +kernel
theorem dX4_leastInReach_73 : decode cX4_leastInReach 73 = .ok (.if_icmp .gt 33, 3) := by decide +kernel
theorem dX4_leastInReach_76 : decode cX4_leastInReach 76 = .ok (.aload_n 0, 1) := by decide +kernel
theorem dX4_leastInReach_77 : decode cX4_leastInReach 77 = .ok (.getfield 12, 3) := by decide +kernel
theorem dX4_leastInReach_80 : decode cX4_leastInReach 80 = .ok (.getfield 82, 3) := by decide +kernel
theorem dX4_leastInReach_83 : decode cX4_leastInReach 83 = .ok (.iload 5, 2) := by decide +kernel
theorem dX4_leastInReach_85 : decode cX4_leastInReach 85 = .ok (.iaload, 1) := by decide +kernel
theorem dX4_leastInReach_86 : decode cX4_leastInReach 86 = .ok (.iload 4, 2) := by decide +kernel
theorem dX4_leastInReach_88 : decode cX4_leastInReach 88 = .ok (.if_icmp .ge 18, 3) := by decide +kernel
theorem dX4_leastInReach_91 : decode cX4_leastInReach 91 = .ok (.aload_n 0, 1) := by decide +kernel
theorem dX4_leastInReach_92 : decode cX4_leastInReach 92 = .ok (.getfield 12, 3) := by decide +kernel
theorem dX4_leastInReach_95 : decode cX4_leastInReach 95 = .ok (.getfield 82, 3) := by decide +kernel
theorem dX4_leastInReach_98 : decode cX4_leastInReach 98 = .ok (.iload 5, 2) := by decide +kernel
theorem dX4_leastInReach_100 : decode cX4_leastInReach 100 = .ok (.iaload, 1) := by decide +kernel
theorem dX4_leastInReach_101 : decode cX4_leastInReach 101 = .ok (.istore 4, 2) := by decide +kernel
theorem dX4_leastInReach_103 : decode cX4_leastInReach 103 = .ok (.iload 5, 2) := by decide +kernel
theorem dX4_leastInReach_105 : decode cX4_leastInReach 105 = .ok (.istore_n 3, 1) := by decide +kernel
theorem dX4_leastInReach_106 : decode cX4_leastInReach 106 = .ok (.iinc 5 1, 3) := by decide +kernel
theorem dX4_leastInReach_109 : decode cX4_leastInReach 109 = .ok (.goto (-99), 3) := by decide +kernel
theorem dX4_leastInReach_112 : decode cX4_leastInReach 112 = .ok (.iload_n 3, 1) := by decide +kernel
theorem dX4_leastInReach_113 : decode cX4_leastInReach 113 = .ok (.ireturn, 1) := by decide +kernel
theorem dX4_isDoneAsTold_0 : decode cX4_isDoneAsTold 0 = .ok (.aload_n 0, 1) := by decide +kernel
theorem dX4_isDoneAsTold_1 : decode cX4_isDoneAsTold 1 = .ok (.getfield 16, 3) := by decide +kernel
theorem dX4_isDoneAsTold_4 : decode cX4_isDoneAsTold 4 = .ok (.aload_n 0, 1) := by decide +kernel
theorem dX4_isDoneAsTold_5 : decode cX4_isDoneAsTold 5 = .ok (.getfield 12, 3) := by decide +kernel
theorem dX4_isDoneAsTold_8 : decode cX4_isDoneAsTold 8 = .ok (.invokevirtual 57, 3) := by decide +kernel
theorem dX4_isDoneAsTold_11 : decode cX4_isDoneAsTold 11 = .ok (.aload_n 0, 1) := by decide +kernel
theorem dX4_isDoneAsTold_12 : decode cX4_isDoneAsTold 12 = .ok (.getfield 16, 3) := by decide +kernel
theorem dX4_isDoneAsTold_15 : decode cX4_isDoneAsTold 15 = .ok (.getfield 114, 3) := by decide +kernel
theorem dX4_isDoneAsTold_18 : decode cX4_isDoneAsTold 18 = .ok (.iload_n 3, 1) := by decide +kernel
theorem dX4_isDoneAsTold_19 : decode cX4_isDoneAsTold 19 = .ok (.iload 4, 2) := by decide +kernel
theorem dX4_isDoneAsTold_21 : decode cX4_isDoneAsTold 21 = .ok (.iastore, 1) := by decide +kernel
theorem dX4_isDoneAsTold_22 : decode cX4_isDoneAsTold 22 = .ok (.iconst 0, 1) := by decide +kernel
theorem dX4_isDoneAsTold_23 : decode cX4_isDoneAsTold 23 = .ok (.istore 5, 2) := by decide +kernel
theorem dX4_isDoneAsTold_25 : decode cX4_isDoneAsTold 25 = .ok (.iload 5, 2) := by decide +kernel
theorem dX4_isDoneAsTold_27 : decode cX4_isDoneAsTold 27 = .ok (.iload_n 2, 1) := by decide +kernel
theorem dX4_isDoneAsTold_28 : decode cX4_isDoneAsTold 28 = .ok (.if_icmp .ge 36, 3) := by decide +kernel
theorem dX4_isDoneAsTold_31 : decode cX4_isDoneAsTold 31 = .ok (.aload_n 1, 1) := by decide +kernel
theorem dX4_isDoneAsTold_32 : decode cX4_isDoneAsTold 32 = .ok (.iload 5, 2) := by decide +kernel
theorem dX4_isDoneAsTold_34 : decode cX4_isDoneAsTold 34 = .ok (.aload_n 0, 1) := by decide +kernel
theorem dX4_isDoneAsTold_35 : decode cX4_isDoneAsTold 35 = .ok (.getfield 16, 3) := by decide +kernel
theorem dX4_isDoneAsTold_38 : decode cX4_isDoneAsTold 38 = .ok (.getfield 117, 3) := by decide +kernel
theorem dX4_isDoneAsTold_41 : decode cX4_isDoneAsTold 41 = .ok (.iload_n 3, 1) := by decide +kernel
theorem dX4_isDoneAsTold_42 : decode cX4_isDoneAsTold 42 = .ok (.iaload, 1) := by decide +kernel
theorem dX4_isDoneAsTold_43 : decode cX4_isDoneAsTold 43 = .ok (.invokevirtual 234, 3) := by decide +kernel
theorem dX4_isDoneAsTold_46 : decode cX4_isDoneAsTold 46 = .ok (.ifCond .ne 5, 3) := by decide +kernel
theorem dX4_isDoneAsTold_49 : decode cX4_isDoneAsTold 49 = .ok (.iconst 0, 1) := by decide +kernel
theorem dX4_isDoneAsTold_50 : decode cX4_isDoneAsTold 50 = .ok (.ireturn, 1) := by decide +kernel
theorem dX4_isDoneAsTold_51 : decode cX4_isDoneAsTold 51 = .ok (.aload_n 0, 1) := by decide +kernel
theorem dX4_isDoneAsTold_52 : decode cX4_isDoneAsTold 52 = .ok (.getfield 16, 3) := by decide +kernel
theorem dX4_isDoneAsTold_55 : decode cX4_isDoneAsTold 55 = .ok (.invokevirtual 176, 3) := by decide +kernel
theorem dX4_isDoneAsTold_58 : decode cX4_isDoneAsTold 58 = .ok (.iinc 5 1, 3) := by decide +kernel
theorem dX4_isDoneAsTold_61 : decode cX4_isDoneAsTold 61 = .ok (.goto (-36), 3) := by decide +kernel
theorem dX4_isDoneAsTold_64 : decode cX4_isDoneAsTold 64 = .ok (.iconst 1, 1) := by decide +kernel
theorem dX4_isDoneAsTold_65 : decode cX4_isDoneAsTold 65 = .ok (.ireturn, 1) := by decide +kernel
theorem dX4_isBookInMindAsTold_0 : decode cX4_isBookInMindAsTold 0 = .ok (.iconst 0, 1) := by decide +kernel
theorem dX4_isBookInMindAsTold_1 : decode cX4_isBookInMindAsTold 1 = .ok (.istore 4, 2) := by decide +kernel
theorem dX4_isBookInMindAsTold_3 : decode cX4_isBookInMindAsTold 3 = .ok (.iload 4, 2) := by decide +kernel
theorem dX4_isBookInMindAsTold_5 : decode cX4_isBookInMindAsTold 5 = .ok (.iload_n 2, 1) := by decide +kernel
theorem dX4_isBookInMindAsTold_6 : decode cX4_isBookInMindAsTold 6 = .ok (.if_icmp .ge 36, 3) := by decide +kernel
theorem dX4_isBookInMindAsTold_9 : decode cX4_isBookInMindAsTold 9 = .ok (.aload_n 1, 1) := by decide +kernel
theorem dX4_isBookInMindAsTold_10 : decode cX4_isBookInMindAsTold 10 = .ok (.iload 4, 2) := by decide +kernel
theorem dX4_isBookInMindAsTold_12 : decode cX4_isBookInMindAsTold 12 = .ok (.aload_n 0, 1) := by decide +kernel
theorem dX4_isBookInMindAsTold_13 : decode cX4_isBookInMindAsTold 13 = .ok (.getfield 16, 3) := by decide +kernel
theorem dX4_isBookInMindAsTold_16 : decode cX4_isBookInMindAsTold 16 = .ok (.getfield 88, 3) := by decide +kernel
theorem dX4_isBookInMindAsTold_19 : decode cX4_isBookInMindAsTold 19 = .ok (.iload_n 3, 1) := by decide +kernel
theorem dX4_isBookInMindAsTold_20 : decode cX4_isBookInMindAsTold 20 = .ok (.iaload, 1) := by decide +kernel
theorem dX4_isBookInMindAsTold_21 : decode cX4_isBookInMindAsTold 21 = .ok (.invokevirtual 234, 3) := by decide +kernel
theorem dX4_isBookInMindAsTold_24 : decode cX4_isBookInMindAsTold 24 = .ok (.ifCond .ne 5, 3) := by decide +kernel
theorem dX4_isBookInMindAsTold_27 : decode cX4_isBookInMindAsTold 27 = .ok (.iconst 0, 1) := by decide +kernel
theorem dX4_isBookInMindAsTold_28 : decode cX4_isBookInMindAsTold 28 = .ok (.ireturn, 1) := by decide +kernel
theorem dX4_isBookInMindAsTold_29 : decode cX4_isBookInMindAsTold 29 = .ok (.aload_n 0, 1) := by decide +kernel
theorem dX4_isBookInMindAsTold_30 : decode cX4_isBookInMindAsTold 30 = .ok (.getfield 16, 3) := by decide +kernel
theorem dX4_isBookInMindAsTold_33 : decode cX4_isBookInMindAsTold 33 = .ok (.invokevirtual 176, 3) := by decide +kernel
theorem dX4_isBookInMindAsTold_36 : decode cX4_isBookInMindAsTold 36 = .ok (.iinc 4 1, 3) := by decide +kernel
theorem dX4_isBookInMindAsTold_39 : decode cX4_isBookInMindAsTold 39 = .ok (.goto (-36), 3) := by decide +kernel
theorem dX4_isBookInMindAsTold_42 : decode cX4_isBookInMindAsTold 42 = .ok (.iconst 1, 1) := by decide +kernel
theorem dX4_isBookInMindAsTold_43 : decode cX4_isBookInMindAsTold 43 = .ok (.ireturn, 1) := by decide +kernel
theorem dX4_playTwo_0 : decode cX4_playTwo 0 = .ok (.iload_n 3, 1) := by decide +kernel
theorem dX4_playTwo_1 : decode cX4_playTwo 1 = .ok (.iconst 2, 1) := by decide +kernel
theorem dX4_playTwo_2 : decode cX4_playTwo 2 = .ok (.iand, 1) := by decide +kernel
theorem dX4_playTwo_3 : decode cX4_playTwo 3 = .ok (.ifCond .eq 7, 3) := by decide +kernel
theorem dX4_playTwo_6 : decode cX4_playTwo 6 = .ok (.iconst 1, 1) := by decide +kernel
theorem dX4_playTwo_7 : decode cX4_playTwo 7 = .ok (.goto 4, 3) := by decide +kernel
theorem dX4_playTwo_10 : decode cX4_playTwo 10 = .ok (.iconst 0, 1) := by decide +kernel
theorem dX4_playTwo_11 : decode cX4_playTwo 11 = .ok (.istore 4, 2) := by decide +kernel
theorem dX4_playTwo_13 : decode cX4_playTwo 13 = .ok (.iload_n 3, 1) := by decide +kernel
theorem dX4_playTwo_14 : decode cX4_playTwo 14 = .ok (.iconst 1, 1) := by decide +kernel
theorem dX4_playTwo_15 : decode cX4_playTwo 15 = .ok (.iand, 1) := by decide +kernel
theorem dX4_playTwo_16 : decode cX4_playTwo 16 = .ok (.ifCond .eq 7, 3) := by decide +kernel
theorem dX4_playTwo_19 : decode cX4_playTwo 19 = .ok (.iconst 1, 1) := by decide +kernel
theorem dX4_playTwo_20 : decode cX4_playTwo 20 = .ok (.goto 4, 3) := by decide +kernel
theorem dX4_playTwo_23 : decode cX4_playTwo 23 = .ok (.iconst 0, 1) := by decide +kernel
theorem dX4_playTwo_24 : decode cX4_playTwo 24 = .ok (.istore 5, 2) := by decide +kernel
theorem dX4_playTwo_26 : decode cX4_playTwo 26 = .ok (.aload_n 0, 1) := by decide +kernel
theorem dX4_playTwo_27 : decode cX4_playTwo 27 = .ok (.getfield 16, 3) := by decide +kernel
theorem dX4_playTwo_30 : decode cX4_playTwo 30 = .ok (.aload_n 0, 1) := by decide +kernel
theorem dX4_playTwo_31 : decode cX4_playTwo 31 = .ok (.getfield 12, 3) := by decide +kernel
theorem dX4_playTwo_34 : decode cX4_playTwo 34 = .ok (.invokevirtual 57, 3) := by decide +kernel
theorem dX4_playTwo_37 : decode cX4_playTwo 37 = .ok (.aload_n 0, 1) := by decide +kernel
theorem dX4_playTwo_38 : decode cX4_playTwo 38 = .ok (.getfield 16, 3) := by decide +kernel
theorem dX4_playTwo_41 : decode cX4_playTwo 41 = .ok (.dup, 1) := by decide +kernel
theorem dX4_playTwo_42 : decode cX4_playTwo 42 = .ok (.getfield 91, 3) := by decide +kernel
theorem dX4_playTwo_45 : decode cX4_playTwo 45 = .ok (.iconst 1, 1) := by decide +kernel
theorem dX4_playTwo_46 : decode cX4_playTwo 46 = .ok (.iload_n 1, 1) := by decide +kernel
theorem dX4_playTwo_47 : decode cX4_playTwo 47 = .ok (.ishl, 1) := by decide +kernel
theorem dX4_playTwo_48 : decode cX4_playTwo 48 = .ok (.iconst 1, 1) := by decide +kernel
theorem dX4_playTwo_49 : decode cX4_playTwo 49 = .ok (.iload_n 2, 1) := by decide +kernel
theorem dX4_playTwo_50 : decode cX4_playTwo 50 = .ok (.ishl, 1) := by decide +kernel
theorem dX4_playTwo_51 : decode cX4_playTwo 51 = .ok (.ior, 1) := by decide +kernel
theorem dX4_playTwo_52 : decode cX4_playTwo 52 = .ok (.iconst (-1), 1) := by decide +kernel
theorem dX4_playTwo_53 : decode cX4_playTwo 53 = .ok (.ixor, 1) := by decide +kernel
theorem dX4_playTwo_54 : decode cX4_playTwo 54 = .ok (.iand, 1) := by decide +kernel
theorem dX4_playTwo_55 : decode cX4_playTwo 55 = .ok (.putfield 91, 3) := by decide +kernel
theorem dX4_playTwo_58 : decode cX4_playTwo 58 = .ok (.aload_n 0, 1) := by decide +kernel
theorem dX4_playTwo_59 : decode cX4_playTwo 59 = .ok (.getfield 16, 3) := by decide +kernel
theorem dX4_playTwo_62 : decode cX4_playTwo 62 = .ok (.iload 4, 2) := by decide +kernel
theorem dX4_playTwo_64 : decode cX4_playTwo 64 = .ok (.ifCond .eq 7, 3) := by decide +kernel
theorem dX4_playTwo_67 : decode cX4_playTwo 67 = .ok (.iconst 0, 1) := by decide +kernel
theorem dX4_playTwo_68 : decode cX4_playTwo 68 = .ok (.goto 6, 3) := by decide +kernel
theorem dX4_playTwo_71 : decode cX4_playTwo 71 = .ok (.iconst 1, 1) := by decide +kernel
theorem dX4_playTwo_72 : decode cX4_playTwo 72 = .ok (.iload_n 1, 1) := by decide +kernel
theorem dX4_playTwo_73 : decode cX4_playTwo 73 = .ok (.ishl, 1) := by decide +kernel
theorem dX4_playTwo_74 : decode cX4_playTwo 74 = .ok (.iload 5, 2) := by decide +kernel
theorem dX4_playTwo_76 : decode cX4_playTwo 76 = .ok (.ifCond .eq 7, 3) := by decide +kernel
theorem dX4_playTwo_79 : decode cX4_playTwo 79 = .ok (.iconst 0, 1) := by decide +kernel
theorem dX4_playTwo_80 : decode cX4_playTwo 80 = .ok (.goto 6, 3) := by decide +kernel
theorem dX4_playTwo_83 : decode cX4_playTwo 83 = .ok (.iconst 1, 1) := by decide +kernel
theorem dX4_playTwo_84 : decode cX4_playTwo 84 = .ok (.iload_n 2, 1) := by decide +kernel
theorem dX4_playTwo_85 : decode cX4_playTwo 85 = .ok (.ishl, 1) := by decide +kernel
theorem dX4_playTwo_86 : decode cX4_playTwo 86 = .ok (.ior, 1) := by decide +kernel
theorem dX4_playTwo_87 : decode cX4_playTwo 87 = .ok (.putfield 291, 3) := by decide +kernel
theorem dX4_playTwo_90 : decode cX4_playTwo 90 = .ok (.aload_n 0, 1) := by decide +kernel
theorem dX4_playTwo_91 : decode cX4_playTwo 91 = .ok (.getfield 16, 3) := by decide +kernel
theorem dX4_playTwo_94 : decode cX4_playTwo 94 = .ok (.iconst 5, 1) := by decide +kernel
theorem dX4_playTwo_95 : decode cX4_playTwo 95 = .ok (.invokevirtual 164, 3) := by decide +kernel
theorem dX4_playTwo_98 : decode cX4_playTwo 98 = .ok (.iload 4, 2) := by decide +kernel
theorem dX4_playTwo_100 : decode cX4_playTwo 100 = .ok (.ifCond .ne 13, 3) := by decide +kernel
theorem dX4_playTwo_103 : decode cX4_playTwo 103 = .ok (.iload 5, 2) := by decide +kernel
theorem dX4_playTwo_105 : decode cX4_playTwo 105 = .ok (.ifCond .eq 8, 3) := by decide +kernel
theorem dX4_playTwo_108 : decode cX4_playTwo 108 = .ok (.bipush 20, 2) := by decide +kernel
theorem dX4_playTwo_110 : decode cX4_playTwo 110 = .ok (.goto 4, 3) := by decide +kernel
theorem dX4_playTwo_113 : decode cX4_playTwo 113 = .ok (.iconst 0, 1) := by decide +kernel
theorem dX4_playTwo_114 : decode cX4_playTwo 114 = .ok (.istore 6, 2) := by decide +kernel
theorem dX4_playTwo_116 : decode cX4_playTwo 116 = .ok (.iload 5, 2) := by decide +kernel
theorem dX4_playTwo_118 : decode cX4_playTwo 118 = .ok (.ifCond .ne 13, 3) := by decide +kernel
theorem dX4_playTwo_121 : decode cX4_playTwo 121 = .ok (.iload 4, 2) := by decide +kernel
theorem dX4_playTwo_123 : decode cX4_playTwo 123 = .ok (.ifCond .eq 8, 3) := by decide +kernel
theorem dX4_playTwo_126 : decode cX4_playTwo 126 = .ok (.bipush 20, 2) := by decide +kernel
theorem dX4_playTwo_128 : decode cX4_playTwo 128 = .ok (.goto 4, 3) := by decide +kernel
theorem dX4_playTwo_131 : decode cX4_playTwo 131 = .ok (.iconst 0, 1) := by decide +kernel
theorem dX4_playTwo_132 : decode cX4_playTwo 132 = .ok (.istore 7, 2) := by decide +kernel
theorem dX4_playTwo_134 : decode cX4_playTwo 134 = .ok (.aload_n 0, 1) := by decide +kernel
theorem dX4_playTwo_135 : decode cX4_playTwo 135 = .ok (.getfield 32, 3) := by decide +kernel
theorem dX4_playTwo_138 : decode cX4_playTwo 138 = .ok (.iload_n 3, 1) := by decide +kernel
theorem dX4_playTwo_139 : decode cX4_playTwo 139 = .ok (.aload_n 0, 1) := by decide +kernel
theorem dX4_playTwo_140 : decode cX4_playTwo 140 = .ok (.getfield 16, 3) := by decide +kernel
theorem dX4_playTwo_143 : decode cX4_playTwo 143 = .ok (.getfield 88, 3) := by decide +kernel
theorem dX4_playTwo_146 : decode cX4_playTwo 146 = .ok (.iload_n 1, 1) := by decide +kernel
theorem dX4_playTwo_147 : decode cX4_playTwo 147 = .ok (.iaload, 1) := by decide +kernel
theorem dX4_playTwo_148 : decode cX4_playTwo 148 = .ok (.aload_n 0, 1) := by decide +kernel
theorem dX4_playTwo_149 : decode cX4_playTwo 149 = .ok (.getfield 12, 3) := by decide +kernel
theorem dX4_playTwo_152 : decode cX4_playTwo 152 = .ok (.getfield 88, 3) := by decide +kernel
theorem dX4_playTwo_155 : decode cX4_playTwo 155 = .ok (.iload_n 1, 1) := by decide +kernel
theorem dX4_playTwo_156 : decode cX4_playTwo 156 = .ok (.iaload, 1) := by decide +kernel
theorem dX4_playTwo_157 : decode cX4_playTwo 157 = .ok (.isub, 1) := by decide +kernel
theorem dX4_playTwo_158 : decode cX4_playTwo 158 = .ok (.iload 6, 2) := by decide +kernel
theorem dX4_playTwo_160 : decode cX4_playTwo 160 = .ok (.isub, 1) := by decide +kernel
theorem dX4_playTwo_161 : decode cX4_playTwo 161 = .ok (.iastore, 1) := by decide +kernel
theorem dX4_playTwo_162 : decode cX4_playTwo 162 = .ok (.aload_n 0, 1) := by decide +kernel
theorem dX4_playTwo_163 : decode cX4_playTwo 163 = .ok (.getfield 36, 3) := by decide +kernel
theorem dX4_playTwo_166 : decode cX4_playTwo 166 = .ok (.iload_n 3, 1) := by decide +kernel
theorem dX4_playTwo_167 : decode cX4_playTwo 167 = .ok (.aload_n 0, 1) := by decide +kernel
theorem dX4_playTwo_168 : decode cX4_playTwo 168 = .ok (.getfield 16, 3) := by decide +kernel
theorem dX4_playTwo_171 : decode cX4_playTwo 171 = .ok (.getfield 88, 3) := by decide +kernel
theorem dX4_playTwo_174 : decode cX4_playTwo 174 = .ok (.iload_n 2, 1) := by decide +kernel
theorem dX4_playTwo_175 : decode cX4_playTwo 175 = .ok (.iaload, 1) := by decide +kernel
theorem dX4_playTwo_176 : decode cX4_playTwo 176 = .ok (.aload_n 0, 1) := by decide +kernel
theorem dX4_playTwo_177 : decode cX4_playTwo 177 = .ok (.getfield 12, 3) := by decide +kernel
theorem dX4_playTwo_180 : decode cX4_playTwo 180 = .ok (.getfield 88, 3) := by decide +kernel
theorem dX4_playTwo_183 : decode cX4_playTwo 183 = .ok (.iload_n 2, 1) := by decide +kernel
theorem dX4_playTwo_184 : decode cX4_playTwo 184 = .ok (.iaload, 1) := by decide +kernel
theorem dX4_playTwo_185 : decode cX4_playTwo 185 = .ok (.isub, 1) := by decide +kernel
theorem dX4_playTwo_186 : decode cX4_playTwo 186 = .ok (.iload 7, 2) := by decide +kernel
theorem dX4_playTwo_188 : decode cX4_playTwo 188 = .ok (.isub, 1) := by decide +kernel
theorem dX4_playTwo_189 : decode cX4_playTwo 189 = .ok (.iastore, 1) := by decide +kernel
theorem dX4_playTwo_190 : decode cX4_playTwo 190 = .ok (.return_, 1) := by decide +kernel
theorem dX4_partInLeastTerms_0 : decode cX4_partInLeastTerms 0 = .ok (.lload_n 2, 1) := by decide +kernel
theorem dX4_partInLeastTerms_1 : decode cX4_partInLeastTerms 1 = .ok (.lstore 5, 2) := by decide +kernel
theorem dX4_partInLeastTerms_3 : decode cX4_partInLeastTerms 3 = .ok (.lload_n 0, 1) := by decide +kernel
theorem dX4_partInLeastTerms_4 : decode cX4_partInLeastTerms 4 = .ok (.lstore 7, 2) := by decide +kernel
theorem dX4_partInLeastTerms_6 : decode cX4_partInLeastTerms 6 = .ok (.iconst 0, 1) := by decide +kernel
theorem dX4_partInLeastTerms_7 : decode cX4_partInLeastTerms 7 = .ok (.istore 9, 2) := by decide +kernel
theorem dX4_partInLeastTerms_9 : decode cX4_partInLeastTerms 9 = .ok (.iload 9, 2) := by decide +kernel
theorem dX4_partInLeastTerms_11 : decode cX4_partInLeastTerms 11 = .ok (.bipush 100, 2) := by decide +kernel
theorem dX4_partInLeastTerms_13 : decode cX4_partInLeastTerms 13 = .ok (.if_icmp .ge 31, 3) := by decide +kernel
theorem dX4_partInLeastTerms_16 : decode cX4_partInLeastTerms 16 = .ok (.lload 7, 2) := by decide +kernel
theorem dX4_partInLeastTerms_18 : decode cX4_partInLeastTerms 18 = .ok (.lconst 0, 1) := by decide +kernel
theorem dX4_partInLeastTerms_19 : decode cX4_partInLeastTerms 19 = .ok (.lcmp, 1) := by decide +kernel
theorem dX4_partInLeastTerms_20 : decode cX4_partInLeastTerms 20 = .ok (.ifCond .eq 24, 3) := by decide +kernel
theorem dX4_partInLeastTerms_23 : decode cX4_partInLeastTerms 23 = .ok (.lload 5, 2) := by decide +kernel
theorem dX4_partInLeastTerms_25 : decode cX4_partInLeastTerms 25 = .ok (.lload 7, 2) := by decide +kernel
theorem dX4_partInLeastTerms_27 : decode cX4_partInLeastTerms 27 = .ok (.lrem, 1) := by decide +kernel
theorem dX4_partInLeastTerms_28 : decode cX4_partInLeastTerms 28 = .ok (.lstore 10, 2) := by decide +kernel
theorem dX4_partInLeastTerms_30 : decode cX4_partInLeastTerms 30 = .ok (.lload 7, 2) := by decide +kernel
theorem dX4_partInLeastTerms_32 : decode cX4_partInLeastTerms 32 = .ok (.lstore 5, 2) := by decide +kernel
theorem dX4_partInLeastTerms_34 : decode cX4_partInLeastTerms 34 = .ok (.lload 10, 2) := by decide +kernel
theorem dX4_partInLeastTerms_36 : decode cX4_partInLeastTerms 36 = .ok (.lstore 7, 2) := by decide +kernel
theorem dX4_partInLeastTerms_38 : decode cX4_partInLeastTerms 38 = .ok (.iinc 9 1, 3) := by decide +kernel
theorem dX4_partInLeastTerms_41 : decode cX4_partInLeastTerms 41 = .ok (.goto (-32), 3) := by decide +kernel
theorem dX4_partInLeastTerms_44 : decode cX4_partInLeastTerms 44 = .ok (.lload 5, 2) := by decide +kernel
theorem dX4_partInLeastTerms_46 : decode cX4_partInLeastTerms 46 = .ok (.lconst 0, 1) := by decide +kernel
theorem dX4_partInLeastTerms_47 : decode cX4_partInLeastTerms 47 = .ok (.lcmp, 1) := by decide +kernel
theorem dX4_partInLeastTerms_48 : decode cX4_partInLeastTerms 48 = .ok (.ifCond .ne 5, 3) := by decide +kernel
theorem dX4_partInLeastTerms_51 : decode cX4_partInLeastTerms 51 = .ok (.lconst 0, 1) := by decide +kernel
theorem dX4_partInLeastTerms_52 : decode cX4_partInLeastTerms 52 = .ok (.lreturn, 1) := by decide +kernel
theorem dX4_partInLeastTerms_53 : decode cX4_partInLeastTerms 53 = .ok (.iload 4, 2) := by decide +kernel
theorem dX4_partInLeastTerms_55 : decode cX4_partInLeastTerms 55 = .ok (.ifCond .ne 7, 3) := by decide +kernel
theorem dX4_partInLeastTerms_58 : decode cX4_partInLeastTerms 58 = .ok (.lload_n 0, 1) := by decide +kernel
theorem dX4_partInLeastTerms_59 : decode cX4_partInLeastTerms 59 = .ok (.goto 4, 3) := by decide +kernel
theorem dX4_partInLeastTerms_62 : decode cX4_partInLeastTerms 62 = .ok (.lload_n 2, 1) := by decide +kernel
theorem dX4_partInLeastTerms_63 : decode cX4_partInLeastTerms 63 = .ok (.lload 5, 2) := by decide +kernel
theorem dX4_partInLeastTerms_65 : decode cX4_partInLeastTerms 65 = .ok (.ldiv, 1) := by decide +kernel
theorem dX4_partInLeastTerms_66 : decode cX4_partInLeastTerms 66 = .ok (.lreturn, 1) := by decide +kernel
theorem dX4_nextSeed_0 : decode cX4_nextSeed 0 = .ok (.iload_n 0, 1) := by decide +kernel
theorem dX4_nextSeed_1 : decode cX4_nextSeed 1 = .ok (.ldc_w 294, 3) := by decide +kernel
theorem dX4_nextSeed_4 : decode cX4_nextSeed 4 = .ok (.imul, 1) := by decide +kernel
theorem dX4_nextSeed_5 : decode cX4_nextSeed 5 = .ok (.sipush 12345, 3) := by decide +kernel
theorem dX4_nextSeed_8 : decode cX4_nextSeed 8 = .ok (.iadd, 1) := by decide +kernel
theorem dX4_nextSeed_9 : decode cX4_nextSeed 9 = .ok (.ireturn, 1) := by decide +kernel
theorem dX4_drawBelow_0 : decode cX4_drawBelow 0 = .ok (.iload_n 1, 1) := by decide +kernel
theorem dX4_drawBelow_1 : decode cX4_drawBelow 1 = .ok (.ifCond .gt 7, 3) := by decide +kernel
theorem dX4_drawBelow_4 : decode cX4_drawBelow 4 = .ok (.iconst 0, 1) := by decide +kernel
theorem dX4_drawBelow_5 : decode cX4_drawBelow 5 = .ok (.goto 14, 3) := by decide +kernel
theorem dX4_drawBelow_8 : decode cX4_drawBelow 8 = .ok (.iload_n 0, 1) := by decide +kernel
theorem dX4_drawBelow_9 : decode cX4_drawBelow 9 = .ok (.ldc_w 295, 3) := by decide +kernel
theorem dX4_drawBelow_12 : decode cX4_drawBelow 12 = .ok (.iand, 1) := by decide +kernel
theorem dX4_drawBelow_13 : decode cX4_drawBelow 13 = .ok (.ldc_w 296, 3) := by decide +kernel
theorem dX4_drawBelow_16 : decode cX4_drawBelow 16 = .ok (.idiv, 1) := by decide +kernel
theorem dX4_drawBelow_17 : decode cX4_drawBelow 17 = .ok (.iload_n 1, 1) := by decide +kernel
theorem dX4_drawBelow_18 : decode cX4_drawBelow 18 = .ok (.irem, 1) := by decide +kernel
theorem dX4_drawBelow_19 : decode cX4_drawBelow 19 = .ok (.ireturn, 1) := by decide +kernel
theorem dX5_init_0 : decode cX5_init 0 = .ok (.aload_n 0, 1) := by decide +kernel
theorem dX5_init_1 : decode cX5_init 1 = .ok (.invokespecial 1, 3) := by decide +kernel
theorem dX5_init_4 : decode cX5_init 4 = .ok (.aload_n 0, 1) := by decide +kernel
theorem dX5_init_5 : decode cX5_init 5 = .ok (.bipush 61, 2) := by decide +kernel
theorem dX5_init_7 : decode cX5_init 7 = .ok (.newarray .int, 2) := by decide +kernel
theorem dX5_init_9 : decode cX5_init 9 = .ok (.putfield 9, 3) := by decide +kernel
theorem dX5_init_12 : decode cX5_init 12 = .ok (.aload_n 0, 1) := by decide +kernel
theorem dX5_init_13 : decode cX5_init 13 = .ok (.bipush 61, 2) := by decide +kernel
theorem dX5_init_15 : decode cX5_init 15 = .ok (.newarray .int, 2) := by decide +kernel
theorem dX5_init_17 : decode cX5_init 17 = .ok (.putfield 13, 3) := by decide +kernel
theorem dX5_init_20 : decode cX5_init 20 = .ok (.aload_n 0, 1) := by decide +kernel
theorem dX5_init_21 : decode cX5_init 21 = .ok (.bipush 61, 2) := by decide +kernel
theorem dX5_init_23 : decode cX5_init 23 = .ok (.newarray .int, 2) := by decide +kernel
theorem dX5_init_25 : decode cX5_init 25 = .ok (.putfield 16, 3) := by decide +kernel
theorem dX5_init_28 : decode cX5_init 28 = .ok (.aload_n 0, 1) := by decide +kernel
theorem dX5_init_29 : decode cX5_init 29 = .ok (.bipush 61, 2) := by decide +kernel
theorem dX5_init_31 : decode cX5_init 31 = .ok (.newarray .int, 2) := by decide +kernel
theorem dX5_init_33 : decode cX5_init 33 = .ok (.putfield 19, 3) := by decide +kernel
theorem dX5_init_36 : decode cX5_init 36 = .ok (.aload_n 0, 1) := by decide +kernel
theorem dX5_init_37 : decode cX5_init 37 = .ok (.iconst 4, 1) := by decide +kernel
theorem dX5_init_38 : decode cX5_init 38 = .ok (.newarray .int, 2) := by decide +kernel
theorem dX5_init_40 : decode cX5_init 40 = .ok (.putfield 22, 3) := by decide +kernel
theorem dX5_init_43 : decode cX5_init 43 = .ok (.aload_n 0, 1) := by decide +kernel
theorem dX5_init_44 : decode cX5_init 44 = .ok (.bipush 8, 2) := by decide +kernel
theorem dX5_init_46 : decode cX5_init 46 = .ok (.newarray .int, 2) := by decide +kernel
theorem dX5_init_48 : decode cX5_init 48 = .ok (.putfield 25, 3) := by decide +kernel
theorem dX5_init_51 : decode cX5_init 51 = .ok (.aload_n 0, 1) := by decide +kernel
theorem dX5_init_52 : decode cX5_init 52 = .ok (.bipush 8, 2) := by decide +kernel
theorem dX5_init_54 : decode cX5_init 54 = .ok (.newarray .int, 2) := by decide +kernel
theorem dX5_init_56 : decode cX5_init 56 = .ok (.putfield 28, 3) := by decide +kernel
theorem dX5_init_59 : decode cX5_init 59 = .ok (.aload_n 0, 1) := by decide +kernel
theorem dX5_init_60 : decode cX5_init 60 = .ok (.bipush 8, 2) := by decide +kernel
theorem dX5_init_62 : decode cX5_init 62 = .ok (.newarray .int, 2) := by decide +kernel
theorem dX5_init_64 : decode cX5_init 64 = .ok (.putfield 31, 3) := by decide +kernel
theorem dX5_init_67 : decode cX5_init 67 = .ok (.aload_n 0, 1) := by decide +kernel
theorem dX5_init_68 : decode cX5_init 68 = .ok (.bipush 8, 2) := by decide +kernel
theorem dX5_init_70 : decode cX5_init 70 = .ok (.newarray .int, 2) := by decide +kernel
theorem dX5_init_72 : decode cX5_init 72 = .ok (.putfield 34, 3) := by decide +kernel
theorem dX5_init_75 : decode cX5_init 75 = .ok (.aload_n 0, 1) := by decide +kernel
theorem dX5_init_76 : decode cX5_init 76 = .ok (.bipush 8, 2) := by decide +kernel
theorem dX5_init_78 : decode cX5_init 78 = .ok (.newarray .int, 2) := by decide +kernel
theorem dX5_init_80 : decode cX5_init 80 = .ok (.putfield 37, 3) := by decide +kernel
theorem dX5_init_83 : decode cX5_init 83 = .ok (.aload_n 0, 1) := by decide +kernel
theorem dX5_init_84 : decode cX5_init 84 = .ok (.sipush 800, 3) := by decide +kernel
theorem dX5_init_87 : decode cX5_init 87 = .ok (.newarray .int, 2) := by decide +kernel
theorem dX5_init_89 : decode cX5_init 89 = .ok (.putfield 40, 3) := by decide +kernel
theorem dX5_init_92 : decode cX5_init 92 = .ok (.iconst 0, 1) := by decide +kernel
theorem dX5_init_93 : decode cX5_init 93 = .ok (.istore_n 1, 1) := by decide +kernel
theorem dX5_init_94 : decode cX5_init 94 = .ok (.iload_n 1, 1) := by decide +kernel
theorem dX5_init_95 : decode cX5_init 95 = .ok (.bipush 10, 2) := by decide +kernel
theorem dX5_init_97 : decode cX5_init 97 = .ok (.if_icmp .ge 19, 3) := by decide +kernel
theorem dX5_init_100 : decode cX5_init 100 = .ok (.aload_n 0, 1) := by decide +kernel
theorem dX5_init_101 : decode cX5_init 101 = .ok (.getfield 9, 3) := by decide +kernel
theorem dX5_init_104 : decode cX5_init 104 = .ok (.iconst 5, 1) := by decide +kernel
theorem dX5_init_105 : decode cX5_init 105 = .ok (.iload_n 1, 1) := by decide +kernel
theorem dX5_init_106 : decode cX5_init 106 = .ok (.iadd, 1) := by decide +kernel
theorem dX5_init_107 : decode cX5_init 107 = .ok (.bipush 100, 2) := by decide +kernel
theorem dX5_init_109 : decode cX5_init 109 = .ok (.iastore, 1) := by decide +kernel
theorem dX5_init_110 : decode cX5_init 110 = .ok (.iinc 1 1, 3) := by decide +kernel
theorem dX5_init_113 : decode cX5_init 113 = .ok (.goto (-19), 3) := by decide +kernel
theorem dX5_init_116 : decode cX5_init 116 = .ok (.return_, 1) := by decide +kernel
theorem dX5_isIn_0 : decode cX5_isIn 0 = .ok (.iload_n 0, 1) := by decide +kernel
theorem dX5_isIn_1 : decode cX5_isIn 1 = .ok (.iload_n 1, 1) := by decide +kernel
theorem dX5_isIn_2 : decode cX5_isIn 2 = .ok (.if_icmp .lt 12, 3) := by decide +kernel
theorem dX5_isIn_5 : decode cX5_isIn 5 = .ok (.iload_n 0, 1) := by decide +kernel
theorem dX5_isIn_6 : decode cX5_isIn 6 = .ok (.iload_n 2, 1) := by decide +kernel
theorem dX5_isIn_7 : decode cX5_isIn 7 = .ok (.if_icmp .gt 7, 3) := by decide +kernel
theorem dX5_isIn_10 : decode cX5_isIn 10 = .ok (.iconst 1, 1) := by decide +kernel
theorem dX5_isIn_11 : decode cX5_isIn 11 = .ok (.goto 4, 3) := by decide +kernel
theorem dX5_isIn_14 : decode cX5_isIn 14 = .ok (.iconst 0, 1) := by decide +kernel
theorem dX5_isIn_15 : decode cX5_isIn 15 = .ok (.ireturn, 1) := by decide +kernel
theorem dX5_least_0 : decode cX5_least 0 = .ok (.iload_n 0, 1) := by decide +kernel
theorem dX5_least_1 : decode cX5_least 1 = .ok (.iload_n 1, 1) := by decide +kernel
theorem dX5_least_2 : decode cX5_least 2 = .ok (.if_icmp .ge 7, 3) := by decide +kernel
theorem dX5_least_5 : decode cX5_least 5 = .ok (.iload_n 0, 1) := by decide +kernel
theorem dX5_least_6 : decode cX5_least 6 = .ok (.goto 4, 3) := by decide +kernel
theorem dX5_least_9 : decode cX5_least 9 = .ok (.iload_n 1, 1) := by decide +kernel
theorem dX5_least_10 : decode cX5_least 10 = .ok (.ireturn, 1) := by decide +kernel
theorem dX5_most_0 : decode cX5_most 0 = .ok (.iload_n 0, 1) := by decide +kernel
theorem dX5_most_1 : decode cX5_most 1 = .ok (.iload_n 1, 1) := by decide +kernel
theorem dX5_most_2 : decode cX5_most 2 = .ok (.if_icmp .le 7, 3) := by decide +kernel
theorem dX5_most_5 : decode cX5_most 5 = .ok (.iload_n 0, 1) := by decide +kernel
theorem dX5_most_6 : decode cX5_most 6 = .ok (.goto 4, 3) := by decide +kernel
theorem dX5_most_9 : decode cX5_most 9 = .ok (.iload_n 1, 1) := by decide +kernel
theorem dX5_most_10 : decode cX5_most 10 = .ok (.ireturn, 1) := by decide +kernel
theorem dX5_copies_0 : decode cX5_copies 0 = .ok (.iconst 0, 1) := by decide +kernel
theorem dX5_copies_1 : decode cX5_copies 1 = .ok (.istore_n 2, 1) := by decide +kernel
theorem dX5_copies_2 : decode cX5_copies 2 = .ok (.iload_n 2, 1) := by decide +kernel
theorem dX5_copies_3 : decode cX5_copies 3 = .ok (.bipush 61, 2) := by decide +kernel
theorem dX5_copies_5 : decode cX5_copies 5 = .ok (.if_icmp .ge 15, 3) := by decide +kernel
theorem dX5_copies_8 : decode cX5_copies 8 = .ok (.aload_n 1, 1) := by decide +kernel
theorem dX5_copies_9 : decode cX5_copies 9 = .ok (.iload_n 2, 1) := by decide +kernel
theorem dX5_copies_10 : decode cX5_copies 10 = .ok (.aload_n 0, 1) := by decide +kernel
theorem dX5_copies_11 : decode cX5_copies 11 = .ok (.iload_n 2, 1) := by decide +kernel
theorem dX5_copies_12 : decode cX5_copies 12 = .ok (.iaload, 1) := by decide +kernel
theorem dX5_copies_13 : decode cX5_copies 13 = .ok (.iastore, 1) := by decide +kernel
theorem dX5_copies_14 : decode cX5_copies 14 = .ok (.iinc 2 1, 3) := by decide +kernel
theorem dX5_copies_17 : decode cX5_copies 17 = .ok (.goto (-15), 3) := by decide +kernel
theorem dX5_copies_20 : decode cX5_copies 20 = .ok (.return_, 1) := by decide +kernel
theorem dX5_of_0 : decode cX5_of 0 = .ok (.bipush 25, 2) := by decide +kernel
theorem dX5_of_2 : decode cX5_of 2 = .ok (.bipush 6, 2) := by decide +kernel
theorem dX5_of_4 : decode cX5_of 4 = .ok (.iload_n 0, 1) := by decide +kernel
theorem dX5_of_5 : decode cX5_of 5 = .ok (.imul, 1) := by decide +kernel
theorem dX5_of_6 : decode cX5_of 6 = .ok (.iadd, 1) := by decide +kernel
theorem dX5_of_7 : decode cX5_of 7 = .ok (.iload_n 1, 1) := by decide +kernel
theorem dX5_of_8 : decode cX5_of 8 = .ok (.iadd, 1) := by decide +kernel
theorem dX5_of_9 : decode cX5_of 9 = .ok (.ireturn, 1) := by decide +kernel
theorem dX5_isOne_0 : decode cX5_isOne 0 = .ok (.iload_n 1, 1) := by decide +kernel
theorem dX5_isOne_1 : decode cX5_isOne 1 = .ok (.iconst 0, 1) := by decide +kernel
theorem dX5_isOne_2 : decode cX5_isOne 2 = .ok (.aload_n 0, 1) := by decide +kernel
theorem dX5_isOne_3 : decode cX5_isOne 3 = .ok (.getfield 9, 3) := by decide +kernel
theorem dX5_isOne_6 : decode cX5_isOne 6 = .ok (.iconst 0, 1) := by decide +kernel
theorem dX5_isOne_7 : decode cX5_isOne 7 = .ok (.iaload, 1) := by decide +kernel
theorem dX5_isOne_8 : decode cX5_isOne 8 = .ok (.iconst 1, 1) := by decide +kernel
theorem dX5_isOne_9 : decode cX5_isOne 9 = .ok (.isub, 1) := by decide +kernel
theorem dX5_isOne_10 : decode cX5_isOne 10 = .ok (.invokestatic 43, 3) := by decide +kernel
theorem dX5_isOne_13 : decode cX5_isOne 13 = .ok (.ireturn, 1) := by decide +kernel
theorem dX5_isDip_0 : decode cX5_isDip 0 = .ok (.iload_n 0, 1) := by decide +kernel
theorem dX5_isDip_1 : decode cX5_isDip 1 = .ok (.iconst 0, 1) := by decide +kernel
theorem dX5_isDip_2 : decode cX5_isDip 2 = .ok (.bipush 9, 2) := by decide +kernel
theorem dX5_isDip_4 : decode cX5_isDip 4 = .ok (.invokestatic 43, 3) := by decide +kernel
theorem dX5_isDip_7 : decode cX5_isDip 7 = .ok (.ireturn, 1) := by decide +kernel
theorem dX5_has_0 : decode cX5_has 0 = .ok (.iload_n 0, 1) := by decide +kernel
theorem dX5_has_1 : decode cX5_has 1 = .ok (.iload_n 1, 1) := by decide +kernel
theorem dX5_has_2 : decode cX5_has 2 = .ok (.ishr, 1) := by decide +kernel
theorem dX5_has_3 : decode cX5_has 3 = .ok (.iconst 1, 1) := by decide +kernel
theorem dX5_has_4 : decode cX5_has 4 = .ok (.iand, 1) := by decide +kernel
theorem dX5_has_5 : decode cX5_has 5 = .ok (.iconst 1, 1) := by decide +kernel
theorem dX5_has_6 : decode cX5_has 6 = .ok (.if_icmp .ne 7, 3) := by decide +kernel
theorem dX5_has_9 : decode cX5_has 9 = .ok (.iconst 1, 1) := by decide +kernel
theorem dX5_has_10 : decode cX5_has 10 = .ok (.goto 4, 3) := by decide +kernel
theorem dX5_has_13 : decode cX5_has 13 = .ok (.iconst 0, 1) := by decide +kernel
theorem dX5_has_14 : decode cX5_has 14 = .ok (.ireturn, 1) := by decide +kernel
theorem dX5_bits_0 : decode cX5_bits 0 = .ok (.iconst 0, 1) := by decide +kernel
theorem dX5_bits_1 : decode cX5_bits 1 = .ok (.istore_n 1, 1) := by decide +kernel
theorem dX5_bits_2 : decode cX5_bits 2 = .ok (.iconst 0, 1) := by decide +kernel
theorem dX5_bits_3 : decode cX5_bits 3 = .ok (.istore_n 2, 1) := by decide +kernel
theorem dX5_bits_4 : decode cX5_bits 4 = .ok (.iload_n 2, 1) := by decide +kernel
theorem dX5_bits_5 : decode cX5_bits 5 = .ok (.bipush 10, 2) := by decide +kernel
theorem dX5_bits_7 : decode cX5_bits 7 = .ok (.if_icmp .ge 17, 3) := by decide +kernel
theorem dX5_bits_10 : decode cX5_bits 10 = .ok (.iload_n 1, 1) := by decide +kernel
theorem dX5_bits_11 : decode cX5_bits 11 = .ok (.iload_n 0, 1) := by decide +kernel
theorem dX5_bits_12 : decode cX5_bits 12 = .ok (.iload_n 2, 1) := by decide +kernel
theorem dX5_bits_13 : decode cX5_bits 13 = .ok (.ishr, 1) := by decide +kernel
theorem dX5_bits_14 : decode cX5_bits 14 = .ok (.iconst 1, 1) := by decide +kernel
theorem dX5_bits_15 : decode cX5_bits 15 = .ok (.iand, 1) := by decide +kernel
theorem dX5_bits_16 : decode cX5_bits 16 = .ok (.iadd, 1) := by decide +kernel
theorem dX5_bits_17 : decode cX5_bits 17 = .ok (.istore_n 1, 1) := by decide +kernel
theorem dX5_bits_18 : decode cX5_bits 18 = .ok (.iinc 2 1, 3) := by decide +kernel
theorem dX5_bits_21 : decode cX5_bits 21 = .ok (.goto (-17), 3) := by decide +kernel
theorem dX5_bits_24 : decode cX5_bits 24 = .ok (.iload_n 1, 1) := by decide +kernel
theorem dX5_bits_25 : decode cX5_bits 25 = .ok (.ireturn, 1) := by decide +kernel
theorem dX5_left_0 : decode cX5_left 0 = .ok (.aload_n 0, 1) := by decide +kernel
theorem dX5_left_1 : decode cX5_left 1 = .ok (.iconst 5, 1) := by decide +kernel
theorem dX5_left_2 : decode cX5_left 2 = .ok (.iload_n 1, 1) := by decide +kernel
theorem dX5_left_3 : decode cX5_left 3 = .ok (.iadd, 1) := by decide +kernel
theorem dX5_left_4 : decode cX5_left 4 = .ok (.iaload, 1) := by decide +kernel
theorem dX5_left_5 : decode cX5_left 5 = .ok (.aload_n 0, 1) := by decide +kernel
theorem dX5_left_6 : decode cX5_left 6 = .ok (.bipush 15, 2) := by decide +kernel
theorem dX5_left_8 : decode cX5_left 8 = .ok (.iload_n 1, 1) := by decide +kernel
theorem dX5_left_9 : decode cX5_left 9 = .ok (.iadd, 1) := by decide +kernel
theorem dX5_left_10 : decode cX5_left 10 = .ok (.iaload, 1) := by decide +kernel
theorem dX5_left_11 : decode cX5_left 11 = .ok (.isub, 1) := by decide +kernel
theorem dX5_left_12 : decode cX5_left 12 = .ok (.ireturn, 1) := by decide +kernel
theorem dX5_counts_0 : decode cX5_counts 0 = .ok (.aload_n 0, 1) := by decide +kernel
theorem dX5_counts_1 : decode cX5_counts 1 = .ok (.iload_n 1, 1) := by decide +kernel
theorem dX5_counts_2 : decode cX5_counts 2 = .ok (.iconst 1, 1) := by decide +kernel
theorem dX5_counts_3 : decode cX5_counts 3 = .ok (.invokestatic 47, 3) := by decide +kernel
theorem dX5_counts_6 : decode cX5_counts 6 = .ok (.iaload, 1) := by decide +kernel
theorem dX5_counts_7 : decode cX5_counts 7 = .ok (.istore_n 3, 1) := by decide +kernel
theorem dX5_counts_8 : decode cX5_counts 8 = .ok (.aload_n 0, 1) := by decide +kernel
theorem dX5_counts_9 : decode cX5_counts 9 = .ok (.aload_n 0, 1) := by decide +kernel
theorem dX5_counts_10 : decode cX5_counts 10 = .ok (.iload_n 1, 1) := by decide +kernel
theorem dX5_counts_11 : decode cX5_counts 11 = .ok (.iconst 2, 1) := by decide +kernel
theorem dX5_counts_12 : decode cX5_counts 12 = .ok (.invokestatic 47, 3) := by decide +kernel
theorem dX5_counts_15 : decode cX5_counts 15 = .ok (.iaload, 1) := by decide +kernel
theorem dX5_counts_16 : decode cX5_counts 16 = .ok (.invokestatic 51, 3) := by decide +kernel
theorem dX5_counts_19 : decode cX5_counts 19 = .ok (.istore 4, 2) := by decide +kernel
theorem dX5_counts_21 : decode cX5_counts 21 = .ok (.aload_n 0, 1) := by decide +kernel
theorem dX5_counts_22 : decode cX5_counts 22 = .ok (.iload_n 1, 1) := by decide +kernel
theorem dX5_counts_23 : decode cX5_counts 23 = .ok (.iconst 0, 1) := by decide +kernel
theorem dX5_counts_24 : decode cX5_counts 24 = .ok (.invokestatic 47, 3) := by decide +kernel
theorem dX5_counts_27 : decode cX5_counts 27 = .ok (.iaload, 1) := by decide +kernel
theorem dX5_counts_28 : decode cX5_counts 28 = .ok (.tableswitch 135 1 7 #[44, 54, 61, 73, 87, 104, 126], 44) := by decide +kernel
theorem dX5_counts_72 : decode cX5_counts 72 = .ok (.iload 4, 2) := by decide +kernel
theorem dX5_counts_74 : decode cX5_counts 74 = .ok (.bipush 9, 2) := by decide +kernel
theorem dX5_counts_76 : decode cX5_counts 76 = .ok (.iload_n 3, 1) := by decide +kernel
theorem dX5_counts_77 : decode cX5_counts 77 = .ok (.iadd, 1) := by decide +kernel
theorem dX5_counts_78 : decode cX5_counts 78 = .ok (.invokestatic 55, 3) := by decide +kernel
theorem dX5_counts_81 : decode cX5_counts 81 = .ok (.ireturn, 1) := by decide +kernel
theorem dX5_counts_82 : decode cX5_counts 82 = .ok (.iload 4, 2) := by decide +kernel
theorem dX5_counts_84 : decode cX5_counts 84 = .ok (.iconst 1, 1) := by decide +kernel
theorem dX5_counts_85 : decode cX5_counts 85 = .ok (.iadd, 1) := by decide +kernel
theorem dX5_counts_86 : decode cX5_counts 86 = .ok (.iconst 2, 1) := by decide +kernel
theorem dX5_counts_87 : decode cX5_counts 87 = .ok (.idiv, 1) := by decide +kernel
theorem dX5_counts_88 : decode cX5_counts 88 = .ok (.ireturn, 1) := by decide +kernel
theorem dX5_counts_89 : decode cX5_counts 89 = .ok (.iload 4, 2) := by decide +kernel
theorem dX5_counts_91 : decode cX5_counts 91 = .ok (.bipush 10, 2) := by decide +kernel
theorem dX5_counts_93 : decode cX5_counts 93 = .ok (.iload_n 3, 1) := by decide +kernel
theorem dX5_counts_94 : decode cX5_counts 94 = .ok (.iadd, 1) := by decide +kernel
theorem dX5_counts_95 : decode cX5_counts 95 = .ok (.iconst 2, 1) := by decide +kernel
theorem dX5_counts_96 : decode cX5_counts 96 = .ok (.idiv, 1) := by decide +kernel
theorem dX5_counts_97 : decode cX5_counts 97 = .ok (.invokestatic 55, 3) := by decide +kernel
theorem dX5_counts_100 : decode cX5_counts 100 = .ok (.ireturn, 1) := by decide +kernel
theorem dX5_counts_101 : decode cX5_counts 101 = .ok (.iload 4, 2) := by decide +kernel
theorem dX5_counts_103 : decode cX5_counts 103 = .ok (.bipush 9, 2) := by decide +kernel
theorem dX5_counts_105 : decode cX5_counts 105 = .ok (.iload_n 3, 1) := by decide +kernel
theorem dX5_counts_106 : decode cX5_counts 106 = .ok (.iadd, 1) := by decide +kernel
theorem dX5_counts_107 : decode cX5_counts 107 = .ok (.iconst 2, 1) := by decide +kernel
theorem dX5_counts_108 : decode cX5_counts 108 = .ok (.idiv, 1) := by decide +kernel
theorem dX5_counts_109 : decode cX5_counts 109 = .ok (.iconst 1, 1) := by decide +kernel
theorem dX5_counts_110 : decode cX5_counts 110 = .ok (.iadd, 1) := by decide +kernel
theorem dX5_counts_111 : decode cX5_counts 111 = .ok (.invokestatic 55, 3) := by decide +kernel
theorem dX5_counts_114 : decode cX5_counts 114 = .ok (.ireturn, 1) := by decide +kernel
theorem dX5_counts_115 : decode cX5_counts 115 = .ok (.iload 4, 2) := by decide +kernel
theorem dX5_counts_117 : decode cX5_counts 117 = .ok (.bipush 20, 2) := by decide +kernel
theorem dX5_counts_119 : decode cX5_counts 119 = .ok (.iload 4, 2) := by decide +kernel
theorem dX5_counts_121 : decode cX5_counts 121 = .ok (.iconst 1, 1) := by decide +kernel
theorem dX5_counts_122 : decode cX5_counts 122 = .ok (.iadd, 1) := by decide +kernel
theorem dX5_counts_123 : decode cX5_counts 123 = .ok (.iconst 2, 1) := by decide +kernel
theorem dX5_counts_124 : decode cX5_counts 124 = .ok (.idiv, 1) := by decide +kernel
theorem dX5_counts_125 : decode cX5_counts 125 = .ok (.invokestatic 58, 3) := by decide +kernel
theorem dX5_counts_128 : decode cX5_counts 128 = .ok (.invokestatic 55, 3) := by decide +kernel
theorem dX5_counts_131 : decode cX5_counts 131 = .ok (.ireturn, 1) := by decide +kernel
theorem dX5_counts_132 : decode cX5_counts 132 = .ok (.iload_n 2, 1) := by decide +kernel
theorem dX5_counts_133 : decode cX5_counts 133 = .ok (.iconst 2, 1) := by decide +kernel
theorem dX5_counts_134 : decode cX5_counts 134 = .ok (.irem, 1) := by decide +kernel
theorem dX5_counts_135 : decode cX5_counts 135 = .ok (.ifCond .ne 17, 3) := by decide +kernel
theorem dX5_counts_138 : decode cX5_counts 138 = .ok (.iload 4, 2) := by decide +kernel
theorem dX5_counts_140 : decode cX5_counts 140 = .ok (.bipush 10, 2) := by decide +kernel
theorem dX5_counts_142 : decode cX5_counts 142 = .ok (.iload_n 3, 1) := by decide +kernel
theorem dX5_counts_143 : decode cX5_counts 143 = .ok (.iadd, 1) := by decide +kernel
theorem dX5_counts_144 : decode cX5_counts 144 = .ok (.iconst 2, 1) := by decide +kernel
theorem dX5_counts_145 : decode cX5_counts 145 = .ok (.idiv, 1) := by decide +kernel
theorem dX5_counts_146 : decode cX5_counts 146 = .ok (.invokestatic 55, 3) := by decide +kernel
theorem dX5_counts_149 : decode cX5_counts 149 = .ok (.goto 4, 3) := by decide +kernel
theorem dX5_counts_152 : decode cX5_counts 152 = .ok (.iconst 0, 1) := by decide +kernel
theorem dX5_counts_153 : decode cX5_counts 153 = .ok (.ireturn, 1) := by decide +kernel
theorem dX5_counts_154 : decode cX5_counts 154 = .ok (.iload 4, 2) := by decide +kernel
theorem dX5_counts_156 : decode cX5_counts 156 = .ok (.iload_n 3, 1) := by decide +kernel
theorem dX5_counts_157 : decode cX5_counts 157 = .ok (.iconst 1, 1) := by decide +kernel
theorem dX5_counts_158 : decode cX5_counts 158 = .ok (.iadd, 1) := by decide +kernel
theorem dX5_counts_159 : decode cX5_counts 159 = .ok (.invokestatic 55, 3) := by decide +kernel
theorem dX5_counts_162 : decode cX5_counts 162 = .ok (.ireturn, 1) := by decide +kernel
theorem dX5_counts_163 : decode cX5_counts 163 = .ok (.iload 4, 2) := by decide +kernel
theorem dX5_counts_165 : decode cX5_counts 165 = .ok (.bipush 10, 2) := by decide +kernel
theorem dX5_counts_167 : decode cX5_counts 167 = .ok (.iload_n 3, 1) := by decide +kernel
theorem dX5_counts_168 : decode cX5_counts 168 = .ok (.iadd, 1) := by decide +kernel
theorem dX5_counts_169 : decode cX5_counts 169 = .ok (.invokestatic 55, 3) := by decide +kernel
theorem dX5_counts_172 : decode cX5_counts 172 = .ok (.ireturn, 1) := by decide +kernel
theorem dX5_books_0 : decode cX5_books 0 = .ok (.iload_n 0, 1) := by decide +kernel
theorem dX5_books_1 : decode cX5_books 1 = .ok (.tableswitch 63 2 6 #[35, 63, 63, 47, 51], 35) := by decide +kernel
theorem dX5_books_36 : decode cX5_books 36 = .ok (.iload_n 2, 1) := by decide +kernel
theorem dX5_books_37 : decode cX5_books 37 = .ok (.ifCond .le 9, 3) := by decide +kernel
theorem dX5_books_40 : decode cX5_books 40 = .ok (.iload_n 2, 1) := by decide +kernel
theorem dX5_books_41 : decode cX5_books 41 = .ok (.iload_n 1, 1) := by decide +kernel
theorem dX5_books_42 : decode cX5_books 42 = .ok (.iadd, 1) := by decide +kernel
theorem dX5_books_43 : decode cX5_books 43 = .ok (.goto 4, 3) := by decide +kernel
theorem dX5_books_46 : decode cX5_books 46 = .ok (.iconst 0, 1) := by decide +kernel
theorem dX5_books_47 : decode cX5_books 47 = .ok (.ireturn, 1) := by decide +kernel
theorem dX5_books_48 : decode cX5_books 48 = .ok (.iconst 2, 1) := by decide +kernel
theorem dX5_books_49 : decode cX5_books 49 = .ok (.iload_n 2, 1) := by decide +kernel
theorem dX5_books_50 : decode cX5_books 50 = .ok (.imul, 1) := by decide +kernel
theorem dX5_books_51 : decode cX5_books 51 = .ok (.ireturn, 1) := by decide +kernel
theorem dX5_books_52 : decode cX5_books 52 = .ok (.iload_n 2, 1) := by decide +kernel
theorem dX5_books_53 : decode cX5_books 53 = .ok (.ifCond .le 9, 3) := by decide +kernel
theorem dX5_books_56 : decode cX5_books 56 = .ok (.iload_n 2, 1) := by decide +kernel
theorem dX5_books_57 : decode cX5_books 57 = .ok (.iconst 1, 1) := by decide +kernel
theorem dX5_books_58 : decode cX5_books 58 = .ok (.isub, 1) := by decide +kernel
theorem dX5_books_59 : decode cX5_books 59 = .ok (.goto 4, 3) := by decide +kernel
theorem dX5_books_62 : decode cX5_books 62 = .ok (.iconst 0, 1) := by decide +kernel
theorem dX5_books_63 : decode cX5_books 63 = .ok (.ireturn, 1) := by decide +kernel
theorem dX5_books_64 : decode cX5_books 64 = .ok (.iload_n 2, 1) := by decide +kernel
theorem dX5_books_65 : decode cX5_books 65 = .ok (.ireturn, 1) := by decide +kernel
theorem dX5_writes_0 : decode cX5_writes 0 = .ok (.aload_n 0, 1) := by decide +kernel
theorem dX5_writes_1 : decode cX5_writes 1 = .ok (.iload_n 1, 1) := by decide +kernel
theorem dX5_writes_2 : decode cX5_writes 2 = .ok (.iconst 4, 1) := by decide +kernel
theorem dX5_writes_3 : decode cX5_writes 3 = .ok (.invokestatic 47, 3) := by decide +kernel
theorem dX5_writes_6 : decode cX5_writes 6 = .ok (.sipush 9999, 3) := by decide +kernel
theorem dX5_writes_9 : decode cX5_writes 9 = .ok (.aload_n 0, 1) := by decide +kernel
theorem dX5_writes_10 : decode cX5_writes 10 = .ok (.iload_n 1, 1) := by decide +kernel
theorem dX5_writes_11 : decode cX5_writes 11 = .ok (.iconst 4, 1) := by decide +kernel
theorem dX5_writes_12 : decode cX5_writes 12 = .ok (.invokestatic 47, 3) := by decide +kernel
theorem dX5_writes_15 : decode cX5_writes 15 = .ok (.iaload, 1) := by decide +kernel
theorem dX5_writes_16 : decode cX5_writes 16 = .ok (.iload_n 2, 1) := by decide +kernel
theorem dX5_writes_17 : decode cX5_writes 17 = .ok (.iadd, 1) := by decide +kernel
theorem dX5_writes_18 : decode cX5_writes 18 = .ok (.invokestatic 55, 3) := by decide +kernel
theorem dX5_writes_21 : decode cX5_writes 21 = .ok (.iastore, 1) := by decide +kernel
theorem dX5_writes_22 : decode cX5_writes 22 = .ok (.return_, 1) := by decide +kernel
theorem dX5_isStood_0 : decode cX5_isStood 0 = .ok (.iconst 0, 1) := by decide +kernel
theorem dX5_isStood_1 : decode cX5_isStood 1 = .ok (.istore_n 3, 1) := by decide +kernel
theorem dX5_isStood_2 : decode cX5_isStood 2 = .ok (.iload_n 3, 1) := by decide +kernel
theorem dX5_isStood_3 : decode cX5_isStood 3 = .ok (.aload_n 0, 1) := by decide +kernel
theorem dX5_isStood_4 : decode cX5_isStood 4 = .ok (.iconst 0, 1) := by decide +kernel
theorem dX5_isStood_5 : decode cX5_isStood 5 = .ok (.iaload, 1) := by decide +kernel
theorem dX5_isStood_6 : decode cX5_isStood 6 = .ok (.if_icmp .ge 33, 3) := by decide +kernel
theorem dX5_isStood_9 : decode cX5_isStood 9 = .ok (.aload_n 0, 1) := by decide +kernel
theorem dX5_isStood_10 : decode cX5_isStood 10 = .ok (.iload_n 3, 1) := by decide +kernel
theorem dX5_isStood_11 : decode cX5_isStood 11 = .ok (.iconst 2, 1) := by decide +kernel
theorem dX5_isStood_12 : decode cX5_isStood 12 = .ok (.invokestatic 47, 3) := by decide +kernel
theorem dX5_isStood_15 : decode cX5_isStood 15 = .ok (.iaload, 1) := by decide +kernel
theorem dX5_isStood_16 : decode cX5_isStood 16 = .ok (.iload_n 1, 1) := by decide +kernel
theorem dX5_isStood_17 : decode cX5_isStood 17 = .ok (.if_icmp .ne 16, 3) := by decide +kernel
theorem dX5_isStood_20 : decode cX5_isStood 20 = .ok (.aload_n 0, 1) := by decide +kernel
theorem dX5_isStood_21 : decode cX5_isStood 21 = .ok (.iload_n 3, 1) := by decide +kernel
theorem dX5_isStood_22 : decode cX5_isStood 22 = .ok (.iconst 3, 1) := by decide +kernel
theorem dX5_isStood_23 : decode cX5_isStood 23 = .ok (.invokestatic 47, 3) := by decide +kernel
theorem dX5_isStood_26 : decode cX5_isStood 26 = .ok (.iaload, 1) := by decide +kernel
theorem dX5_isStood_27 : decode cX5_isStood 27 = .ok (.iload_n 2, 1) := by decide +kernel
theorem dX5_isStood_28 : decode cX5_isStood 28 = .ok (.if_icmp .ne 5, 3) := by decide +kernel
theorem dX5_isStood_31 : decode cX5_isStood 31 = .ok (.iconst 1, 1) := by decide +kernel
theorem dX5_isStood_32 : decode cX5_isStood 32 = .ok (.ireturn, 1) := by decide +kernel
theorem dX5_isStood_33 : decode cX5_isStood 33 = .ok (.iinc 3 1, 3) := by decide +kernel
theorem dX5_isStood_36 : decode cX5_isStood 36 = .ok (.goto (-34), 3) := by decide +kernel
theorem dX5_isStood_39 : decode cX5_isStood 39 = .ok (.iconst 0, 1) := by decide +kernel
theorem dX5_isStood_40 : decode cX5_isStood 40 = .ok (.ireturn, 1) := by decide +kernel
theorem dX5_goes_0 : decode cX5_goes 0 = .ok (.aload_n 0, 1) := by decide +kernel
theorem dX5_goes_1 : decode cX5_goes 1 = .ok (.iload_n 1, 1) := by decide +kernel
theorem dX5_goes_2 : decode cX5_goes 2 = .ok (.iconst 2, 1) := by decide +kernel
theorem dX5_goes_3 : decode cX5_goes 3 = .ok (.invokestatic 47, 3) := by decide +kernel
theorem dX5_goes_6 : decode cX5_goes 6 = .ok (.iaload, 1) := by decide +kernel
theorem dX5_goes_7 : decode cX5_goes 7 = .ok (.iconst 1, 1) := by decide +kernel
theorem dX5_goes_8 : decode cX5_goes 8 = .ok (.iadd, 1) := by decide +kernel
theorem dX5_goes_9 : decode cX5_goes 9 = .ok (.iconst 2, 1) := by decide +kernel
theorem dX5_goes_10 : decode cX5_goes 10 = .ok (.aload_n 0, 1) := by decide +kernel
theorem dX5_goes_11 : decode cX5_goes 11 = .ok (.iload_n 1, 1) := by decide +kernel
theorem dX5_goes_12 : decode cX5_goes 12 = .ok (.iconst 3, 1) := by decide +kernel
theorem dX5_goes_13 : decode cX5_goes 13 = .ok (.invokestatic 47, 3) := by decide +kernel
theorem dX5_goes_16 : decode cX5_goes 16 = .ok (.iaload, 1) := by decide +kernel
theorem dX5_goes_17 : decode cX5_goes 17 = .ok (.imul, 1) := by decide +kernel
theorem dX5_goes_18 : decode cX5_goes 18 = .ok (.isub, 1) := by decide +kernel
theorem dX5_goes_19 : decode cX5_goes 19 = .ok (.istore_n 2, 1) := by decide +kernel
theorem dX5_goes_20 : decode cX5_goes 20 = .ok (.iload_n 2, 1) := by decide +kernel
theorem dX5_goes_21 : decode cX5_goes 21 = .ok (.invokestatic 61, 3) := by decide +kernel
theorem dX5_goes_24 : decode cX5_goes 24 = .ok (.ifCond .eq 28, 3) := by decide +kernel
theorem dX5_goes_27 : decode cX5_goes 27 = .ok (.aload_n 0, 1) := by decide +kernel
theorem dX5_goes_28 : decode cX5_goes 28 = .ok (.iload_n 2, 1) := by decide +kernel
theorem dX5_goes_29 : decode cX5_goes 29 = .ok (.iconst 1, 1) := by decide +kernel
theorem dX5_goes_30 : decode cX5_goes 30 = .ok (.aload_n 0, 1) := by decide +kernel
theorem dX5_goes_31 : decode cX5_goes 31 = .ok (.iload_n 1, 1) := by decide +kernel
theorem dX5_goes_32 : decode cX5_goes 32 = .ok (.iconst 3, 1) := by decide +kernel
theorem dX5_goes_33 : decode cX5_goes 33 = .ok (.invokestatic 47, 3) := by decide +kernel
theorem dX5_goes_36 : decode cX5_goes 36 = .ok (.iaload, 1) := by decide +kernel
theorem dX5_goes_37 : decode cX5_goes 37 = .ok (.isub, 1) := by decide +kernel
theorem dX5_goes_38 : decode cX5_goes 38 = .ok (.invokestatic 65, 3) := by decide +kernel
theorem dX5_goes_41 : decode cX5_goes 41 = .ok (.ifCond .ne 11, 3) := by decide +kernel
theorem dX5_goes_44 : decode cX5_goes 44 = .ok (.aload_n 0, 1) := by decide +kernel
theorem dX5_goes_45 : decode cX5_goes 45 = .ok (.iload_n 1, 1) := by decide +kernel
theorem dX5_goes_46 : decode cX5_goes 46 = .ok (.iconst 2, 1) := by decide +kernel
theorem dX5_goes_47 : decode cX5_goes 47 = .ok (.invokestatic 47, 3) := by decide +kernel
theorem dX5_goes_50 : decode cX5_goes 50 = .ok (.iload_n 2, 1) := by decide +kernel
theorem dX5_goes_51 : decode cX5_goes 51 = .ok (.iastore, 1) := by decide +kernel
theorem dX5_goes_52 : decode cX5_goes 52 = .ok (.return_, 1) := by decide +kernel
theorem dX5_worksOn_0 : decode cX5_worksOn 0 = .ok (.aload_n 0, 1) := by decide +kernel
theorem dX5_worksOn_1 : decode cX5_worksOn 1 = .ok (.iload_n 1, 1) := by decide +kernel
theorem dX5_worksOn_2 : decode cX5_worksOn 2 = .ok (.iconst 5, 1) := by decide +kernel
theorem dX5_worksOn_3 : decode cX5_worksOn 3 = .ok (.invokestatic 47, 3) := by decide +kernel
theorem dX5_worksOn_6 : decode cX5_worksOn 6 = .ok (.iaload, 1) := by decide +kernel
theorem dX5_worksOn_7 : decode cX5_worksOn 7 = .ok (.iconst 1, 1) := by decide +kernel
theorem dX5_worksOn_8 : decode cX5_worksOn 8 = .ok (.if_icmp .ne 4, 3) := by decide +kernel
theorem dX5_worksOn_11 : decode cX5_worksOn 11 = .ok (.return_, 1) := by decide +kernel
theorem dX5_worksOn_12 : decode cX5_worksOn 12 = .ok (.aload_n 0, 1) := by decide +kernel
theorem dX5_worksOn_13 : decode cX5_worksOn 13 = .ok (.iconst 4, 1) := by decide +kernel
theorem dX5_worksOn_14 : decode cX5_worksOn 14 = .ok (.iaload, 1) := by decide +kernel
theorem dX5_worksOn_15 : decode cX5_worksOn 15 = .ok (.iload_n 1, 1) := by decide +kernel
theorem dX5_worksOn_16 : decode cX5_worksOn 16 = .ok (.invokestatic 69, 3) := by decide +kernel
theorem dX5_worksOn_19 : decode cX5_worksOn 19 = .ok (.ifCond .eq 11, 3) := by decide +kernel
theorem dX5_worksOn_22 : decode cX5_worksOn 22 = .ok (.aload_n 0, 1) := by decide +kernel
theorem dX5_worksOn_23 : decode cX5_worksOn 23 = .ok (.iload_n 1, 1) := by decide +kernel
theorem dX5_worksOn_24 : decode cX5_worksOn 24 = .ok (.bipush 15, 2) := by decide +kernel
theorem dX5_worksOn_26 : decode cX5_worksOn 26 = .ok (.invokestatic 73, 3) := by decide +kernel
theorem dX5_worksOn_29 : decode cX5_worksOn 29 = .ok (.return_, 1) := by decide +kernel
theorem dX5_worksOn_30 : decode cX5_worksOn 30 = .ok (.aload_n 0, 1) := by decide +kernel
theorem dX5_worksOn_31 : decode cX5_worksOn 31 = .ok (.iload_n 1, 1) := by decide +kernel
theorem dX5_worksOn_32 : decode cX5_worksOn 32 = .ok (.iconst 2, 1) := by decide +kernel
theorem dX5_worksOn_33 : decode cX5_worksOn 33 = .ok (.invokestatic 47, 3) := by decide +kernel
theorem dX5_worksOn_36 : decode cX5_worksOn 36 = .ok (.iaload, 1) := by decide +kernel
theorem dX5_worksOn_37 : decode cX5_worksOn 37 = .ok (.istore_n 2, 1) := by decide +kernel
theorem dX5_worksOn_38 : decode cX5_worksOn 38 = .ok (.aload_n 0, 1) := by decide +kernel
theorem dX5_worksOn_39 : decode cX5_worksOn 39 = .ok (.iload_n 1, 1) := by decide +kernel
theorem dX5_worksOn_40 : decode cX5_worksOn 40 = .ok (.aload_n 0, 1) := by decide +kernel
theorem dX5_worksOn_41 : decode cX5_worksOn 41 = .ok (.iconst 1, 1) := by decide +kernel
theorem dX5_worksOn_42 : decode cX5_worksOn 42 = .ok (.iaload, 1) := by decide +kernel
theorem dX5_worksOn_43 : decode cX5_worksOn 43 = .ok (.invokestatic 77, 3) := by decide +kernel
theorem dX5_worksOn_46 : decode cX5_worksOn 46 = .ok (.istore_n 3, 1) := by decide +kernel
theorem dX5_worksOn_47 : decode cX5_worksOn 47 = .ok (.aload_n 0, 1) := by decide +kernel
theorem dX5_worksOn_48 : decode cX5_worksOn 48 = .ok (.bipush 15, 2) := by decide +kernel
theorem dX5_worksOn_50 : decode cX5_worksOn 50 = .ok (.iload_n 2, 1) := by decide +kernel
theorem dX5_worksOn_51 : decode cX5_worksOn 51 = .ok (.iadd, 1) := by decide +kernel
theorem dX5_worksOn_52 : decode cX5_worksOn 52 = .ok (.dup2, 1) := by decide +kernel
theorem dX5_worksOn_53 : decode cX5_worksOn 53 = .ok (.iaload, 1) := by decide +kernel
theorem dX5_worksOn_54 : decode cX5_worksOn 54 = .ok (.iload_n 3, 1) := by decide +kernel
theorem dX5_worksOn_55 : decode cX5_worksOn 55 = .ok (.iadd, 1) := by decide +kernel
theorem dX5_worksOn_56 : decode cX5_worksOn 56 = .ok (.iastore, 1) := by decide +kernel
theorem dX5_worksOn_57 : decode cX5_worksOn 57 = .ok (.aload_n 0, 1) := by decide +kernel
theorem dX5_worksOn_58 : decode cX5_worksOn 58 = .ok (.iload_n 1, 1) := by decide +kernel
theorem dX5_worksOn_59 : decode cX5_worksOn 59 = .ok (.aload_n 0, 1) := by decide +kernel
theorem dX5_worksOn_60 : decode cX5_worksOn 60 = .ok (.iload_n 1, 1) := by decide +kernel
theorem dX5_worksOn_61 : decode cX5_worksOn 61 = .ok (.iconst 0, 1) := by decide +kernel
theorem dX5_worksOn_62 : decode cX5_worksOn 62 = .ok (.invokestatic 47, 3) := by decide +kernel
theorem dX5_worksOn_65 : decode cX5_worksOn 65 = .ok (.iaload, 1) := by decide +kernel
theorem dX5_worksOn_66 : decode cX5_worksOn 66 = .ok (.aload_n 0, 1) := by decide +kernel
theorem dX5_worksOn_67 : decode cX5_worksOn 67 = .ok (.iload_n 1, 1) := by decide +kernel
theorem dX5_worksOn_68 : decode cX5_worksOn 68 = .ok (.iconst 1, 1) := by decide +kernel
theorem dX5_worksOn_69 : decode cX5_worksOn 69 = .ok (.invokestatic 47, 3) := by decide +kernel
theorem dX5_worksOn_72 : decode cX5_worksOn 72 = .ok (.iaload, 1) := by decide +kernel
theorem dX5_worksOn_73 : decode cX5_worksOn 73 = .ok (.iload_n 3, 1) := by decide +kernel
theorem dX5_worksOn_74 : decode cX5_worksOn 74 = .ok (.invokestatic 81, 3) := by decide +kernel
theorem dX5_worksOn_77 : decode cX5_worksOn 77 = .ok (.invokestatic 73, 3) := by decide +kernel
theorem dX5_worksOn_80 : decode cX5_worksOn 80 = .ok (.aload_n 0, 1) := by decide +kernel
theorem dX5_worksOn_81 : decode cX5_worksOn 81 = .ok (.iload_n 2, 1) := by decide +kernel
theorem dX5_worksOn_82 : decode cX5_worksOn 82 = .ok (.invokestatic 51, 3) := by decide +kernel
theorem dX5_worksOn_85 : decode cX5_worksOn 85 = .ok (.ifCond .ne 8, 3) := by decide +kernel
theorem dX5_worksOn_88 : decode cX5_worksOn 88 = .ok (.aload_n 0, 1) := by decide +kernel
theorem dX5_worksOn_89 : decode cX5_worksOn 89 = .ok (.iload_n 1, 1) := by decide +kernel
theorem dX5_worksOn_90 : decode cX5_worksOn 90 = .ok (.invokestatic 85, 3) := by decide +kernel
theorem dX5_worksOn_93 : decode cX5_worksOn 93 = .ok (.return_, 1) := by decide +kernel
theorem dX5_gives_0 : decode cX5_gives 0 = .ok (.iload_n 3, 1) := by decide +kernel
theorem dX5_gives_1 : decode cX5_gives 1 = .ok (.aload_n 0, 1) := by decide +kernel
theorem dX5_gives_2 : decode cX5_gives 2 = .ok (.iconst 5, 1) := by decide +kernel
theorem dX5_gives_3 : decode cX5_gives 3 = .ok (.iload_n 1, 1) := by decide +kernel
theorem dX5_gives_4 : decode cX5_gives 4 = .ok (.iadd, 1) := by decide +kernel
theorem dX5_gives_5 : decode cX5_gives 5 = .ok (.iaload, 1) := by decide +kernel
theorem dX5_gives_6 : decode cX5_gives 6 = .ok (.sipush 999, 3) := by decide +kernel
theorem dX5_gives_9 : decode cX5_gives 9 = .ok (.aload_n 0, 1) := by decide +kernel
theorem dX5_gives_10 : decode cX5_gives 10 = .ok (.iconst 5, 1) := by decide +kernel
theorem dX5_gives_11 : decode cX5_gives 11 = .ok (.iload_n 2, 1) := by decide +kernel
theorem dX5_gives_12 : decode cX5_gives 12 = .ok (.iadd, 1) := by decide +kernel
theorem dX5_gives_13 : decode cX5_gives 13 = .ok (.iaload, 1) := by decide +kernel
theorem dX5_gives_14 : decode cX5_gives 14 = .ok (.isub, 1) := by decide +kernel
theorem dX5_gives_15 : decode cX5_gives 15 = .ok (.invokestatic 55, 3) := by decide +kernel
theorem dX5_gives_18 : decode cX5_gives 18 = .ok (.invokestatic 55, 3) := by decide +kernel
theorem dX5_gives_21 : decode cX5_gives 21 = .ok (.istore 4, 2) := by decide +kernel
theorem dX5_gives_23 : decode cX5_gives 23 = .ok (.iconst 0, 1) := by decide +kernel
theorem dX5_gives_24 : decode cX5_gives 24 = .ok (.iload 4, 2) := by decide +kernel
theorem dX5_gives_26 : decode cX5_gives 26 = .ok (.aload_n 0, 1) := by decide +kernel
theorem dX5_gives_27 : decode cX5_gives 27 = .ok (.iload_n 1, 1) := by decide +kernel
theorem dX5_gives_28 : decode cX5_gives 28 = .ok (.invokestatic 51, 3) := by decide +kernel
theorem dX5_gives_31 : decode cX5_gives 31 = .ok (.isub, 1) := by decide +kernel
theorem dX5_gives_32 : decode cX5_gives 32 = .ok (.invokestatic 58, 3) := by decide +kernel
theorem dX5_gives_35 : decode cX5_gives 35 = .ok (.istore 5, 2) := by decide +kernel
theorem dX5_gives_37 : decode cX5_gives 37 = .ok (.aload_n 0, 1) := by decide +kernel
theorem dX5_gives_38 : decode cX5_gives 38 = .ok (.iconst 5, 1) := by decide +kernel
theorem dX5_gives_39 : decode cX5_gives 39 = .ok (.iload_n 1, 1) := by decide +kernel
theorem dX5_gives_40 : decode cX5_gives 40 = .ok (.iadd, 1) := by decide +kernel
theorem dX5_gives_41 : decode cX5_gives 41 = .ok (.dup2, 1) := by decide +kernel
theorem dX5_gives_42 : decode cX5_gives 42 = .ok (.iaload, 1) := by decide +kernel
theorem dX5_gives_43 : decode cX5_gives 43 = .ok (.iload 4, 2) := by decide +kernel
theorem dX5_gives_45 : decode cX5_gives 45 = .ok (.isub, 1) := by decide +kernel
theorem dX5_gives_46 : decode cX5_gives 46 = .ok (.iastore, 1) := by decide +kernel
theorem dX5_gives_47 : decode cX5_gives 47 = .ok (.aload_n 0, 1) := by decide +kernel
theorem dX5_gives_48 : decode cX5_gives 48 = .ok (.bipush 15, 2) := by decide +kernel
theorem dX5_gives_50 : decode cX5_gives 50 = .ok (.iload_n 1, 1) := by decide +kernel
theorem dX5_gives_51 : decode cX5_gives 51 = .ok (.iadd, 1) := by decide +kernel
theorem dX5_gives_52 : decode cX5_gives 52 = .ok (.dup2, 1) := by decide +kernel
theorem dX5_gives_53 : decode cX5_gives 53 = .ok (.iaload, 1) := by decide +kernel
theorem dX5_gives_54 : decode cX5_gives 54 = .ok (.iload 5, 2) := by decide +kernel
theorem dX5_gives_56 : decode cX5_gives 56 = .ok (.isub, 1) := by decide +kernel
theorem dX5_gives_57 : decode cX5_gives 57 = .ok (.iastore, 1) := by decide +kernel
theorem dX5_gives_58 : decode cX5_gives 58 = .ok (.aload_n 0, 1) := by decide +kernel
theorem dX5_gives_59 : decode cX5_gives 59 = .ok (.iconst 3, 1) := by decide +kernel
theorem dX5_gives_60 : decode cX5_gives 60 = .ok (.dup2, 1) := by decide +kernel
theorem dX5_gives_61 : decode cX5_gives 61 = .ok (.iaload, 1) := by decide +kernel
theorem dX5_gives_62 : decode cX5_gives 62 = .ok (.iload 5, 2) := by decide +kernel
theorem dX5_gives_64 : decode cX5_gives 64 = .ok (.iadd, 1) := by decide +kernel
theorem dX5_gives_65 : decode cX5_gives 65 = .ok (.iastore, 1) := by decide +kernel
theorem dX5_gives_66 : decode cX5_gives 66 = .ok (.aload_n 0, 1) := by decide +kernel
theorem dX5_gives_67 : decode cX5_gives 67 = .ok (.iconst 5, 1) := by decide +kernel
theorem dX5_gives_68 : decode cX5_gives 68 = .ok (.iload_n 2, 1) := by decide +kernel
theorem dX5_gives_69 : decode cX5_gives 69 = .ok (.iadd, 1) := by decide +kernel
theorem dX5_gives_70 : decode cX5_gives 70 = .ok (.dup2, 1) := by decide +kernel
theorem dX5_gives_71 : decode cX5_gives 71 = .ok (.iaload, 1) := by decide +kernel
theorem dX5_gives_72 : decode cX5_gives 72 = .ok (.iload 4, 2) := by decide +kernel
theorem dX5_gives_74 : decode cX5_gives 74 = .ok (.iadd, 1) := by decide +kernel
theorem dX5_gives_75 : decode cX5_gives 75 = .ok (.iastore, 1) := by decide +kernel
theorem dX5_gives_76 : decode cX5_gives 76 = .ok (.return_, 1) := by decide +kernel
theorem dX5_day_0 : decode cX5_day 0 = .ok (.aload_n 0, 1) := by decide +kernel
theorem dX5_day_1 : decode cX5_day 1 = .ok (.iconst 1, 1) := by decide +kernel
theorem dX5_day_2 : decode cX5_day 2 = .ok (.dup2, 1) := by decide +kernel
theorem dX5_day_3 : decode cX5_day 3 = .ok (.iaload, 1) := by decide +kernel
theorem dX5_day_4 : decode cX5_day 4 = .ok (.iconst 1, 1) := by decide +kernel
theorem dX5_day_5 : decode cX5_day 5 = .ok (.iadd, 1) := by decide +kernel
theorem dX5_day_6 : decode cX5_day 6 = .ok (.iastore, 1) := by decide +kernel
theorem dX5_day_7 : decode cX5_day 7 = .ok (.iconst 0, 1) := by decide +kernel
theorem dX5_day_8 : decode cX5_day 8 = .ok (.istore_n 2, 1) := by decide +kernel
theorem dX5_day_9 : decode cX5_day 9 = .ok (.iload_n 2, 1) := by decide +kernel
theorem dX5_day_10 : decode cX5_day 10 = .ok (.aload_n 0, 1) := by decide +kernel
theorem dX5_day_11 : decode cX5_day 11 = .ok (.iconst 0, 1) := by decide +kernel
theorem dX5_day_12 : decode cX5_day 12 = .ok (.iaload, 1) := by decide +kernel
theorem dX5_day_13 : decode cX5_day 13 = .ok (.if_icmp .ge 14, 3) := by decide +kernel
theorem dX5_day_16 : decode cX5_day 16 = .ok (.aload_n 0, 1) := by decide +kernel
theorem dX5_day_17 : decode cX5_day 17 = .ok (.iload_n 2, 1) := by decide +kernel
theorem dX5_day_18 : decode cX5_day 18 = .ok (.invokestatic 89, 3) := by decide +kernel
theorem dX5_day_21 : decode cX5_day 21 = .ok (.iinc 2 1, 3) := by decide +kernel
theorem dX5_day_24 : decode cX5_day 24 = .ok (.goto (-15), 3) := by decide +kernel
theorem dX5_day_27 : decode cX5_day 27 = .ok (.bipush 8, 2) := by decide +kernel
theorem dX5_day_29 : decode cX5_day 29 = .ok (.istore_n 2, 1) := by decide +kernel
theorem dX5_day_30 : decode cX5_day 30 = .ok (.iload_n 2, 1) := by decide +kernel
theorem dX5_day_31 : decode cX5_day 31 = .ok (.ifCond .lt 22, 3) := by decide +kernel
theorem dX5_day_34 : decode cX5_day 34 = .ok (.iload_n 1, 1) := by decide +kernel
theorem dX5_day_35 : decode cX5_day 35 = .ok (.ifCond .le 18, 3) := by decide +kernel
theorem dX5_day_38 : decode cX5_day 38 = .ok (.aload_n 0, 1) := by decide +kernel
theorem dX5_day_39 : decode cX5_day 39 = .ok (.iload_n 2, 1) := by decide +kernel
theorem dX5_day_40 : decode cX5_day 40 = .ok (.iload_n 2, 1) := by decide +kernel
theorem dX5_day_41 : decode cX5_day 41 = .ok (.iconst 1, 1) := by decide +kernel
theorem dX5_day_42 : decode cX5_day 42 = .ok (.iadd, 1) := by decide +kernel
theorem dX5_day_43 : decode cX5_day 43 = .ok (.iload_n 1, 1) := by decide +kernel
theorem dX5_day_44 : decode cX5_day 44 = .ok (.invokestatic 92, 3) := by decide +kernel
theorem dX5_day_47 : decode cX5_day 47 = .ok (.iinc 2 (-1), 3) := by decide +kernel
theorem dX5_day_50 : decode cX5_day 50 = .ok (.goto (-20), 3) := by decide +kernel
theorem dX5_day_53 : decode cX5_day 53 = .ok (.iconst 1, 1) := by decide +kernel
theorem dX5_day_54 : decode cX5_day 54 = .ok (.istore_n 2, 1) := by decide +kernel
theorem dX5_day_55 : decode cX5_day 55 = .ok (.iload_n 2, 1) := by decide +kernel
theorem dX5_day_56 : decode cX5_day 56 = .ok (.bipush 10, 2) := by decide +kernel
theorem dX5_day_58 : decode cX5_day 58 = .ok (.if_icmp .ge 23, 3) := by decide +kernel
theorem dX5_day_61 : decode cX5_day 61 = .ok (.iload_n 1, 1) := by decide +kernel
theorem dX5_day_62 : decode cX5_day 62 = .ok (.ifCond .ge 19, 3) := by decide +kernel
theorem dX5_day_65 : decode cX5_day 65 = .ok (.aload_n 0, 1) := by decide +kernel
theorem dX5_day_66 : decode cX5_day 66 = .ok (.iload_n 2, 1) := by decide +kernel
theorem dX5_day_67 : decode cX5_day 67 = .ok (.iload_n 2, 1) := by decide +kernel
theorem dX5_day_68 : decode cX5_day 68 = .ok (.iconst 1, 1) := by decide +kernel
theorem dX5_day_69 : decode cX5_day 69 = .ok (.isub, 1) := by decide +kernel
theorem dX5_day_70 : decode cX5_day 70 = .ok (.iload_n 1, 1) := by decide +kernel
theorem dX5_day_71 : decode cX5_day 71 = .ok (.ineg, 1) := by decide +kernel
theorem dX5_day_72 : decode cX5_day 72 = .ok (.invokestatic 92, 3) := by decide +kernel
theorem dX5_day_75 : decode cX5_day 75 = .ok (.iinc 2 1, 3) := by decide +kernel
theorem dX5_day_78 : decode cX5_day 78 = .ok (.goto (-23), 3) := by decide +kernel
theorem dX5_day_81 : decode cX5_day 81 = .ok (.return_, 1) := by decide +kernel
theorem dX5_daysOn_0 : decode cX5_daysOn 0 = .ok (.iconst 0, 1) := by decide +kernel
theorem dX5_daysOn_1 : decode cX5_daysOn 1 = .ok (.istore_n 2, 1) := by decide +kernel
theorem dX5_daysOn_2 : decode cX5_daysOn 2 = .ok (.iload_n 2, 1) := by decide +kernel
theorem dX5_daysOn_3 : decode cX5_daysOn 3 = .ok (.iload_n 1, 1) := by decide +kernel
theorem dX5_daysOn_4 : decode cX5_daysOn 4 = .ok (.if_icmp .ge 16, 3) := by decide +kernel
theorem dX5_daysOn_7 : decode cX5_daysOn 7 = .ok (.aload_n 0, 1) := by decide +kernel
theorem dX5_daysOn_8 : decode cX5_daysOn 8 = .ok (.aload_n 0, 1) := by decide +kernel
theorem dX5_daysOn_9 : decode cX5_daysOn 9 = .ok (.iconst 2, 1) := by decide +kernel
theorem dX5_daysOn_10 : decode cX5_daysOn 10 = .ok (.iaload, 1) := by decide +kernel
theorem dX5_daysOn_11 : decode cX5_daysOn 11 = .ok (.invokestatic 96, 3) := by decide +kernel
theorem dX5_daysOn_14 : decode cX5_daysOn 14 = .ok (.iinc 2 1, 3) := by decide +kernel
theorem dX5_daysOn_17 : decode cX5_daysOn 17 = .ok (.goto (-15), 3) := by decide +kernel
theorem dX5_daysOn_20 : decode cX5_daysOn 20 = .ok (.return_, 1) := by decide +kernel
theorem dX5_booksOf_0 : decode cX5_booksOf 0 = .ok (.iconst 0, 1) := by decide +kernel
theorem dX5_booksOf_1 : decode cX5_booksOf 1 = .ok (.istore_n 2, 1) := by decide +kernel
theorem dX5_booksOf_2 : decode cX5_booksOf 2 = .ok (.iconst 0, 1) := by decide +kernel
theorem dX5_booksOf_3 : decode cX5_booksOf 3 = .ok (.istore_n 3, 1) := by decide +kernel
theorem dX5_booksOf_4 : decode cX5_booksOf 4 = .ok (.iload_n 3, 1) := by decide +kernel
theorem dX5_booksOf_5 : decode cX5_booksOf 5 = .ok (.aload_n 0, 1) := by decide +kernel
theorem dX5_booksOf_6 : decode cX5_booksOf 6 = .ok (.iconst 0, 1) := by decide +kernel
theorem dX5_booksOf_7 : decode cX5_booksOf 7 = .ok (.iaload, 1) := by decide +kernel
theorem dX5_booksOf_8 : decode cX5_booksOf 8 = .ok (.if_icmp .ge 38, 3) := by decide +kernel
theorem dX5_booksOf_11 : decode cX5_booksOf 11 = .ok (.iload_n 2, 1) := by decide +kernel
theorem dX5_booksOf_12 : decode cX5_booksOf 12 = .ok (.iload_n 1, 1) := by decide +kernel
theorem dX5_booksOf_13 : decode cX5_booksOf 13 = .ok (.ifCond .lt 14, 3) := by decide +kernel
theorem dX5_booksOf_16 : decode cX5_booksOf 16 = .ok (.aload_n 0, 1) := by decide +kernel
theorem dX5_booksOf_17 : decode cX5_booksOf 17 = .ok (.iload_n 3, 1) := by decide +kernel
theorem dX5_booksOf_18 : decode cX5_booksOf 18 = .ok (.iconst 3, 1) := by decide +kernel
theorem dX5_booksOf_19 : decode cX5_booksOf 19 = .ok (.invokestatic 47, 3) := by decide +kernel
theorem dX5_booksOf_22 : decode cX5_booksOf 22 = .ok (.iaload, 1) := by decide +kernel
theorem dX5_booksOf_23 : decode cX5_booksOf 23 = .ok (.iload_n 1, 1) := by decide +kernel
theorem dX5_booksOf_24 : decode cX5_booksOf 24 = .ok (.if_icmp .ne 13, 3) := by decide +kernel
theorem dX5_booksOf_27 : decode cX5_booksOf 27 = .ok (.aload_n 0, 1) := by decide +kernel
theorem dX5_booksOf_28 : decode cX5_booksOf 28 = .ok (.iload_n 3, 1) := by decide +kernel
theorem dX5_booksOf_29 : decode cX5_booksOf 29 = .ok (.iconst 4, 1) := by decide +kernel
theorem dX5_booksOf_30 : decode cX5_booksOf 30 = .ok (.invokestatic 47, 3) := by decide +kernel
theorem dX5_booksOf_33 : decode cX5_booksOf 33 = .ok (.iaload, 1) := by decide +kernel
theorem dX5_booksOf_34 : decode cX5_booksOf 34 = .ok (.goto 4, 3) := by decide +kernel
theorem dX5_booksOf_37 : decode cX5_booksOf 37 = .ok (.iconst 0, 1) := by decide +kernel
theorem dX5_booksOf_38 : decode cX5_booksOf 38 = .ok (.iadd, 1) := by decide +kernel
theorem dX5_booksOf_39 : decode cX5_booksOf 39 = .ok (.istore_n 2, 1) := by decide +kernel
theorem dX5_booksOf_40 : decode cX5_booksOf 40 = .ok (.iinc 3 1, 3) := by decide +kernel
theorem dX5_booksOf_43 : decode cX5_booksOf 43 = .ok (.goto (-39), 3) := by decide +kernel
theorem dX5_booksOf_46 : decode cX5_booksOf 46 = .ok (.iload_n 2, 1) := by decide +kernel
theorem dX5_booksOf_47 : decode cX5_booksOf 47 = .ok (.ireturn, 1) := by decide +kernel
theorem dX5_doneSet_0 : decode cX5_doneSet 0 = .ok (.iconst 0, 1) := by decide +kernel
theorem dX5_doneSet_1 : decode cX5_doneSet 1 = .ok (.istore_n 1, 1) := by decide +kernel
theorem dX5_doneSet_2 : decode cX5_doneSet 2 = .ok (.iconst 0, 1) := by decide +kernel
theorem dX5_doneSet_3 : decode cX5_doneSet 3 = .ok (.istore_n 2, 1) := by decide +kernel
theorem dX5_doneSet_4 : decode cX5_doneSet 4 = .ok (.iload_n 2, 1) := by decide +kernel
theorem dX5_doneSet_5 : decode cX5_doneSet 5 = .ok (.bipush 10, 2) := by decide +kernel
theorem dX5_doneSet_7 : decode cX5_doneSet 7 = .ok (.if_icmp .ge 27, 3) := by decide +kernel
theorem dX5_doneSet_10 : decode cX5_doneSet 10 = .ok (.iload_n 1, 1) := by decide +kernel
theorem dX5_doneSet_11 : decode cX5_doneSet 11 = .ok (.aload_n 0, 1) := by decide +kernel
theorem dX5_doneSet_12 : decode cX5_doneSet 12 = .ok (.iload_n 2, 1) := by decide +kernel
theorem dX5_doneSet_13 : decode cX5_doneSet 13 = .ok (.invokestatic 51, 3) := by decide +kernel
theorem dX5_doneSet_16 : decode cX5_doneSet 16 = .ok (.ifCond .ne 9, 3) := by decide +kernel
theorem dX5_doneSet_19 : decode cX5_doneSet 19 = .ok (.iconst 1, 1) := by decide +kernel
theorem dX5_doneSet_20 : decode cX5_doneSet 20 = .ok (.iload_n 2, 1) := by decide +kernel
theorem dX5_doneSet_21 : decode cX5_doneSet 21 = .ok (.ishl, 1) := by decide +kernel
theorem dX5_doneSet_22 : decode cX5_doneSet 22 = .ok (.goto 4, 3) := by decide +kernel
theorem dX5_doneSet_25 : decode cX5_doneSet 25 = .ok (.iconst 0, 1) := by decide +kernel
theorem dX5_doneSet_26 : decode cX5_doneSet 26 = .ok (.ior, 1) := by decide +kernel
theorem dX5_doneSet_27 : decode cX5_doneSet 27 = .ok (.istore_n 1, 1) := by decide +kernel
theorem dX5_doneSet_28 : decode cX5_doneSet 28 = .ok (.iinc 2 1, 3) := by decide +kernel
theorem dX5_doneSet_31 : decode cX5_doneSet 31 = .ok (.goto (-27), 3) := by decide +kernel
theorem dX5_doneSet_34 : decode cX5_doneSet 34 = .ok (.iload_n 1, 1) := by decide +kernel
theorem dX5_doneSet_35 : decode cX5_doneSet 35 = .ok (.ireturn, 1) := by decide +kernel
theorem dX5_fillsIn_0 : decode cX5_fillsIn 0 = .ok (.aload_n 0, 1) := by decide +kernel
theorem dX5_fillsIn_1 : decode cX5_fillsIn 1 = .ok (.iconst 5, 1) := by decide +kernel
theorem dX5_fillsIn_2 : decode cX5_fillsIn 2 = .ok (.iload_n 1, 1) := by decide +kernel
theorem dX5_fillsIn_3 : decode cX5_fillsIn 3 = .ok (.iadd, 1) := by decide +kernel
theorem dX5_fillsIn_4 : decode cX5_fillsIn 4 = .ok (.iload_n 2, 1) := by decide +kernel
theorem dX5_fillsIn_5 : decode cX5_fillsIn 5 = .ok (.iastore, 1) := by decide +kernel
theorem dX5_fillsIn_6 : decode cX5_fillsIn 6 = .ok (.aload_n 0, 1) := by decide +kernel
theorem dX5_fillsIn_7 : decode cX5_fillsIn 7 = .ok (.bipush 15, 2) := by decide +kernel
theorem dX5_fillsIn_9 : decode cX5_fillsIn 9 = .ok (.iload_n 1, 1) := by decide +kernel
theorem dX5_fillsIn_10 : decode cX5_fillsIn 10 = .ok (.iadd, 1) := by decide +kernel
theorem dX5_fillsIn_11 : decode cX5_fillsIn 11 = .ok (.iconst 0, 1) := by decide +kernel
theorem dX5_fillsIn_12 : decode cX5_fillsIn 12 = .ok (.iastore, 1) := by decide +kernel
theorem dX5_fillsIn_13 : decode cX5_fillsIn 13 = .ok (.return_, 1) := by decide +kernel
theorem dX5_floods_0 : decode cX5_floods 0 = .ok (.iconst 0, 1) := by decide +kernel
theorem dX5_floods_1 : decode cX5_floods 1 = .ok (.istore_n 1, 1) := by decide +kernel
theorem dX5_floods_2 : decode cX5_floods 2 = .ok (.iload_n 1, 1) := by decide +kernel
theorem dX5_floods_3 : decode cX5_floods 3 = .ok (.bipush 10, 2) := by decide +kernel
theorem dX5_floods_5 : decode cX5_floods 5 = .ok (.if_icmp .ge 16, 3) := by decide +kernel
theorem dX5_floods_8 : decode cX5_floods 8 = .ok (.aload_n 0, 1) := by decide +kernel
theorem dX5_floods_9 : decode cX5_floods 9 = .ok (.bipush 15, 2) := by decide +kernel
theorem dX5_floods_11 : decode cX5_floods 11 = .ok (.iload_n 1, 1) := by decide +kernel
theorem dX5_floods_12 : decode cX5_floods 12 = .ok (.iadd, 1) := by decide +kernel
theorem dX5_floods_13 : decode cX5_floods 13 = .ok (.iconst 0, 1) := by decide +kernel
theorem dX5_floods_14 : decode cX5_floods 14 = .ok (.iastore, 1) := by decide +kernel
theorem dX5_floods_15 : decode cX5_floods 15 = .ok (.iinc 1 1, 3) := by decide +kernel
theorem dX5_floods_18 : decode cX5_floods 18 = .ok (.goto (-16), 3) := by decide +kernel
theorem dX5_floods_21 : decode cX5_floods 21 = .ok (.iconst 0, 1) := by decide +kernel
theorem dX5_floods_22 : decode cX5_floods 22 = .ok (.istore_n 1, 1) := by decide +kernel
theorem dX5_floods_23 : decode cX5_floods 23 = .ok (.iload_n 1, 1) := by decide +kernel
theorem dX5_floods_24 : decode cX5_floods 24 = .ok (.aload_n 0, 1) := by decide +kernel
theorem dX5_floods_25 : decode cX5_floods 25 = .ok (.iconst 0, 1) := by decide +kernel
theorem dX5_floods_26 : decode cX5_floods 26 = .ok (.iaload, 1) := by decide +kernel
theorem dX5_floods_27 : decode cX5_floods 27 = .ok (.if_icmp .ge 17, 3) := by decide +kernel
theorem dX5_floods_30 : decode cX5_floods 30 = .ok (.aload_n 0, 1) := by decide +kernel
theorem dX5_floods_31 : decode cX5_floods 31 = .ok (.iload_n 1, 1) := by decide +kernel
theorem dX5_floods_32 : decode cX5_floods 32 = .ok (.iconst 4, 1) := by decide +kernel
theorem dX5_floods_33 : decode cX5_floods 33 = .ok (.invokestatic 47, 3) := by decide +kernel
theorem dX5_floods_36 : decode cX5_floods 36 = .ok (.iconst 0, 1) := by decide +kernel
theorem dX5_floods_37 : decode cX5_floods 37 = .ok (.iastore, 1) := by decide +kernel
theorem dX5_floods_38 : decode cX5_floods 38 = .ok (.iinc 1 1, 3) := by decide +kernel
theorem dX5_floods_41 : decode cX5_floods 41 = .ok (.goto (-18), 3) := by decide +kernel
theorem dX5_floods_44 : decode cX5_floods 44 = .ok (.return_, 1) := by decide +kernel
theorem dX5_here_0 : decode cX5_here 0 = .ok (.aload_n 0, 1) := by decide +kernel
theorem dX5_here_1 : decode cX5_here 1 = .ok (.getfield 99, 3) := by decide +kernel
theorem dX5_here_4 : decode cX5_here 4 = .ok (.aload_n 0, 1) := by decide +kernel
theorem dX5_here_5 : decode cX5_here 5 = .ok (.getfield 103, 3) := by decide +kernel
theorem dX5_here_8 : decode cX5_here 8 = .ok (.if_icmp .ge 24, 3) := by decide +kernel
theorem dX5_here_11 : decode cX5_here 11 = .ok (.aload_n 0, 1) := by decide +kernel
theorem dX5_here_12 : decode cX5_here 12 = .ok (.getfield 40, 3) := by decide +kernel
theorem dX5_here_15 : decode cX5_here 15 = .ok (.aload_n 0, 1) := by decide +kernel
theorem dX5_here_16 : decode cX5_here 16 = .ok (.getfield 106, 3) := by decide +kernel
theorem dX5_here_19 : decode cX5_here 19 = .ok (.aload_n 0, 1) := by decide +kernel
theorem dX5_here_20 : decode cX5_here 20 = .ok (.getfield 99, 3) := by decide +kernel
theorem dX5_here_23 : decode cX5_here 23 = .ok (.iadd, 1) := by decide +kernel
theorem dX5_here_24 : decode cX5_here 24 = .ok (.iaload, 1) := by decide +kernel
theorem dX5_here_25 : decode cX5_here 25 = .ok (.sipush 255, 3) := by decide +kernel
theorem dX5_here_28 : decode cX5_here 28 = .ok (.iand, 1) := by decide +kernel
theorem dX5_here_29 : decode cX5_here 29 = .ok (.goto 4, 3) := by decide +kernel
theorem dX5_here_32 : decode cX5_here 32 = .ok (.iconst (-1), 1) := by decide +kernel
theorem dX5_here_33 : decode cX5_here 33 = .ok (.ireturn, 1) := by decide +kernel
theorem dX5_readsNumber_0 : decode cX5_readsNumber 0 = .ok (.aload_n 0, 1) := by decide +kernel
theorem dX5_readsNumber_1 : decode cX5_readsNumber 1 = .ok (.getfield 22, 3) := by decide +kernel
theorem dX5_readsNumber_4 : decode cX5_readsNumber 4 = .ok (.iload_n 1, 1) := by decide +kernel
theorem dX5_readsNumber_5 : decode cX5_readsNumber 5 = .ok (.iconst 0, 1) := by decide +kernel
theorem dX5_readsNumber_6 : decode cX5_readsNumber 6 = .ok (.iastore, 1) := by decide +kernel
theorem dX5_readsNumber_7 : decode cX5_readsNumber 7 = .ok (.iconst 0, 1) := by decide +kernel
theorem dX5_readsNumber_8 : decode cX5_readsNumber 8 = .ok (.istore_n 3, 1) := by decide +kernel
theorem dX5_readsNumber_9 : decode cX5_readsNumber 9 = .ok (.iload_n 3, 1) := by decide +kernel
theorem dX5_readsNumber_10 : decode cX5_readsNumber 10 = .ok (.iload_n 2, 1) := by decide +kernel
theorem dX5_readsNumber_11 : decode cX5_readsNumber 11 = .ok (.if_icmp .ge 58, 3) := by decide +kernel
theorem dX5_readsNumber_14 : decode cX5_readsNumber 14 = .ok (.aload_n 0, 1) := by decide +kernel
theorem dX5_readsNumber_15 : decode cX5_readsNumber 15 = .ok (.invokevirtual 109, 3) := by decide +kernel
theorem dX5_readsNumber_18 : decode cX5_readsNumber 18 = .ok (.bipush 48, 2) := by decide +kernel
theorem dX5_readsNumber_20 : decode cX5_readsNumber 20 = .ok (.bipush 57, 2) := by decide +kernel
theorem dX5_readsNumber_22 : decode cX5_readsNumber 22 = .ok (.invokestatic 43, 3) := by decide +kernel
theorem dX5_readsNumber_25 : decode cX5_readsNumber 25 = .ok (.ifCond .ne 5, 3) := by decide +kernel
theorem dX5_readsNumber_28 : decode cX5_readsNumber 28 = .ok (.iconst 0, 1) := by decide +kernel
theorem dX5_readsNumber_29 : decode cX5_readsNumber 29 = .ok (.ireturn, 1) := by decide +kernel
theorem dX5_readsNumber_30 : decode cX5_readsNumber 30 = .ok (.aload_n 0, 1) := by decide +kernel
theorem dX5_readsNumber_31 : decode cX5_readsNumber 31 = .ok (.getfield 22, 3) := by decide +kernel
theorem dX5_readsNumber_34 : decode cX5_readsNumber 34 = .ok (.iload_n 1, 1) := by decide +kernel
theorem dX5_readsNumber_35 : decode cX5_readsNumber 35 = .ok (.bipush 10, 2) := by decide +kernel
theorem dX5_readsNumber_37 : decode cX5_readsNumber 37 = .ok (.aload_n 0, 1) := by decide +kernel
theorem dX5_readsNumber_38 : decode cX5_readsNumber 38 = .ok (.getfield 22, 3) := by decide +kernel
theorem dX5_readsNumber_41 : decode cX5_readsNumber 41 = .ok (.iload_n 1, 1) := by decide +kernel
theorem dX5_readsNumber_42 : decode cX5_readsNumber 42 = .ok (.iaload, 1) := by decide +kernel
theorem dX5_readsNumber_43 : decode cX5_readsNumber 43 = .ok (.imul, 1) := by decide +kernel
theorem dX5_readsNumber_44 : decode cX5_readsNumber 44 = .ok (.aload_n 0, 1) := by decide +kernel
theorem dX5_readsNumber_45 : decode cX5_readsNumber 45 = .ok (.invokevirtual 109, 3) := by decide +kernel
theorem dX5_readsNumber_48 : decode cX5_readsNumber 48 = .ok (.iadd, 1) := by decide +kernel
theorem dX5_readsNumber_49 : decode cX5_readsNumber 49 = .ok (.bipush 48, 2) := by decide +kernel
theorem dX5_readsNumber_51 : decode cX5_readsNumber 51 = .ok (.isub, 1) := by decide +kernel
theorem dX5_readsNumber_52 : decode cX5_readsNumber 52 = .ok (.iastore, 1) := by decide +kernel
theorem dX5_readsNumber_53 : decode cX5_readsNumber 53 = .ok (.aload_n 0, 1) := by decide +kernel
theorem dX5_readsNumber_54 : decode cX5_readsNumber 54 = .ok (.dup, 1) := by decide +kernel
theorem dX5_readsNumber_55 : decode cX5_readsNumber 55 = .ok (.getfield 99, 3) := by decide +kernel
theorem dX5_readsNumber_58 : decode cX5_readsNumber 58 = .ok (.iconst 1, 1) := by decide +kernel
theorem dX5_readsNumber_59 : decode cX5_readsNumber 59 = .ok (.iadd, 1) := by decide +kernel
theorem dX5_readsNumber_60 : decode cX5_readsNumber 60 = .ok (.putfield 99, 3) := by decide +kernel
theorem dX5_readsNumber_63 : decode cX5_readsNumber 63 = .ok (.iinc 3 1, 3) := by decide +kernel
theorem dX5_readsNumber_66 : decode cX5_readsNumber 66 = .ok (.goto (-57), 3) := by decide +kernel
theorem dX5_readsNumber_69 : decode cX5_readsNumber 69 = .ok (.iconst 1, 1) := by decide +kernel
theorem dX5_readsNumber_70 : decode cX5_readsNumber 70 = .ok (.ireturn, 1) := by decide +kernel
theorem dX5_readsStatement_0 : decode cX5_readsStatement 0 = .ok (.aload_n 0, 1) := by decide +kernel
theorem dX5_readsStatement_1 : decode cX5_readsStatement 1 = .ok (.invokevirtual 109, 3) := by decide +kernel
theorem dX5_readsStatement_4 : decode cX5_readsStatement 4 = .ok (.istore_n 1, 1) := by decide +kernel
theorem dX5_readsStatement_5 : decode cX5_readsStatement 5 = .ok (.aload_n 0, 1) := by decide +kernel
theorem dX5_readsStatement_6 : decode cX5_readsStatement 6 = .ok (.dup, 1) := by decide +kernel
theorem dX5_readsStatement_7 : decode cX5_readsStatement 7 = .ok (.getfield 99, 3) := by decide +kernel
theorem dX5_readsStatement_10 : decode cX5_readsStatement 10 = .ok (.iconst 1, 1) := by decide +kernel
theorem dX5_readsStatement_11 : decode cX5_readsStatement 11 = .ok (.iadd, 1) := by decide +kernel
theorem dX5_readsStatement_12 : decode cX5_readsStatement 12 = .ok (.putfield 99, 3) := by decide +kernel
theorem dX5_readsStatement_15 : decode cX5_readsStatement 15 = .ok (.iload_n 1, 1) := by decide +kernel
theorem dX5_readsStatement_16 : decode cX5_readsStatement 16 = .ok (.tableswitch 197 99 119 #[100, 182, 172, 192, 145, 197, 197, 197, 197, 197, 197, 197, 197, 197, 197, 172, 197, 197, 197, 197, 172], 100) := by decide +kernel
theorem dX5_readsStatement_116 : decode cX5_readsStatement 116 = .ok (.aload_n 0, 1) := by decide +kernel
theorem dX5_readsStatement_117 : decode cX5_readsStatement 117 = .ok (.iconst 0, 1) := by decide +kernel
theorem dX5_readsStatement_118 : decode cX5_readsStatement 118 = .ok (.iconst 1, 1) := by decide +kernel
theorem dX5_readsStatement_119 : decode cX5_readsStatement 119 = .ok (.invokevirtual 113, 3) := by decide +kernel
theorem dX5_readsStatement_122 : decode cX5_readsStatement 122 = .ok (.ifCond .eq 34, 3) := by decide +kernel
theorem dX5_readsStatement_125 : decode cX5_readsStatement 125 = .ok (.aload_n 0, 1) := by decide +kernel
theorem dX5_readsStatement_126 : decode cX5_readsStatement 126 = .ok (.iconst 1, 1) := by decide +kernel
theorem dX5_readsStatement_127 : decode cX5_readsStatement 127 = .ok (.iconst 1, 1) := by decide +kernel
theorem dX5_readsStatement_128 : decode cX5_readsStatement 128 = .ok (.invokevirtual 113, 3) := by decide +kernel
theorem dX5_readsStatement_131 : decode cX5_readsStatement 131 = .ok (.ifCond .eq 25, 3) := by decide +kernel
theorem dX5_readsStatement_134 : decode cX5_readsStatement 134 = .ok (.aload_n 0, 1) := by decide +kernel
theorem dX5_readsStatement_135 : decode cX5_readsStatement 135 = .ok (.iconst 2, 1) := by decide +kernel
theorem dX5_readsStatement_136 : decode cX5_readsStatement 136 = .ok (.iconst 1, 1) := by decide +kernel
theorem dX5_readsStatement_137 : decode cX5_readsStatement 137 = .ok (.invokevirtual 113, 3) := by decide +kernel
theorem dX5_readsStatement_140 : decode cX5_readsStatement 140 = .ok (.ifCond .eq 16, 3) := by decide +kernel
theorem dX5_readsStatement_143 : decode cX5_readsStatement 143 = .ok (.aload_n 0, 1) := by decide +kernel
theorem dX5_readsStatement_144 : decode cX5_readsStatement 144 = .ok (.iconst 3, 1) := by decide +kernel
theorem dX5_readsStatement_145 : decode cX5_readsStatement 145 = .ok (.iconst 1, 1) := by decide +kernel
theorem dX5_readsStatement_146 : decode cX5_readsStatement 146 = .ok (.invokevirtual 113, 3) := by decide +kernel
theorem dX5_readsStatement_149 : decode cX5_readsStatement 149 = .ok (.ifCond .eq 7, 3) := by decide +kernel
theorem dX5_readsStatement_152 : decode cX5_readsStatement 152 = .ok (.iconst 1, 1) := by decide +kernel
theorem dX5_readsStatement_153 : decode cX5_readsStatement 153 = .ok (.goto 4, 3) := by decide +kernel
theorem dX5_readsStatement_156 : decode cX5_readsStatement 156 = .ok (.iconst 0, 1) := by decide +kernel
theorem dX5_readsStatement_157 : decode cX5_readsStatement 157 = .ok (.istore_n 2, 1) := by decide +kernel
theorem dX5_readsStatement_158 : decode cX5_readsStatement 158 = .ok (.goto 67, 3) := by decide +kernel
theorem dX5_readsStatement_161 : decode cX5_readsStatement 161 = .ok (.aload_n 0, 1) := by decide +kernel
theorem dX5_readsStatement_162 : decode cX5_readsStatement 162 = .ok (.iconst 0, 1) := by decide +kernel
theorem dX5_readsStatement_163 : decode cX5_readsStatement 163 = .ok (.iconst 1, 1) := by decide +kernel
theorem dX5_readsStatement_164 : decode cX5_readsStatement 164 = .ok (.invokevirtual 113, 3) := by decide +kernel
theorem dX5_readsStatement_167 : decode cX5_readsStatement 167 = .ok (.ifCond .eq 16, 3) := by decide +kernel
theorem dX5_readsStatement_170 : decode cX5_readsStatement 170 = .ok (.aload_n 0, 1) := by decide +kernel
theorem dX5_readsStatement_171 : decode cX5_readsStatement 171 = .ok (.iconst 1, 1) := by decide +kernel
theorem dX5_readsStatement_172 : decode cX5_readsStatement 172 = .ok (.iconst 3, 1) := by decide +kernel
theorem dX5_readsStatement_173 : decode cX5_readsStatement 173 = .ok (.invokevirtual 113, 3) := by decide +kernel
theorem dX5_readsStatement_176 : decode cX5_readsStatement 176 = .ok (.ifCond .eq 7, 3) := by decide +kernel
theorem dX5_readsStatement_179 : decode cX5_readsStatement 179 = .ok (.iconst 1, 1) := by decide +kernel
theorem dX5_readsStatement_180 : decode cX5_readsStatement 180 = .ok (.goto 4, 3) := by decide +kernel
theorem dX5_readsStatement_183 : decode cX5_readsStatement 183 = .ok (.iconst 0, 1) := by decide +kernel
theorem dX5_readsStatement_184 : decode cX5_readsStatement 184 = .ok (.istore_n 2, 1) := by decide +kernel
theorem dX5_readsStatement_185 : decode cX5_readsStatement 185 = .ok (.goto 40, 3) := by decide +kernel
theorem dX5_readsStatement_188 : decode cX5_readsStatement 188 = .ok (.aload_n 0, 1) := by decide +kernel
theorem dX5_readsStatement_189 : decode cX5_readsStatement 189 = .ok (.iconst 0, 1) := by decide +kernel
theorem dX5_readsStatement_190 : decode cX5_readsStatement 190 = .ok (.iconst 1, 1) := by decide +kernel
theorem dX5_readsStatement_191 : decode cX5_readsStatement 191 = .ok (.invokevirtual 113, 3) := by decide +kernel
theorem dX5_readsStatement_194 : decode cX5_readsStatement 194 = .ok (.istore_n 2, 1) := by decide +kernel
theorem dX5_readsStatement_195 : decode cX5_readsStatement 195 = .ok (.goto 30, 3) := by decide +kernel
theorem dX5_readsStatement_198 : decode cX5_readsStatement 198 = .ok (.aload_n 0, 1) := by decide +kernel
theorem dX5_readsStatement_199 : decode cX5_readsStatement 199 = .ok (.iconst 0, 1) := by decide +kernel
theorem dX5_readsStatement_200 : decode cX5_readsStatement 200 = .ok (.iconst 2, 1) := by decide +kernel
theorem dX5_readsStatement_201 : decode cX5_readsStatement 201 = .ok (.invokevirtual 113, 3) := by decide +kernel
theorem dX5_readsStatement_204 : decode cX5_readsStatement 204 = .ok (.istore_n 2, 1) := by decide +kernel
theorem dX5_readsStatement_205 : decode cX5_readsStatement 205 = .ok (.goto 20, 3) := by decide +kernel
theorem dX5_readsStatement_208 : decode cX5_readsStatement 208 = .ok (.iconst 1, 1) := by decide +kernel
theorem dX5_readsStatement_209 : decode cX5_readsStatement 209 = .ok (.istore_n 2, 1) := by decide +kernel
theorem dX5_readsStatement_210 : decode cX5_readsStatement 210 = .ok (.goto 15, 3) := by decide +kernel
theorem dX5_readsStatement_213 : decode cX5_readsStatement 213 = .ok (.aload_n 0, 1) := by decide +kernel
theorem dX5_readsStatement_214 : decode cX5_readsStatement 214 = .ok (.dup, 1) := by decide +kernel
theorem dX5_readsStatement_215 : decode cX5_readsStatement 215 = .ok (.getfield 99, 3) := by decide +kernel
theorem dX5_readsStatement_218 : decode cX5_readsStatement 218 = .ok (.iconst 1, 1) := by decide +kernel
theorem dX5_readsStatement_219 : decode cX5_readsStatement 219 = .ok (.isub, 1) := by decide +kernel
theorem dX5_readsStatement_220 : decode cX5_readsStatement 220 = .ok (.putfield 99, 3) := by decide +kernel
theorem dX5_readsStatement_223 : decode cX5_readsStatement 223 = .ok (.iconst 0, 1) := by decide +kernel
theorem dX5_readsStatement_224 : decode cX5_readsStatement 224 = .ok (.ireturn, 1) := by decide +kernel
theorem dX5_readsStatement_225 : decode cX5_readsStatement 225 = .ok (.iload_n 2, 1) := by decide +kernel
theorem dX5_readsStatement_226 : decode cX5_readsStatement 226 = .ok (.ifCond .eq 12, 3) := by decide +kernel
theorem dX5_readsStatement_229 : decode cX5_readsStatement 229 = .ok (.aload_n 0, 1) := by decide +kernel
theorem dX5_readsStatement_230 : decode cX5_readsStatement 230 = .ok (.invokevirtual 109, 3) := by decide +kernel
theorem dX5_readsStatement_233 : decode cX5_readsStatement 233 = .ok (.bipush 59, 2) := by decide +kernel
theorem dX5_readsStatement_235 : decode cX5_readsStatement 235 = .ok (.if_icmp .eq 5, 3) := by decide +kernel
theorem dX5_readsStatement_238 : decode cX5_readsStatement 238 = .ok (.iconst 0, 1) := by decide +kernel
theorem dX5_readsStatement_239 : decode cX5_readsStatement 239 = .ok (.ireturn, 1) := by decide +kernel
theorem dX5_readsStatement_240 : decode cX5_readsStatement 240 = .ok (.aload_n 0, 1) := by decide +kernel
theorem dX5_readsStatement_241 : decode cX5_readsStatement 241 = .ok (.dup, 1) := by decide +kernel
theorem dX5_readsStatement_242 : decode cX5_readsStatement 242 = .ok (.getfield 99, 3) := by decide +kernel
theorem dX5_readsStatement_245 : decode cX5_readsStatement 245 = .ok (.iconst 1, 1) := by decide +kernel
theorem dX5_readsStatement_246 : decode cX5_readsStatement 246 = .ok (.iadd, 1) := by decide +kernel
theorem dX5_readsStatement_247 : decode cX5_readsStatement 247 = .ok (.putfield 99, 3) := by decide +kernel
theorem dX5_readsStatement_250 : decode cX5_readsStatement 250 = .ok (.iconst 1, 1) := by decide +kernel
theorem dX5_readsStatement_251 : decode cX5_readsStatement 251 = .ok (.ireturn, 1) := by decide +kernel
theorem dX5_adds_0 : decode cX5_adds 0 = .ok (.aload_n 0, 1) := by decide +kernel
theorem dX5_adds_1 : decode cX5_adds 1 = .ok (.getfield 9, 3) := by decide +kernel
theorem dX5_adds_4 : decode cX5_adds 4 = .ok (.iconst 0, 1) := by decide +kernel
theorem dX5_adds_5 : decode cX5_adds 5 = .ok (.iaload, 1) := by decide +kernel
theorem dX5_adds_6 : decode cX5_adds 6 = .ok (.istore 5, 2) := by decide +kernel
theorem dX5_adds_8 : decode cX5_adds 8 = .ok (.aload_n 0, 1) := by decide +kernel
theorem dX5_adds_9 : decode cX5_adds 9 = .ok (.getfield 9, 3) := by decide +kernel
theorem dX5_adds_12 : decode cX5_adds 12 = .ok (.iload 5, 2) := by decide +kernel
theorem dX5_adds_14 : decode cX5_adds 14 = .ok (.iconst 0, 1) := by decide +kernel
theorem dX5_adds_15 : decode cX5_adds 15 = .ok (.invokestatic 47, 3) := by decide +kernel
theorem dX5_adds_18 : decode cX5_adds 18 = .ok (.iload_n 1, 1) := by decide +kernel
theorem dX5_adds_19 : decode cX5_adds 19 = .ok (.iastore, 1) := by decide +kernel
theorem dX5_adds_20 : decode cX5_adds 20 = .ok (.aload_n 0, 1) := by decide +kernel
theorem dX5_adds_21 : decode cX5_adds 21 = .ok (.getfield 9, 3) := by decide +kernel
theorem dX5_adds_24 : decode cX5_adds 24 = .ok (.iload 5, 2) := by decide +kernel
theorem dX5_adds_26 : decode cX5_adds 26 = .ok (.iconst 1, 1) := by decide +kernel
theorem dX5_adds_27 : decode cX5_adds 27 = .ok (.invokestatic 47, 3) := by decide +kernel
theorem dX5_adds_30 : decode cX5_adds 30 = .ok (.iload_n 2, 1) := by decide +kernel
theorem dX5_adds_31 : decode cX5_adds 31 = .ok (.iastore, 1) := by decide +kernel
theorem dX5_adds_32 : decode cX5_adds 32 = .ok (.aload_n 0, 1) := by decide +kernel
theorem dX5_adds_33 : decode cX5_adds 33 = .ok (.getfield 9, 3) := by decide +kernel
theorem dX5_adds_36 : decode cX5_adds 36 = .ok (.iload 5, 2) := by decide +kernel
theorem dX5_adds_38 : decode cX5_adds 38 = .ok (.iconst 2, 1) := by decide +kernel
theorem dX5_adds_39 : decode cX5_adds 39 = .ok (.invokestatic 47, 3) := by decide +kernel
theorem dX5_adds_42 : decode cX5_adds 42 = .ok (.iload_n 3, 1) := by decide +kernel
theorem dX5_adds_43 : decode cX5_adds 43 = .ok (.iastore, 1) := by decide +kernel
theorem dX5_adds_44 : decode cX5_adds 44 = .ok (.aload_n 0, 1) := by decide +kernel
theorem dX5_adds_45 : decode cX5_adds 45 = .ok (.getfield 9, 3) := by decide +kernel
theorem dX5_adds_48 : decode cX5_adds 48 = .ok (.iload 5, 2) := by decide +kernel
theorem dX5_adds_50 : decode cX5_adds 50 = .ok (.iconst 3, 1) := by decide +kernel
theorem dX5_adds_51 : decode cX5_adds 51 = .ok (.invokestatic 47, 3) := by decide +kernel
theorem dX5_adds_54 : decode cX5_adds 54 = .ok (.iload 4, 2) := by decide +kernel
theorem dX5_adds_56 : decode cX5_adds 56 = .ok (.iastore, 1) := by decide +kernel
theorem dX5_adds_57 : decode cX5_adds 57 = .ok (.aload_n 0, 1) := by decide +kernel
theorem dX5_adds_58 : decode cX5_adds 58 = .ok (.getfield 9, 3) := by decide +kernel
theorem dX5_adds_61 : decode cX5_adds 61 = .ok (.iload 5, 2) := by decide +kernel
theorem dX5_adds_63 : decode cX5_adds 63 = .ok (.iconst 4, 1) := by decide +kernel
theorem dX5_adds_64 : decode cX5_adds 64 = .ok (.invokestatic 47, 3) := by decide +kernel
theorem dX5_adds_67 : decode cX5_adds 67 = .ok (.iconst 0, 1) := by decide +kernel
theorem dX5_adds_68 : decode cX5_adds 68 = .ok (.iastore, 1) := by decide +kernel
theorem dX5_adds_69 : decode cX5_adds 69 = .ok (.aload_n 0, 1) := by decide +kernel
theorem dX5_adds_70 : decode cX5_adds 70 = .ok (.getfield 9, 3) := by decide +kernel
theorem dX5_adds_73 : decode cX5_adds 73 = .ok (.iload 5, 2) := by decide +kernel
theorem dX5_adds_75 : decode cX5_adds 75 = .ok (.iconst 5, 1) := by decide +kernel
theorem dX5_adds_76 : decode cX5_adds 76 = .ok (.invokestatic 47, 3) := by decide +kernel
theorem dX5_adds_79 : decode cX5_adds 79 = .ok (.iconst 0, 1) := by decide +kernel
theorem dX5_adds_80 : decode cX5_adds 80 = .ok (.iastore, 1) := by decide +kernel
theorem dX5_adds_81 : decode cX5_adds 81 = .ok (.aload_n 0, 1) := by decide +kernel
theorem dX5_adds_82 : decode cX5_adds 82 = .ok (.getfield 9, 3) := by decide +kernel
theorem dX5_adds_85 : decode cX5_adds 85 = .ok (.iconst 0, 1) := by decide +kernel
theorem dX5_adds_86 : decode cX5_adds 86 = .ok (.dup2, 1) := by decide +kernel
theorem dX5_adds_87 : decode cX5_adds 87 = .ok (.iaload, 1) := by decide +kernel
theorem dX5_adds_88 : decode cX5_adds 88 = .ok (.iconst 1, 1) := by decide +kernel
theorem dX5_adds_89 : decode cX5_adds 89 = .ok (.iadd, 1) := by decide +kernel
theorem dX5_adds_90 : decode cX5_adds 90 = .ok (.iastore, 1) := by decide +kernel
theorem dX5_adds_91 : decode cX5_adds 91 = .ok (.return_, 1) := by decide +kernel
theorem dX5_isDone_0 : decode cX5_isDone 0 = .ok (.aload_n 0, 1) := by decide +kernel
theorem dX5_isDone_1 : decode cX5_isDone 1 = .ok (.getfield 22, 3) := by decide +kernel
theorem dX5_isDone_4 : decode cX5_isDone 4 = .ok (.iconst 0, 1) := by decide +kernel
theorem dX5_isDone_5 : decode cX5_isDone 5 = .ok (.iaload, 1) := by decide +kernel
theorem dX5_isDone_6 : decode cX5_isDone 6 = .ok (.istore_n 2, 1) := by decide +kernel
theorem dX5_isDone_7 : decode cX5_isDone 7 = .ok (.aload_n 0, 1) := by decide +kernel
theorem dX5_isDone_8 : decode cX5_isDone 8 = .ok (.getfield 22, 3) := by decide +kernel
theorem dX5_isDone_11 : decode cX5_isDone 11 = .ok (.iconst 1, 1) := by decide +kernel
theorem dX5_isDone_12 : decode cX5_isDone 12 = .ok (.iaload, 1) := by decide +kernel
theorem dX5_isDone_13 : decode cX5_isDone 13 = .ok (.istore_n 3, 1) := by decide +kernel
theorem dX5_isDone_14 : decode cX5_isDone 14 = .ok (.iload_n 1, 1) := by decide +kernel
theorem dX5_isDone_15 : decode cX5_isDone 15 = .ok (.lookupswitch 171 #[(99, 57), (101, 126), (102, 162), (103, 106), (114, 136), (119, 117)], 57) := by decide +kernel
theorem dX5_isDone_72 : decode cX5_isDone 72 = .ok (.iload_n 2, 1) := by decide +kernel
theorem dX5_isDone_73 : decode cX5_isDone 73 = .ok (.bipush 8, 2) := by decide +kernel
theorem dX5_isDone_75 : decode cX5_isDone 75 = .ok (.if_icmp .ge 24, 3) := by decide +kernel
theorem dX5_isDone_78 : decode cX5_isDone 78 = .ok (.aload_n 0, 1) := by decide +kernel
theorem dX5_isDone_79 : decode cX5_isDone 79 = .ok (.getfield 22, 3) := by decide +kernel
theorem dX5_isDone_82 : decode cX5_isDone 82 = .ok (.iconst 3, 1) := by decide +kernel
theorem dX5_isDone_83 : decode cX5_isDone 83 = .ok (.iaload, 1) := by decide +kernel
theorem dX5_isDone_84 : decode cX5_isDone 84 = .ok (.iconst 1, 1) := by decide +kernel
theorem dX5_isDone_85 : decode cX5_isDone 85 = .ok (.if_icmp .gt 14, 3) := by decide +kernel
theorem dX5_isDone_88 : decode cX5_isDone 88 = .ok (.aload_n 0, 1) := by decide +kernel
theorem dX5_isDone_89 : decode cX5_isDone 89 = .ok (.getfield 9, 3) := by decide +kernel
theorem dX5_isDone_92 : decode cX5_isDone 92 = .ok (.iconst 0, 1) := by decide +kernel
theorem dX5_isDone_93 : decode cX5_isDone 93 = .ok (.iaload, 1) := by decide +kernel
theorem dX5_isDone_94 : decode cX5_isDone 94 = .ok (.bipush 6, 2) := by decide +kernel
theorem dX5_isDone_96 : decode cX5_isDone 96 = .ok (.if_icmp .ne 5, 3) := by decide +kernel
theorem dX5_isDone_99 : decode cX5_isDone 99 = .ok (.iconst 0, 1) := by decide +kernel
theorem dX5_isDone_100 : decode cX5_isDone 100 = .ok (.ireturn, 1) := by decide +kernel
theorem dX5_isDone_101 : decode cX5_isDone 101 = .ok (.aload_n 0, 1) := by decide +kernel
theorem dX5_isDone_102 : decode cX5_isDone 102 = .ok (.iload_n 2, 1) := by decide +kernel
theorem dX5_isDone_103 : decode cX5_isDone 103 = .ok (.iload_n 3, 1) := by decide +kernel
theorem dX5_isDone_104 : decode cX5_isDone 104 = .ok (.aload_n 0, 1) := by decide +kernel
theorem dX5_isDone_105 : decode cX5_isDone 105 = .ok (.getfield 22, 3) := by decide +kernel
theorem dX5_isDone_108 : decode cX5_isDone 108 = .ok (.iconst 2, 1) := by decide +kernel
theorem dX5_isDone_109 : decode cX5_isDone 109 = .ok (.iaload, 1) := by decide +kernel
theorem dX5_isDone_110 : decode cX5_isDone 110 = .ok (.aload_n 0, 1) := by decide +kernel
theorem dX5_isDone_111 : decode cX5_isDone 111 = .ok (.getfield 22, 3) := by decide +kernel
theorem dX5_isDone_114 : decode cX5_isDone 114 = .ok (.iconst 3, 1) := by decide +kernel
theorem dX5_isDone_115 : decode cX5_isDone 115 = .ok (.iaload, 1) := by decide +kernel
theorem dX5_isDone_116 : decode cX5_isDone 116 = .ok (.invokevirtual 116, 3) := by decide +kernel
theorem dX5_isDone_119 : decode cX5_isDone 119 = .ok (.iconst 1, 1) := by decide +kernel
theorem dX5_isDone_120 : decode cX5_isDone 120 = .ok (.ireturn, 1) := by decide +kernel
theorem dX5_isDone_121 : decode cX5_isDone 121 = .ok (.aload_n 0, 1) := by decide +kernel
theorem dX5_isDone_122 : decode cX5_isDone 122 = .ok (.getfield 9, 3) := by decide +kernel
theorem dX5_isDone_125 : decode cX5_isDone 125 = .ok (.iload_n 2, 1) := by decide +kernel
theorem dX5_isDone_126 : decode cX5_isDone 126 = .ok (.iload_n 3, 1) := by decide +kernel
theorem dX5_isDone_127 : decode cX5_isDone 127 = .ok (.invokestatic 120, 3) := by decide +kernel
theorem dX5_isDone_130 : decode cX5_isDone 130 = .ok (.iconst 1, 1) := by decide +kernel
theorem dX5_isDone_131 : decode cX5_isDone 131 = .ok (.ireturn, 1) := by decide +kernel
theorem dX5_isDone_132 : decode cX5_isDone 132 = .ok (.aload_n 0, 1) := by decide +kernel
theorem dX5_isDone_133 : decode cX5_isDone 133 = .ok (.getfield 9, 3) := by decide +kernel
theorem dX5_isDone_136 : decode cX5_isDone 136 = .ok (.iconst 2, 1) := by decide +kernel
theorem dX5_isDone_137 : decode cX5_isDone 137 = .ok (.iload_n 2, 1) := by decide +kernel
theorem dX5_isDone_138 : decode cX5_isDone 138 = .ok (.iastore, 1) := by decide +kernel
theorem dX5_isDone_139 : decode cX5_isDone 139 = .ok (.iconst 1, 1) := by decide +kernel
theorem dX5_isDone_140 : decode cX5_isDone 140 = .ok (.ireturn, 1) := by decide +kernel
theorem dX5_isDone_141 : decode cX5_isDone 141 = .ok (.aload_n 0, 1) := by decide +kernel
theorem dX5_isDone_142 : decode cX5_isDone 142 = .ok (.getfield 9, 3) := by decide +kernel
theorem dX5_isDone_145 : decode cX5_isDone 145 = .ok (.iconst 2, 1) := by decide +kernel
theorem dX5_isDone_146 : decode cX5_isDone 146 = .ok (.iload_n 2, 1) := by decide +kernel
theorem dX5_isDone_147 : decode cX5_isDone 147 = .ok (.ineg, 1) := by decide +kernel
theorem dX5_isDone_148 : decode cX5_isDone 148 = .ok (.iastore, 1) := by decide +kernel
theorem dX5_isDone_149 : decode cX5_isDone 149 = .ok (.iconst 1, 1) := by decide +kernel
theorem dX5_isDone_150 : decode cX5_isDone 150 = .ok (.ireturn, 1) := by decide +kernel
theorem dX5_isDone_151 : decode cX5_isDone 151 = .ok (.aload_n 0, 1) := by decide +kernel
theorem dX5_isDone_152 : decode cX5_isDone 152 = .ok (.iload_n 2, 1) := by decide +kernel
theorem dX5_isDone_153 : decode cX5_isDone 153 = .ok (.invokevirtual 123, 3) := by decide +kernel
theorem dX5_isDone_156 : decode cX5_isDone 156 = .ok (.ifCond .ne 5, 3) := by decide +kernel
theorem dX5_isDone_159 : decode cX5_isDone 159 = .ok (.iconst 0, 1) := by decide +kernel
theorem dX5_isDone_160 : decode cX5_isDone 160 = .ok (.ireturn, 1) := by decide +kernel
theorem dX5_isDone_161 : decode cX5_isDone 161 = .ok (.aload_n 0, 1) := by decide +kernel
theorem dX5_isDone_162 : decode cX5_isDone 162 = .ok (.getfield 9, 3) := by decide +kernel
theorem dX5_isDone_165 : decode cX5_isDone 165 = .ok (.iload_n 2, 1) := by decide +kernel
theorem dX5_isDone_166 : decode cX5_isDone 166 = .ok (.iconst 5, 1) := by decide +kernel
theorem dX5_isDone_167 : decode cX5_isDone 167 = .ok (.invokestatic 47, 3) := by decide +kernel
theorem dX5_isDone_170 : decode cX5_isDone 170 = .ok (.dup2, 1) := by decide +kernel
theorem dX5_isDone_171 : decode cX5_isDone 171 = .ok (.iaload, 1) := by decide +kernel
theorem dX5_isDone_172 : decode cX5_isDone 172 = .ok (.iconst 1, 1) := by decide +kernel
theorem dX5_isDone_173 : decode cX5_isDone 173 = .ok (.ixor, 1) := by decide +kernel
theorem dX5_isDone_174 : decode cX5_isDone 174 = .ok (.iastore, 1) := by decide +kernel
theorem dX5_isDone_175 : decode cX5_isDone 175 = .ok (.iconst 1, 1) := by decide +kernel
theorem dX5_isDone_176 : decode cX5_isDone 176 = .ok (.ireturn, 1) := by decide +kernel
theorem dX5_isDone_177 : decode cX5_isDone 177 = .ok (.aload_n 0, 1) := by decide +kernel
theorem dX5_isDone_178 : decode cX5_isDone 178 = .ok (.getfield 9, 3) := by decide +kernel
theorem dX5_isDone_181 : decode cX5_isDone 181 = .ok (.invokestatic 126, 3) := by decide +kernel
theorem dX5_isDone_184 : decode cX5_isDone 184 = .ok (.iconst 1, 1) := by decide +kernel
theorem dX5_isDone_185 : decode cX5_isDone 185 = .ok (.ireturn, 1) := by decide +kernel
theorem dX5_isDone_186 : decode cX5_isDone 186 = .ok (.iload_n 2, 1) := by decide +kernel
theorem dX5_isDone_187 : decode cX5_isDone 187 = .ok (.iconst 1, 1) := by decide +kernel
theorem dX5_isDone_188 : decode cX5_isDone 188 = .ok (.bipush 60, 2) := by decide +kernel
theorem dX5_isDone_190 : decode cX5_isDone 190 = .ok (.invokestatic 43, 3) := by decide +kernel
theorem dX5_isDone_193 : decode cX5_isDone 193 = .ok (.ifCond .eq 17, 3) := by decide +kernel
theorem dX5_isDone_196 : decode cX5_isDone 196 = .ok (.aload_n 0, 1) := by decide +kernel
theorem dX5_isDone_197 : decode cX5_isDone 197 = .ok (.getfield 9, 3) := by decide +kernel
theorem dX5_isDone_200 : decode cX5_isDone 200 = .ok (.iconst 1, 1) := by decide +kernel
theorem dX5_isDone_201 : decode cX5_isDone 201 = .ok (.iaload, 1) := by decide +kernel
theorem dX5_isDone_202 : decode cX5_isDone 202 = .ok (.iload_n 2, 1) := by decide +kernel
theorem dX5_isDone_203 : decode cX5_isDone 203 = .ok (.iadd, 1) := by decide +kernel
theorem dX5_isDone_204 : decode cX5_isDone 204 = .ok (.sipush 999, 3) := by decide +kernel
theorem dX5_isDone_207 : decode cX5_isDone 207 = .ok (.if_icmp .le 5, 3) := by decide +kernel
theorem dX5_isDone_210 : decode cX5_isDone 210 = .ok (.iconst 0, 1) := by decide +kernel
theorem dX5_isDone_211 : decode cX5_isDone 211 = .ok (.ireturn, 1) := by decide +kernel
theorem dX5_isDone_212 : decode cX5_isDone 212 = .ok (.aload_n 0, 1) := by decide +kernel
theorem dX5_isDone_213 : decode cX5_isDone 213 = .ok (.getfield 9, 3) := by decide +kernel
theorem dX5_isDone_216 : decode cX5_isDone 216 = .ok (.iload_n 2, 1) := by decide +kernel
theorem dX5_isDone_217 : decode cX5_isDone 217 = .ok (.invokestatic 130, 3) := by decide +kernel
theorem dX5_isDone_220 : decode cX5_isDone 220 = .ok (.iconst 1, 1) := by decide +kernel
theorem dX5_isDone_221 : decode cX5_isDone 221 = .ok (.ireturn, 1) := by decide +kernel
theorem dX5_desert_0 : decode cX5_desert 0 = .ok (.aload_n 0, 1) := by decide +kernel
theorem dX5_desert_1 : decode cX5_desert 1 = .ok (.iload_n 1, 1) := by decide +kernel
theorem dX5_desert_2 : decode cX5_desert 2 = .ok (.iconst 0, 1) := by decide +kernel
theorem dX5_desert_3 : decode cX5_desert 3 = .ok (.invokevirtual 133, 3) := by decide +kernel
theorem dX5_desert_6 : decode cX5_desert 6 = .ok (.istore_n 2, 1) := by decide +kernel
theorem dX5_desert_7 : decode cX5_desert 7 = .ok (.iload_n 2, 1) := by decide +kernel
theorem dX5_desert_8 : decode cX5_desert 8 = .ok (.ifCond .eq 5, 3) := by decide +kernel
theorem dX5_desert_11 : decode cX5_desert 11 = .ok (.iload_n 2, 1) := by decide +kernel
theorem dX5_desert_12 : decode cX5_desert 12 = .ok (.ireturn, 1) := by decide +kernel
theorem dX5_desert_13 : decode cX5_desert 13 = .ok (.aload_n 0, 1) := by decide +kernel
theorem dX5_desert_14 : decode cX5_desert 14 = .ok (.bipush 100, 2) := by decide +kernel
theorem dX5_desert_16 : decode cX5_desert 16 = .ok (.iload_n 1, 1) := by decide +kernel
theorem dX5_desert_17 : decode cX5_desert 17 = .ok (.imul, 1) := by decide +kernel
theorem dX5_desert_18 : decode cX5_desert 18 = .ok (.putfield 106, 3) := by decide +kernel
theorem dX5_desert_21 : decode cX5_desert 21 = .ok (.aload_n 0, 1) := by decide +kernel
theorem dX5_desert_22 : decode cX5_desert 22 = .ok (.aload_n 0, 1) := by decide +kernel
theorem dX5_desert_23 : decode cX5_desert 23 = .ok (.getfield 37, 3) := by decide +kernel
theorem dX5_desert_26 : decode cX5_desert 26 = .ok (.iload_n 1, 1) := by decide +kernel
theorem dX5_desert_27 : decode cX5_desert 27 = .ok (.iaload, 1) := by decide +kernel
theorem dX5_desert_28 : decode cX5_desert 28 = .ok (.putfield 103, 3) := by decide +kernel
theorem dX5_desert_31 : decode cX5_desert 31 = .ok (.aload_n 0, 1) := by decide +kernel
theorem dX5_desert_32 : decode cX5_desert 32 = .ok (.iconst 0, 1) := by decide +kernel
theorem dX5_desert_33 : decode cX5_desert 33 = .ok (.putfield 99, 3) := by decide +kernel
theorem dX5_desert_36 : decode cX5_desert 36 = .ok (.iconst 0, 1) := by decide +kernel
theorem dX5_desert_37 : decode cX5_desert 37 = .ok (.istore_n 3, 1) := by decide +kernel
theorem dX5_desert_38 : decode cX5_desert 38 = .ok (.iconst 0, 1) := by decide +kernel
theorem dX5_desert_39 : decode cX5_desert 39 = .ok (.istore 4, 2) := by decide +kernel
theorem dX5_desert_41 : decode cX5_desert 41 = .ok (.aload_n 0, 1) := by decide +kernel
theorem dX5_desert_42 : decode cX5_desert 42 = .ok (.invokevirtual 136, 3) := by decide +kernel
theorem dX5_desert_45 : decode cX5_desert 45 = .ok (.ifCond .ne 13, 3) := by decide +kernel
theorem dX5_desert_48 : decode cX5_desert 48 = .ok (.sipush (-1000), 3) := by decide +kernel
theorem dX5_desert_51 : decode cX5_desert 51 = .ok (.aload_n 0, 1) := by decide +kernel
theorem dX5_desert_52 : decode cX5_desert 52 = .ok (.getfield 99, 3) := by decide +kernel
theorem dX5_desert_55 : decode cX5_desert 55 = .ok (.isub, 1) := by decide +kernel
theorem dX5_desert_56 : decode cX5_desert 56 = .ok (.istore 4, 2) := by decide +kernel
theorem dX5_desert_58 : decode cX5_desert 58 = .ok (.iinc 3 1, 3) := by decide +kernel
theorem dX5_desert_61 : decode cX5_desert 61 = .ok (.iload 4, 2) := by decide +kernel
theorem dX5_desert_63 : decode cX5_desert 63 = .ok (.ifCond .ne 14, 3) := by decide +kernel
theorem dX5_desert_66 : decode cX5_desert 66 = .ok (.aload_n 0, 1) := by decide +kernel
theorem dX5_desert_67 : decode cX5_desert 67 = .ok (.getfield 99, 3) := by decide +kernel
theorem dX5_desert_70 : decode cX5_desert 70 = .ok (.aload_n 0, 1) := by decide +kernel
theorem dX5_desert_71 : decode cX5_desert 71 = .ok (.getfield 103, 3) := by decide +kernel
theorem dX5_desert_74 : decode cX5_desert 74 = .ok (.if_icmp .lt (-33), 3) := by decide +kernel
theorem dX5_desert_77 : decode cX5_desert 77 = .ok (.aload_n 0, 1) := by decide +kernel
theorem dX5_desert_78 : decode cX5_desert 78 = .ok (.getfield 9, 3) := by decide +kernel
theorem dX5_desert_81 : decode cX5_desert 81 = .ok (.aload_n 0, 1) := by decide +kernel
theorem dX5_desert_82 : decode cX5_desert 82 = .ok (.getfield 19, 3) := by decide +kernel
theorem dX5_desert_85 : decode cX5_desert 85 = .ok (.invokestatic 140, 3) := by decide +kernel
theorem dX5_desert_88 : decode cX5_desert 88 = .ok (.aload_n 0, 1) := by decide +kernel
theorem dX5_desert_89 : decode cX5_desert 89 = .ok (.iconst 0, 1) := by decide +kernel
theorem dX5_desert_90 : decode cX5_desert 90 = .ok (.putfield 99, 3) := by decide +kernel
theorem dX5_desert_93 : decode cX5_desert 93 = .ok (.iload 4, 2) := by decide +kernel
theorem dX5_desert_95 : decode cX5_desert 95 = .ok (.ifCond .ne 66, 3) := by decide +kernel
theorem dX5_desert_98 : decode cX5_desert 98 = .ok (.aload_n 0, 1) := by decide +kernel
theorem dX5_desert_99 : decode cX5_desert 99 = .ok (.getfield 99, 3) := by decide +kernel
theorem dX5_desert_102 : decode cX5_desert 102 = .ok (.aload_n 0, 1) := by decide +kernel
theorem dX5_desert_103 : decode cX5_desert 103 = .ok (.getfield 103, 3) := by decide +kernel
theorem dX5_desert_106 : decode cX5_desert 106 = .ok (.if_icmp .ge 55, 3) := by decide +kernel
theorem dX5_desert_109 : decode cX5_desert 109 = .ok (.aload_n 0, 1) := by decide +kernel
theorem dX5_desert_110 : decode cX5_desert 110 = .ok (.getfield 99, 3) := by decide +kernel
theorem dX5_desert_113 : decode cX5_desert 113 = .ok (.istore 5, 2) := by decide +kernel
theorem dX5_desert_115 : decode cX5_desert 115 = .ok (.aload_n 0, 1) := by decide +kernel
theorem dX5_desert_116 : decode cX5_desert 116 = .ok (.invokevirtual 109, 3) := by decide +kernel
theorem dX5_desert_119 : decode cX5_desert 119 = .ok (.istore 6, 2) := by decide +kernel
theorem dX5_desert_121 : decode cX5_desert 121 = .ok (.aload_n 0, 1) := by decide +kernel
theorem dX5_desert_122 : decode cX5_desert 122 = .ok (.invokevirtual 136, 3) := by decide +kernel
theorem dX5_desert_125 : decode cX5_desert 125 = .ok (.istore 7, 2) := by decide +kernel
theorem dX5_desert_127 : decode cX5_desert 127 = .ok (.aload_n 0, 1) := by decide +kernel
theorem dX5_desert_128 : decode cX5_desert 128 = .ok (.iload 6, 2) := by decide +kernel
theorem dX5_desert_130 : decode cX5_desert 130 = .ok (.invokevirtual 144, 3) := by decide +kernel
theorem dX5_desert_133 : decode cX5_desert 133 = .ok (.ifCond .eq 6, 3) := by decide +kernel
theorem dX5_desert_136 : decode cX5_desert 136 = .ok (.goto (-43), 3) := by decide +kernel
theorem dX5_desert_139 : decode cX5_desert 139 = .ok (.sipush (-2000), 3) := by decide +kernel
theorem dX5_desert_142 : decode cX5_desert 142 = .ok (.iload 5, 2) := by decide +kernel
theorem dX5_desert_144 : decode cX5_desert 144 = .ok (.isub, 1) := by decide +kernel
theorem dX5_desert_145 : decode cX5_desert 145 = .ok (.istore 4, 2) := by decide +kernel
theorem dX5_desert_147 : decode cX5_desert 147 = .ok (.aload_n 0, 1) := by decide +kernel
theorem dX5_desert_148 : decode cX5_desert 148 = .ok (.getfield 19, 3) := by decide +kernel
theorem dX5_desert_151 : decode cX5_desert 151 = .ok (.aload_n 0, 1) := by decide +kernel
theorem dX5_desert_152 : decode cX5_desert 152 = .ok (.getfield 9, 3) := by decide +kernel
theorem dX5_desert_155 : decode cX5_desert 155 = .ok (.invokestatic 140, 3) := by decide +kernel
theorem dX5_desert_158 : decode cX5_desert 158 = .ok (.goto (-65), 3) := by decide +kernel
theorem dX5_desert_161 : decode cX5_desert 161 = .ok (.iload 4, 2) := by decide +kernel
theorem dX5_desert_163 : decode cX5_desert 163 = .ok (.ifCond .ne 7, 3) := by decide +kernel
theorem dX5_desert_166 : decode cX5_desert 166 = .ok (.iload_n 3, 1) := by decide +kernel
theorem dX5_desert_167 : decode cX5_desert 167 = .ok (.goto 5, 3) := by decide +kernel
theorem dX5_desert_170 : decode cX5_desert 170 = .ok (.iload 4, 2) := by decide +kernel
theorem dX5_desert_172 : decode cX5_desert 172 = .ok (.ireturn, 1) := by decide +kernel
theorem dX5_corporal_0 : decode cX5_corporal 0 = .ok (.aload_n 0, 1) := by decide +kernel
theorem dX5_corporal_1 : decode cX5_corporal 1 = .ok (.iload_n 1, 1) := by decide +kernel
theorem dX5_corporal_2 : decode cX5_corporal 2 = .ok (.invokevirtual 123, 3) := by decide +kernel
theorem dX5_corporal_5 : decode cX5_corporal 5 = .ok (.ifCond .eq 13, 3) := by decide +kernel
theorem dX5_corporal_8 : decode cX5_corporal 8 = .ok (.iload_n 2, 1) := by decide +kernel
theorem dX5_corporal_9 : decode cX5_corporal 9 = .ok (.iconst 0, 1) := by decide +kernel
theorem dX5_corporal_10 : decode cX5_corporal 10 = .ok (.bipush 6, 2) := by decide +kernel
theorem dX5_corporal_12 : decode cX5_corporal 12 = .ok (.invokestatic 43, 3) := by decide +kernel
theorem dX5_corporal_15 : decode cX5_corporal 15 = .ok (.ifCond .ne 5, 3) := by decide +kernel
theorem dX5_corporal_18 : decode cX5_corporal 18 = .ok (.iconst (-1), 1) := by decide +kernel
theorem dX5_corporal_19 : decode cX5_corporal 19 = .ok (.ireturn, 1) := by decide +kernel
theorem dX5_corporal_20 : decode cX5_corporal 20 = .ok (.iload_n 2, 1) := by decide +kernel
theorem dX5_corporal_21 : decode cX5_corporal 21 = .ok (.bipush 6, 2) := by decide +kernel
theorem dX5_corporal_23 : decode cX5_corporal 23 = .ok (.if_icmp .ne 22, 3) := by decide +kernel
theorem dX5_corporal_26 : decode cX5_corporal 26 = .ok (.aload_n 0, 1) := by decide +kernel
theorem dX5_corporal_27 : decode cX5_corporal 27 = .ok (.getfield 9, 3) := by decide +kernel
theorem dX5_corporal_30 : decode cX5_corporal 30 = .ok (.iload_n 1, 1) := by decide +kernel
theorem dX5_corporal_31 : decode cX5_corporal 31 = .ok (.aload_n 0, 1) := by decide +kernel
theorem dX5_corporal_32 : decode cX5_corporal 32 = .ok (.getfield 9, 3) := by decide +kernel
theorem dX5_corporal_35 : decode cX5_corporal 35 = .ok (.iconst 1, 1) := by decide +kernel
theorem dX5_corporal_36 : decode cX5_corporal 36 = .ok (.iaload, 1) := by decide +kernel
theorem dX5_corporal_37 : decode cX5_corporal 37 = .ok (.iconst 1, 1) := by decide +kernel
theorem dX5_corporal_38 : decode cX5_corporal 38 = .ok (.iadd, 1) := by decide +kernel
theorem dX5_corporal_39 : decode cX5_corporal 39 = .ok (.invokestatic 77, 3) := by decide +kernel
theorem dX5_corporal_42 : decode cX5_corporal 42 = .ok (.goto 13, 3) := by decide +kernel
theorem dX5_corporal_45 : decode cX5_corporal 45 = .ok (.aload_n 0, 1) := by decide +kernel
theorem dX5_corporal_46 : decode cX5_corporal 46 = .ok (.getfield 9, 3) := by decide +kernel
theorem dX5_corporal_49 : decode cX5_corporal 49 = .ok (.iload_n 1, 1) := by decide +kernel
theorem dX5_corporal_50 : decode cX5_corporal 50 = .ok (.iload_n 2, 1) := by decide +kernel
theorem dX5_corporal_51 : decode cX5_corporal 51 = .ok (.invokestatic 47, 3) := by decide +kernel
theorem dX5_corporal_54 : decode cX5_corporal 54 = .ok (.iaload, 1) := by decide +kernel
theorem dX5_corporal_55 : decode cX5_corporal 55 = .ok (.ireturn, 1) := by decide +kernel
theorem dX5_dip_0 : decode cX5_dip 0 = .ok (.iload_n 1, 1) := by decide +kernel
theorem dX5_dip_1 : decode cX5_dip 1 = .ok (.invokestatic 61, 3) := by decide +kernel
theorem dX5_dip_4 : decode cX5_dip 4 = .ok (.ifCond .eq 12, 3) := by decide +kernel
theorem dX5_dip_7 : decode cX5_dip 7 = .ok (.iload_n 2, 1) := by decide +kernel
theorem dX5_dip_8 : decode cX5_dip 8 = .ok (.iconst 0, 1) := by decide +kernel
theorem dX5_dip_9 : decode cX5_dip 9 = .ok (.iconst 2, 1) := by decide +kernel
theorem dX5_dip_10 : decode cX5_dip 10 = .ok (.invokestatic 43, 3) := by decide +kernel
theorem dX5_dip_13 : decode cX5_dip 13 = .ok (.ifCond .ne 5, 3) := by decide +kernel
theorem dX5_dip_16 : decode cX5_dip 16 = .ok (.iconst (-1), 1) := by decide +kernel
theorem dX5_dip_17 : decode cX5_dip 17 = .ok (.ireturn, 1) := by decide +kernel
theorem dX5_dip_18 : decode cX5_dip 18 = .ok (.iload_n 2, 1) := by decide +kernel
theorem dX5_dip_19 : decode cX5_dip 19 = .ok (.iconst 2, 1) := by decide +kernel
theorem dX5_dip_20 : decode cX5_dip 20 = .ok (.if_icmp .ge 21, 3) := by decide +kernel
theorem dX5_dip_23 : decode cX5_dip 23 = .ok (.aload_n 0, 1) := by decide +kernel
theorem dX5_dip_24 : decode cX5_dip 24 = .ok (.getfield 9, 3) := by decide +kernel
theorem dX5_dip_27 : decode cX5_dip 27 = .ok (.iload_n 2, 1) := by decide +kernel
theorem dX5_dip_28 : decode cX5_dip 28 = .ok (.ifCond .ne 7, 3) := by decide +kernel
theorem dX5_dip_31 : decode cX5_dip 31 = .ok (.iconst 5, 1) := by decide +kernel
theorem dX5_dip_32 : decode cX5_dip 32 = .ok (.goto 5, 3) := by decide +kernel
theorem dX5_dip_35 : decode cX5_dip 35 = .ok (.bipush 15, 2) := by decide +kernel
theorem dX5_dip_37 : decode cX5_dip 37 = .ok (.iload_n 1, 1) := by decide +kernel
theorem dX5_dip_38 : decode cX5_dip 38 = .ok (.iadd, 1) := by decide +kernel
theorem dX5_dip_39 : decode cX5_dip 39 = .ok (.iaload, 1) := by decide +kernel
theorem dX5_dip_40 : decode cX5_dip 40 = .ok (.ireturn, 1) := by decide +kernel
theorem dX5_dip_41 : decode cX5_dip 41 = .ok (.iconst 0, 1) := by decide +kernel
theorem dX5_dip_42 : decode cX5_dip 42 = .ok (.istore_n 3, 1) := by decide +kernel
theorem dX5_dip_43 : decode cX5_dip 43 = .ok (.iconst 0, 1) := by decide +kernel
theorem dX5_dip_44 : decode cX5_dip 44 = .ok (.istore 4, 2) := by decide +kernel
theorem dX5_dip_46 : decode cX5_dip 46 = .ok (.iload 4, 2) := by decide +kernel
theorem dX5_dip_48 : decode cX5_dip 48 = .ok (.aload_n 0, 1) := by decide +kernel
theorem dX5_dip_49 : decode cX5_dip 49 = .ok (.getfield 9, 3) := by decide +kernel
theorem dX5_dip_52 : decode cX5_dip 52 = .ok (.iconst 0, 1) := by decide +kernel
theorem dX5_dip_53 : decode cX5_dip 53 = .ok (.iaload, 1) := by decide +kernel
theorem dX5_dip_54 : decode cX5_dip 54 = .ok (.if_icmp .ge 35, 3) := by decide +kernel
theorem dX5_dip_57 : decode cX5_dip 57 = .ok (.iload_n 3, 1) := by decide +kernel
theorem dX5_dip_58 : decode cX5_dip 58 = .ok (.aload_n 0, 1) := by decide +kernel
theorem dX5_dip_59 : decode cX5_dip 59 = .ok (.getfield 9, 3) := by decide +kernel
theorem dX5_dip_62 : decode cX5_dip 62 = .ok (.iload 4, 2) := by decide +kernel
theorem dX5_dip_64 : decode cX5_dip 64 = .ok (.iconst 2, 1) := by decide +kernel
theorem dX5_dip_65 : decode cX5_dip 65 = .ok (.invokestatic 47, 3) := by decide +kernel
theorem dX5_dip_68 : decode cX5_dip 68 = .ok (.iaload, 1) := by decide +kernel
theorem dX5_dip_69 : decode cX5_dip 69 = .ok (.iload_n 1, 1) := by decide +kernel
theorem dX5_dip_70 : decode cX5_dip 70 = .ok (.if_icmp .ne 10, 3) := by decide +kernel
theorem dX5_dip_73 : decode cX5_dip 73 = .ok (.iconst 1, 1) := by decide +kernel
theorem dX5_dip_74 : decode cX5_dip 74 = .ok (.iload 4, 2) := by decide +kernel
theorem dX5_dip_76 : decode cX5_dip 76 = .ok (.ishl, 1) := by decide +kernel
theorem dX5_dip_77 : decode cX5_dip 77 = .ok (.goto 4, 3) := by decide +kernel
theorem dX5_dip_80 : decode cX5_dip 80 = .ok (.iconst 0, 1) := by decide +kernel
theorem dX5_dip_81 : decode cX5_dip 81 = .ok (.ior, 1) := by decide +kernel
theorem dX5_dip_82 : decode cX5_dip 82 = .ok (.istore_n 3, 1) := by decide +kernel
theorem dX5_dip_83 : decode cX5_dip 83 = .ok (.iinc 4 1, 3) := by decide +kernel
theorem dX5_dip_86 : decode cX5_dip 86 = .ok (.goto (-40), 3) := by decide +kernel
theorem dX5_dip_89 : decode cX5_dip 89 = .ok (.iload_n 3, 1) := by decide +kernel
theorem dX5_dip_90 : decode cX5_dip 90 = .ok (.ireturn, 1) := by decide +kernel
theorem dX5_comes_0 : decode cX5_comes 0 = .ok (.iload_n 2, 1) := by decide +kernel
theorem dX5_comes_1 : decode cX5_comes 1 = .ok (.invokestatic 61, 3) := by decide +kernel
theorem dX5_comes_4 : decode cX5_comes 4 = .ok (.ifCond .eq 12, 3) := by decide +kernel
theorem dX5_comes_7 : decode cX5_comes 7 = .ok (.iload_n 3, 1) := by decide +kernel
theorem dX5_comes_8 : decode cX5_comes 8 = .ok (.iconst 0, 1) := by decide +kernel
theorem dX5_comes_9 : decode cX5_comes 9 = .ok (.iconst 1, 1) := by decide +kernel
theorem dX5_comes_10 : decode cX5_comes 10 = .ok (.invokestatic 43, 3) := by decide +kernel
theorem dX5_comes_13 : decode cX5_comes 13 = .ok (.ifCond .ne 5, 3) := by decide +kernel
theorem dX5_comes_16 : decode cX5_comes 16 = .ok (.iconst (-1), 1) := by decide +kernel
theorem dX5_comes_17 : decode cX5_comes 17 = .ok (.ireturn, 1) := by decide +kernel
theorem dX5_comes_18 : decode cX5_comes 18 = .ok (.aload_n 0, 1) := by decide +kernel
theorem dX5_comes_19 : decode cX5_comes 19 = .ok (.iload_n 1, 1) := by decide +kernel
theorem dX5_comes_20 : decode cX5_comes 20 = .ok (.invokevirtual 147, 3) := by decide +kernel
theorem dX5_comes_23 : decode cX5_comes 23 = .ok (.istore 4, 2) := by decide +kernel
theorem dX5_comes_25 : decode cX5_comes 25 = .ok (.iload 4, 2) := by decide +kernel
theorem dX5_comes_27 : decode cX5_comes 27 = .ok (.ifCond .eq 6, 3) := by decide +kernel
theorem dX5_comes_30 : decode cX5_comes 30 = .ok (.iload 4, 2) := by decide +kernel
theorem dX5_comes_32 : decode cX5_comes 32 = .ok (.ireturn, 1) := by decide +kernel
theorem dX5_comes_33 : decode cX5_comes 33 = .ok (.aload_n 0, 1) := by decide +kernel
theorem dX5_comes_34 : decode cX5_comes 34 = .ok (.getfield 9, 3) := by decide +kernel
theorem dX5_comes_37 : decode cX5_comes 37 = .ok (.iconst 0, 1) := by decide +kernel
theorem dX5_comes_38 : decode cX5_comes 38 = .ok (.iaload, 1) := by decide +kernel
theorem dX5_comes_39 : decode cX5_comes 39 = .ok (.bipush 6, 2) := by decide +kernel
theorem dX5_comes_41 : decode cX5_comes 41 = .ok (.if_icmp .ne 6, 3) := by decide +kernel
theorem dX5_comes_44 : decode cX5_comes 44 = .ok (.bipush (-2), 2) := by decide +kernel
theorem dX5_comes_46 : decode cX5_comes 46 = .ok (.ireturn, 1) := by decide +kernel
theorem dX5_comes_47 : decode cX5_comes 47 = .ok (.aload_n 0, 1) := by decide +kernel
theorem dX5_comes_48 : decode cX5_comes 48 = .ok (.aload_n 0, 1) := by decide +kernel
theorem dX5_comes_49 : decode cX5_comes 49 = .ok (.getfield 28, 3) := by decide +kernel
theorem dX5_comes_52 : decode cX5_comes 52 = .ok (.iload_n 1, 1) := by decide +kernel
theorem dX5_comes_53 : decode cX5_comes 53 = .ok (.iaload, 1) := by decide +kernel
theorem dX5_comes_54 : decode cX5_comes 54 = .ok (.aload_n 0, 1) := by decide +kernel
theorem dX5_comes_55 : decode cX5_comes 55 = .ok (.getfield 31, 3) := by decide +kernel
theorem dX5_comes_58 : decode cX5_comes 58 = .ok (.iload_n 1, 1) := by decide +kernel
theorem dX5_comes_59 : decode cX5_comes 59 = .ok (.iaload, 1) := by decide +kernel
theorem dX5_comes_60 : decode cX5_comes 60 = .ok (.iload_n 2, 1) := by decide +kernel
theorem dX5_comes_61 : decode cX5_comes 61 = .ok (.iload_n 3, 1) := by decide +kernel
theorem dX5_comes_62 : decode cX5_comes 62 = .ok (.invokevirtual 116, 3) := by decide +kernel
theorem dX5_comes_65 : decode cX5_comes 65 = .ok (.aload_n 0, 1) := by decide +kernel
theorem dX5_comes_66 : decode cX5_comes 66 = .ok (.getfield 9, 3) := by decide +kernel
theorem dX5_comes_69 : decode cX5_comes 69 = .ok (.iconst 0, 1) := by decide +kernel
theorem dX5_comes_70 : decode cX5_comes 70 = .ok (.iaload, 1) := by decide +kernel
theorem dX5_comes_71 : decode cX5_comes 71 = .ok (.iconst 1, 1) := by decide +kernel
theorem dX5_comes_72 : decode cX5_comes 72 = .ok (.isub, 1) := by decide +kernel
theorem dX5_comes_73 : decode cX5_comes 73 = .ok (.ireturn, 1) := by decide +kernel
theorem dX5_fills_0 : decode cX5_fills 0 = .ok (.iload_n 1, 1) := by decide +kernel
theorem dX5_fills_1 : decode cX5_fills 1 = .ok (.invokestatic 61, 3) := by decide +kernel
theorem dX5_fills_4 : decode cX5_fills 4 = .ok (.ifCond .eq 14, 3) := by decide +kernel
theorem dX5_fills_7 : decode cX5_fills 7 = .ok (.iload_n 2, 1) := by decide +kernel
theorem dX5_fills_8 : decode cX5_fills 8 = .ok (.iconst 0, 1) := by decide +kernel
theorem dX5_fills_9 : decode cX5_fills 9 = .ok (.sipush 999, 3) := by decide +kernel
theorem dX5_fills_12 : decode cX5_fills 12 = .ok (.invokestatic 43, 3) := by decide +kernel
theorem dX5_fills_15 : decode cX5_fills 15 = .ok (.ifCond .ne 5, 3) := by decide +kernel
theorem dX5_fills_18 : decode cX5_fills 18 = .ok (.iconst (-1), 1) := by decide +kernel
theorem dX5_fills_19 : decode cX5_fills 19 = .ok (.ireturn, 1) := by decide +kernel
theorem dX5_fills_20 : decode cX5_fills 20 = .ok (.aload_n 0, 1) := by decide +kernel
theorem dX5_fills_21 : decode cX5_fills 21 = .ok (.getfield 9, 3) := by decide +kernel
theorem dX5_fills_24 : decode cX5_fills 24 = .ok (.iconst 5, 1) := by decide +kernel
theorem dX5_fills_25 : decode cX5_fills 25 = .ok (.iload_n 1, 1) := by decide +kernel
theorem dX5_fills_26 : decode cX5_fills 26 = .ok (.iadd, 1) := by decide +kernel
theorem dX5_fills_27 : decode cX5_fills 27 = .ok (.iaload, 1) := by decide +kernel
theorem dX5_fills_28 : decode cX5_fills 28 = .ok (.istore_n 3, 1) := by decide +kernel
theorem dX5_fills_29 : decode cX5_fills 29 = .ok (.aload_n 0, 1) := by decide +kernel
theorem dX5_fills_30 : decode cX5_fills 30 = .ok (.getfield 9, 3) := by decide +kernel
theorem dX5_fills_33 : decode cX5_fills 33 = .ok (.iload_n 1, 1) := by decide +kernel
theorem dX5_fills_34 : decode cX5_fills 34 = .ok (.iload_n 2, 1) := by decide +kernel
theorem dX5_fills_35 : decode cX5_fills 35 = .ok (.invokestatic 120, 3) := by decide +kernel
theorem dX5_fills_38 : decode cX5_fills 38 = .ok (.iload_n 3, 1) := by decide +kernel
theorem dX5_fills_39 : decode cX5_fills 39 = .ok (.ireturn, 1) := by decide +kernel
theorem dX5_blows_0 : decode cX5_blows 0 = .ok (.iload_n 1, 1) := by decide +kernel
theorem dX5_blows_1 : decode cX5_blows 1 = .ok (.bipush (-9), 2) := by decide +kernel
theorem dX5_blows_3 : decode cX5_blows 3 = .ok (.bipush 9, 2) := by decide +kernel
theorem dX5_blows_5 : decode cX5_blows 5 = .ok (.invokestatic 43, 3) := by decide +kernel
theorem dX5_blows_8 : decode cX5_blows 8 = .ok (.ifCond .ne 6, 3) := by decide +kernel
theorem dX5_blows_11 : decode cX5_blows 11 = .ok (.ldc 151, 2) := by decide +kernel
theorem dX5_blows_13 : decode cX5_blows 13 = .ok (.ireturn, 1) := by decide +kernel
theorem dX5_blows_14 : decode cX5_blows 14 = .ok (.aload_n 0, 1) := by decide +kernel
theorem dX5_blows_15 : decode cX5_blows 15 = .ok (.getfield 9, 3) := by decide +kernel
theorem dX5_blows_18 : decode cX5_blows 18 = .ok (.iconst 2, 1) := by decide +kernel
theorem dX5_blows_19 : decode cX5_blows 19 = .ok (.iaload, 1) := by decide +kernel
theorem dX5_blows_20 : decode cX5_blows 20 = .ok (.istore_n 2, 1) := by decide +kernel
theorem dX5_blows_21 : decode cX5_blows 21 = .ok (.aload_n 0, 1) := by decide +kernel
theorem dX5_blows_22 : decode cX5_blows 22 = .ok (.getfield 9, 3) := by decide +kernel
theorem dX5_blows_25 : decode cX5_blows 25 = .ok (.iconst 2, 1) := by decide +kernel
theorem dX5_blows_26 : decode cX5_blows 26 = .ok (.iload_n 1, 1) := by decide +kernel
theorem dX5_blows_27 : decode cX5_blows 27 = .ok (.iastore, 1) := by decide +kernel
theorem dX5_blows_28 : decode cX5_blows 28 = .ok (.iload_n 2, 1) := by decide +kernel
theorem dX5_blows_29 : decode cX5_blows 29 = .ok (.ireturn, 1) := by decide +kernel
theorem dX5_rests_0 : decode cX5_rests 0 = .ok (.aload_n 0, 1) := by decide +kernel
theorem dX5_rests_1 : decode cX5_rests 1 = .ok (.iload_n 1, 1) := by decide +kernel
theorem dX5_rests_2 : decode cX5_rests 2 = .ok (.invokevirtual 123, 3) := by decide +kernel
theorem dX5_rests_5 : decode cX5_rests 5 = .ok (.ifCond .ne 5, 3) := by decide +kernel
theorem dX5_rests_8 : decode cX5_rests 8 = .ok (.iconst (-1), 1) := by decide +kernel
theorem dX5_rests_9 : decode cX5_rests 9 = .ok (.ireturn, 1) := by decide +kernel
theorem dX5_rests_10 : decode cX5_rests 10 = .ok (.aload_n 0, 1) := by decide +kernel
theorem dX5_rests_11 : decode cX5_rests 11 = .ok (.getfield 9, 3) := by decide +kernel
theorem dX5_rests_14 : decode cX5_rests 14 = .ok (.iload_n 1, 1) := by decide +kernel
theorem dX5_rests_15 : decode cX5_rests 15 = .ok (.iconst 5, 1) := by decide +kernel
theorem dX5_rests_16 : decode cX5_rests 16 = .ok (.invokestatic 47, 3) := by decide +kernel
theorem dX5_rests_19 : decode cX5_rests 19 = .ok (.dup2, 1) := by decide +kernel
theorem dX5_rests_20 : decode cX5_rests 20 = .ok (.iaload, 1) := by decide +kernel
theorem dX5_rests_21 : decode cX5_rests 21 = .ok (.iconst 1, 1) := by decide +kernel
theorem dX5_rests_22 : decode cX5_rests 22 = .ok (.ixor, 1) := by decide +kernel
theorem dX5_rests_23 : decode cX5_rests 23 = .ok (.iastore, 1) := by decide +kernel
theorem dX5_rests_24 : decode cX5_rests 24 = .ok (.aload_n 0, 1) := by decide +kernel
theorem dX5_rests_25 : decode cX5_rests 25 = .ok (.getfield 9, 3) := by decide +kernel
theorem dX5_rests_28 : decode cX5_rests 28 = .ok (.iload_n 1, 1) := by decide +kernel
theorem dX5_rests_29 : decode cX5_rests 29 = .ok (.iconst 5, 1) := by decide +kernel
theorem dX5_rests_30 : decode cX5_rests 30 = .ok (.invokestatic 47, 3) := by decide +kernel
theorem dX5_rests_33 : decode cX5_rests 33 = .ok (.iaload, 1) := by decide +kernel
theorem dX5_rests_34 : decode cX5_rests 34 = .ok (.ireturn, 1) := by decide +kernel
theorem dX5_moves_0 : decode cX5_moves 0 = .ok (.aload_n 0, 1) := by decide +kernel
theorem dX5_moves_1 : decode cX5_moves 1 = .ok (.iload_n 1, 1) := by decide +kernel
theorem dX5_moves_2 : decode cX5_moves 2 = .ok (.invokevirtual 123, 3) := by decide +kernel
theorem dX5_moves_5 : decode cX5_moves 5 = .ok (.ifCond .eq 10, 3) := by decide +kernel
theorem dX5_moves_8 : decode cX5_moves 8 = .ok (.iload_n 2, 1) := by decide +kernel
theorem dX5_moves_9 : decode cX5_moves 9 = .ok (.invokestatic 61, 3) := by decide +kernel
theorem dX5_moves_12 : decode cX5_moves 12 = .ok (.ifCond .ne 5, 3) := by decide +kernel
theorem dX5_moves_15 : decode cX5_moves 15 = .ok (.iconst (-1), 1) := by decide +kernel
theorem dX5_moves_16 : decode cX5_moves 16 = .ok (.ireturn, 1) := by decide +kernel
theorem dX5_moves_17 : decode cX5_moves 17 = .ok (.aload_n 0, 1) := by decide +kernel
theorem dX5_moves_18 : decode cX5_moves 18 = .ok (.getfield 9, 3) := by decide +kernel
theorem dX5_moves_21 : decode cX5_moves 21 = .ok (.iload_n 1, 1) := by decide +kernel
theorem dX5_moves_22 : decode cX5_moves 22 = .ok (.iconst 2, 1) := by decide +kernel
theorem dX5_moves_23 : decode cX5_moves 23 = .ok (.invokestatic 47, 3) := by decide +kernel
theorem dX5_moves_26 : decode cX5_moves 26 = .ok (.iaload, 1) := by decide +kernel
theorem dX5_moves_27 : decode cX5_moves 27 = .ok (.istore_n 3, 1) := by decide +kernel
theorem dX5_moves_28 : decode cX5_moves 28 = .ok (.aload_n 0, 1) := by decide +kernel
theorem dX5_moves_29 : decode cX5_moves 29 = .ok (.getfield 9, 3) := by decide +kernel
theorem dX5_moves_32 : decode cX5_moves 32 = .ok (.iload_n 1, 1) := by decide +kernel
theorem dX5_moves_33 : decode cX5_moves 33 = .ok (.iconst 2, 1) := by decide +kernel
theorem dX5_moves_34 : decode cX5_moves 34 = .ok (.invokestatic 47, 3) := by decide +kernel
theorem dX5_moves_37 : decode cX5_moves 37 = .ok (.iload_n 2, 1) := by decide +kernel
theorem dX5_moves_38 : decode cX5_moves 38 = .ok (.iastore, 1) := by decide +kernel
theorem dX5_moves_39 : decode cX5_moves 39 = .ok (.iload_n 3, 1) := by decide +kernel
theorem dX5_moves_40 : decode cX5_moves 40 = .ok (.ireturn, 1) := by decide +kernel
theorem dX5_flood_0 : decode cX5_flood 0 = .ok (.aload_n 0, 1) := by decide +kernel
theorem dX5_flood_1 : decode cX5_flood 1 = .ok (.getfield 9, 3) := by decide +kernel
theorem dX5_flood_4 : decode cX5_flood 4 = .ok (.iconst (-1), 1) := by decide +kernel
theorem dX5_flood_5 : decode cX5_flood 5 = .ok (.invokestatic 152, 3) := by decide +kernel
theorem dX5_flood_8 : decode cX5_flood 8 = .ok (.istore_n 1, 1) := by decide +kernel
theorem dX5_flood_9 : decode cX5_flood 9 = .ok (.aload_n 0, 1) := by decide +kernel
theorem dX5_flood_10 : decode cX5_flood 10 = .ok (.getfield 9, 3) := by decide +kernel
theorem dX5_flood_13 : decode cX5_flood 13 = .ok (.invokestatic 126, 3) := by decide +kernel
theorem dX5_flood_16 : decode cX5_flood 16 = .ok (.iload_n 1, 1) := by decide +kernel
theorem dX5_flood_17 : decode cX5_flood 17 = .ok (.ireturn, 1) := by decide +kernel
theorem dX5_days_0 : decode cX5_days 0 = .ok (.iload_n 1, 1) := by decide +kernel
theorem dX5_days_1 : decode cX5_days 1 = .ok (.iconst 1, 1) := by decide +kernel
theorem dX5_days_2 : decode cX5_days 2 = .ok (.bipush 60, 2) := by decide +kernel
theorem dX5_days_4 : decode cX5_days 4 = .ok (.invokestatic 43, 3) := by decide +kernel
theorem dX5_days_7 : decode cX5_days 7 = .ok (.ifCond .ne 5, 3) := by decide +kernel
theorem dX5_days_10 : decode cX5_days 10 = .ok (.iconst (-1), 1) := by decide +kernel
theorem dX5_days_11 : decode cX5_days 11 = .ok (.ireturn, 1) := by decide +kernel
theorem dX5_days_12 : decode cX5_days 12 = .ok (.aload_n 0, 1) := by decide +kernel
theorem dX5_days_13 : decode cX5_days 13 = .ok (.getfield 9, 3) := by decide +kernel
theorem dX5_days_16 : decode cX5_days 16 = .ok (.iconst 1, 1) := by decide +kernel
theorem dX5_days_17 : decode cX5_days 17 = .ok (.iaload, 1) := by decide +kernel
theorem dX5_days_18 : decode cX5_days 18 = .ok (.iload_n 1, 1) := by decide +kernel
theorem dX5_days_19 : decode cX5_days 19 = .ok (.iadd, 1) := by decide +kernel
theorem dX5_days_20 : decode cX5_days 20 = .ok (.sipush 999, 3) := by decide +kernel
theorem dX5_days_23 : decode cX5_days 23 = .ok (.if_icmp .le 6, 3) := by decide +kernel
theorem dX5_days_26 : decode cX5_days 26 = .ok (.bipush (-3), 2) := by decide +kernel
theorem dX5_days_28 : decode cX5_days 28 = .ok (.ireturn, 1) := by decide +kernel
theorem dX5_days_29 : decode cX5_days 29 = .ok (.aload_n 0, 1) := by decide +kernel
theorem dX5_days_30 : decode cX5_days 30 = .ok (.getfield 9, 3) := by decide +kernel
theorem dX5_days_33 : decode cX5_days 33 = .ok (.iload_n 1, 1) := by decide +kernel
theorem dX5_days_34 : decode cX5_days 34 = .ok (.invokestatic 130, 3) := by decide +kernel
theorem dX5_days_37 : decode cX5_days 37 = .ok (.aload_n 0, 1) := by decide +kernel
theorem dX5_days_38 : decode cX5_days 38 = .ok (.getfield 9, 3) := by decide +kernel
theorem dX5_days_41 : decode cX5_days 41 = .ok (.iconst (-1), 1) := by decide +kernel
theorem dX5_days_42 : decode cX5_days 42 = .ok (.invokestatic 152, 3) := by decide +kernel
theorem dX5_days_45 : decode cX5_days 45 = .ok (.ireturn, 1) := by decide +kernel
theorem dX5_isLate_0 : decode cX5_isLate 0 = .ok (.iload_n 0, 1) := by decide +kernel
theorem dX5_isLate_1 : decode cX5_isLate 1 = .ok (.iconst 0, 1) := by decide +kernel
theorem dX5_isLate_2 : decode cX5_isLate 2 = .ok (.bipush 60, 2) := by decide +kernel
theorem dX5_isLate_4 : decode cX5_isLate 4 = .ok (.invokestatic 43, 3) := by decide +kernel
theorem dX5_isLate_7 : decode cX5_isLate 7 = .ok (.ireturn, 1) := by decide +kernel
theorem dX5_takes_0 : decode cX5_takes 0 = .ok (.aload_n 0, 1) := by decide +kernel
theorem dX5_takes_1 : decode cX5_takes 1 = .ok (.getfield 9, 3) := by decide +kernel
theorem dX5_takes_4 : decode cX5_takes 4 = .ok (.aload_n 0, 1) := by decide +kernel
theorem dX5_takes_5 : decode cX5_takes 5 = .ok (.getfield 13, 3) := by decide +kernel
theorem dX5_takes_8 : decode cX5_takes 8 = .ok (.invokestatic 140, 3) := by decide +kernel
theorem dX5_takes_11 : decode cX5_takes 11 = .ok (.aload_n 0, 1) := by decide +kernel
theorem dX5_takes_12 : decode cX5_takes 12 = .ok (.getfield 13, 3) := by decide +kernel
theorem dX5_takes_15 : decode cX5_takes 15 = .ok (.iconst 3, 1) := by decide +kernel
theorem dX5_takes_16 : decode cX5_takes 16 = .ok (.iconst 0, 1) := by decide +kernel
theorem dX5_takes_17 : decode cX5_takes 17 = .ok (.iastore, 1) := by decide +kernel
theorem dX5_takes_18 : decode cX5_takes 18 = .ok (.aload_n 0, 1) := by decide +kernel
theorem dX5_takes_19 : decode cX5_takes 19 = .ok (.getfield 13, 3) := by decide +kernel
theorem dX5_takes_22 : decode cX5_takes 22 = .ok (.iload_n 1, 1) := by decide +kernel
theorem dX5_takes_23 : decode cX5_takes 23 = .ok (.invokestatic 130, 3) := by decide +kernel
theorem dX5_takes_26 : decode cX5_takes 26 = .ok (.return_, 1) := by decide +kernel
theorem dX5_corporalThen_0 : decode cX5_corporalThen 0 = .ok (.aload_n 0, 1) := by decide +kernel
theorem dX5_corporalThen_1 : decode cX5_corporalThen 1 = .ok (.iload_n 1, 1) := by decide +kernel
theorem dX5_corporalThen_2 : decode cX5_corporalThen 2 = .ok (.invokevirtual 123, 3) := by decide +kernel
theorem dX5_corporalThen_5 : decode cX5_corporalThen 5 = .ok (.ifCond .eq 19, 3) := by decide +kernel
theorem dX5_corporalThen_8 : decode cX5_corporalThen 8 = .ok (.iload_n 2, 1) := by decide +kernel
theorem dX5_corporalThen_9 : decode cX5_corporalThen 9 = .ok (.invokestatic 155, 3) := by decide +kernel
theorem dX5_corporalThen_12 : decode cX5_corporalThen 12 = .ok (.ifCond .eq 12, 3) := by decide +kernel
theorem dX5_corporalThen_15 : decode cX5_corporalThen 15 = .ok (.iload_n 3, 1) := by decide +kernel
theorem dX5_corporalThen_16 : decode cX5_corporalThen 16 = .ok (.iconst 0, 1) := by decide +kernel
theorem dX5_corporalThen_17 : decode cX5_corporalThen 17 = .ok (.iconst 1, 1) := by decide +kernel
theorem dX5_corporalThen_18 : decode cX5_corporalThen 18 = .ok (.invokestatic 43, 3) := by decide +kernel
theorem dX5_corporalThen_21 : decode cX5_corporalThen 21 = .ok (.ifCond .ne 5, 3) := by decide +kernel
theorem dX5_corporalThen_24 : decode cX5_corporalThen 24 = .ok (.iconst (-1), 1) := by decide +kernel
theorem dX5_corporalThen_25 : decode cX5_corporalThen 25 = .ok (.ireturn, 1) := by decide +kernel
theorem dX5_corporalThen_26 : decode cX5_corporalThen 26 = .ok (.aload_n 0, 1) := by decide +kernel
theorem dX5_corporalThen_27 : decode cX5_corporalThen 27 = .ok (.iload_n 2, 1) := by decide +kernel
theorem dX5_corporalThen_28 : decode cX5_corporalThen 28 = .ok (.invokevirtual 158, 3) := by decide +kernel
theorem dX5_corporalThen_31 : decode cX5_corporalThen 31 = .ok (.aload_n 0, 1) := by decide +kernel
theorem dX5_corporalThen_32 : decode cX5_corporalThen 32 = .ok (.getfield 13, 3) := by decide +kernel
theorem dX5_corporalThen_35 : decode cX5_corporalThen 35 = .ok (.iload_n 1, 1) := by decide +kernel
theorem dX5_corporalThen_36 : decode cX5_corporalThen 36 = .ok (.iload_n 3, 1) := by decide +kernel
theorem dX5_corporalThen_37 : decode cX5_corporalThen 37 = .ok (.ifCond .ne 7, 3) := by decide +kernel
theorem dX5_corporalThen_40 : decode cX5_corporalThen 40 = .ok (.iconst 2, 1) := by decide +kernel
theorem dX5_corporalThen_41 : decode cX5_corporalThen 41 = .ok (.goto 4, 3) := by decide +kernel
theorem dX5_corporalThen_44 : decode cX5_corporalThen 44 = .ok (.iconst 4, 1) := by decide +kernel
theorem dX5_corporalThen_45 : decode cX5_corporalThen 45 = .ok (.invokestatic 47, 3) := by decide +kernel
theorem dX5_corporalThen_48 : decode cX5_corporalThen 48 = .ok (.iaload, 1) := by decide +kernel
theorem dX5_corporalThen_49 : decode cX5_corporalThen 49 = .ok (.ireturn, 1) := by decide +kernel
theorem dX5_dipThen_0 : decode cX5_dipThen 0 = .ok (.iload_n 1, 1) := by decide +kernel
theorem dX5_dipThen_1 : decode cX5_dipThen 1 = .ok (.invokestatic 61, 3) := by decide +kernel
theorem dX5_dipThen_4 : decode cX5_dipThen 4 = .ok (.ifCond .eq 19, 3) := by decide +kernel
theorem dX5_dipThen_7 : decode cX5_dipThen 7 = .ok (.iload_n 2, 1) := by decide +kernel
theorem dX5_dipThen_8 : decode cX5_dipThen 8 = .ok (.invokestatic 155, 3) := by decide +kernel
theorem dX5_dipThen_11 : decode cX5_dipThen 11 = .ok (.ifCond .eq 12, 3) := by decide +kernel
theorem dX5_dipThen_14 : decode cX5_dipThen 14 = .ok (.iload_n 3, 1) := by decide +kernel
theorem dX5_dipThen_15 : decode cX5_dipThen 15 = .ok (.iconst 0, 1) := by decide +kernel
theorem dX5_dipThen_16 : decode cX5_dipThen 16 = .ok (.iconst 1, 1) := by decide +kernel
theorem dX5_dipThen_17 : decode cX5_dipThen 17 = .ok (.invokestatic 43, 3) := by decide +kernel
theorem dX5_dipThen_20 : decode cX5_dipThen 20 = .ok (.ifCond .ne 5, 3) := by decide +kernel
theorem dX5_dipThen_23 : decode cX5_dipThen 23 = .ok (.iconst (-1), 1) := by decide +kernel
theorem dX5_dipThen_24 : decode cX5_dipThen 24 = .ok (.ireturn, 1) := by decide +kernel
theorem dX5_dipThen_25 : decode cX5_dipThen 25 = .ok (.aload_n 0, 1) := by decide +kernel
theorem dX5_dipThen_26 : decode cX5_dipThen 26 = .ok (.iload_n 2, 1) := by decide +kernel
theorem dX5_dipThen_27 : decode cX5_dipThen 27 = .ok (.invokevirtual 158, 3) := by decide +kernel
theorem dX5_dipThen_30 : decode cX5_dipThen 30 = .ok (.aload_n 0, 1) := by decide +kernel
theorem dX5_dipThen_31 : decode cX5_dipThen 31 = .ok (.getfield 13, 3) := by decide +kernel
theorem dX5_dipThen_34 : decode cX5_dipThen 34 = .ok (.iload_n 3, 1) := by decide +kernel
theorem dX5_dipThen_35 : decode cX5_dipThen 35 = .ok (.ifCond .ne 7, 3) := by decide +kernel
theorem dX5_dipThen_38 : decode cX5_dipThen 38 = .ok (.iconst 5, 1) := by decide +kernel
theorem dX5_dipThen_39 : decode cX5_dipThen 39 = .ok (.goto 5, 3) := by decide +kernel
theorem dX5_dipThen_42 : decode cX5_dipThen 42 = .ok (.bipush 15, 2) := by decide +kernel
theorem dX5_dipThen_44 : decode cX5_dipThen 44 = .ok (.iload_n 1, 1) := by decide +kernel
theorem dX5_dipThen_45 : decode cX5_dipThen 45 = .ok (.iadd, 1) := by decide +kernel
theorem dX5_dipThen_46 : decode cX5_dipThen 46 = .ok (.iaload, 1) := by decide +kernel
theorem dX5_dipThen_47 : decode cX5_dipThen 47 = .ok (.ireturn, 1) := by decide +kernel
theorem dX5_dipsDone_0 : decode cX5_dipsDone 0 = .ok (.iload_n 1, 1) := by decide +kernel
theorem dX5_dipsDone_1 : decode cX5_dipsDone 1 = .ok (.invokestatic 155, 3) := by decide +kernel
theorem dX5_dipsDone_4 : decode cX5_dipsDone 4 = .ok (.ifCond .ne 5, 3) := by decide +kernel
theorem dX5_dipsDone_7 : decode cX5_dipsDone 7 = .ok (.iconst (-1), 1) := by decide +kernel
theorem dX5_dipsDone_8 : decode cX5_dipsDone 8 = .ok (.ireturn, 1) := by decide +kernel
theorem dX5_dipsDone_9 : decode cX5_dipsDone 9 = .ok (.aload_n 0, 1) := by decide +kernel
theorem dX5_dipsDone_10 : decode cX5_dipsDone 10 = .ok (.iload_n 1, 1) := by decide +kernel
theorem dX5_dipsDone_11 : decode cX5_dipsDone 11 = .ok (.invokevirtual 158, 3) := by decide +kernel
theorem dX5_dipsDone_14 : decode cX5_dipsDone 14 = .ok (.aload_n 0, 1) := by decide +kernel
theorem dX5_dipsDone_15 : decode cX5_dipsDone 15 = .ok (.getfield 13, 3) := by decide +kernel
theorem dX5_dipsDone_18 : decode cX5_dipsDone 18 = .ok (.invokestatic 162, 3) := by decide +kernel
theorem dX5_dipsDone_21 : decode cX5_dipsDone 21 = .ok (.ireturn, 1) := by decide +kernel
theorem dX5_ends_0 : decode cX5_ends 0 = .ok (.iload_n 1, 1) := by decide +kernel
theorem dX5_ends_1 : decode cX5_ends 1 = .ok (.iconst (-1), 1) := by decide +kernel
theorem dX5_ends_2 : decode cX5_ends 2 = .ok (.if_icmp .eq 12, 3) := by decide +kernel
theorem dX5_ends_5 : decode cX5_ends 5 = .ok (.iload_n 1, 1) := by decide +kernel
theorem dX5_ends_6 : decode cX5_ends 6 = .ok (.invokestatic 61, 3) := by decide +kernel
theorem dX5_ends_9 : decode cX5_ends 9 = .ok (.ifCond .ne 5, 3) := by decide +kernel
theorem dX5_ends_12 : decode cX5_ends 12 = .ok (.iconst (-1), 1) := by decide +kernel
theorem dX5_ends_13 : decode cX5_ends 13 = .ok (.ireturn, 1) := by decide +kernel
theorem dX5_ends_14 : decode cX5_ends 14 = .ok (.iload_n 1, 1) := by decide +kernel
theorem dX5_ends_15 : decode cX5_ends 15 = .ok (.ifCond .ge 9, 3) := by decide +kernel
theorem dX5_ends_18 : decode cX5_ends 18 = .ok (.sipush 1023, 3) := by decide +kernel
theorem dX5_ends_21 : decode cX5_ends 21 = .ok (.goto 6, 3) := by decide +kernel
theorem dX5_ends_24 : decode cX5_ends 24 = .ok (.iconst 1, 1) := by decide +kernel
theorem dX5_ends_25 : decode cX5_ends 25 = .ok (.iload_n 1, 1) := by decide +kernel
theorem dX5_ends_26 : decode cX5_ends 26 = .ok (.ishl, 1) := by decide +kernel
theorem dX5_ends_27 : decode cX5_ends 27 = .ok (.istore_n 2, 1) := by decide +kernel
theorem dX5_ends_28 : decode cX5_ends 28 = .ok (.aload_n 0, 1) := by decide +kernel
theorem dX5_ends_29 : decode cX5_ends 29 = .ok (.getfield 9, 3) := by decide +kernel
theorem dX5_ends_32 : decode cX5_ends 32 = .ok (.aload_n 0, 1) := by decide +kernel
theorem dX5_ends_33 : decode cX5_ends 33 = .ok (.getfield 13, 3) := by decide +kernel
theorem dX5_ends_36 : decode cX5_ends 36 = .ok (.invokestatic 140, 3) := by decide +kernel
theorem dX5_ends_39 : decode cX5_ends 39 = .ok (.iconst 0, 1) := by decide +kernel
theorem dX5_ends_40 : decode cX5_ends 40 = .ok (.istore_n 3, 1) := by decide +kernel
theorem dX5_ends_41 : decode cX5_ends 41 = .ok (.iload_n 3, 1) := by decide +kernel
theorem dX5_ends_42 : decode cX5_ends 42 = .ok (.bipush 60, 2) := by decide +kernel
theorem dX5_ends_44 : decode cX5_ends 44 = .ok (.if_icmp .gt 32, 3) := by decide +kernel
theorem dX5_ends_47 : decode cX5_ends 47 = .ok (.aload_n 0, 1) := by decide +kernel
theorem dX5_ends_48 : decode cX5_ends 48 = .ok (.getfield 13, 3) := by decide +kernel
theorem dX5_ends_51 : decode cX5_ends 51 = .ok (.invokestatic 162, 3) := by decide +kernel
theorem dX5_ends_54 : decode cX5_ends 54 = .ok (.iload_n 2, 1) := by decide +kernel
theorem dX5_ends_55 : decode cX5_ends 55 = .ok (.iand, 1) := by decide +kernel
theorem dX5_ends_56 : decode cX5_ends 56 = .ok (.iload_n 2, 1) := by decide +kernel
theorem dX5_ends_57 : decode cX5_ends 57 = .ok (.if_icmp .ne 5, 3) := by decide +kernel
theorem dX5_ends_60 : decode cX5_ends 60 = .ok (.iload_n 3, 1) := by decide +kernel
theorem dX5_ends_61 : decode cX5_ends 61 = .ok (.ireturn, 1) := by decide +kernel
theorem dX5_ends_62 : decode cX5_ends 62 = .ok (.aload_n 0, 1) := by decide +kernel
theorem dX5_ends_63 : decode cX5_ends 63 = .ok (.getfield 13, 3) := by decide +kernel
theorem dX5_ends_66 : decode cX5_ends 66 = .ok (.iconst 1, 1) := by decide +kernel
theorem dX5_ends_67 : decode cX5_ends 67 = .ok (.invokestatic 130, 3) := by decide +kernel
theorem dX5_ends_70 : decode cX5_ends 70 = .ok (.iinc 3 1, 3) := by decide +kernel
theorem dX5_ends_73 : decode cX5_ends 73 = .ok (.goto (-32), 3) := by decide +kernel
theorem dX5_ends_76 : decode cX5_ends 76 = .ok (.bipush (-4), 2) := by decide +kernel
theorem dX5_ends_78 : decode cX5_ends 78 = .ok (.ireturn, 1) := by decide +kernel
theorem dX5_meet_0 : decode cX5_meet 0 = .ok (.aload_n 0, 1) := by decide +kernel
theorem dX5_meet_1 : decode cX5_meet 1 = .ok (.iload_n 1, 1) := by decide +kernel
theorem dX5_meet_2 : decode cX5_meet 2 = .ok (.invokevirtual 123, 3) := by decide +kernel
theorem dX5_meet_5 : decode cX5_meet 5 = .ok (.ifCond .eq 16, 3) := by decide +kernel
theorem dX5_meet_8 : decode cX5_meet 8 = .ok (.aload_n 0, 1) := by decide +kernel
theorem dX5_meet_9 : decode cX5_meet 9 = .ok (.iload_n 2, 1) := by decide +kernel
theorem dX5_meet_10 : decode cX5_meet 10 = .ok (.invokevirtual 123, 3) := by decide +kernel
theorem dX5_meet_13 : decode cX5_meet 13 = .ok (.ifCond .eq 8, 3) := by decide +kernel
theorem dX5_meet_16 : decode cX5_meet 16 = .ok (.iload_n 1, 1) := by decide +kernel
theorem dX5_meet_17 : decode cX5_meet 17 = .ok (.iload_n 2, 1) := by decide +kernel
theorem dX5_meet_18 : decode cX5_meet 18 = .ok (.if_icmp .ne 5, 3) := by decide +kernel
theorem dX5_meet_21 : decode cX5_meet 21 = .ok (.iconst (-1), 1) := by decide +kernel
theorem dX5_meet_22 : decode cX5_meet 22 = .ok (.ireturn, 1) := by decide +kernel
theorem dX5_meet_23 : decode cX5_meet 23 = .ok (.aload_n 0, 1) := by decide +kernel
theorem dX5_meet_24 : decode cX5_meet 24 = .ok (.getfield 9, 3) := by decide +kernel
theorem dX5_meet_27 : decode cX5_meet 27 = .ok (.aload_n 0, 1) := by decide +kernel
theorem dX5_meet_28 : decode cX5_meet 28 = .ok (.getfield 13, 3) := by decide +kernel
theorem dX5_meet_31 : decode cX5_meet 31 = .ok (.invokestatic 140, 3) := by decide +kernel
theorem dX5_meet_34 : decode cX5_meet 34 = .ok (.iconst 0, 1) := by decide +kernel
theorem dX5_meet_35 : decode cX5_meet 35 = .ok (.istore_n 3, 1) := by decide +kernel
theorem dX5_meet_36 : decode cX5_meet 36 = .ok (.iload_n 3, 1) := by decide +kernel
theorem dX5_meet_37 : decode cX5_meet 37 = .ok (.bipush 60, 2) := by decide +kernel
theorem dX5_meet_39 : decode cX5_meet 39 = .ok (.if_icmp .gt 48, 3) := by decide +kernel
theorem dX5_meet_42 : decode cX5_meet 42 = .ok (.aload_n 0, 1) := by decide +kernel
theorem dX5_meet_43 : decode cX5_meet 43 = .ok (.getfield 13, 3) := by decide +kernel
theorem dX5_meet_46 : decode cX5_meet 46 = .ok (.iload_n 1, 1) := by decide +kernel
theorem dX5_meet_47 : decode cX5_meet 47 = .ok (.iconst 2, 1) := by decide +kernel
theorem dX5_meet_48 : decode cX5_meet 48 = .ok (.invokestatic 47, 3) := by decide +kernel
theorem dX5_meet_51 : decode cX5_meet 51 = .ok (.iaload, 1) := by decide +kernel
theorem dX5_meet_52 : decode cX5_meet 52 = .ok (.aload_n 0, 1) := by decide +kernel
theorem dX5_meet_53 : decode cX5_meet 53 = .ok (.getfield 13, 3) := by decide +kernel
theorem dX5_meet_56 : decode cX5_meet 56 = .ok (.iload_n 2, 1) := by decide +kernel
theorem dX5_meet_57 : decode cX5_meet 57 = .ok (.iconst 2, 1) := by decide +kernel
theorem dX5_meet_58 : decode cX5_meet 58 = .ok (.invokestatic 47, 3) := by decide +kernel
theorem dX5_meet_61 : decode cX5_meet 61 = .ok (.iaload, 1) := by decide +kernel
theorem dX5_meet_62 : decode cX5_meet 62 = .ok (.isub, 1) := by decide +kernel
theorem dX5_meet_63 : decode cX5_meet 63 = .ok (.iconst (-1), 1) := by decide +kernel
theorem dX5_meet_64 : decode cX5_meet 64 = .ok (.iconst 1, 1) := by decide +kernel
theorem dX5_meet_65 : decode cX5_meet 65 = .ok (.invokestatic 43, 3) := by decide +kernel
theorem dX5_meet_68 : decode cX5_meet 68 = .ok (.ifCond .eq 5, 3) := by decide +kernel
theorem dX5_meet_71 : decode cX5_meet 71 = .ok (.iload_n 3, 1) := by decide +kernel
theorem dX5_meet_72 : decode cX5_meet 72 = .ok (.ireturn, 1) := by decide +kernel
theorem dX5_meet_73 : decode cX5_meet 73 = .ok (.aload_n 0, 1) := by decide +kernel
theorem dX5_meet_74 : decode cX5_meet 74 = .ok (.getfield 13, 3) := by decide +kernel
theorem dX5_meet_77 : decode cX5_meet 77 = .ok (.iconst 1, 1) := by decide +kernel
theorem dX5_meet_78 : decode cX5_meet 78 = .ok (.invokestatic 130, 3) := by decide +kernel
theorem dX5_meet_81 : decode cX5_meet 81 = .ok (.iinc 3 1, 3) := by decide +kernel
theorem dX5_meet_84 : decode cX5_meet 84 = .ok (.goto (-48), 3) := by decide +kernel
theorem dX5_meet_87 : decode cX5_meet 87 = .ok (.bipush (-4), 2) := by decide +kernel
theorem dX5_meet_89 : decode cX5_meet 89 = .ok (.ireturn, 1) := by decide +kernel
theorem dX5_line_0 : decode cX5_line 0 = .ok (.iload_n 1, 1) := by decide +kernel
theorem dX5_line_1 : decode cX5_line 1 = .ok (.invokestatic 155, 3) := by decide +kernel
theorem dX5_line_4 : decode cX5_line 4 = .ok (.ifCond .ne 5, 3) := by decide +kernel
theorem dX5_line_7 : decode cX5_line 7 = .ok (.iconst (-1), 1) := by decide +kernel
theorem dX5_line_8 : decode cX5_line 8 = .ok (.ireturn, 1) := by decide +kernel
theorem dX5_line_9 : decode cX5_line 9 = .ok (.aload_n 0, 1) := by decide +kernel
theorem dX5_line_10 : decode cX5_line 10 = .ok (.iload_n 1, 1) := by decide +kernel
theorem dX5_line_11 : decode cX5_line 11 = .ok (.invokevirtual 158, 3) := by decide +kernel
theorem dX5_line_14 : decode cX5_line 14 = .ok (.iconst 0, 1) := by decide +kernel
theorem dX5_line_15 : decode cX5_line 15 = .ok (.istore_n 2, 1) := by decide +kernel
theorem dX5_line_16 : decode cX5_line 16 = .ok (.bipush 9, 2) := by decide +kernel
theorem dX5_line_18 : decode cX5_line 18 = .ok (.istore_n 3, 1) := by decide +kernel
theorem dX5_line_19 : decode cX5_line 19 = .ok (.iconst 0, 1) := by decide +kernel
theorem dX5_line_20 : decode cX5_line 20 = .ok (.istore 4, 2) := by decide +kernel
theorem dX5_line_22 : decode cX5_line 22 = .ok (.iload 4, 2) := by decide +kernel
theorem dX5_line_24 : decode cX5_line 24 = .ok (.aload_n 0, 1) := by decide +kernel
theorem dX5_line_25 : decode cX5_line 25 = .ok (.getfield 13, 3) := by decide +kernel
theorem dX5_line_28 : decode cX5_line 28 = .ok (.iconst 0, 1) := by decide +kernel
theorem dX5_line_29 : decode cX5_line 29 = .ok (.iaload, 1) := by decide +kernel
theorem dX5_line_30 : decode cX5_line 30 = .ok (.if_icmp .ge 53, 3) := by decide +kernel
theorem dX5_line_33 : decode cX5_line 33 = .ok (.aload_n 0, 1) := by decide +kernel
theorem dX5_line_34 : decode cX5_line 34 = .ok (.getfield 13, 3) := by decide +kernel
theorem dX5_line_37 : decode cX5_line 37 = .ok (.iload 4, 2) := by decide +kernel
theorem dX5_line_39 : decode cX5_line 39 = .ok (.iconst 2, 1) := by decide +kernel
theorem dX5_line_40 : decode cX5_line 40 = .ok (.invokestatic 47, 3) := by decide +kernel
theorem dX5_line_43 : decode cX5_line 43 = .ok (.iaload, 1) := by decide +kernel
theorem dX5_line_44 : decode cX5_line 44 = .ok (.istore 5, 2) := by decide +kernel
theorem dX5_line_46 : decode cX5_line 46 = .ok (.aload_n 0, 1) := by decide +kernel
theorem dX5_line_47 : decode cX5_line 47 = .ok (.getfield 13, 3) := by decide +kernel
theorem dX5_line_50 : decode cX5_line 50 = .ok (.iload 4, 2) := by decide +kernel
theorem dX5_line_52 : decode cX5_line 52 = .ok (.iconst 3, 1) := by decide +kernel
theorem dX5_line_53 : decode cX5_line 53 = .ok (.invokestatic 47, 3) := by decide +kernel
theorem dX5_line_56 : decode cX5_line 56 = .ok (.iaload, 1) := by decide +kernel
theorem dX5_line_57 : decode cX5_line 57 = .ok (.ifCond .ne 13, 3) := by decide +kernel
theorem dX5_line_60 : decode cX5_line 60 = .ok (.iload_n 2, 1) := by decide +kernel
theorem dX5_line_61 : decode cX5_line 61 = .ok (.iload 5, 2) := by decide +kernel
theorem dX5_line_63 : decode cX5_line 63 = .ok (.invokestatic 58, 3) := by decide +kernel
theorem dX5_line_66 : decode cX5_line 66 = .ok (.istore_n 2, 1) := by decide +kernel
theorem dX5_line_67 : decode cX5_line 67 = .ok (.goto 10, 3) := by decide +kernel
theorem dX5_line_70 : decode cX5_line 70 = .ok (.iload_n 3, 1) := by decide +kernel
theorem dX5_line_71 : decode cX5_line 71 = .ok (.iload 5, 2) := by decide +kernel
theorem dX5_line_73 : decode cX5_line 73 = .ok (.invokestatic 55, 3) := by decide +kernel
theorem dX5_line_76 : decode cX5_line 76 = .ok (.istore_n 3, 1) := by decide +kernel
theorem dX5_line_77 : decode cX5_line 77 = .ok (.iinc 4 1, 3) := by decide +kernel
theorem dX5_line_80 : decode cX5_line 80 = .ok (.goto (-58), 3) := by decide +kernel
theorem dX5_line_83 : decode cX5_line 83 = .ok (.bipush 10, 2) := by decide +kernel
theorem dX5_line_85 : decode cX5_line 85 = .ok (.iload_n 2, 1) := by decide +kernel
theorem dX5_line_86 : decode cX5_line 86 = .ok (.imul, 1) := by decide +kernel
theorem dX5_line_87 : decode cX5_line 87 = .ok (.iload_n 3, 1) := by decide +kernel
theorem dX5_line_88 : decode cX5_line 88 = .ok (.iadd, 1) := by decide +kernel
theorem dX5_line_89 : decode cX5_line 89 = .ok (.ireturn, 1) := by decide +kernel
theorem dX5_treaty_0 : decode cX5_treaty 0 = .ok (.iload_n 1, 1) := by decide +kernel
theorem dX5_treaty_1 : decode cX5_treaty 1 = .ok (.invokestatic 155, 3) := by decide +kernel
theorem dX5_treaty_4 : decode cX5_treaty 4 = .ok (.ifCond .ne 6, 3) := by decide +kernel
theorem dX5_treaty_7 : decode cX5_treaty 7 = .ok (.ldc 151, 2) := by decide +kernel
theorem dX5_treaty_9 : decode cX5_treaty 9 = .ok (.ireturn, 1) := by decide +kernel
theorem dX5_treaty_10 : decode cX5_treaty 10 = .ok (.aload_n 0, 1) := by decide +kernel
theorem dX5_treaty_11 : decode cX5_treaty 11 = .ok (.iload_n 1, 1) := by decide +kernel
theorem dX5_treaty_12 : decode cX5_treaty 12 = .ok (.invokevirtual 158, 3) := by decide +kernel
theorem dX5_treaty_15 : decode cX5_treaty 15 = .ok (.aload_n 0, 1) := by decide +kernel
theorem dX5_treaty_16 : decode cX5_treaty 16 = .ok (.getfield 13, 3) := by decide +kernel
theorem dX5_treaty_19 : decode cX5_treaty 19 = .ok (.iconst 0, 1) := by decide +kernel
theorem dX5_treaty_20 : decode cX5_treaty 20 = .ok (.invokestatic 152, 3) := by decide +kernel
theorem dX5_treaty_23 : decode cX5_treaty 23 = .ok (.aload_n 0, 1) := by decide +kernel
theorem dX5_treaty_24 : decode cX5_treaty 24 = .ok (.getfield 13, 3) := by decide +kernel
theorem dX5_treaty_27 : decode cX5_treaty 27 = .ok (.iconst 1, 1) := by decide +kernel
theorem dX5_treaty_28 : decode cX5_treaty 28 = .ok (.invokestatic 152, 3) := by decide +kernel
theorem dX5_treaty_31 : decode cX5_treaty 31 = .ok (.isub, 1) := by decide +kernel
theorem dX5_treaty_32 : decode cX5_treaty 32 = .ok (.ireturn, 1) := by decide +kernel
theorem dX5_bestWind_0 : decode cX5_bestWind 0 = .ok (.iload_n 1, 1) := by decide +kernel
theorem dX5_bestWind_1 : decode cX5_bestWind 1 = .ok (.invokestatic 155, 3) := by decide +kernel
theorem dX5_bestWind_4 : decode cX5_bestWind 4 = .ok (.ifCond .eq 12, 3) := by decide +kernel
theorem dX5_bestWind_7 : decode cX5_bestWind 7 = .ok (.iload_n 2, 1) := by decide +kernel
theorem dX5_bestWind_8 : decode cX5_bestWind 8 = .ok (.iconst 0, 1) := by decide +kernel
theorem dX5_bestWind_9 : decode cX5_bestWind 9 = .ok (.iconst 1, 1) := by decide +kernel
theorem dX5_bestWind_10 : decode cX5_bestWind 10 = .ok (.invokestatic 43, 3) := by decide +kernel
theorem dX5_bestWind_13 : decode cX5_bestWind 13 = .ok (.ifCond .ne 6, 3) := by decide +kernel
theorem dX5_bestWind_16 : decode cX5_bestWind 16 = .ok (.ldc 151, 2) := by decide +kernel
theorem dX5_bestWind_18 : decode cX5_bestWind 18 = .ok (.ireturn, 1) := by decide +kernel
theorem dX5_bestWind_19 : decode cX5_bestWind 19 = .ok (.iconst 0, 1) := by decide +kernel
theorem dX5_bestWind_20 : decode cX5_bestWind 20 = .ok (.istore_n 3, 1) := by decide +kernel
theorem dX5_bestWind_21 : decode cX5_bestWind 21 = .ok (.iconst (-1), 1) := by decide +kernel
theorem dX5_bestWind_22 : decode cX5_bestWind 22 = .ok (.istore 4, 2) := by decide +kernel
theorem dX5_bestWind_24 : decode cX5_bestWind 24 = .ok (.bipush (-9), 2) := by decide +kernel
theorem dX5_bestWind_26 : decode cX5_bestWind 26 = .ok (.istore 5, 2) := by decide +kernel
theorem dX5_bestWind_28 : decode cX5_bestWind 28 = .ok (.iload 5, 2) := by decide +kernel
theorem dX5_bestWind_30 : decode cX5_bestWind 30 = .ok (.bipush 10, 2) := by decide +kernel
theorem dX5_bestWind_32 : decode cX5_bestWind 32 = .ok (.if_icmp .ge 65, 3) := by decide +kernel
theorem dX5_bestWind_35 : decode cX5_bestWind 35 = .ok (.aload_n 0, 1) := by decide +kernel
theorem dX5_bestWind_36 : decode cX5_bestWind 36 = .ok (.getfield 9, 3) := by decide +kernel
theorem dX5_bestWind_39 : decode cX5_bestWind 39 = .ok (.aload_n 0, 1) := by decide +kernel
theorem dX5_bestWind_40 : decode cX5_bestWind 40 = .ok (.getfield 13, 3) := by decide +kernel
theorem dX5_bestWind_43 : decode cX5_bestWind 43 = .ok (.invokestatic 140, 3) := by decide +kernel
theorem dX5_bestWind_46 : decode cX5_bestWind 46 = .ok (.aload_n 0, 1) := by decide +kernel
theorem dX5_bestWind_47 : decode cX5_bestWind 47 = .ok (.getfield 13, 3) := by decide +kernel
theorem dX5_bestWind_50 : decode cX5_bestWind 50 = .ok (.iconst 2, 1) := by decide +kernel
theorem dX5_bestWind_51 : decode cX5_bestWind 51 = .ok (.iload 5, 2) := by decide +kernel
theorem dX5_bestWind_53 : decode cX5_bestWind 53 = .ok (.iastore, 1) := by decide +kernel
theorem dX5_bestWind_54 : decode cX5_bestWind 54 = .ok (.aload_n 0, 1) := by decide +kernel
theorem dX5_bestWind_55 : decode cX5_bestWind 55 = .ok (.getfield 13, 3) := by decide +kernel
theorem dX5_bestWind_58 : decode cX5_bestWind 58 = .ok (.iload_n 1, 1) := by decide +kernel
theorem dX5_bestWind_59 : decode cX5_bestWind 59 = .ok (.invokestatic 130, 3) := by decide +kernel
theorem dX5_bestWind_62 : decode cX5_bestWind 62 = .ok (.aload_n 0, 1) := by decide +kernel
theorem dX5_bestWind_63 : decode cX5_bestWind 63 = .ok (.getfield 13, 3) := by decide +kernel
theorem dX5_bestWind_66 : decode cX5_bestWind 66 = .ok (.iconst (-1), 1) := by decide +kernel
theorem dX5_bestWind_67 : decode cX5_bestWind 67 = .ok (.invokestatic 152, 3) := by decide +kernel
theorem dX5_bestWind_70 : decode cX5_bestWind 70 = .ok (.iload 4, 2) := by decide +kernel
theorem dX5_bestWind_72 : decode cX5_bestWind 72 = .ok (.if_icmp .gt 6, 3) := by decide +kernel
theorem dX5_bestWind_75 : decode cX5_bestWind 75 = .ok (.goto 16, 3) := by decide +kernel
theorem dX5_bestWind_78 : decode cX5_bestWind 78 = .ok (.iload 5, 2) := by decide +kernel
theorem dX5_bestWind_80 : decode cX5_bestWind 80 = .ok (.istore_n 3, 1) := by decide +kernel
theorem dX5_bestWind_81 : decode cX5_bestWind 81 = .ok (.aload_n 0, 1) := by decide +kernel
theorem dX5_bestWind_82 : decode cX5_bestWind 82 = .ok (.getfield 13, 3) := by decide +kernel
theorem dX5_bestWind_85 : decode cX5_bestWind 85 = .ok (.iconst (-1), 1) := by decide +kernel
theorem dX5_bestWind_86 : decode cX5_bestWind 86 = .ok (.invokestatic 152, 3) := by decide +kernel
theorem dX5_bestWind_89 : decode cX5_bestWind 89 = .ok (.istore 4, 2) := by decide +kernel
theorem dX5_bestWind_91 : decode cX5_bestWind 91 = .ok (.iinc 5 1, 3) := by decide +kernel
theorem dX5_bestWind_94 : decode cX5_bestWind 94 = .ok (.goto (-66), 3) := by decide +kernel
theorem dX5_bestWind_97 : decode cX5_bestWind 97 = .ok (.iload_n 2, 1) := by decide +kernel
theorem dX5_bestWind_98 : decode cX5_bestWind 98 = .ok (.ifCond .ne 7, 3) := by decide +kernel
theorem dX5_bestWind_101 : decode cX5_bestWind 101 = .ok (.iload_n 3, 1) := by decide +kernel
theorem dX5_bestWind_102 : decode cX5_bestWind 102 = .ok (.goto 5, 3) := by decide +kernel
theorem dX5_bestWind_105 : decode cX5_bestWind 105 = .ok (.iload 4, 2) := by decide +kernel
theorem dX5_bestWind_107 : decode cX5_bestWind 107 = .ok (.ireturn, 1) := by decide +kernel
theorem dX5_send_0 : decode cX5_send 0 = .ok (.aload_n 0, 1) := by decide +kernel
theorem dX5_send_1 : decode cX5_send 1 = .ok (.iload_n 1, 1) := by decide +kernel
theorem dX5_send_2 : decode cX5_send 2 = .ok (.invokevirtual 123, 3) := by decide +kernel
theorem dX5_send_5 : decode cX5_send 5 = .ok (.ifCond .eq 19, 3) := by decide +kernel
theorem dX5_send_8 : decode cX5_send 8 = .ok (.iload_n 2, 1) := by decide +kernel
theorem dX5_send_9 : decode cX5_send 9 = .ok (.invokestatic 155, 3) := by decide +kernel
theorem dX5_send_12 : decode cX5_send 12 = .ok (.ifCond .eq 12, 3) := by decide +kernel
theorem dX5_send_15 : decode cX5_send 15 = .ok (.iload_n 3, 1) := by decide +kernel
theorem dX5_send_16 : decode cX5_send 16 = .ok (.iconst 0, 1) := by decide +kernel
theorem dX5_send_17 : decode cX5_send 17 = .ok (.iconst 1, 1) := by decide +kernel
theorem dX5_send_18 : decode cX5_send 18 = .ok (.invokestatic 43, 3) := by decide +kernel
theorem dX5_send_21 : decode cX5_send 21 = .ok (.ifCond .ne 5, 3) := by decide +kernel
theorem dX5_send_24 : decode cX5_send 24 = .ok (.iconst (-1), 1) := by decide +kernel
theorem dX5_send_25 : decode cX5_send 25 = .ok (.ireturn, 1) := by decide +kernel
theorem dX5_send_26 : decode cX5_send 26 = .ok (.iconst 0, 1) := by decide +kernel
theorem dX5_send_27 : decode cX5_send 27 = .ok (.istore 4, 2) := by decide +kernel
theorem dX5_send_29 : decode cX5_send 29 = .ok (.iconst (-1), 1) := by decide +kernel
theorem dX5_send_30 : decode cX5_send 30 = .ok (.istore 5, 2) := by decide +kernel
theorem dX5_send_32 : decode cX5_send 32 = .ok (.iconst 0, 1) := by decide +kernel
theorem dX5_send_33 : decode cX5_send 33 = .ok (.istore 6, 2) := by decide +kernel
theorem dX5_send_35 : decode cX5_send 35 = .ok (.iload 6, 2) := by decide +kernel
theorem dX5_send_37 : decode cX5_send 37 = .ok (.bipush 10, 2) := by decide +kernel
theorem dX5_send_39 : decode cX5_send 39 = .ok (.if_icmp .ge 74, 3) := by decide +kernel
theorem dX5_send_42 : decode cX5_send 42 = .ok (.aload_n 0, 1) := by decide +kernel
theorem dX5_send_43 : decode cX5_send 43 = .ok (.getfield 9, 3) := by decide +kernel
theorem dX5_send_46 : decode cX5_send 46 = .ok (.aload_n 0, 1) := by decide +kernel
theorem dX5_send_47 : decode cX5_send 47 = .ok (.getfield 13, 3) := by decide +kernel
theorem dX5_send_50 : decode cX5_send 50 = .ok (.invokestatic 140, 3) := by decide +kernel
theorem dX5_send_53 : decode cX5_send 53 = .ok (.aload_n 0, 1) := by decide +kernel
theorem dX5_send_54 : decode cX5_send 54 = .ok (.getfield 13, 3) := by decide +kernel
theorem dX5_send_57 : decode cX5_send 57 = .ok (.iload_n 1, 1) := by decide +kernel
theorem dX5_send_58 : decode cX5_send 58 = .ok (.iconst 2, 1) := by decide +kernel
theorem dX5_send_59 : decode cX5_send 59 = .ok (.invokestatic 47, 3) := by decide +kernel
theorem dX5_send_62 : decode cX5_send 62 = .ok (.iload 6, 2) := by decide +kernel
theorem dX5_send_64 : decode cX5_send 64 = .ok (.iastore, 1) := by decide +kernel
theorem dX5_send_65 : decode cX5_send 65 = .ok (.aload_n 0, 1) := by decide +kernel
theorem dX5_send_66 : decode cX5_send 66 = .ok (.getfield 13, 3) := by decide +kernel
theorem dX5_send_69 : decode cX5_send 69 = .ok (.iload_n 2, 1) := by decide +kernel
theorem dX5_send_70 : decode cX5_send 70 = .ok (.invokestatic 130, 3) := by decide +kernel
theorem dX5_send_73 : decode cX5_send 73 = .ok (.aload_n 0, 1) := by decide +kernel
theorem dX5_send_74 : decode cX5_send 74 = .ok (.getfield 13, 3) := by decide +kernel
theorem dX5_send_77 : decode cX5_send 77 = .ok (.invokestatic 162, 3) := by decide +kernel
theorem dX5_send_80 : decode cX5_send 80 = .ok (.invokestatic 166, 3) := by decide +kernel
theorem dX5_send_83 : decode cX5_send 83 = .ok (.iload 5, 2) := by decide +kernel
theorem dX5_send_85 : decode cX5_send 85 = .ok (.if_icmp .gt 6, 3) := by decide +kernel
theorem dX5_send_88 : decode cX5_send 88 = .ok (.goto 19, 3) := by decide +kernel
theorem dX5_send_91 : decode cX5_send 91 = .ok (.iload 6, 2) := by decide +kernel
theorem dX5_send_93 : decode cX5_send 93 = .ok (.istore 4, 2) := by decide +kernel
theorem dX5_send_95 : decode cX5_send 95 = .ok (.aload_n 0, 1) := by decide +kernel
theorem dX5_send_96 : decode cX5_send 96 = .ok (.getfield 13, 3) := by decide +kernel
theorem dX5_send_99 : decode cX5_send 99 = .ok (.invokestatic 162, 3) := by decide +kernel
theorem dX5_send_102 : decode cX5_send 102 = .ok (.invokestatic 166, 3) := by decide +kernel
theorem dX5_send_105 : decode cX5_send 105 = .ok (.istore 5, 2) := by decide +kernel
theorem dX5_send_107 : decode cX5_send 107 = .ok (.iinc 6 1, 3) := by decide +kernel
theorem dX5_send_110 : decode cX5_send 110 = .ok (.goto (-75), 3) := by decide +kernel
theorem dX5_send_113 : decode cX5_send 113 = .ok (.iload_n 3, 1) := by decide +kernel
theorem dX5_send_114 : decode cX5_send 114 = .ok (.ifCond .ne 8, 3) := by decide +kernel
theorem dX5_send_117 : decode cX5_send 117 = .ok (.iload 4, 2) := by decide +kernel
theorem dX5_send_119 : decode cX5_send 119 = .ok (.goto 5, 3) := by decide +kernel
theorem dX5_send_122 : decode cX5_send 122 = .ok (.iload 5, 2) := by decide +kernel
theorem dX5_send_124 : decode cX5_send 124 = .ok (.ireturn, 1) := by decide +kernel
theorem dX5_idle_0 : decode cX5_idle 0 = .ok (.iload_n 1, 1) := by decide +kernel
theorem dX5_idle_1 : decode cX5_idle 1 = .ok (.invokestatic 155, 3) := by decide +kernel
theorem dX5_idle_4 : decode cX5_idle 4 = .ok (.ifCond .ne 5, 3) := by decide +kernel
theorem dX5_idle_7 : decode cX5_idle 7 = .ok (.iconst (-1), 1) := by decide +kernel
theorem dX5_idle_8 : decode cX5_idle 8 = .ok (.ireturn, 1) := by decide +kernel
theorem dX5_idle_9 : decode cX5_idle 9 = .ok (.aload_n 0, 1) := by decide +kernel
theorem dX5_idle_10 : decode cX5_idle 10 = .ok (.iload_n 1, 1) := by decide +kernel
theorem dX5_idle_11 : decode cX5_idle 11 = .ok (.invokevirtual 158, 3) := by decide +kernel
theorem dX5_idle_14 : decode cX5_idle 14 = .ok (.aload_n 0, 1) := by decide +kernel
theorem dX5_idle_15 : decode cX5_idle 15 = .ok (.getfield 13, 3) := by decide +kernel
theorem dX5_idle_18 : decode cX5_idle 18 = .ok (.iconst (-1), 1) := by decide +kernel
theorem dX5_idle_19 : decode cX5_idle 19 = .ok (.invokestatic 152, 3) := by decide +kernel
theorem dX5_idle_22 : decode cX5_idle 22 = .ok (.istore_n 2, 1) := by decide +kernel
theorem dX5_idle_23 : decode cX5_idle 23 = .ok (.iconst 0, 1) := by decide +kernel
theorem dX5_idle_24 : decode cX5_idle 24 = .ok (.istore_n 3, 1) := by decide +kernel
theorem dX5_idle_25 : decode cX5_idle 25 = .ok (.iload_n 3, 1) := by decide +kernel
theorem dX5_idle_26 : decode cX5_idle 26 = .ok (.aload_n 0, 1) := by decide +kernel
theorem dX5_idle_27 : decode cX5_idle 27 = .ok (.getfield 9, 3) := by decide +kernel
theorem dX5_idle_30 : decode cX5_idle 30 = .ok (.iconst 0, 1) := by decide +kernel
theorem dX5_idle_31 : decode cX5_idle 31 = .ok (.iaload, 1) := by decide +kernel
theorem dX5_idle_32 : decode cX5_idle 32 = .ok (.if_icmp .ge 53, 3) := by decide +kernel
theorem dX5_idle_35 : decode cX5_idle 35 = .ok (.aload_n 0, 1) := by decide +kernel
theorem dX5_idle_36 : decode cX5_idle 36 = .ok (.getfield 9, 3) := by decide +kernel
theorem dX5_idle_39 : decode cX5_idle 39 = .ok (.aload_n 0, 1) := by decide +kernel
theorem dX5_idle_40 : decode cX5_idle 40 = .ok (.getfield 13, 3) := by decide +kernel
theorem dX5_idle_43 : decode cX5_idle 43 = .ok (.invokestatic 140, 3) := by decide +kernel
theorem dX5_idle_46 : decode cX5_idle 46 = .ok (.aload_n 0, 1) := by decide +kernel
theorem dX5_idle_47 : decode cX5_idle 47 = .ok (.getfield 13, 3) := by decide +kernel
theorem dX5_idle_50 : decode cX5_idle 50 = .ok (.iload_n 3, 1) := by decide +kernel
theorem dX5_idle_51 : decode cX5_idle 51 = .ok (.iconst 5, 1) := by decide +kernel
theorem dX5_idle_52 : decode cX5_idle 52 = .ok (.invokestatic 47, 3) := by decide +kernel
theorem dX5_idle_55 : decode cX5_idle 55 = .ok (.iconst 1, 1) := by decide +kernel
theorem dX5_idle_56 : decode cX5_idle 56 = .ok (.iastore, 1) := by decide +kernel
theorem dX5_idle_57 : decode cX5_idle 57 = .ok (.aload_n 0, 1) := by decide +kernel
theorem dX5_idle_58 : decode cX5_idle 58 = .ok (.getfield 13, 3) := by decide +kernel
theorem dX5_idle_61 : decode cX5_idle 61 = .ok (.iload_n 1, 1) := by decide +kernel
theorem dX5_idle_62 : decode cX5_idle 62 = .ok (.invokestatic 130, 3) := by decide +kernel
theorem dX5_idle_65 : decode cX5_idle 65 = .ok (.aload_n 0, 1) := by decide +kernel
theorem dX5_idle_66 : decode cX5_idle 66 = .ok (.getfield 13, 3) := by decide +kernel
theorem dX5_idle_69 : decode cX5_idle 69 = .ok (.iconst (-1), 1) := by decide +kernel
theorem dX5_idle_70 : decode cX5_idle 70 = .ok (.invokestatic 152, 3) := by decide +kernel
theorem dX5_idle_73 : decode cX5_idle 73 = .ok (.iload_n 2, 1) := by decide +kernel
theorem dX5_idle_74 : decode cX5_idle 74 = .ok (.if_icmp .lt 5, 3) := by decide +kernel
theorem dX5_idle_77 : decode cX5_idle 77 = .ok (.iload_n 3, 1) := by decide +kernel
theorem dX5_idle_78 : decode cX5_idle 78 = .ok (.ireturn, 1) := by decide +kernel
theorem dX5_idle_79 : decode cX5_idle 79 = .ok (.iinc 3 1, 3) := by decide +kernel
theorem dX5_idle_82 : decode cX5_idle 82 = .ok (.goto (-57), 3) := by decide +kernel
theorem dX5_idle_85 : decode cX5_idle 85 = .ok (.bipush (-4), 2) := by decide +kernel
theorem dX5_idle_87 : decode cX5_idle 87 = .ok (.ireturn, 1) := by decide +kernel
theorem dX5_slowest_0 : decode cX5_slowest 0 = .ok (.iload_n 1, 1) := by decide +kernel
theorem dX5_slowest_1 : decode cX5_slowest 1 = .ok (.invokestatic 155, 3) := by decide +kernel
theorem dX5_slowest_4 : decode cX5_slowest 4 = .ok (.ifCond .ne 5, 3) := by decide +kernel
theorem dX5_slowest_7 : decode cX5_slowest 7 = .ok (.iconst (-1), 1) := by decide +kernel
theorem dX5_slowest_8 : decode cX5_slowest 8 = .ok (.ireturn, 1) := by decide +kernel
theorem dX5_slowest_9 : decode cX5_slowest 9 = .ok (.aload_n 0, 1) := by decide +kernel
theorem dX5_slowest_10 : decode cX5_slowest 10 = .ok (.iload_n 1, 1) := by decide +kernel
theorem dX5_slowest_11 : decode cX5_slowest 11 = .ok (.invokevirtual 158, 3) := by decide +kernel
theorem dX5_slowest_14 : decode cX5_slowest 14 = .ok (.bipush (-4), 2) := by decide +kernel
theorem dX5_slowest_16 : decode cX5_slowest 16 = .ok (.istore_n 2, 1) := by decide +kernel
theorem dX5_slowest_17 : decode cX5_slowest 17 = .ok (.ldc 169, 2) := by decide +kernel
theorem dX5_slowest_19 : decode cX5_slowest 19 = .ok (.istore_n 3, 1) := by decide +kernel
theorem dX5_slowest_20 : decode cX5_slowest 20 = .ok (.iconst 0, 1) := by decide +kernel
theorem dX5_slowest_21 : decode cX5_slowest 21 = .ok (.istore 4, 2) := by decide +kernel
theorem dX5_slowest_23 : decode cX5_slowest 23 = .ok (.iload 4, 2) := by decide +kernel
theorem dX5_slowest_25 : decode cX5_slowest 25 = .ok (.aload_n 0, 1) := by decide +kernel
theorem dX5_slowest_26 : decode cX5_slowest 26 = .ok (.getfield 9, 3) := by decide +kernel
theorem dX5_slowest_29 : decode cX5_slowest 29 = .ok (.iconst 0, 1) := by decide +kernel
theorem dX5_slowest_30 : decode cX5_slowest 30 = .ok (.iaload, 1) := by decide +kernel
theorem dX5_slowest_31 : decode cX5_slowest 31 = .ok (.if_icmp .ge 49, 3) := by decide +kernel
theorem dX5_slowest_34 : decode cX5_slowest 34 = .ok (.aload_n 0, 1) := by decide +kernel
theorem dX5_slowest_35 : decode cX5_slowest 35 = .ok (.getfield 13, 3) := by decide +kernel
theorem dX5_slowest_38 : decode cX5_slowest 38 = .ok (.iload 4, 2) := by decide +kernel
theorem dX5_slowest_40 : decode cX5_slowest 40 = .ok (.iconst 4, 1) := by decide +kernel
theorem dX5_slowest_41 : decode cX5_slowest 41 = .ok (.invokestatic 47, 3) := by decide +kernel
theorem dX5_slowest_44 : decode cX5_slowest 44 = .ok (.iaload, 1) := by decide +kernel
theorem dX5_slowest_45 : decode cX5_slowest 45 = .ok (.aload_n 0, 1) := by decide +kernel
theorem dX5_slowest_46 : decode cX5_slowest 46 = .ok (.getfield 9, 3) := by decide +kernel
theorem dX5_slowest_49 : decode cX5_slowest 49 = .ok (.iload 4, 2) := by decide +kernel
theorem dX5_slowest_51 : decode cX5_slowest 51 = .ok (.iconst 4, 1) := by decide +kernel
theorem dX5_slowest_52 : decode cX5_slowest 52 = .ok (.invokestatic 47, 3) := by decide +kernel
theorem dX5_slowest_55 : decode cX5_slowest 55 = .ok (.iaload, 1) := by decide +kernel
theorem dX5_slowest_56 : decode cX5_slowest 56 = .ok (.isub, 1) := by decide +kernel
theorem dX5_slowest_57 : decode cX5_slowest 57 = .ok (.istore 5, 2) := by decide +kernel
theorem dX5_slowest_59 : decode cX5_slowest 59 = .ok (.iload 5, 2) := by decide +kernel
theorem dX5_slowest_61 : decode cX5_slowest 61 = .ok (.iload_n 3, 1) := by decide +kernel
theorem dX5_slowest_62 : decode cX5_slowest 62 = .ok (.if_icmp .lt 6, 3) := by decide +kernel
theorem dX5_slowest_65 : decode cX5_slowest 65 = .ok (.goto 9, 3) := by decide +kernel
theorem dX5_slowest_68 : decode cX5_slowest 68 = .ok (.iload 4, 2) := by decide +kernel
theorem dX5_slowest_70 : decode cX5_slowest 70 = .ok (.istore_n 2, 1) := by decide +kernel
theorem dX5_slowest_71 : decode cX5_slowest 71 = .ok (.iload 5, 2) := by decide +kernel
theorem dX5_slowest_73 : decode cX5_slowest 73 = .ok (.istore_n 3, 1) := by decide +kernel
theorem dX5_slowest_74 : decode cX5_slowest 74 = .ok (.iinc 4 1, 3) := by decide +kernel
theorem dX5_slowest_77 : decode cX5_slowest 77 = .ok (.goto (-54), 3) := by decide +kernel
theorem dX5_slowest_80 : decode cX5_slowest 80 = .ok (.iload_n 2, 1) := by decide +kernel
theorem dX5_slowest_81 : decode cX5_slowest 81 = .ok (.ireturn, 1) := by decide +kernel
theorem dX5_lost_0 : decode cX5_lost 0 = .ok (.iload_n 1, 1) := by decide +kernel
theorem dX5_lost_1 : decode cX5_lost 1 = .ok (.invokestatic 155, 3) := by decide +kernel
theorem dX5_lost_4 : decode cX5_lost 4 = .ok (.ifCond .ne 5, 3) := by decide +kernel
theorem dX5_lost_7 : decode cX5_lost 7 = .ok (.iconst (-1), 1) := by decide +kernel
theorem dX5_lost_8 : decode cX5_lost 8 = .ok (.ireturn, 1) := by decide +kernel
theorem dX5_lost_9 : decode cX5_lost 9 = .ok (.aload_n 0, 1) := by decide +kernel
theorem dX5_lost_10 : decode cX5_lost 10 = .ok (.iload_n 1, 1) := by decide +kernel
theorem dX5_lost_11 : decode cX5_lost 11 = .ok (.invokevirtual 158, 3) := by decide +kernel
theorem dX5_lost_14 : decode cX5_lost 14 = .ok (.aload_n 0, 1) := by decide +kernel
theorem dX5_lost_15 : decode cX5_lost 15 = .ok (.getfield 13, 3) := by decide +kernel
theorem dX5_lost_18 : decode cX5_lost 18 = .ok (.iconst 3, 1) := by decide +kernel
theorem dX5_lost_19 : decode cX5_lost 19 = .ok (.iaload, 1) := by decide +kernel
theorem dX5_lost_20 : decode cX5_lost 20 = .ok (.ireturn, 1) := by decide +kernel
theorem dX5_heap_0 : decode cX5_heap 0 = .ok (.iload_n 1, 1) := by decide +kernel
theorem dX5_heap_1 : decode cX5_heap 1 = .ok (.invokestatic 155, 3) := by decide +kernel
theorem dX5_heap_4 : decode cX5_heap 4 = .ok (.ifCond .eq 12, 3) := by decide +kernel
theorem dX5_heap_7 : decode cX5_heap 7 = .ok (.iload_n 2, 1) := by decide +kernel
theorem dX5_heap_8 : decode cX5_heap 8 = .ok (.iconst 0, 1) := by decide +kernel
theorem dX5_heap_9 : decode cX5_heap 9 = .ok (.iconst 1, 1) := by decide +kernel
theorem dX5_heap_10 : decode cX5_heap 10 = .ok (.invokestatic 43, 3) := by decide +kernel
theorem dX5_heap_13 : decode cX5_heap 13 = .ok (.ifCond .ne 5, 3) := by decide +kernel
theorem dX5_heap_16 : decode cX5_heap 16 = .ok (.iconst (-1), 1) := by decide +kernel
theorem dX5_heap_17 : decode cX5_heap 17 = .ok (.ireturn, 1) := by decide +kernel
theorem dX5_heap_18 : decode cX5_heap 18 = .ok (.aload_n 0, 1) := by decide +kernel
theorem dX5_heap_19 : decode cX5_heap 19 = .ok (.iload_n 1, 1) := by decide +kernel
theorem dX5_heap_20 : decode cX5_heap 20 = .ok (.invokevirtual 158, 3) := by decide +kernel
theorem dX5_heap_23 : decode cX5_heap 23 = .ok (.iconst 0, 1) := by decide +kernel
theorem dX5_heap_24 : decode cX5_heap 24 = .ok (.istore_n 3, 1) := by decide +kernel
theorem dX5_heap_25 : decode cX5_heap 25 = .ok (.iconst 0, 1) := by decide +kernel
theorem dX5_heap_26 : decode cX5_heap 26 = .ok (.istore 4, 2) := by decide +kernel
theorem dX5_heap_28 : decode cX5_heap 28 = .ok (.iload 4, 2) := by decide +kernel
theorem dX5_heap_30 : decode cX5_heap 30 = .ok (.bipush 10, 2) := by decide +kernel
theorem dX5_heap_32 : decode cX5_heap 32 = .ok (.if_icmp .ge 32, 3) := by decide +kernel
theorem dX5_heap_35 : decode cX5_heap 35 = .ok (.aload_n 0, 1) := by decide +kernel
theorem dX5_heap_36 : decode cX5_heap 36 = .ok (.getfield 13, 3) := by decide +kernel
theorem dX5_heap_39 : decode cX5_heap 39 = .ok (.iconst 5, 1) := by decide +kernel
theorem dX5_heap_40 : decode cX5_heap 40 = .ok (.iload 4, 2) := by decide +kernel
theorem dX5_heap_42 : decode cX5_heap 42 = .ok (.iadd, 1) := by decide +kernel
theorem dX5_heap_43 : decode cX5_heap 43 = .ok (.iaload, 1) := by decide +kernel
theorem dX5_heap_44 : decode cX5_heap 44 = .ok (.aload_n 0, 1) := by decide +kernel
theorem dX5_heap_45 : decode cX5_heap 45 = .ok (.getfield 13, 3) := by decide +kernel
theorem dX5_heap_48 : decode cX5_heap 48 = .ok (.iconst 5, 1) := by decide +kernel
theorem dX5_heap_49 : decode cX5_heap 49 = .ok (.iload_n 3, 1) := by decide +kernel
theorem dX5_heap_50 : decode cX5_heap 50 = .ok (.iadd, 1) := by decide +kernel
theorem dX5_heap_51 : decode cX5_heap 51 = .ok (.iaload, 1) := by decide +kernel
theorem dX5_heap_52 : decode cX5_heap 52 = .ok (.if_icmp .le 6, 3) := by decide +kernel
theorem dX5_heap_55 : decode cX5_heap 55 = .ok (.iload 4, 2) := by decide +kernel
theorem dX5_heap_57 : decode cX5_heap 57 = .ok (.istore_n 3, 1) := by decide +kernel
theorem dX5_heap_58 : decode cX5_heap 58 = .ok (.iinc 4 1, 3) := by decide +kernel
theorem dX5_heap_61 : decode cX5_heap 61 = .ok (.goto (-33), 3) := by decide +kernel
theorem dX5_heap_64 : decode cX5_heap 64 = .ok (.iload_n 2, 1) := by decide +kernel
theorem dX5_heap_65 : decode cX5_heap 65 = .ok (.ifCond .ne 7, 3) := by decide +kernel
theorem dX5_heap_68 : decode cX5_heap 68 = .ok (.iload_n 3, 1) := by decide +kernel
theorem dX5_heap_69 : decode cX5_heap 69 = .ok (.goto 11, 3) := by decide +kernel
theorem dX5_heap_72 : decode cX5_heap 72 = .ok (.aload_n 0, 1) := by decide +kernel
theorem dX5_heap_73 : decode cX5_heap 73 = .ok (.getfield 13, 3) := by decide +kernel
theorem dX5_heap_76 : decode cX5_heap 76 = .ok (.iconst 5, 1) := by decide +kernel
theorem dX5_heap_77 : decode cX5_heap 77 = .ok (.iload_n 3, 1) := by decide +kernel
theorem dX5_heap_78 : decode cX5_heap 78 = .ok (.iadd, 1) := by decide +kernel
theorem dX5_heap_79 : decode cX5_heap 79 = .ok (.iaload, 1) := by decide +kernel
theorem dX5_heap_80 : decode cX5_heap 80 = .ok (.ireturn, 1) := by decide +kernel
theorem dX5_begin_0 : decode cX5_begin 0 = .ok (.aload_n 0, 1) := by decide +kernel
theorem dX5_begin_1 : decode cX5_begin 1 = .ok (.iload_n 1, 1) := by decide +kernel
theorem dX5_begin_2 : decode cX5_begin 2 = .ok (.invokevirtual 123, 3) := by decide +kernel
theorem dX5_begin_5 : decode cX5_begin 5 = .ok (.ifCond .eq 10, 3) := by decide +kernel
theorem dX5_begin_8 : decode cX5_begin 8 = .ok (.iload_n 2, 1) := by decide +kernel
theorem dX5_begin_9 : decode cX5_begin 9 = .ok (.invokestatic 155, 3) := by decide +kernel
theorem dX5_begin_12 : decode cX5_begin 12 = .ok (.ifCond .ne 5, 3) := by decide +kernel
theorem dX5_begin_15 : decode cX5_begin 15 = .ok (.iconst (-1), 1) := by decide +kernel
theorem dX5_begin_16 : decode cX5_begin 16 = .ok (.ireturn, 1) := by decide +kernel
theorem dX5_begin_17 : decode cX5_begin 17 = .ok (.iconst 0, 1) := by decide +kernel
theorem dX5_begin_18 : decode cX5_begin 18 = .ok (.istore_n 3, 1) := by decide +kernel
theorem dX5_begin_19 : decode cX5_begin 19 = .ok (.iconst (-1), 1) := by decide +kernel
theorem dX5_begin_20 : decode cX5_begin 20 = .ok (.istore 4, 2) := by decide +kernel
theorem dX5_begin_22 : decode cX5_begin 22 = .ok (.iconst 0, 1) := by decide +kernel
theorem dX5_begin_23 : decode cX5_begin 23 = .ok (.istore 5, 2) := by decide +kernel
theorem dX5_begin_25 : decode cX5_begin 25 = .ok (.iload 5, 2) := by decide +kernel
theorem dX5_begin_27 : decode cX5_begin 27 = .ok (.bipush 20, 2) := by decide +kernel
theorem dX5_begin_29 : decode cX5_begin 29 = .ok (.if_icmp .ge 91, 3) := by decide +kernel
theorem dX5_begin_32 : decode cX5_begin 32 = .ok (.aload_n 0, 1) := by decide +kernel
theorem dX5_begin_33 : decode cX5_begin 33 = .ok (.getfield 9, 3) := by decide +kernel
theorem dX5_begin_36 : decode cX5_begin 36 = .ok (.aload_n 0, 1) := by decide +kernel
theorem dX5_begin_37 : decode cX5_begin 37 = .ok (.getfield 13, 3) := by decide +kernel
theorem dX5_begin_40 : decode cX5_begin 40 = .ok (.invokestatic 140, 3) := by decide +kernel
theorem dX5_begin_43 : decode cX5_begin 43 = .ok (.aload_n 0, 1) := by decide +kernel
theorem dX5_begin_44 : decode cX5_begin 44 = .ok (.getfield 13, 3) := by decide +kernel
theorem dX5_begin_47 : decode cX5_begin 47 = .ok (.iload_n 1, 1) := by decide +kernel
theorem dX5_begin_48 : decode cX5_begin 48 = .ok (.iconst 3, 1) := by decide +kernel
theorem dX5_begin_49 : decode cX5_begin 49 = .ok (.invokestatic 47, 3) := by decide +kernel
theorem dX5_begin_52 : decode cX5_begin 52 = .ok (.iload 5, 2) := by decide +kernel
theorem dX5_begin_54 : decode cX5_begin 54 = .ok (.bipush 10, 2) := by decide +kernel
theorem dX5_begin_56 : decode cX5_begin 56 = .ok (.idiv, 1) := by decide +kernel
theorem dX5_begin_57 : decode cX5_begin 57 = .ok (.iastore, 1) := by decide +kernel
theorem dX5_begin_58 : decode cX5_begin 58 = .ok (.aload_n 0, 1) := by decide +kernel
theorem dX5_begin_59 : decode cX5_begin 59 = .ok (.getfield 13, 3) := by decide +kernel
theorem dX5_begin_62 : decode cX5_begin 62 = .ok (.iload_n 1, 1) := by decide +kernel
theorem dX5_begin_63 : decode cX5_begin 63 = .ok (.iconst 2, 1) := by decide +kernel
theorem dX5_begin_64 : decode cX5_begin 64 = .ok (.invokestatic 47, 3) := by decide +kernel
theorem dX5_begin_67 : decode cX5_begin 67 = .ok (.iload 5, 2) := by decide +kernel
theorem dX5_begin_69 : decode cX5_begin 69 = .ok (.bipush 10, 2) := by decide +kernel
theorem dX5_begin_71 : decode cX5_begin 71 = .ok (.irem, 1) := by decide +kernel
theorem dX5_begin_72 : decode cX5_begin 72 = .ok (.iastore, 1) := by decide +kernel
theorem dX5_begin_73 : decode cX5_begin 73 = .ok (.aload_n 0, 1) := by decide +kernel
theorem dX5_begin_74 : decode cX5_begin 74 = .ok (.getfield 13, 3) := by decide +kernel
theorem dX5_begin_77 : decode cX5_begin 77 = .ok (.iload_n 2, 1) := by decide +kernel
theorem dX5_begin_78 : decode cX5_begin 78 = .ok (.invokestatic 130, 3) := by decide +kernel
theorem dX5_begin_81 : decode cX5_begin 81 = .ok (.aload_n 0, 1) := by decide +kernel
theorem dX5_begin_82 : decode cX5_begin 82 = .ok (.getfield 13, 3) := by decide +kernel
theorem dX5_begin_85 : decode cX5_begin 85 = .ok (.iload_n 1, 1) := by decide +kernel
theorem dX5_begin_86 : decode cX5_begin 86 = .ok (.iconst 4, 1) := by decide +kernel
theorem dX5_begin_87 : decode cX5_begin 87 = .ok (.invokestatic 47, 3) := by decide +kernel
theorem dX5_begin_90 : decode cX5_begin 90 = .ok (.iaload, 1) := by decide +kernel
theorem dX5_begin_91 : decode cX5_begin 91 = .ok (.iload 4, 2) := by decide +kernel
theorem dX5_begin_93 : decode cX5_begin 93 = .ok (.if_icmp .gt 6, 3) := by decide +kernel
theorem dX5_begin_96 : decode cX5_begin 96 = .ok (.goto 18, 3) := by decide +kernel
theorem dX5_begin_99 : decode cX5_begin 99 = .ok (.iload 5, 2) := by decide +kernel
theorem dX5_begin_101 : decode cX5_begin 101 = .ok (.istore_n 3, 1) := by decide +kernel
theorem dX5_begin_102 : decode cX5_begin 102 = .ok (.aload_n 0, 1) := by decide +kernel
theorem dX5_begin_103 : decode cX5_begin 103 = .ok (.getfield 13, 3) := by decide +kernel
theorem dX5_begin_106 : decode cX5_begin 106 = .ok (.iload_n 1, 1) := by decide +kernel
theorem dX5_begin_107 : decode cX5_begin 107 = .ok (.iconst 4, 1) := by decide +kernel
theorem dX5_begin_108 : decode cX5_begin 108 = .ok (.invokestatic 47, 3) := by decide +kernel
theorem dX5_begin_111 : decode cX5_begin 111 = .ok (.iaload, 1) := by decide +kernel
theorem dX5_begin_112 : decode cX5_begin 112 = .ok (.istore 4, 2) := by decide +kernel
theorem dX5_begin_114 : decode cX5_begin 114 = .ok (.iinc 5 1, 3) := by decide +kernel
theorem dX5_begin_117 : decode cX5_begin 117 = .ok (.goto (-92), 3) := by decide +kernel
theorem dX5_begin_120 : decode cX5_begin 120 = .ok (.iload_n 3, 1) := by decide +kernel
theorem dX5_begin_121 : decode cX5_begin 121 = .ok (.ireturn, 1) := by decide +kernel
theorem dX5_pairsFrom_0 : decode cX5_pairsFrom 0 = .ok (.iload_n 1, 1) := by decide +kernel
theorem dX5_pairsFrom_1 : decode cX5_pairsFrom 1 = .ok (.aload_n 0, 1) := by decide +kernel
theorem dX5_pairsFrom_2 : decode cX5_pairsFrom 2 = .ok (.getfield 9, 3) := by decide +kernel
theorem dX5_pairsFrom_5 : decode cX5_pairsFrom 5 = .ok (.iconst 0, 1) := by decide +kernel
theorem dX5_pairsFrom_6 : decode cX5_pairsFrom 6 = .ok (.iaload, 1) := by decide +kernel
theorem dX5_pairsFrom_7 : decode cX5_pairsFrom 7 = .ok (.if_icmp .ne 5, 3) := by decide +kernel
theorem dX5_pairsFrom_10 : decode cX5_pairsFrom 10 = .ok (.iconst 0, 1) := by decide +kernel
theorem dX5_pairsFrom_11 : decode cX5_pairsFrom 11 = .ok (.ireturn, 1) := by decide +kernel
theorem dX5_pairsFrom_12 : decode cX5_pairsFrom 12 = .ok (.aload_n 0, 1) := by decide +kernel
theorem dX5_pairsFrom_13 : decode cX5_pairsFrom 13 = .ok (.iload_n 1, 1) := by decide +kernel
theorem dX5_pairsFrom_14 : decode cX5_pairsFrom 14 = .ok (.iconst 1, 1) := by decide +kernel
theorem dX5_pairsFrom_15 : decode cX5_pairsFrom 15 = .ok (.iadd, 1) := by decide +kernel
theorem dX5_pairsFrom_16 : decode cX5_pairsFrom 16 = .ok (.iload_n 2, 1) := by decide +kernel
theorem dX5_pairsFrom_17 : decode cX5_pairsFrom 17 = .ok (.invokevirtual 170, 3) := by decide +kernel
theorem dX5_pairsFrom_20 : decode cX5_pairsFrom 20 = .ok (.istore_n 3, 1) := by decide +kernel
theorem dX5_pairsFrom_21 : decode cX5_pairsFrom 21 = .ok (.iconst 0, 1) := by decide +kernel
theorem dX5_pairsFrom_22 : decode cX5_pairsFrom 22 = .ok (.istore 4, 2) := by decide +kernel
theorem dX5_pairsFrom_24 : decode cX5_pairsFrom 24 = .ok (.iload 4, 2) := by decide +kernel
theorem dX5_pairsFrom_26 : decode cX5_pairsFrom 26 = .ok (.aload_n 0, 1) := by decide +kernel
theorem dX5_pairsFrom_27 : decode cX5_pairsFrom 27 = .ok (.getfield 9, 3) := by decide +kernel
theorem dX5_pairsFrom_30 : decode cX5_pairsFrom 30 = .ok (.iconst 0, 1) := by decide +kernel
theorem dX5_pairsFrom_31 : decode cX5_pairsFrom 31 = .ok (.iaload, 1) := by decide +kernel
theorem dX5_pairsFrom_32 : decode cX5_pairsFrom 32 = .ok (.if_icmp .ge 99, 3) := by decide +kernel
theorem dX5_pairsFrom_35 : decode cX5_pairsFrom 35 = .ok (.aload_n 0, 1) := by decide +kernel
theorem dX5_pairsFrom_36 : decode cX5_pairsFrom 36 = .ok (.getfield 9, 3) := by decide +kernel
theorem dX5_pairsFrom_39 : decode cX5_pairsFrom 39 = .ok (.iload_n 1, 1) := by decide +kernel
theorem dX5_pairsFrom_40 : decode cX5_pairsFrom 40 = .ok (.iconst 3, 1) := by decide +kernel
theorem dX5_pairsFrom_41 : decode cX5_pairsFrom 41 = .ok (.invokestatic 47, 3) := by decide +kernel
theorem dX5_pairsFrom_44 : decode cX5_pairsFrom 44 = .ok (.iaload, 1) := by decide +kernel
theorem dX5_pairsFrom_45 : decode cX5_pairsFrom 45 = .ok (.ifCond .ne 86, 3) := by decide +kernel
theorem dX5_pairsFrom_48 : decode cX5_pairsFrom 48 = .ok (.aload_n 0, 1) := by decide +kernel
theorem dX5_pairsFrom_49 : decode cX5_pairsFrom 49 = .ok (.getfield 9, 3) := by decide +kernel
theorem dX5_pairsFrom_52 : decode cX5_pairsFrom 52 = .ok (.iload 4, 2) := by decide +kernel
theorem dX5_pairsFrom_54 : decode cX5_pairsFrom 54 = .ok (.iconst 3, 1) := by decide +kernel
theorem dX5_pairsFrom_55 : decode cX5_pairsFrom 55 = .ok (.invokestatic 47, 3) := by decide +kernel
theorem dX5_pairsFrom_58 : decode cX5_pairsFrom 58 = .ok (.iaload, 1) := by decide +kernel
theorem dX5_pairsFrom_59 : decode cX5_pairsFrom 59 = .ok (.ifCond .eq 66, 3) := by decide +kernel
theorem dX5_pairsFrom_62 : decode cX5_pairsFrom 62 = .ok (.iload_n 2, 1) := by decide +kernel
theorem dX5_pairsFrom_63 : decode cX5_pairsFrom 63 = .ok (.iload 4, 2) := by decide +kernel
theorem dX5_pairsFrom_65 : decode cX5_pairsFrom 65 = .ok (.invokestatic 69, 3) := by decide +kernel
theorem dX5_pairsFrom_68 : decode cX5_pairsFrom 68 = .ok (.ifCond .ne 57, 3) := by decide +kernel
theorem dX5_pairsFrom_71 : decode cX5_pairsFrom 71 = .ok (.aload_n 0, 1) := by decide +kernel
theorem dX5_pairsFrom_72 : decode cX5_pairsFrom 72 = .ok (.getfield 9, 3) := by decide +kernel
theorem dX5_pairsFrom_75 : decode cX5_pairsFrom 75 = .ok (.iload_n 1, 1) := by decide +kernel
theorem dX5_pairsFrom_76 : decode cX5_pairsFrom 76 = .ok (.iconst 2, 1) := by decide +kernel
theorem dX5_pairsFrom_77 : decode cX5_pairsFrom 77 = .ok (.invokestatic 47, 3) := by decide +kernel
theorem dX5_pairsFrom_80 : decode cX5_pairsFrom 80 = .ok (.iaload, 1) := by decide +kernel
theorem dX5_pairsFrom_81 : decode cX5_pairsFrom 81 = .ok (.aload_n 0, 1) := by decide +kernel
theorem dX5_pairsFrom_82 : decode cX5_pairsFrom 82 = .ok (.getfield 9, 3) := by decide +kernel
theorem dX5_pairsFrom_85 : decode cX5_pairsFrom 85 = .ok (.iload 4, 2) := by decide +kernel
theorem dX5_pairsFrom_87 : decode cX5_pairsFrom 87 = .ok (.iconst 2, 1) := by decide +kernel
theorem dX5_pairsFrom_88 : decode cX5_pairsFrom 88 = .ok (.invokestatic 47, 3) := by decide +kernel
theorem dX5_pairsFrom_91 : decode cX5_pairsFrom 91 = .ok (.iaload, 1) := by decide +kernel
theorem dX5_pairsFrom_92 : decode cX5_pairsFrom 92 = .ok (.isub, 1) := by decide +kernel
theorem dX5_pairsFrom_93 : decode cX5_pairsFrom 93 = .ok (.bipush (-3), 2) := by decide +kernel
theorem dX5_pairsFrom_95 : decode cX5_pairsFrom 95 = .ok (.iconst 3, 1) := by decide +kernel
theorem dX5_pairsFrom_96 : decode cX5_pairsFrom 96 = .ok (.invokestatic 43, 3) := by decide +kernel
theorem dX5_pairsFrom_99 : decode cX5_pairsFrom 99 = .ok (.ifCond .ne 6, 3) := by decide +kernel
theorem dX5_pairsFrom_102 : decode cX5_pairsFrom 102 = .ok (.goto 23, 3) := by decide +kernel
theorem dX5_pairsFrom_105 : decode cX5_pairsFrom 105 = .ok (.iload_n 3, 1) := by decide +kernel
theorem dX5_pairsFrom_106 : decode cX5_pairsFrom 106 = .ok (.iconst 1, 1) := by decide +kernel
theorem dX5_pairsFrom_107 : decode cX5_pairsFrom 107 = .ok (.aload_n 0, 1) := by decide +kernel
theorem dX5_pairsFrom_108 : decode cX5_pairsFrom 108 = .ok (.iload_n 1, 1) := by decide +kernel
theorem dX5_pairsFrom_109 : decode cX5_pairsFrom 109 = .ok (.iconst 1, 1) := by decide +kernel
theorem dX5_pairsFrom_110 : decode cX5_pairsFrom 110 = .ok (.iadd, 1) := by decide +kernel
theorem dX5_pairsFrom_111 : decode cX5_pairsFrom 111 = .ok (.iload_n 2, 1) := by decide +kernel
theorem dX5_pairsFrom_112 : decode cX5_pairsFrom 112 = .ok (.iconst 1, 1) := by decide +kernel
theorem dX5_pairsFrom_113 : decode cX5_pairsFrom 113 = .ok (.iload 4, 2) := by decide +kernel
theorem dX5_pairsFrom_115 : decode cX5_pairsFrom 115 = .ok (.ishl, 1) := by decide +kernel
theorem dX5_pairsFrom_116 : decode cX5_pairsFrom 116 = .ok (.ior, 1) := by decide +kernel
theorem dX5_pairsFrom_117 : decode cX5_pairsFrom 117 = .ok (.invokevirtual 170, 3) := by decide +kernel
theorem dX5_pairsFrom_120 : decode cX5_pairsFrom 120 = .ok (.iadd, 1) := by decide +kernel
theorem dX5_pairsFrom_121 : decode cX5_pairsFrom 121 = .ok (.invokestatic 58, 3) := by decide +kernel
theorem dX5_pairsFrom_124 : decode cX5_pairsFrom 124 = .ok (.istore_n 3, 1) := by decide +kernel
theorem dX5_pairsFrom_125 : decode cX5_pairsFrom 125 = .ok (.iinc 4 1, 3) := by decide +kernel
theorem dX5_pairsFrom_128 : decode cX5_pairsFrom 128 = .ok (.goto (-104), 3) := by decide +kernel
theorem dX5_pairsFrom_131 : decode cX5_pairsFrom 131 = .ok (.iload_n 3, 1) := by decide +kernel
theorem dX5_pairsFrom_132 : decode cX5_pairsFrom 132 = .ok (.ireturn, 1) := by decide +kernel
theorem dX5_pairs_0 : decode cX5_pairs 0 = .ok (.aload_n 0, 1) := by decide +kernel
theorem dX5_pairs_1 : decode cX5_pairs 1 = .ok (.iconst 0, 1) := by decide +kernel
theorem dX5_pairs_2 : decode cX5_pairs 2 = .ok (.iconst 0, 1) := by decide +kernel
theorem dX5_pairs_3 : decode cX5_pairs 3 = .ok (.invokevirtual 170, 3) := by decide +kernel
theorem dX5_pairs_6 : decode cX5_pairs 6 = .ok (.ireturn, 1) := by decide +kernel
theorem dX5_unevenAt_0 : decode cX5_unevenAt 0 = .ok (.iconst 0, 1) := by decide +kernel
theorem dX5_unevenAt_1 : decode cX5_unevenAt 1 = .ok (.istore_n 2, 1) := by decide +kernel
theorem dX5_unevenAt_2 : decode cX5_unevenAt 2 = .ok (.iconst 0, 1) := by decide +kernel
theorem dX5_unevenAt_3 : decode cX5_unevenAt 3 = .ok (.istore_n 3, 1) := by decide +kernel
theorem dX5_unevenAt_4 : decode cX5_unevenAt 4 = .ok (.iload_n 3, 1) := by decide +kernel
theorem dX5_unevenAt_5 : decode cX5_unevenAt 5 = .ok (.bipush 10, 2) := by decide +kernel
theorem dX5_unevenAt_7 : decode cX5_unevenAt 7 = .ok (.if_icmp .ge 37, 3) := by decide +kernel
theorem dX5_unevenAt_10 : decode cX5_unevenAt 10 = .ok (.iload_n 2, 1) := by decide +kernel
theorem dX5_unevenAt_11 : decode cX5_unevenAt 11 = .ok (.iload_n 3, 1) := by decide +kernel
theorem dX5_unevenAt_12 : decode cX5_unevenAt 12 = .ok (.iload_n 1, 1) := by decide +kernel
theorem dX5_unevenAt_13 : decode cX5_unevenAt 13 = .ok (.if_icmp .gt 14, 3) := by decide +kernel
theorem dX5_unevenAt_16 : decode cX5_unevenAt 16 = .ok (.aload_n 0, 1) := by decide +kernel
theorem dX5_unevenAt_17 : decode cX5_unevenAt 17 = .ok (.getfield 9, 3) := by decide +kernel
theorem dX5_unevenAt_20 : decode cX5_unevenAt 20 = .ok (.iconst 5, 1) := by decide +kernel
theorem dX5_unevenAt_21 : decode cX5_unevenAt 21 = .ok (.iload_n 3, 1) := by decide +kernel
theorem dX5_unevenAt_22 : decode cX5_unevenAt 22 = .ok (.iadd, 1) := by decide +kernel
theorem dX5_unevenAt_23 : decode cX5_unevenAt 23 = .ok (.iaload, 1) := by decide +kernel
theorem dX5_unevenAt_24 : decode cX5_unevenAt 24 = .ok (.goto 12, 3) := by decide +kernel
theorem dX5_unevenAt_27 : decode cX5_unevenAt 27 = .ok (.aload_n 0, 1) := by decide +kernel
theorem dX5_unevenAt_28 : decode cX5_unevenAt 28 = .ok (.getfield 9, 3) := by decide +kernel
theorem dX5_unevenAt_31 : decode cX5_unevenAt 31 = .ok (.iconst 5, 1) := by decide +kernel
theorem dX5_unevenAt_32 : decode cX5_unevenAt 32 = .ok (.iload_n 3, 1) := by decide +kernel
theorem dX5_unevenAt_33 : decode cX5_unevenAt 33 = .ok (.iadd, 1) := by decide +kernel
theorem dX5_unevenAt_34 : decode cX5_unevenAt 34 = .ok (.iaload, 1) := by decide +kernel
theorem dX5_unevenAt_35 : decode cX5_unevenAt 35 = .ok (.ineg, 1) := by decide +kernel
theorem dX5_unevenAt_36 : decode cX5_unevenAt 36 = .ok (.iadd, 1) := by decide +kernel
theorem dX5_unevenAt_37 : decode cX5_unevenAt 37 = .ok (.istore_n 2, 1) := by decide +kernel
theorem dX5_unevenAt_38 : decode cX5_unevenAt 38 = .ok (.iinc 3 1, 3) := by decide +kernel
theorem dX5_unevenAt_41 : decode cX5_unevenAt 41 = .ok (.goto (-37), 3) := by decide +kernel
theorem dX5_unevenAt_44 : decode cX5_unevenAt 44 = .ok (.iload_n 2, 1) := by decide +kernel
theorem dX5_unevenAt_45 : decode cX5_unevenAt 45 = .ok (.ifCond .ge 8, 3) := by decide +kernel
theorem dX5_unevenAt_48 : decode cX5_unevenAt 48 = .ok (.iload_n 2, 1) := by decide +kernel
theorem dX5_unevenAt_49 : decode cX5_unevenAt 49 = .ok (.ineg, 1) := by decide +kernel
theorem dX5_unevenAt_50 : decode cX5_unevenAt 50 = .ok (.goto 4, 3) := by decide +kernel
theorem dX5_unevenAt_53 : decode cX5_unevenAt 53 = .ok (.iload_n 2, 1) := by decide +kernel
theorem dX5_unevenAt_54 : decode cX5_unevenAt 54 = .ok (.ireturn, 1) := by decide +kernel
theorem dX5_even_0 : decode cX5_even 0 = .ok (.iload_n 1, 1) := by decide +kernel
theorem dX5_even_1 : decode cX5_even 1 = .ok (.iconst 0, 1) := by decide +kernel
theorem dX5_even_2 : decode cX5_even 2 = .ok (.iconst 1, 1) := by decide +kernel
theorem dX5_even_3 : decode cX5_even 3 = .ok (.invokestatic 43, 3) := by decide +kernel
theorem dX5_even_6 : decode cX5_even 6 = .ok (.ifCond .ne 5, 3) := by decide +kernel
theorem dX5_even_9 : decode cX5_even 9 = .ok (.iconst (-1), 1) := by decide +kernel
theorem dX5_even_10 : decode cX5_even 10 = .ok (.ireturn, 1) := by decide +kernel
theorem dX5_even_11 : decode cX5_even 11 = .ok (.iconst 0, 1) := by decide +kernel
theorem dX5_even_12 : decode cX5_even 12 = .ok (.istore_n 2, 1) := by decide +kernel
theorem dX5_even_13 : decode cX5_even 13 = .ok (.iconst 0, 1) := by decide +kernel
theorem dX5_even_14 : decode cX5_even 14 = .ok (.istore_n 3, 1) := by decide +kernel
theorem dX5_even_15 : decode cX5_even 15 = .ok (.iload_n 3, 1) := by decide +kernel
theorem dX5_even_16 : decode cX5_even 16 = .ok (.bipush 9, 2) := by decide +kernel
theorem dX5_even_18 : decode cX5_even 18 = .ok (.if_icmp .ge 24, 3) := by decide +kernel
theorem dX5_even_21 : decode cX5_even 21 = .ok (.aload_n 0, 1) := by decide +kernel
theorem dX5_even_22 : decode cX5_even 22 = .ok (.iload_n 3, 1) := by decide +kernel
theorem dX5_even_23 : decode cX5_even 23 = .ok (.invokevirtual 173, 3) := by decide +kernel
theorem dX5_even_26 : decode cX5_even 26 = .ok (.aload_n 0, 1) := by decide +kernel
theorem dX5_even_27 : decode cX5_even 27 = .ok (.iload_n 2, 1) := by decide +kernel
theorem dX5_even_28 : decode cX5_even 28 = .ok (.invokevirtual 173, 3) := by decide +kernel
theorem dX5_even_31 : decode cX5_even 31 = .ok (.if_icmp .ge 5, 3) := by decide +kernel
theorem dX5_even_34 : decode cX5_even 34 = .ok (.iload_n 3, 1) := by decide +kernel
theorem dX5_even_35 : decode cX5_even 35 = .ok (.istore_n 2, 1) := by decide +kernel
theorem dX5_even_36 : decode cX5_even 36 = .ok (.iinc 3 1, 3) := by decide +kernel
theorem dX5_even_39 : decode cX5_even 39 = .ok (.goto (-24), 3) := by decide +kernel
theorem dX5_even_42 : decode cX5_even 42 = .ok (.iload_n 1, 1) := by decide +kernel
theorem dX5_even_43 : decode cX5_even 43 = .ok (.ifCond .ne 7, 3) := by decide +kernel
theorem dX5_even_46 : decode cX5_even 46 = .ok (.iload_n 2, 1) := by decide +kernel
theorem dX5_even_47 : decode cX5_even 47 = .ok (.goto 8, 3) := by decide +kernel
theorem dX5_even_50 : decode cX5_even 50 = .ok (.aload_n 0, 1) := by decide +kernel
theorem dX5_even_51 : decode cX5_even 51 = .ok (.iload_n 2, 1) := by decide +kernel
theorem dX5_even_52 : decode cX5_even 52 = .ok (.invokevirtual 173, 3) := by decide +kernel
theorem dX5_even_55 : decode cX5_even 55 = .ok (.ireturn, 1) := by decide +kernel
theorem dX5_leastOf_0 : decode cX5_leastOf 0 = .ok (.iload_n 0, 1) := by decide +kernel
theorem dX5_leastOf_1 : decode cX5_leastOf 1 = .ok (.ifCond .ne 8, 3) := by decide +kernel
theorem dX5_leastOf_4 : decode cX5_leastOf 4 = .ok (.bipush (-128), 2) := by decide +kernel
theorem dX5_leastOf_6 : decode cX5_leastOf 6 = .ok (.goto 16, 3) := by decide +kernel
theorem dX5_leastOf_9 : decode cX5_leastOf 9 = .ok (.iload_n 0, 1) := by decide +kernel
theorem dX5_leastOf_10 : decode cX5_leastOf 10 = .ok (.iconst 1, 1) := by decide +kernel
theorem dX5_leastOf_11 : decode cX5_leastOf 11 = .ok (.if_icmp .ne 9, 3) := by decide +kernel
theorem dX5_leastOf_14 : decode cX5_leastOf 14 = .ok (.sipush (-32768), 3) := by decide +kernel
theorem dX5_leastOf_17 : decode cX5_leastOf 17 = .ok (.goto 5, 3) := by decide +kernel
theorem dX5_leastOf_20 : decode cX5_leastOf 20 = .ok (.ldc 176, 2) := by decide +kernel
theorem dX5_leastOf_22 : decode cX5_leastOf 22 = .ok (.ireturn, 1) := by decide +kernel
theorem dX5_isTold_0 : decode cX5_isTold 0 = .ok (.iconst 0, 1) := by decide +kernel
theorem dX5_isTold_1 : decode cX5_isTold 1 = .ok (.istore_n 3, 1) := by decide +kernel
theorem dX5_isTold_2 : decode cX5_isTold 2 = .ok (.iload_n 3, 1) := by decide +kernel
theorem dX5_isTold_3 : decode cX5_isTold 3 = .ok (.aload_n 0, 1) := by decide +kernel
theorem dX5_isTold_4 : decode cX5_isTold 4 = .ok (.getfield 37, 3) := by decide +kernel
theorem dX5_isTold_7 : decode cX5_isTold 7 = .ok (.iload_n 1, 1) := by decide +kernel
theorem dX5_isTold_8 : decode cX5_isTold 8 = .ok (.iaload, 1) := by decide +kernel
theorem dX5_isTold_9 : decode cX5_isTold 9 = .ok (.if_icmp .ge 57, 3) := by decide +kernel
theorem dX5_isTold_12 : decode cX5_isTold 12 = .ok (.aload_n 0, 1) := by decide +kernel
theorem dX5_isTold_13 : decode cX5_isTold 13 = .ok (.getfield 40, 3) := by decide +kernel
theorem dX5_isTold_16 : decode cX5_isTold 16 = .ok (.bipush 100, 2) := by decide +kernel
theorem dX5_isTold_18 : decode cX5_isTold 18 = .ok (.iload_n 1, 1) := by decide +kernel
theorem dX5_isTold_19 : decode cX5_isTold 19 = .ok (.imul, 1) := by decide +kernel
theorem dX5_isTold_20 : decode cX5_isTold 20 = .ok (.iload_n 3, 1) := by decide +kernel
theorem dX5_isTold_21 : decode cX5_isTold 21 = .ok (.iadd, 1) := by decide +kernel
theorem dX5_isTold_22 : decode cX5_isTold 22 = .ok (.iaload, 1) := by decide +kernel
theorem dX5_isTold_23 : decode cX5_isTold 23 = .ok (.istore 4, 2) := by decide +kernel
theorem dX5_isTold_25 : decode cX5_isTold 25 = .ok (.iload 4, 2) := by decide +kernel
theorem dX5_isTold_27 : decode cX5_isTold 27 = .ok (.aload_n 0, 1) := by decide +kernel
theorem dX5_isTold_28 : decode cX5_isTold 28 = .ok (.getfield 34, 3) := by decide +kernel
theorem dX5_isTold_31 : decode cX5_isTold 31 = .ok (.iload_n 1, 1) := by decide +kernel
theorem dX5_isTold_32 : decode cX5_isTold 32 = .ok (.iaload, 1) := by decide +kernel
theorem dX5_isTold_33 : decode cX5_isTold 33 = .ok (.invokestatic 177, 3) := by decide +kernel
theorem dX5_isTold_36 : decode cX5_isTold 36 = .ok (.if_icmp .eq 16, 3) := by decide +kernel
theorem dX5_isTold_39 : decode cX5_isTold 39 = .ok (.iload 4, 2) := by decide +kernel
theorem dX5_isTold_41 : decode cX5_isTold 41 = .ok (.aload_n 0, 1) := by decide +kernel
theorem dX5_isTold_42 : decode cX5_isTold 42 = .ok (.getfield 13, 3) := by decide +kernel
theorem dX5_isTold_45 : decode cX5_isTold 45 = .ok (.iload_n 2, 1) := by decide +kernel
theorem dX5_isTold_46 : decode cX5_isTold 46 = .ok (.iaload, 1) := by decide +kernel
theorem dX5_isTold_47 : decode cX5_isTold 47 = .ok (.if_icmp .eq 5, 3) := by decide +kernel
theorem dX5_isTold_50 : decode cX5_isTold 50 = .ok (.iconst 0, 1) := by decide +kernel
theorem dX5_isTold_51 : decode cX5_isTold 51 = .ok (.ireturn, 1) := by decide +kernel
theorem dX5_isTold_52 : decode cX5_isTold 52 = .ok (.aload_n 0, 1) := by decide +kernel
theorem dX5_isTold_53 : decode cX5_isTold 53 = .ok (.getfield 13, 3) := by decide +kernel
theorem dX5_isTold_56 : decode cX5_isTold 56 = .ok (.iconst 1, 1) := by decide +kernel
theorem dX5_isTold_57 : decode cX5_isTold 57 = .ok (.invokestatic 130, 3) := by decide +kernel
theorem dX5_isTold_60 : decode cX5_isTold 60 = .ok (.iinc 3 1, 3) := by decide +kernel
theorem dX5_isTold_63 : decode cX5_isTold 63 = .ok (.goto (-61), 3) := by decide +kernel
theorem dX5_isTold_66 : decode cX5_isTold 66 = .ok (.iconst 1, 1) := by decide +kernel
theorem dX5_isTold_67 : decode cX5_isTold 67 = .ok (.ireturn, 1) := by decide +kernel
theorem dX5_howMany_0 : decode cX5_howMany 0 = .ok (.iload_n 2, 1) := by decide +kernel
theorem dX5_howMany_1 : decode cX5_howMany 1 = .ok (.invokestatic 61, 3) := by decide +kernel
theorem dX5_howMany_4 : decode cX5_howMany 4 = .ok (.ifCond .eq 12, 3) := by decide +kernel
theorem dX5_howMany_7 : decode cX5_howMany 7 = .ok (.iload_n 3, 1) := by decide +kernel
theorem dX5_howMany_8 : decode cX5_howMany 8 = .ok (.iconst 0, 1) := by decide +kernel
theorem dX5_howMany_9 : decode cX5_howMany 9 = .ok (.iconst 2, 1) := by decide +kernel
theorem dX5_howMany_10 : decode cX5_howMany 10 = .ok (.invokestatic 43, 3) := by decide +kernel
theorem dX5_howMany_13 : decode cX5_howMany 13 = .ok (.ifCond .ne 5, 3) := by decide +kernel
theorem dX5_howMany_16 : decode cX5_howMany 16 = .ok (.iconst (-1), 1) := by decide +kernel
theorem dX5_howMany_17 : decode cX5_howMany 17 = .ok (.ireturn, 1) := by decide +kernel
theorem dX5_howMany_18 : decode cX5_howMany 18 = .ok (.aload_n 0, 1) := by decide +kernel
theorem dX5_howMany_19 : decode cX5_howMany 19 = .ok (.iload_n 1, 1) := by decide +kernel
theorem dX5_howMany_20 : decode cX5_howMany 20 = .ok (.iconst (-1), 1) := by decide +kernel
theorem dX5_howMany_21 : decode cX5_howMany 21 = .ok (.invokevirtual 133, 3) := by decide +kernel
theorem dX5_howMany_24 : decode cX5_howMany 24 = .ok (.istore 4, 2) := by decide +kernel
theorem dX5_howMany_26 : decode cX5_howMany 26 = .ok (.iload 4, 2) := by decide +kernel
theorem dX5_howMany_28 : decode cX5_howMany 28 = .ok (.ifCond .eq 6, 3) := by decide +kernel
theorem dX5_howMany_31 : decode cX5_howMany 31 = .ok (.iload 4, 2) := by decide +kernel
theorem dX5_howMany_33 : decode cX5_howMany 33 = .ok (.ireturn, 1) := by decide +kernel
theorem dX5_howMany_34 : decode cX5_howMany 34 = .ok (.iconst 0, 1) := by decide +kernel
theorem dX5_howMany_35 : decode cX5_howMany 35 = .ok (.istore 5, 2) := by decide +kernel
theorem dX5_howMany_37 : decode cX5_howMany 37 = .ok (.bipush (-4), 2) := by decide +kernel
theorem dX5_howMany_39 : decode cX5_howMany 39 = .ok (.istore 6, 2) := by decide +kernel
theorem dX5_howMany_41 : decode cX5_howMany 41 = .ok (.bipush (-4), 2) := by decide +kernel
theorem dX5_howMany_43 : decode cX5_howMany 43 = .ok (.istore 7, 2) := by decide +kernel
theorem dX5_howMany_45 : decode cX5_howMany 45 = .ok (.aload_n 0, 1) := by decide +kernel
theorem dX5_howMany_46 : decode cX5_howMany 46 = .ok (.getfield 9, 3) := by decide +kernel
theorem dX5_howMany_49 : decode cX5_howMany 49 = .ok (.bipush 15, 2) := by decide +kernel
theorem dX5_howMany_51 : decode cX5_howMany 51 = .ok (.iload_n 2, 1) := by decide +kernel
theorem dX5_howMany_52 : decode cX5_howMany 52 = .ok (.iadd, 1) := by decide +kernel
theorem dX5_howMany_53 : decode cX5_howMany 53 = .ok (.iaload, 1) := by decide +kernel
theorem dX5_howMany_54 : decode cX5_howMany 54 = .ok (.istore 8, 2) := by decide +kernel
theorem dX5_howMany_56 : decode cX5_howMany 56 = .ok (.iload 8, 2) := by decide +kernel
theorem dX5_howMany_58 : decode cX5_howMany 58 = .ok (.sipush 999, 3) := by decide +kernel
theorem dX5_howMany_61 : decode cX5_howMany 61 = .ok (.if_icmp .gt 66, 3) := by decide +kernel
theorem dX5_howMany_64 : decode cX5_howMany 64 = .ok (.aload_n 0, 1) := by decide +kernel
theorem dX5_howMany_65 : decode cX5_howMany 65 = .ok (.getfield 9, 3) := by decide +kernel
theorem dX5_howMany_68 : decode cX5_howMany 68 = .ok (.aload_n 0, 1) := by decide +kernel
theorem dX5_howMany_69 : decode cX5_howMany 69 = .ok (.getfield 13, 3) := by decide +kernel
theorem dX5_howMany_72 : decode cX5_howMany 72 = .ok (.invokestatic 140, 3) := by decide +kernel
theorem dX5_howMany_75 : decode cX5_howMany 75 = .ok (.aload_n 0, 1) := by decide +kernel
theorem dX5_howMany_76 : decode cX5_howMany 76 = .ok (.getfield 13, 3) := by decide +kernel
theorem dX5_howMany_79 : decode cX5_howMany 79 = .ok (.iconst 5, 1) := by decide +kernel
theorem dX5_howMany_80 : decode cX5_howMany 80 = .ok (.iload_n 2, 1) := by decide +kernel
theorem dX5_howMany_81 : decode cX5_howMany 81 = .ok (.iadd, 1) := by decide +kernel
theorem dX5_howMany_82 : decode cX5_howMany 82 = .ok (.iload 8, 2) := by decide +kernel
theorem dX5_howMany_84 : decode cX5_howMany 84 = .ok (.iastore, 1) := by decide +kernel
theorem dX5_howMany_85 : decode cX5_howMany 85 = .ok (.aload_n 0, 1) := by decide +kernel
theorem dX5_howMany_86 : decode cX5_howMany 86 = .ok (.iload_n 1, 1) := by decide +kernel
theorem dX5_howMany_87 : decode cX5_howMany 87 = .ok (.bipush 15, 2) := by decide +kernel
theorem dX5_howMany_89 : decode cX5_howMany 89 = .ok (.iload_n 2, 1) := by decide +kernel
theorem dX5_howMany_90 : decode cX5_howMany 90 = .ok (.iadd, 1) := by decide +kernel
theorem dX5_howMany_91 : decode cX5_howMany 91 = .ok (.invokevirtual 180, 3) := by decide +kernel
theorem dX5_howMany_94 : decode cX5_howMany 94 = .ok (.ifCond .ne 6, 3) := by decide +kernel
theorem dX5_howMany_97 : decode cX5_howMany 97 = .ok (.goto 24, 3) := by decide +kernel
theorem dX5_howMany_100 : decode cX5_howMany 100 = .ok (.iload 5, 2) := by decide +kernel
theorem dX5_howMany_102 : decode cX5_howMany 102 = .ok (.ifCond .ne 8, 3) := by decide +kernel
theorem dX5_howMany_105 : decode cX5_howMany 105 = .ok (.iload 8, 2) := by decide +kernel
theorem dX5_howMany_107 : decode cX5_howMany 107 = .ok (.goto 5, 3) := by decide +kernel
theorem dX5_howMany_110 : decode cX5_howMany 110 = .ok (.iload 6, 2) := by decide +kernel
theorem dX5_howMany_112 : decode cX5_howMany 112 = .ok (.istore 6, 2) := by decide +kernel
theorem dX5_howMany_114 : decode cX5_howMany 114 = .ok (.iload 8, 2) := by decide +kernel
theorem dX5_howMany_116 : decode cX5_howMany 116 = .ok (.istore 7, 2) := by decide +kernel
theorem dX5_howMany_118 : decode cX5_howMany 118 = .ok (.iinc 5 1, 3) := by decide +kernel
theorem dX5_howMany_121 : decode cX5_howMany 121 = .ok (.iinc 8 1, 3) := by decide +kernel
theorem dX5_howMany_124 : decode cX5_howMany 124 = .ok (.goto (-68), 3) := by decide +kernel
theorem dX5_howMany_127 : decode cX5_howMany 127 = .ok (.iload_n 3, 1) := by decide +kernel
theorem dX5_howMany_128 : decode cX5_howMany 128 = .ok (.ifCond .ne 8, 3) := by decide +kernel
theorem dX5_howMany_131 : decode cX5_howMany 131 = .ok (.iload 5, 2) := by decide +kernel
theorem dX5_howMany_133 : decode cX5_howMany 133 = .ok (.goto 15, 3) := by decide +kernel
theorem dX5_howMany_136 : decode cX5_howMany 136 = .ok (.iload_n 3, 1) := by decide +kernel
theorem dX5_howMany_137 : decode cX5_howMany 137 = .ok (.iconst 1, 1) := by decide +kernel
theorem dX5_howMany_138 : decode cX5_howMany 138 = .ok (.if_icmp .ne 8, 3) := by decide +kernel
theorem dX5_howMany_141 : decode cX5_howMany 141 = .ok (.iload 6, 2) := by decide +kernel
theorem dX5_howMany_143 : decode cX5_howMany 143 = .ok (.goto 5, 3) := by decide +kernel
theorem dX5_howMany_146 : decode cX5_howMany 146 = .ok (.iload 7, 2) := by decide +kernel
theorem dX5_howMany_148 : decode cX5_howMany 148 = .ok (.ireturn, 1) := by decide +kernel
theorem dX5_whatIs_0 : decode cX5_whatIs 0 = .ok (.aload_n 0, 1) := by decide +kernel
theorem dX5_whatIs_1 : decode cX5_whatIs 1 = .ok (.iload_n 2, 1) := by decide +kernel
theorem dX5_whatIs_2 : decode cX5_whatIs 2 = .ok (.invokevirtual 123, 3) := by decide +kernel
theorem dX5_whatIs_5 : decode cX5_whatIs 5 = .ok (.ifCond .eq 12, 3) := by decide +kernel
theorem dX5_whatIs_8 : decode cX5_whatIs 8 = .ok (.iload_n 3, 1) := by decide +kernel
theorem dX5_whatIs_9 : decode cX5_whatIs 9 = .ok (.iconst 0, 1) := by decide +kernel
theorem dX5_whatIs_10 : decode cX5_whatIs 10 = .ok (.iconst 1, 1) := by decide +kernel
theorem dX5_whatIs_11 : decode cX5_whatIs 11 = .ok (.invokestatic 43, 3) := by decide +kernel
theorem dX5_whatIs_14 : decode cX5_whatIs 14 = .ok (.ifCond .ne 5, 3) := by decide +kernel
theorem dX5_whatIs_17 : decode cX5_whatIs 17 = .ok (.iconst (-1), 1) := by decide +kernel
theorem dX5_whatIs_18 : decode cX5_whatIs 18 = .ok (.ireturn, 1) := by decide +kernel
theorem dX5_whatIs_19 : decode cX5_whatIs 19 = .ok (.aload_n 0, 1) := by decide +kernel
theorem dX5_whatIs_20 : decode cX5_whatIs 20 = .ok (.iload_n 1, 1) := by decide +kernel
theorem dX5_whatIs_21 : decode cX5_whatIs 21 = .ok (.iconst (-1), 1) := by decide +kernel
theorem dX5_whatIs_22 : decode cX5_whatIs 22 = .ok (.invokevirtual 133, 3) := by decide +kernel
theorem dX5_whatIs_25 : decode cX5_whatIs 25 = .ok (.istore 4, 2) := by decide +kernel
theorem dX5_whatIs_27 : decode cX5_whatIs 27 = .ok (.iload 4, 2) := by decide +kernel
theorem dX5_whatIs_29 : decode cX5_whatIs 29 = .ok (.ifCond .eq 6, 3) := by decide +kernel
theorem dX5_whatIs_32 : decode cX5_whatIs 32 = .ok (.iload 4, 2) := by decide +kernel
theorem dX5_whatIs_34 : decode cX5_whatIs 34 = .ok (.ireturn, 1) := by decide +kernel
theorem dX5_whatIs_35 : decode cX5_whatIs 35 = .ok (.iconst 0, 1) := by decide +kernel
theorem dX5_whatIs_36 : decode cX5_whatIs 36 = .ok (.istore 5, 2) := by decide +kernel
theorem dX5_whatIs_38 : decode cX5_whatIs 38 = .ok (.iconst 0, 1) := by decide +kernel
theorem dX5_whatIs_39 : decode cX5_whatIs 39 = .ok (.istore 6, 2) := by decide +kernel
theorem dX5_whatIs_41 : decode cX5_whatIs 41 = .ok (.iload 6, 2) := by decide +kernel
theorem dX5_whatIs_43 : decode cX5_whatIs 43 = .ok (.iload_n 3, 1) := by decide +kernel
theorem dX5_whatIs_44 : decode cX5_whatIs 44 = .ok (.ifCond .ne 8, 3) := by decide +kernel
theorem dX5_whatIs_47 : decode cX5_whatIs 47 = .ok (.bipush 8, 2) := by decide +kernel
theorem dX5_whatIs_49 : decode cX5_whatIs 49 = .ok (.goto 5, 3) := by decide +kernel
theorem dX5_whatIs_52 : decode cX5_whatIs 52 = .ok (.bipush 10, 2) := by decide +kernel
theorem dX5_whatIs_54 : decode cX5_whatIs 54 = .ok (.if_icmp .ge 58, 3) := by decide +kernel
theorem dX5_whatIs_57 : decode cX5_whatIs 57 = .ok (.aload_n 0, 1) := by decide +kernel
theorem dX5_whatIs_58 : decode cX5_whatIs 58 = .ok (.getfield 9, 3) := by decide +kernel
theorem dX5_whatIs_61 : decode cX5_whatIs 61 = .ok (.aload_n 0, 1) := by decide +kernel
theorem dX5_whatIs_62 : decode cX5_whatIs 62 = .ok (.getfield 13, 3) := by decide +kernel
theorem dX5_whatIs_65 : decode cX5_whatIs 65 = .ok (.invokestatic 140, 3) := by decide +kernel
theorem dX5_whatIs_68 : decode cX5_whatIs 68 = .ok (.aload_n 0, 1) := by decide +kernel
theorem dX5_whatIs_69 : decode cX5_whatIs 69 = .ok (.getfield 13, 3) := by decide +kernel
theorem dX5_whatIs_72 : decode cX5_whatIs 72 = .ok (.iload_n 2, 1) := by decide +kernel
theorem dX5_whatIs_73 : decode cX5_whatIs 73 = .ok (.iload_n 3, 1) := by decide +kernel
theorem dX5_whatIs_74 : decode cX5_whatIs 74 = .ok (.invokestatic 47, 3) := by decide +kernel
theorem dX5_whatIs_77 : decode cX5_whatIs 77 = .ok (.iload 6, 2) := by decide +kernel
theorem dX5_whatIs_79 : decode cX5_whatIs 79 = .ok (.iastore, 1) := by decide +kernel
theorem dX5_whatIs_80 : decode cX5_whatIs 80 = .ok (.iload 5, 2) := by decide +kernel
theorem dX5_whatIs_82 : decode cX5_whatIs 82 = .ok (.aload_n 0, 1) := by decide +kernel
theorem dX5_whatIs_83 : decode cX5_whatIs 83 = .ok (.iload_n 1, 1) := by decide +kernel
theorem dX5_whatIs_84 : decode cX5_whatIs 84 = .ok (.iload_n 2, 1) := by decide +kernel
theorem dX5_whatIs_85 : decode cX5_whatIs 85 = .ok (.iconst 4, 1) := by decide +kernel
theorem dX5_whatIs_86 : decode cX5_whatIs 86 = .ok (.invokestatic 47, 3) := by decide +kernel
theorem dX5_whatIs_89 : decode cX5_whatIs 89 = .ok (.invokevirtual 180, 3) := by decide +kernel
theorem dX5_whatIs_92 : decode cX5_whatIs 92 = .ok (.ifCond .eq 10, 3) := by decide +kernel
theorem dX5_whatIs_95 : decode cX5_whatIs 95 = .ok (.iconst 1, 1) := by decide +kernel
theorem dX5_whatIs_96 : decode cX5_whatIs 96 = .ok (.iload 6, 2) := by decide +kernel
theorem dX5_whatIs_98 : decode cX5_whatIs 98 = .ok (.ishl, 1) := by decide +kernel
theorem dX5_whatIs_99 : decode cX5_whatIs 99 = .ok (.goto 4, 3) := by decide +kernel
theorem dX5_whatIs_102 : decode cX5_whatIs 102 = .ok (.iconst 0, 1) := by decide +kernel
theorem dX5_whatIs_103 : decode cX5_whatIs 103 = .ok (.ior, 1) := by decide +kernel
theorem dX5_whatIs_104 : decode cX5_whatIs 104 = .ok (.istore 5, 2) := by decide +kernel
theorem dX5_whatIs_106 : decode cX5_whatIs 106 = .ok (.iinc 6 1, 3) := by decide +kernel
theorem dX5_whatIs_109 : decode cX5_whatIs 109 = .ok (.goto (-68), 3) := by decide +kernel
theorem dX5_whatIs_112 : decode cX5_whatIs 112 = .ok (.iload 5, 2) := by decide +kernel
theorem dX5_whatIs_114 : decode cX5_whatIs 114 = .ok (.ireturn, 1) := by decide +kernel
theorem dX5_hasBy_0 : decode cX5_hasBy 0 = .ok (.aload_n 0, 1) := by decide +kernel
theorem dX5_hasBy_1 : decode cX5_hasBy 1 = .ok (.getfield 9, 3) := by decide +kernel
theorem dX5_hasBy_4 : decode cX5_hasBy 4 = .ok (.aload_n 0, 1) := by decide +kernel
theorem dX5_hasBy_5 : decode cX5_hasBy 5 = .ok (.getfield 13, 3) := by decide +kernel
theorem dX5_hasBy_8 : decode cX5_hasBy 8 = .ok (.invokestatic 140, 3) := by decide +kernel
theorem dX5_hasBy_11 : decode cX5_hasBy 11 = .ok (.aload_n 0, 1) := by decide +kernel
theorem dX5_hasBy_12 : decode cX5_hasBy 12 = .ok (.getfield 13, 3) := by decide +kernel
theorem dX5_hasBy_15 : decode cX5_hasBy 15 = .ok (.iload_n 2, 1) := by decide +kernel
theorem dX5_hasBy_16 : decode cX5_hasBy 16 = .ok (.iconst 5, 1) := by decide +kernel
theorem dX5_hasBy_17 : decode cX5_hasBy 17 = .ok (.invokestatic 47, 3) := by decide +kernel
theorem dX5_hasBy_20 : decode cX5_hasBy 20 = .ok (.iconst 0, 1) := by decide +kernel
theorem dX5_hasBy_21 : decode cX5_hasBy 21 = .ok (.iastore, 1) := by decide +kernel
theorem dX5_hasBy_22 : decode cX5_hasBy 22 = .ok (.aload_n 0, 1) := by decide +kernel
theorem dX5_hasBy_23 : decode cX5_hasBy 23 = .ok (.getfield 13, 3) := by decide +kernel
theorem dX5_hasBy_26 : decode cX5_hasBy 26 = .ok (.iload 4, 2) := by decide +kernel
theorem dX5_hasBy_28 : decode cX5_hasBy 28 = .ok (.iconst 5, 1) := by decide +kernel
theorem dX5_hasBy_29 : decode cX5_hasBy 29 = .ok (.invokestatic 47, 3) := by decide +kernel
theorem dX5_hasBy_32 : decode cX5_hasBy 32 = .ok (.iconst 0, 1) := by decide +kernel
theorem dX5_hasBy_33 : decode cX5_hasBy 33 = .ok (.iastore, 1) := by decide +kernel
theorem dX5_hasBy_34 : decode cX5_hasBy 34 = .ok (.aload_n 0, 1) := by decide +kernel
theorem dX5_hasBy_35 : decode cX5_hasBy 35 = .ok (.getfield 13, 3) := by decide +kernel
theorem dX5_hasBy_38 : decode cX5_hasBy 38 = .ok (.iconst 4, 1) := by decide +kernel
theorem dX5_hasBy_39 : decode cX5_hasBy 39 = .ok (.iconst 1, 1) := by decide +kernel
theorem dX5_hasBy_40 : decode cX5_hasBy 40 = .ok (.iload_n 3, 1) := by decide +kernel
theorem dX5_hasBy_41 : decode cX5_hasBy 41 = .ok (.isub, 1) := by decide +kernel
theorem dX5_hasBy_42 : decode cX5_hasBy 42 = .ok (.iload_n 2, 1) := by decide +kernel
theorem dX5_hasBy_43 : decode cX5_hasBy 43 = .ok (.ishl, 1) := by decide +kernel
theorem dX5_hasBy_44 : decode cX5_hasBy 44 = .ok (.iconst 1, 1) := by decide +kernel
theorem dX5_hasBy_45 : decode cX5_hasBy 45 = .ok (.iload 5, 2) := by decide +kernel
theorem dX5_hasBy_47 : decode cX5_hasBy 47 = .ok (.isub, 1) := by decide +kernel
theorem dX5_hasBy_48 : decode cX5_hasBy 48 = .ok (.iload 4, 2) := by decide +kernel
theorem dX5_hasBy_50 : decode cX5_hasBy 50 = .ok (.ishl, 1) := by decide +kernel
theorem dX5_hasBy_51 : decode cX5_hasBy 51 = .ok (.ior, 1) := by decide +kernel
theorem dX5_hasBy_52 : decode cX5_hasBy 52 = .ok (.iastore, 1) := by decide +kernel
theorem dX5_hasBy_53 : decode cX5_hasBy 53 = .ok (.aload_n 0, 1) := by decide +kernel
theorem dX5_hasBy_54 : decode cX5_hasBy 54 = .ok (.getfield 13, 3) := by decide +kernel
theorem dX5_hasBy_57 : decode cX5_hasBy 57 = .ok (.iconst 5, 1) := by decide +kernel
theorem dX5_hasBy_58 : decode cX5_hasBy 58 = .ok (.invokestatic 130, 3) := by decide +kernel
theorem dX5_hasBy_61 : decode cX5_hasBy 61 = .ok (.aload_n 0, 1) := by decide +kernel
theorem dX5_hasBy_62 : decode cX5_hasBy 62 = .ok (.getfield 13, 3) := by decide +kernel
theorem dX5_hasBy_65 : decode cX5_hasBy 65 = .ok (.iload_n 1, 1) := by decide +kernel
theorem dX5_hasBy_66 : decode cX5_hasBy 66 = .ok (.iconst 4, 1) := by decide +kernel
theorem dX5_hasBy_67 : decode cX5_hasBy 67 = .ok (.invokestatic 47, 3) := by decide +kernel
theorem dX5_hasBy_70 : decode cX5_hasBy 70 = .ok (.iaload, 1) := by decide +kernel
theorem dX5_hasBy_71 : decode cX5_hasBy 71 = .ok (.aload_n 0, 1) := by decide +kernel
theorem dX5_hasBy_72 : decode cX5_hasBy 72 = .ok (.getfield 9, 3) := by decide +kernel
theorem dX5_hasBy_75 : decode cX5_hasBy 75 = .ok (.iload_n 1, 1) := by decide +kernel
theorem dX5_hasBy_76 : decode cX5_hasBy 76 = .ok (.iconst 4, 1) := by decide +kernel
theorem dX5_hasBy_77 : decode cX5_hasBy 77 = .ok (.invokestatic 47, 3) := by decide +kernel
theorem dX5_hasBy_80 : decode cX5_hasBy 80 = .ok (.iaload, 1) := by decide +kernel
theorem dX5_hasBy_81 : decode cX5_hasBy 81 = .ok (.isub, 1) := by decide +kernel
theorem dX5_hasBy_82 : decode cX5_hasBy 82 = .ok (.istore 6, 2) := by decide +kernel
theorem dX5_hasBy_84 : decode cX5_hasBy 84 = .ok (.iload_n 1, 1) := by decide +kernel
theorem dX5_hasBy_85 : decode cX5_hasBy 85 = .ok (.iload_n 2, 1) := by decide +kernel
theorem dX5_hasBy_86 : decode cX5_hasBy 86 = .ok (.if_icmp .ne 21, 3) := by decide +kernel
theorem dX5_hasBy_89 : decode cX5_hasBy 89 = .ok (.iload_n 3, 1) := by decide +kernel
theorem dX5_hasBy_90 : decode cX5_hasBy 90 = .ok (.ifCond .ne 13, 3) := by decide +kernel
theorem dX5_hasBy_93 : decode cX5_hasBy 93 = .ok (.iload 5, 2) := by decide +kernel
theorem dX5_hasBy_95 : decode cX5_hasBy 95 = .ok (.iconst 1, 1) := by decide +kernel
theorem dX5_hasBy_96 : decode cX5_hasBy 96 = .ok (.if_icmp .ne 7, 3) := by decide +kernel
theorem dX5_hasBy_99 : decode cX5_hasBy 99 = .ok (.iconst 1, 1) := by decide +kernel
theorem dX5_hasBy_100 : decode cX5_hasBy 100 = .ok (.goto 22, 3) := by decide +kernel
theorem dX5_hasBy_103 : decode cX5_hasBy 103 = .ok (.iconst 0, 1) := by decide +kernel
theorem dX5_hasBy_104 : decode cX5_hasBy 104 = .ok (.goto 18, 3) := by decide +kernel
theorem dX5_hasBy_107 : decode cX5_hasBy 107 = .ok (.iload 5, 2) := by decide +kernel
theorem dX5_hasBy_109 : decode cX5_hasBy 109 = .ok (.ifCond .ne 12, 3) := by decide +kernel
theorem dX5_hasBy_112 : decode cX5_hasBy 112 = .ok (.iload_n 3, 1) := by decide +kernel
theorem dX5_hasBy_113 : decode cX5_hasBy 113 = .ok (.iconst 1, 1) := by decide +kernel
theorem dX5_hasBy_114 : decode cX5_hasBy 114 = .ok (.if_icmp .ne 7, 3) := by decide +kernel
theorem dX5_hasBy_117 : decode cX5_hasBy 117 = .ok (.iconst 1, 1) := by decide +kernel
theorem dX5_hasBy_118 : decode cX5_hasBy 118 = .ok (.goto 4, 3) := by decide +kernel
theorem dX5_hasBy_121 : decode cX5_hasBy 121 = .ok (.iconst 0, 1) := by decide +kernel
theorem dX5_hasBy_122 : decode cX5_hasBy 122 = .ok (.istore 7, 2) := by decide +kernel
theorem dX5_hasBy_124 : decode cX5_hasBy 124 = .ok (.iload 7, 2) := by decide +kernel
theorem dX5_hasBy_126 : decode cX5_hasBy 126 = .ok (.ifCond .eq 11, 3) := by decide +kernel
theorem dX5_hasBy_129 : decode cX5_hasBy 129 = .ok (.iload 6, 2) := by decide +kernel
theorem dX5_hasBy_131 : decode cX5_hasBy 131 = .ok (.bipush 20, 2) := by decide +kernel
theorem dX5_hasBy_133 : decode cX5_hasBy 133 = .ok (.isub, 1) := by decide +kernel
theorem dX5_hasBy_134 : decode cX5_hasBy 134 = .ok (.goto 5, 3) := by decide +kernel
theorem dX5_hasBy_137 : decode cX5_hasBy 137 = .ok (.iload 6, 2) := by decide +kernel
theorem dX5_hasBy_139 : decode cX5_hasBy 139 = .ok (.ireturn, 1) := by decide +kernel
theorem dX5_two_0 : decode cX5_two 0 = .ok (.aload_n 0, 1) := by decide +kernel
theorem dX5_two_1 : decode cX5_two 1 = .ok (.iload_n 1, 1) := by decide +kernel
theorem dX5_two_2 : decode cX5_two 2 = .ok (.invokevirtual 123, 3) := by decide +kernel
theorem dX5_two_5 : decode cX5_two 5 = .ok (.ifCond .eq 16, 3) := by decide +kernel
theorem dX5_two_8 : decode cX5_two 8 = .ok (.aload_n 0, 1) := by decide +kernel
theorem dX5_two_9 : decode cX5_two 9 = .ok (.iload_n 2, 1) := by decide +kernel
theorem dX5_two_10 : decode cX5_two 10 = .ok (.invokevirtual 123, 3) := by decide +kernel
theorem dX5_two_13 : decode cX5_two 13 = .ok (.ifCond .eq 8, 3) := by decide +kernel
theorem dX5_two_16 : decode cX5_two 16 = .ok (.iload_n 1, 1) := by decide +kernel
theorem dX5_two_17 : decode cX5_two 17 = .ok (.iload_n 2, 1) := by decide +kernel
theorem dX5_two_18 : decode cX5_two 18 = .ok (.if_icmp .ne 5, 3) := by decide +kernel
theorem dX5_two_21 : decode cX5_two 21 = .ok (.iconst (-1), 1) := by decide +kernel
theorem dX5_two_22 : decode cX5_two 22 = .ok (.ireturn, 1) := by decide +kernel
theorem dX5_two_23 : decode cX5_two 23 = .ok (.iconst 0, 1) := by decide +kernel
theorem dX5_two_24 : decode cX5_two 24 = .ok (.istore_n 3, 1) := by decide +kernel
theorem dX5_two_25 : decode cX5_two 25 = .ok (.iload_n 3, 1) := by decide +kernel
theorem dX5_two_26 : decode cX5_two 26 = .ok (.iconst 4, 1) := by decide +kernel
theorem dX5_two_27 : decode cX5_two 27 = .ok (.if_icmp .ge 82, 3) := by decide +kernel
theorem dX5_two_30 : decode cX5_two 30 = .ok (.iload_n 3, 1) := by decide +kernel
theorem dX5_two_31 : decode cX5_two 31 = .ok (.iconst 2, 1) := by decide +kernel
theorem dX5_two_32 : decode cX5_two 32 = .ok (.idiv, 1) := by decide +kernel
theorem dX5_two_33 : decode cX5_two 33 = .ok (.istore 4, 2) := by decide +kernel
theorem dX5_two_35 : decode cX5_two 35 = .ok (.iload_n 3, 1) := by decide +kernel
theorem dX5_two_36 : decode cX5_two 36 = .ok (.iconst 2, 1) := by decide +kernel
theorem dX5_two_37 : decode cX5_two 37 = .ok (.irem, 1) := by decide +kernel
theorem dX5_two_38 : decode cX5_two 38 = .ok (.istore 5, 2) := by decide +kernel
theorem dX5_two_40 : decode cX5_two 40 = .ok (.aload_n 0, 1) := by decide +kernel
theorem dX5_two_41 : decode cX5_two 41 = .ok (.iload_n 1, 1) := by decide +kernel
theorem dX5_two_42 : decode cX5_two 42 = .ok (.iload_n 1, 1) := by decide +kernel
theorem dX5_two_43 : decode cX5_two 43 = .ok (.iconst 1, 1) := by decide +kernel
theorem dX5_two_44 : decode cX5_two 44 = .ok (.iload 4, 2) := by decide +kernel
theorem dX5_two_46 : decode cX5_two 46 = .ok (.isub, 1) := by decide +kernel
theorem dX5_two_47 : decode cX5_two 47 = .ok (.iload_n 2, 1) := by decide +kernel
theorem dX5_two_48 : decode cX5_two 48 = .ok (.iload 5, 2) := by decide +kernel
theorem dX5_two_50 : decode cX5_two 50 = .ok (.invokevirtual 183, 3) := by decide +kernel
theorem dX5_two_53 : decode cX5_two 53 = .ok (.aload_n 0, 1) := by decide +kernel
theorem dX5_two_54 : decode cX5_two 54 = .ok (.iload_n 1, 1) := by decide +kernel
theorem dX5_two_55 : decode cX5_two 55 = .ok (.iload_n 1, 1) := by decide +kernel
theorem dX5_two_56 : decode cX5_two 56 = .ok (.iload 4, 2) := by decide +kernel
theorem dX5_two_58 : decode cX5_two 58 = .ok (.iload_n 2, 1) := by decide +kernel
theorem dX5_two_59 : decode cX5_two 59 = .ok (.iload 5, 2) := by decide +kernel
theorem dX5_two_61 : decode cX5_two 61 = .ok (.invokevirtual 183, 3) := by decide +kernel
theorem dX5_two_64 : decode cX5_two 64 = .ok (.if_icmp .gt 39, 3) := by decide +kernel
theorem dX5_two_67 : decode cX5_two 67 = .ok (.aload_n 0, 1) := by decide +kernel
theorem dX5_two_68 : decode cX5_two 68 = .ok (.iload_n 2, 1) := by decide +kernel
theorem dX5_two_69 : decode cX5_two 69 = .ok (.iload_n 1, 1) := by decide +kernel
theorem dX5_two_70 : decode cX5_two 70 = .ok (.iload 4, 2) := by decide +kernel
theorem dX5_two_72 : decode cX5_two 72 = .ok (.iload_n 2, 1) := by decide +kernel
theorem dX5_two_73 : decode cX5_two 73 = .ok (.iconst 1, 1) := by decide +kernel
theorem dX5_two_74 : decode cX5_two 74 = .ok (.iload 5, 2) := by decide +kernel
theorem dX5_two_76 : decode cX5_two 76 = .ok (.isub, 1) := by decide +kernel
theorem dX5_two_77 : decode cX5_two 77 = .ok (.invokevirtual 183, 3) := by decide +kernel
theorem dX5_two_80 : decode cX5_two 80 = .ok (.aload_n 0, 1) := by decide +kernel
theorem dX5_two_81 : decode cX5_two 81 = .ok (.iload_n 2, 1) := by decide +kernel
theorem dX5_two_82 : decode cX5_two 82 = .ok (.iload_n 1, 1) := by decide +kernel
theorem dX5_two_83 : decode cX5_two 83 = .ok (.iload 4, 2) := by decide +kernel
theorem dX5_two_85 : decode cX5_two 85 = .ok (.iload_n 2, 1) := by decide +kernel
theorem dX5_two_86 : decode cX5_two 86 = .ok (.iload 5, 2) := by decide +kernel
theorem dX5_two_88 : decode cX5_two 88 = .ok (.invokevirtual 183, 3) := by decide +kernel
theorem dX5_two_91 : decode cX5_two 91 = .ok (.if_icmp .gt 12, 3) := by decide +kernel
theorem dX5_two_94 : decode cX5_two 94 = .ok (.bipush 10, 2) := by decide +kernel
theorem dX5_two_96 : decode cX5_two 96 = .ok (.iload 4, 2) := by decide +kernel
theorem dX5_two_98 : decode cX5_two 98 = .ok (.imul, 1) := by decide +kernel
theorem dX5_two_99 : decode cX5_two 99 = .ok (.iload 5, 2) := by decide +kernel
theorem dX5_two_101 : decode cX5_two 101 = .ok (.iadd, 1) := by decide +kernel
theorem dX5_two_102 : decode cX5_two 102 = .ok (.ireturn, 1) := by decide +kernel
theorem dX5_two_103 : decode cX5_two 103 = .ok (.iinc 3 1, 3) := by decide +kernel
theorem dX5_two_106 : decode cX5_two 106 = .ok (.goto (-81), 3) := by decide +kernel
theorem dX5_two_109 : decode cX5_two 109 = .ok (.bipush (-4), 2) := by decide +kernel
theorem dX5_two_111 : decode cX5_two 111 = .ok (.ireturn, 1) := by decide +kernel
theorem dX5_gcd_0 : decode cX5_gcd 0 = .ok (.lload_n 0, 1) := by decide +kernel
theorem dX5_gcd_1 : decode cX5_gcd 1 = .ok (.lstore 4, 2) := by decide +kernel
theorem dX5_gcd_3 : decode cX5_gcd 3 = .ok (.lload_n 2, 1) := by decide +kernel
theorem dX5_gcd_4 : decode cX5_gcd 4 = .ok (.lstore 6, 2) := by decide +kernel
theorem dX5_gcd_6 : decode cX5_gcd 6 = .ok (.lload 6, 2) := by decide +kernel
theorem dX5_gcd_8 : decode cX5_gcd 8 = .ok (.lconst 0, 1) := by decide +kernel
theorem dX5_gcd_9 : decode cX5_gcd 9 = .ok (.lcmp, 1) := by decide +kernel
theorem dX5_gcd_10 : decode cX5_gcd 10 = .ok (.ifCond .eq 21, 3) := by decide +kernel
theorem dX5_gcd_13 : decode cX5_gcd 13 = .ok (.lload 4, 2) := by decide +kernel
theorem dX5_gcd_15 : decode cX5_gcd 15 = .ok (.lload 6, 2) := by decide +kernel
theorem dX5_gcd_17 : decode cX5_gcd 17 = .ok (.lrem, 1) := by decide +kernel
theorem dX5_gcd_18 : decode cX5_gcd 18 = .ok (.lstore 8, 2) := by decide +kernel
theorem dX5_gcd_20 : decode cX5_gcd 20 = .ok (.lload 6, 2) := by decide +kernel
theorem dX5_gcd_22 : decode cX5_gcd 22 = .ok (.lstore 4, 2) := by decide +kernel
theorem dX5_gcd_24 : decode cX5_gcd 24 = .ok (.lload 8, 2) := by decide +kernel
theorem dX5_gcd_26 : decode cX5_gcd 26 = .ok (.lstore 6, 2) := by decide +kernel
theorem dX5_gcd_28 : decode cX5_gcd 28 = .ok (.goto (-22), 3) := by decide +kernel
theorem dX5_gcd_31 : decode cX5_gcd 31 = .ok (.lload 4, 2) := by decide +kernel
theorem dX5_gcd_33 : decode cX5_gcd 33 = .ok (.lreturn, 1) := by decide +kernel
theorem dX5_partOf_0 : decode cX5_partOf 0 = .ok (.lload_n 0, 1) := by decide +kernel
theorem dX5_partOf_1 : decode cX5_partOf 1 = .ok (.lconst 0, 1) := by decide +kernel
theorem dX5_partOf_2 : decode cX5_partOf 2 = .ok (.lcmp, 1) := by decide +kernel
theorem dX5_partOf_3 : decode cX5_partOf 3 = .ok (.ifCond .ne 7, 3) := by decide +kernel
theorem dX5_partOf_6 : decode cX5_partOf 6 = .ok (.iload 4, 2) := by decide +kernel
theorem dX5_partOf_8 : decode cX5_partOf 8 = .ok (.i2l, 1) := by decide +kernel
theorem dX5_partOf_9 : decode cX5_partOf 9 = .ok (.lreturn, 1) := by decide +kernel
theorem dX5_partOf_10 : decode cX5_partOf 10 = .ok (.iload 4, 2) := by decide +kernel
theorem dX5_partOf_12 : decode cX5_partOf 12 = .ok (.ifCond .ne 7, 3) := by decide +kernel
theorem dX5_partOf_15 : decode cX5_partOf 15 = .ok (.lload_n 0, 1) := by decide +kernel
theorem dX5_partOf_16 : decode cX5_partOf 16 = .ok (.goto 4, 3) := by decide +kernel
theorem dX5_partOf_19 : decode cX5_partOf 19 = .ok (.lload_n 2, 1) := by decide +kernel
theorem dX5_partOf_20 : decode cX5_partOf 20 = .ok (.lload_n 0, 1) := by decide +kernel
theorem dX5_partOf_21 : decode cX5_partOf 21 = .ok (.lload_n 2, 1) := by decide +kernel
theorem dX5_partOf_22 : decode cX5_partOf 22 = .ok (.invokestatic 187, 3) := by decide +kernel
theorem dX5_partOf_25 : decode cX5_partOf 25 = .ok (.ldiv, 1) := by decide +kernel
theorem dX5_partOf_26 : decode cX5_partOf 26 = .ok (.lreturn, 1) := by decide +kernel
theorem dX5_storm_0 : decode cX5_storm 0 = .ok (.iload_n 1, 1) := by decide +kernel
theorem dX5_storm_1 : decode cX5_storm 1 = .ok (.invokestatic 61, 3) := by decide +kernel
theorem dX5_storm_4 : decode cX5_storm 4 = .ok (.ifCond .eq 33, 3) := by decide +kernel
theorem dX5_storm_7 : decode cX5_storm 7 = .ok (.iload_n 2, 1) := by decide +kernel
theorem dX5_storm_8 : decode cX5_storm 8 = .ok (.iconst 0, 1) := by decide +kernel
theorem dX5_storm_9 : decode cX5_storm 9 = .ok (.bipush 7, 2) := by decide +kernel
theorem dX5_storm_11 : decode cX5_storm 11 = .ok (.invokestatic 43, 3) := by decide +kernel
theorem dX5_storm_14 : decode cX5_storm 14 = .ok (.ifCond .eq 23, 3) := by decide +kernel
theorem dX5_storm_17 : decode cX5_storm 17 = .ok (.iload_n 3, 1) := by decide +kernel
theorem dX5_storm_18 : decode cX5_storm 18 = .ok (.iconst 2, 1) := by decide +kernel
theorem dX5_storm_19 : decode cX5_storm 19 = .ok (.bipush 20, 2) := by decide +kernel
theorem dX5_storm_21 : decode cX5_storm 21 = .ok (.invokestatic 43, 3) := by decide +kernel
theorem dX5_storm_24 : decode cX5_storm 24 = .ok (.ifCond .eq 13, 3) := by decide +kernel
theorem dX5_storm_27 : decode cX5_storm 27 = .ok (.iload 4, 2) := by decide +kernel
theorem dX5_storm_29 : decode cX5_storm 29 = .ok (.iconst 0, 1) := by decide +kernel
theorem dX5_storm_30 : decode cX5_storm 30 = .ok (.iconst 1, 1) := by decide +kernel
theorem dX5_storm_31 : decode cX5_storm 31 = .ok (.invokestatic 43, 3) := by decide +kernel
theorem dX5_storm_34 : decode cX5_storm 34 = .ok (.ifCond .ne 7, 3) := by decide +kernel
theorem dX5_storm_37 : decode cX5_storm 37 = .ok (.ldc2_w 191, 3) := by decide +kernel
theorem dX5_storm_40 : decode cX5_storm 40 = .ok (.lreturn, 1) := by decide +kernel
theorem dX5_storm_41 : decode cX5_storm 41 = .ok (.lconst 0, 1) := by decide +kernel
theorem dX5_storm_42 : decode cX5_storm 42 = .ok (.lstore 5, 2) := by decide +kernel
theorem dX5_storm_44 : decode cX5_storm 44 = .ok (.lconst 1, 1) := by decide +kernel
theorem dX5_storm_45 : decode cX5_storm 45 = .ok (.lstore 7, 2) := by decide +kernel
theorem dX5_storm_47 : decode cX5_storm 47 = .ok (.iconst 0, 1) := by decide +kernel
theorem dX5_storm_48 : decode cX5_storm 48 = .ok (.istore 9, 2) := by decide +kernel
theorem dX5_storm_50 : decode cX5_storm 50 = .ok (.iload 9, 2) := by decide +kernel
theorem dX5_storm_52 : decode cX5_storm 52 = .ok (.iload_n 2, 1) := by decide +kernel
theorem dX5_storm_53 : decode cX5_storm 53 = .ok (.if_icmp .ge 16, 3) := by decide +kernel
theorem dX5_storm_56 : decode cX5_storm 56 = .ok (.lload 7, 2) := by decide +kernel
theorem dX5_storm_58 : decode cX5_storm 58 = .ok (.iload_n 3, 1) := by decide +kernel
theorem dX5_storm_59 : decode cX5_storm 59 = .ok (.i2l, 1) := by decide +kernel
theorem dX5_storm_60 : decode cX5_storm 60 = .ok (.lmul, 1) := by decide +kernel
theorem dX5_storm_61 : decode cX5_storm 61 = .ok (.lstore 7, 2) := by decide +kernel
theorem dX5_storm_63 : decode cX5_storm 63 = .ok (.iinc 9 1, 3) := by decide +kernel
theorem dX5_storm_66 : decode cX5_storm 66 = .ok (.goto (-16), 3) := by decide +kernel
theorem dX5_storm_69 : decode cX5_storm 69 = .ok (.iconst 0, 1) := by decide +kernel
theorem dX5_storm_70 : decode cX5_storm 70 = .ok (.istore 9, 2) := by decide +kernel
theorem dX5_storm_72 : decode cX5_storm 72 = .ok (.iload 9, 2) := by decide +kernel
theorem dX5_storm_74 : decode cX5_storm 74 = .ok (.iconst 1, 1) := by decide +kernel
theorem dX5_storm_75 : decode cX5_storm 75 = .ok (.iload_n 2, 1) := by decide +kernel
theorem dX5_storm_76 : decode cX5_storm 76 = .ok (.ishl, 1) := by decide +kernel
theorem dX5_storm_77 : decode cX5_storm 77 = .ok (.if_icmp .ge 111, 3) := by decide +kernel
theorem dX5_storm_80 : decode cX5_storm 80 = .ok (.lconst 1, 1) := by decide +kernel
theorem dX5_storm_81 : decode cX5_storm 81 = .ok (.lstore 10, 2) := by decide +kernel
theorem dX5_storm_83 : decode cX5_storm 83 = .ok (.aload_n 0, 1) := by decide +kernel
theorem dX5_storm_84 : decode cX5_storm 84 = .ok (.getfield 9, 3) := by decide +kernel
theorem dX5_storm_87 : decode cX5_storm 87 = .ok (.aload_n 0, 1) := by decide +kernel
theorem dX5_storm_88 : decode cX5_storm 88 = .ok (.getfield 13, 3) := by decide +kernel
theorem dX5_storm_91 : decode cX5_storm 91 = .ok (.invokestatic 140, 3) := by decide +kernel
theorem dX5_storm_94 : decode cX5_storm 94 = .ok (.iconst 0, 1) := by decide +kernel
theorem dX5_storm_95 : decode cX5_storm 95 = .ok (.istore 12, 2) := by decide +kernel
theorem dX5_storm_97 : decode cX5_storm 97 = .ok (.iload 12, 2) := by decide +kernel
theorem dX5_storm_99 : decode cX5_storm 99 = .ok (.iload_n 2, 1) := by decide +kernel
theorem dX5_storm_100 : decode cX5_storm 100 = .ok (.if_icmp .ge 60, 3) := by decide +kernel
theorem dX5_storm_103 : decode cX5_storm 103 = .ok (.lload 10, 2) := by decide +kernel
theorem dX5_storm_105 : decode cX5_storm 105 = .ok (.iload 9, 2) := by decide +kernel
theorem dX5_storm_107 : decode cX5_storm 107 = .ok (.iload 12, 2) := by decide +kernel
theorem dX5_storm_109 : decode cX5_storm 109 = .ok (.invokestatic 69, 3) := by decide +kernel
theorem dX5_storm_112 : decode cX5_storm 112 = .ok (.ifCond .eq 7, 3) := by decide +kernel
theorem dX5_storm_115 : decode cX5_storm 115 = .ok (.lconst 1, 1) := by decide +kernel
theorem dX5_storm_116 : decode cX5_storm 116 = .ok (.goto 7, 3) := by decide +kernel
theorem dX5_storm_119 : decode cX5_storm 119 = .ok (.iload_n 3, 1) := by decide +kernel
theorem dX5_storm_120 : decode cX5_storm 120 = .ok (.iconst 1, 1) := by decide +kernel
theorem dX5_storm_121 : decode cX5_storm 121 = .ok (.isub, 1) := by decide +kernel
theorem dX5_storm_122 : decode cX5_storm 122 = .ok (.i2l, 1) := by decide +kernel
theorem dX5_storm_123 : decode cX5_storm 123 = .ok (.lmul, 1) := by decide +kernel
theorem dX5_storm_124 : decode cX5_storm 124 = .ok (.lstore 10, 2) := by decide +kernel
theorem dX5_storm_126 : decode cX5_storm 126 = .ok (.aload_n 0, 1) := by decide +kernel
theorem dX5_storm_127 : decode cX5_storm 127 = .ok (.getfield 13, 3) := by decide +kernel
theorem dX5_storm_130 : decode cX5_storm 130 = .ok (.iload 9, 2) := by decide +kernel
theorem dX5_storm_132 : decode cX5_storm 132 = .ok (.iload 12, 2) := by decide +kernel
theorem dX5_storm_134 : decode cX5_storm 134 = .ok (.invokestatic 69, 3) := by decide +kernel
theorem dX5_storm_137 : decode cX5_storm 137 = .ok (.ifCond .eq 8, 3) := by decide +kernel
theorem dX5_storm_140 : decode cX5_storm 140 = .ok (.bipush 9, 2) := by decide +kernel
theorem dX5_storm_142 : decode cX5_storm 142 = .ok (.goto 9, 3) := by decide +kernel
theorem dX5_storm_145 : decode cX5_storm 145 = .ok (.aload_n 0, 1) := by decide +kernel
theorem dX5_storm_146 : decode cX5_storm 146 = .ok (.getfield 13, 3) := by decide +kernel
theorem dX5_storm_149 : decode cX5_storm 149 = .ok (.iconst 2, 1) := by decide +kernel
theorem dX5_storm_150 : decode cX5_storm 150 = .ok (.iaload, 1) := by decide +kernel
theorem dX5_storm_151 : decode cX5_storm 151 = .ok (.invokestatic 96, 3) := by decide +kernel
theorem dX5_storm_154 : decode cX5_storm 154 = .ok (.iinc 12 1, 3) := by decide +kernel
theorem dX5_storm_157 : decode cX5_storm 157 = .ok (.goto (-60), 3) := by decide +kernel
theorem dX5_storm_160 : decode cX5_storm 160 = .ok (.lload 5, 2) := by decide +kernel
theorem dX5_storm_162 : decode cX5_storm 162 = .ok (.aload_n 0, 1) := by decide +kernel
theorem dX5_storm_163 : decode cX5_storm 163 = .ok (.getfield 13, 3) := by decide +kernel
theorem dX5_storm_166 : decode cX5_storm 166 = .ok (.iload_n 1, 1) := by decide +kernel
theorem dX5_storm_167 : decode cX5_storm 167 = .ok (.invokestatic 51, 3) := by decide +kernel
theorem dX5_storm_170 : decode cX5_storm 170 = .ok (.ifCond .ne 8, 3) := by decide +kernel
theorem dX5_storm_173 : decode cX5_storm 173 = .ok (.lload 10, 2) := by decide +kernel
theorem dX5_storm_175 : decode cX5_storm 175 = .ok (.goto 4, 3) := by decide +kernel
theorem dX5_storm_178 : decode cX5_storm 178 = .ok (.lconst 0, 1) := by decide +kernel
theorem dX5_storm_179 : decode cX5_storm 179 = .ok (.ladd, 1) := by decide +kernel
theorem dX5_storm_180 : decode cX5_storm 180 = .ok (.lstore 5, 2) := by decide +kernel
theorem dX5_storm_182 : decode cX5_storm 182 = .ok (.iinc 9 1, 3) := by decide +kernel
theorem dX5_storm_185 : decode cX5_storm 185 = .ok (.goto (-113), 3) := by decide +kernel
theorem dX5_storm_188 : decode cX5_storm 188 = .ok (.lload 5, 2) := by decide +kernel
theorem dX5_storm_190 : decode cX5_storm 190 = .ok (.lload 7, 2) := by decide +kernel
theorem dX5_storm_192 : decode cX5_storm 192 = .ok (.iload 4, 2) := by decide +kernel
theorem dX5_storm_194 : decode cX5_storm 194 = .ok (.invokestatic 193, 3) := by decide +kernel
theorem dX5_storm_197 : decode cX5_storm 197 = .ok (.lreturn, 1) := by decide +kernel
theorem dX5_sumOf_0 : decode cX5_sumOf 0 = .ok (.iconst 0, 1) := by decide +kernel
theorem dX5_sumOf_1 : decode cX5_sumOf 1 = .ok (.istore_n 2, 1) := by decide +kernel
theorem dX5_sumOf_2 : decode cX5_sumOf 2 = .ok (.iconst 0, 1) := by decide +kernel
theorem dX5_sumOf_3 : decode cX5_sumOf 3 = .ok (.istore_n 3, 1) := by decide +kernel
theorem dX5_sumOf_4 : decode cX5_sumOf 4 = .ok (.iload_n 3, 1) := by decide +kernel
theorem dX5_sumOf_5 : decode cX5_sumOf 5 = .ok (.bipush 10, 2) := by decide +kernel
theorem dX5_sumOf_7 : decode cX5_sumOf 7 = .ok (.if_icmp .ge 20, 3) := by decide +kernel
theorem dX5_sumOf_10 : decode cX5_sumOf 10 = .ok (.iload_n 2, 1) := by decide +kernel
theorem dX5_sumOf_11 : decode cX5_sumOf 11 = .ok (.aload_n 0, 1) := by decide +kernel
theorem dX5_sumOf_12 : decode cX5_sumOf 12 = .ok (.getfield 9, 3) := by decide +kernel
theorem dX5_sumOf_15 : decode cX5_sumOf 15 = .ok (.iload_n 1, 1) := by decide +kernel
theorem dX5_sumOf_16 : decode cX5_sumOf 16 = .ok (.iload_n 3, 1) := by decide +kernel
theorem dX5_sumOf_17 : decode cX5_sumOf 17 = .ok (.iadd, 1) := by decide +kernel
theorem dX5_sumOf_18 : decode cX5_sumOf 18 = .ok (.iaload, 1) := by decide +kernel
theorem dX5_sumOf_19 : decode cX5_sumOf 19 = .ok (.iadd, 1) := by decide +kernel
theorem dX5_sumOf_20 : decode cX5_sumOf 20 = .ok (.istore_n 2, 1) := by decide +kernel
theorem dX5_sumOf_21 : decode cX5_sumOf 21 = .ok (.iinc 3 1, 3) := by decide +kernel
theorem dX5_sumOf_24 : decode cX5_sumOf 24 = .ok (.goto (-20), 3) := by decide +kernel
theorem dX5_sumOf_27 : decode cX5_sumOf 27 = .ok (.iload_n 2, 1) := by decide +kernel
theorem dX5_sumOf_28 : decode cX5_sumOf 28 = .ok (.ireturn, 1) := by decide +kernel
theorem dX5_mean_0 : decode cX5_mean 0 = .ok (.iload_n 1, 1) := by decide +kernel
theorem dX5_mean_1 : decode cX5_mean 1 = .ok (.iconst 0, 1) := by decide +kernel
theorem dX5_mean_2 : decode cX5_mean 2 = .ok (.iconst 1, 1) := by decide +kernel
theorem dX5_mean_3 : decode cX5_mean 3 = .ok (.invokestatic 43, 3) := by decide +kernel
theorem dX5_mean_6 : decode cX5_mean 6 = .ok (.ifCond .eq 19, 3) := by decide +kernel
theorem dX5_mean_9 : decode cX5_mean 9 = .ok (.aload_n 0, 1) := by decide +kernel
theorem dX5_mean_10 : decode cX5_mean 10 = .ok (.iconst 5, 1) := by decide +kernel
theorem dX5_mean_11 : decode cX5_mean 11 = .ok (.invokevirtual 197, 3) := by decide +kernel
theorem dX5_mean_14 : decode cX5_mean 14 = .ok (.i2l, 1) := by decide +kernel
theorem dX5_mean_15 : decode cX5_mean 15 = .ok (.ldc2_w 200, 3) := by decide +kernel
theorem dX5_mean_18 : decode cX5_mean 18 = .ok (.iload_n 1, 1) := by decide +kernel
theorem dX5_mean_19 : decode cX5_mean 19 = .ok (.invokestatic 193, 3) := by decide +kernel
theorem dX5_mean_22 : decode cX5_mean 22 = .ok (.goto 6, 3) := by decide +kernel
theorem dX5_mean_25 : decode cX5_mean 25 = .ok (.ldc2_w 191, 3) := by decide +kernel
theorem dX5_mean_28 : decode cX5_mean 28 = .ok (.lreturn, 1) := by decide +kernel
theorem dX5_forged_0 : decode cX5_forged 0 = .ok (.aload_n 0, 1) := by decide +kernel
theorem dX5_forged_1 : decode cX5_forged 1 = .ok (.iload_n 1, 1) := by decide +kernel
theorem dX5_forged_2 : decode cX5_forged 2 = .ok (.iconst (-1), 1) := by decide +kernel
theorem dX5_forged_3 : decode cX5_forged 3 = .ok (.invokevirtual 133, 3) := by decide +kernel
theorem dX5_forged_6 : decode cX5_forged 6 = .ok (.istore_n 2, 1) := by decide +kernel
theorem dX5_forged_7 : decode cX5_forged 7 = .ok (.iload_n 2, 1) := by decide +kernel
theorem dX5_forged_8 : decode cX5_forged 8 = .ok (.ifCond .eq 5, 3) := by decide +kernel
theorem dX5_forged_11 : decode cX5_forged 11 = .ok (.iload_n 2, 1) := by decide +kernel
theorem dX5_forged_12 : decode cX5_forged 12 = .ok (.ireturn, 1) := by decide +kernel
theorem dX5_forged_13 : decode cX5_forged 13 = .ok (.iconst 0, 1) := by decide +kernel
theorem dX5_forged_14 : decode cX5_forged 14 = .ok (.istore_n 3, 1) := by decide +kernel
theorem dX5_forged_15 : decode cX5_forged 15 = .ok (.iload_n 3, 1) := by decide +kernel
theorem dX5_forged_16 : decode cX5_forged 16 = .ok (.aload_n 0, 1) := by decide +kernel
theorem dX5_forged_17 : decode cX5_forged 17 = .ok (.getfield 37, 3) := by decide +kernel
theorem dX5_forged_20 : decode cX5_forged 20 = .ok (.iload_n 1, 1) := by decide +kernel
theorem dX5_forged_21 : decode cX5_forged 21 = .ok (.iaload, 1) := by decide +kernel
theorem dX5_forged_22 : decode cX5_forged 22 = .ok (.if_icmp .ge 44, 3) := by decide +kernel
theorem dX5_forged_25 : decode cX5_forged 25 = .ok (.iload_n 3, 1) := by decide +kernel
theorem dX5_forged_26 : decode cX5_forged 26 = .ok (.invokestatic 61, 3) := by decide +kernel
theorem dX5_forged_29 : decode cX5_forged 29 = .ok (.ifCond .eq 29, 3) := by decide +kernel
theorem dX5_forged_32 : decode cX5_forged 32 = .ok (.aload_n 0, 1) := by decide +kernel
theorem dX5_forged_33 : decode cX5_forged 33 = .ok (.getfield 40, 3) := by decide +kernel
theorem dX5_forged_36 : decode cX5_forged 36 = .ok (.bipush 100, 2) := by decide +kernel
theorem dX5_forged_38 : decode cX5_forged 38 = .ok (.iload_n 1, 1) := by decide +kernel
theorem dX5_forged_39 : decode cX5_forged 39 = .ok (.imul, 1) := by decide +kernel
theorem dX5_forged_40 : decode cX5_forged 40 = .ok (.iload_n 3, 1) := by decide +kernel
theorem dX5_forged_41 : decode cX5_forged 41 = .ok (.iadd, 1) := by decide +kernel
theorem dX5_forged_42 : decode cX5_forged 42 = .ok (.iaload, 1) := by decide +kernel
theorem dX5_forged_43 : decode cX5_forged 43 = .ok (.iconst 0, 1) := by decide +kernel
theorem dX5_forged_44 : decode cX5_forged 44 = .ok (.aload_n 0, 1) := by decide +kernel
theorem dX5_forged_45 : decode cX5_forged 45 = .ok (.getfield 9, 3) := by decide +kernel
theorem dX5_forged_48 : decode cX5_forged 48 = .ok (.iconst 5, 1) := by decide +kernel
theorem dX5_forged_49 : decode cX5_forged 49 = .ok (.iload_n 3, 1) := by decide +kernel
theorem dX5_forged_50 : decode cX5_forged 50 = .ok (.iadd, 1) := by decide +kernel
theorem dX5_forged_51 : decode cX5_forged 51 = .ok (.iaload, 1) := by decide +kernel
theorem dX5_forged_52 : decode cX5_forged 52 = .ok (.invokestatic 43, 3) := by decide +kernel
theorem dX5_forged_55 : decode cX5_forged 55 = .ok (.ifCond .ne 5, 3) := by decide +kernel
theorem dX5_forged_58 : decode cX5_forged 58 = .ok (.iload_n 3, 1) := by decide +kernel
theorem dX5_forged_59 : decode cX5_forged 59 = .ok (.ireturn, 1) := by decide +kernel
theorem dX5_forged_60 : decode cX5_forged 60 = .ok (.iinc 3 1, 3) := by decide +kernel
theorem dX5_forged_63 : decode cX5_forged 63 = .ok (.goto (-48), 3) := by decide +kernel
theorem dX5_forged_66 : decode cX5_forged 66 = .ok (.bipush (-4), 2) := by decide +kernel
theorem dX5_forged_68 : decode cX5_forged 68 = .ok (.ireturn, 1) := by decide +kernel
theorem dX5_judge_0 : decode cX5_judge 0 = .ok (.aload_n 0, 1) := by decide +kernel
theorem dX5_judge_1 : decode cX5_judge 1 = .ok (.iload_n 1, 1) := by decide +kernel
theorem dX5_judge_2 : decode cX5_judge 2 = .ok (.iconst (-1), 1) := by decide +kernel
theorem dX5_judge_3 : decode cX5_judge 3 = .ok (.invokevirtual 133, 3) := by decide +kernel
theorem dX5_judge_6 : decode cX5_judge 6 = .ok (.istore_n 2, 1) := by decide +kernel
theorem dX5_judge_7 : decode cX5_judge 7 = .ok (.iload_n 2, 1) := by decide +kernel
theorem dX5_judge_8 : decode cX5_judge 8 = .ok (.ifCond .eq 5, 3) := by decide +kernel
theorem dX5_judge_11 : decode cX5_judge 11 = .ok (.iload_n 2, 1) := by decide +kernel
theorem dX5_judge_12 : decode cX5_judge 12 = .ok (.ireturn, 1) := by decide +kernel
theorem dX5_judge_13 : decode cX5_judge 13 = .ok (.aload_n 0, 1) := by decide +kernel
theorem dX5_judge_14 : decode cX5_judge 14 = .ok (.getfield 9, 3) := by decide +kernel
theorem dX5_judge_17 : decode cX5_judge 17 = .ok (.aload_n 0, 1) := by decide +kernel
theorem dX5_judge_18 : decode cX5_judge 18 = .ok (.getfield 13, 3) := by decide +kernel
theorem dX5_judge_21 : decode cX5_judge 21 = .ok (.invokestatic 140, 3) := by decide +kernel
theorem dX5_judge_24 : decode cX5_judge 24 = .ok (.iconst 0, 1) := by decide +kernel
theorem dX5_judge_25 : decode cX5_judge 25 = .ok (.istore_n 3, 1) := by decide +kernel
theorem dX5_judge_26 : decode cX5_judge 26 = .ok (.iload_n 3, 1) := by decide +kernel
theorem dX5_judge_27 : decode cX5_judge 27 = .ok (.aload_n 0, 1) := by decide +kernel
theorem dX5_judge_28 : decode cX5_judge 28 = .ok (.getfield 37, 3) := by decide +kernel
theorem dX5_judge_31 : decode cX5_judge 31 = .ok (.iload_n 1, 1) := by decide +kernel
theorem dX5_judge_32 : decode cX5_judge 32 = .ok (.iaload, 1) := by decide +kernel
theorem dX5_judge_33 : decode cX5_judge 33 = .ok (.if_icmp .ge 59, 3) := by decide +kernel
theorem dX5_judge_36 : decode cX5_judge 36 = .ok (.aload_n 0, 1) := by decide +kernel
theorem dX5_judge_37 : decode cX5_judge 37 = .ok (.getfield 40, 3) := by decide +kernel
theorem dX5_judge_40 : decode cX5_judge 40 = .ok (.bipush 100, 2) := by decide +kernel
theorem dX5_judge_42 : decode cX5_judge 42 = .ok (.iload_n 1, 1) := by decide +kernel
theorem dX5_judge_43 : decode cX5_judge 43 = .ok (.imul, 1) := by decide +kernel
theorem dX5_judge_44 : decode cX5_judge 44 = .ok (.iload_n 3, 1) := by decide +kernel
theorem dX5_judge_45 : decode cX5_judge 45 = .ok (.iadd, 1) := by decide +kernel
theorem dX5_judge_46 : decode cX5_judge 46 = .ok (.iaload, 1) := by decide +kernel
theorem dX5_judge_47 : decode cX5_judge 47 = .ok (.istore 4, 2) := by decide +kernel
theorem dX5_judge_49 : decode cX5_judge 49 = .ok (.iload 4, 2) := by decide +kernel
theorem dX5_judge_51 : decode cX5_judge 51 = .ok (.aload_n 0, 1) := by decide +kernel
theorem dX5_judge_52 : decode cX5_judge 52 = .ok (.getfield 34, 3) := by decide +kernel
theorem dX5_judge_55 : decode cX5_judge 55 = .ok (.iload_n 1, 1) := by decide +kernel
theorem dX5_judge_56 : decode cX5_judge 56 = .ok (.iaload, 1) := by decide +kernel
theorem dX5_judge_57 : decode cX5_judge 57 = .ok (.invokestatic 177, 3) := by decide +kernel
theorem dX5_judge_60 : decode cX5_judge 60 = .ok (.if_icmp .eq 18, 3) := by decide +kernel
theorem dX5_judge_63 : decode cX5_judge 63 = .ok (.iload 4, 2) := by decide +kernel
theorem dX5_judge_65 : decode cX5_judge 65 = .ok (.aload_n 0, 1) := by decide +kernel
theorem dX5_judge_66 : decode cX5_judge 66 = .ok (.getfield 13, 3) := by decide +kernel
theorem dX5_judge_69 : decode cX5_judge 69 = .ok (.iconst (-1), 1) := by decide +kernel
theorem dX5_judge_70 : decode cX5_judge 70 = .ok (.invokestatic 152, 3) := by decide +kernel
theorem dX5_judge_73 : decode cX5_judge 73 = .ok (.if_icmp .eq 5, 3) := by decide +kernel
theorem dX5_judge_76 : decode cX5_judge 76 = .ok (.iload_n 3, 1) := by decide +kernel
theorem dX5_judge_77 : decode cX5_judge 77 = .ok (.ireturn, 1) := by decide +kernel
theorem dX5_judge_78 : decode cX5_judge 78 = .ok (.aload_n 0, 1) := by decide +kernel
theorem dX5_judge_79 : decode cX5_judge 79 = .ok (.getfield 13, 3) := by decide +kernel
theorem dX5_judge_82 : decode cX5_judge 82 = .ok (.iconst 1, 1) := by decide +kernel
theorem dX5_judge_83 : decode cX5_judge 83 = .ok (.invokestatic 130, 3) := by decide +kernel
theorem dX5_judge_86 : decode cX5_judge 86 = .ok (.iinc 3 1, 3) := by decide +kernel
theorem dX5_judge_89 : decode cX5_judge 89 = .ok (.goto (-63), 3) := by decide +kernel
theorem dX5_judge_92 : decode cX5_judge 92 = .ok (.bipush (-4), 2) := by decide +kernel
theorem dX5_judge_94 : decode cX5_judge 94 = .ok (.ireturn, 1) := by decide +kernel
theorem dX5_drawn_0 : decode cX5_drawn 0 = .ok (.aload_n 0, 1) := by decide +kernel
theorem dX5_drawn_1 : decode cX5_drawn 1 = .ok (.aload_n 0, 1) := by decide +kernel
theorem dX5_drawn_2 : decode cX5_drawn 2 = .ok (.getfield 202, 3) := by decide +kernel
theorem dX5_drawn_5 : decode cX5_drawn 5 = .ok (.ldc 205, 2) := by decide +kernel
theorem dX5_drawn_7 : decode cX5_drawn 7 = .ok (.imul, 1) := by decide +kernel
theorem dX5_drawn_8 : decode cX5_drawn 8 = .ok (.sipush 12345, 3) := by decide +kernel
theorem dX5_drawn_11 : decode cX5_drawn 11 = .ok (.iadd, 1) := by decide +kernel
theorem dX5_drawn_12 : decode cX5_drawn 12 = .ok (.putfield 202, 3) := by decide +kernel
theorem dX5_drawn_15 : decode cX5_drawn 15 = .ok (.aload_n 0, 1) := by decide +kernel
theorem dX5_drawn_16 : decode cX5_drawn 16 = .ok (.getfield 202, 3) := by decide +kernel
theorem dX5_drawn_19 : decode cX5_drawn 19 = .ok (.ldc 206, 2) := by decide +kernel
theorem dX5_drawn_21 : decode cX5_drawn 21 = .ok (.iand, 1) := by decide +kernel
theorem dX5_drawn_22 : decode cX5_drawn 22 = .ok (.ldc 207, 2) := by decide +kernel
theorem dX5_drawn_24 : decode cX5_drawn 24 = .ok (.idiv, 1) := by decide +kernel
theorem dX5_drawn_25 : decode cX5_drawn 25 = .ok (.iload_n 1, 1) := by decide +kernel
theorem dX5_drawn_26 : decode cX5_drawn 26 = .ok (.irem, 1) := by decide +kernel
theorem dX5_drawn_27 : decode cX5_drawn 27 = .ok (.ireturn, 1) := by decide +kernel
theorem dX5_deserts_0 : decode cX5_deserts 0 = .ok (.iload_n 1, 1) := by decide +kernel
theorem dX5_deserts_1 : decode cX5_deserts 1 = .ok (.iconst 1, 1) := by decide +kernel
theorem dX5_deserts_2 : decode cX5_deserts 2 = .ok (.bipush 20, 2) := by decide +kernel
theorem dX5_deserts_4 : decode cX5_deserts 4 = .ok (.invokestatic 43, 3) := by decide +kernel
theorem dX5_deserts_7 : decode cX5_deserts 7 = .ok (.ifCond .eq 12, 3) := by decide +kernel
theorem dX5_deserts_10 : decode cX5_deserts 10 = .ok (.iload_n 3, 1) := by decide +kernel
theorem dX5_deserts_11 : decode cX5_deserts 11 = .ok (.iconst 0, 1) := by decide +kernel
theorem dX5_deserts_12 : decode cX5_deserts 12 = .ok (.iconst 1, 1) := by decide +kernel
theorem dX5_deserts_13 : decode cX5_deserts 13 = .ok (.invokestatic 43, 3) := by decide +kernel
theorem dX5_deserts_16 : decode cX5_deserts 16 = .ok (.ifCond .ne 5, 3) := by decide +kernel
theorem dX5_deserts_19 : decode cX5_deserts 19 = .ok (.iconst (-1), 1) := by decide +kernel
theorem dX5_deserts_20 : decode cX5_deserts 20 = .ok (.ireturn, 1) := by decide +kernel
theorem dX5_deserts_21 : decode cX5_deserts 21 = .ok (.aload_n 0, 1) := by decide +kernel
theorem dX5_deserts_22 : decode cX5_deserts 22 = .ok (.iload_n 2, 1) := by decide +kernel
theorem dX5_deserts_23 : decode cX5_deserts 23 = .ok (.putfield 202, 3) := by decide +kernel
theorem dX5_deserts_26 : decode cX5_deserts 26 = .ok (.iconst 0, 1) := by decide +kernel
theorem dX5_deserts_27 : decode cX5_deserts 27 = .ok (.istore 4, 2) := by decide +kernel
theorem dX5_deserts_29 : decode cX5_deserts 29 = .ok (.iconst 0, 1) := by decide +kernel
theorem dX5_deserts_30 : decode cX5_deserts 30 = .ok (.istore 5, 2) := by decide +kernel
theorem dX5_deserts_32 : decode cX5_deserts 32 = .ok (.iload 5, 2) := by decide +kernel
theorem dX5_deserts_34 : decode cX5_deserts 34 = .ok (.iload_n 1, 1) := by decide +kernel
theorem dX5_deserts_35 : decode cX5_deserts 35 = .ok (.if_icmp .ge 100, 3) := by decide +kernel
theorem dX5_deserts_38 : decode cX5_deserts 38 = .ok (.aload_n 0, 1) := by decide +kernel
theorem dX5_deserts_39 : decode cX5_deserts 39 = .ok (.getfield 9, 3) := by decide +kernel
theorem dX5_deserts_42 : decode cX5_deserts 42 = .ok (.aload_n 0, 1) := by decide +kernel
theorem dX5_deserts_43 : decode cX5_deserts 43 = .ok (.getfield 13, 3) := by decide +kernel
theorem dX5_deserts_46 : decode cX5_deserts 46 = .ok (.invokestatic 140, 3) := by decide +kernel
theorem dX5_deserts_49 : decode cX5_deserts 49 = .ok (.iconst 0, 1) := by decide +kernel
theorem dX5_deserts_50 : decode cX5_deserts 50 = .ok (.istore 6, 2) := by decide +kernel
theorem dX5_deserts_52 : decode cX5_deserts 52 = .ok (.iload 6, 2) := by decide +kernel
theorem dX5_deserts_54 : decode cX5_deserts 54 = .ok (.bipush 10, 2) := by decide +kernel
theorem dX5_deserts_56 : decode cX5_deserts 56 = .ok (.if_icmp .ge 25, 3) := by decide +kernel
theorem dX5_deserts_59 : decode cX5_deserts 59 = .ok (.aload_n 0, 1) := by decide +kernel
theorem dX5_deserts_60 : decode cX5_deserts 60 = .ok (.getfield 13, 3) := by decide +kernel
theorem dX5_deserts_63 : decode cX5_deserts 63 = .ok (.iload 6, 2) := by decide +kernel
theorem dX5_deserts_65 : decode cX5_deserts 65 = .ok (.aload_n 0, 1) := by decide +kernel
theorem dX5_deserts_66 : decode cX5_deserts 66 = .ok (.sipush 200, 3) := by decide +kernel
theorem dX5_deserts_69 : decode cX5_deserts 69 = .ok (.invokevirtual 208, 3) := by decide +kernel
theorem dX5_deserts_72 : decode cX5_deserts 72 = .ok (.invokestatic 120, 3) := by decide +kernel
theorem dX5_deserts_75 : decode cX5_deserts 75 = .ok (.iinc 6 1, 3) := by decide +kernel
theorem dX5_deserts_78 : decode cX5_deserts 78 = .ok (.goto (-26), 3) := by decide +kernel
theorem dX5_deserts_81 : decode cX5_deserts 81 = .ok (.aload_n 0, 1) := by decide +kernel
theorem dX5_deserts_82 : decode cX5_deserts 82 = .ok (.getfield 13, 3) := by decide +kernel
theorem dX5_deserts_85 : decode cX5_deserts 85 = .ok (.bipush 10, 2) := by decide +kernel
theorem dX5_deserts_87 : decode cX5_deserts 87 = .ok (.invokestatic 130, 3) := by decide +kernel
theorem dX5_deserts_90 : decode cX5_deserts 90 = .ok (.iload 4, 2) := by decide +kernel
theorem dX5_deserts_92 : decode cX5_deserts 92 = .ok (.iload_n 3, 1) := by decide +kernel
theorem dX5_deserts_93 : decode cX5_deserts 93 = .ok (.ifCond .ne 16, 3) := by decide +kernel
theorem dX5_deserts_96 : decode cX5_deserts 96 = .ok (.aload_n 0, 1) := by decide +kernel
theorem dX5_deserts_97 : decode cX5_deserts 97 = .ok (.getfield 13, 3) := by decide +kernel
theorem dX5_deserts_100 : decode cX5_deserts 100 = .ok (.invokestatic 162, 3) := by decide +kernel
theorem dX5_deserts_103 : decode cX5_deserts 103 = .ok (.invokestatic 166, 3) := by decide +kernel
theorem dX5_deserts_106 : decode cX5_deserts 106 = .ok (.goto 20, 3) := by decide +kernel
theorem dX5_deserts_109 : decode cX5_deserts 109 = .ok (.aload_n 0, 1) := by decide +kernel
theorem dX5_deserts_110 : decode cX5_deserts 110 = .ok (.getfield 13, 3) := by decide +kernel
theorem dX5_deserts_113 : decode cX5_deserts 113 = .ok (.iconst (-1), 1) := by decide +kernel
theorem dX5_deserts_114 : decode cX5_deserts 114 = .ok (.invokestatic 152, 3) := by decide +kernel
theorem dX5_deserts_117 : decode cX5_deserts 117 = .ok (.aload_n 0, 1) := by decide +kernel
theorem dX5_deserts_118 : decode cX5_deserts 118 = .ok (.getfield 9, 3) := by decide +kernel
theorem dX5_deserts_121 : decode cX5_deserts 121 = .ok (.iconst (-1), 1) := by decide +kernel
theorem dX5_deserts_122 : decode cX5_deserts 122 = .ok (.invokestatic 152, 3) := by decide +kernel
theorem dX5_deserts_125 : decode cX5_deserts 125 = .ok (.isub, 1) := by decide +kernel
theorem dX5_deserts_126 : decode cX5_deserts 126 = .ok (.iadd, 1) := by decide +kernel
theorem dX5_deserts_127 : decode cX5_deserts 127 = .ok (.istore 4, 2) := by decide +kernel
theorem dX5_deserts_129 : decode cX5_deserts 129 = .ok (.iinc 5 1, 3) := by decide +kernel
theorem dX5_deserts_132 : decode cX5_deserts 132 = .ok (.goto (-100), 3) := by decide +kernel
theorem dX5_deserts_135 : decode cX5_deserts 135 = .ok (.iload 4, 2) := by decide +kernel
theorem dX5_deserts_137 : decode cX5_deserts 137 = .ok (.ireturn, 1) := by decide +kernel
theorem dX5_image_0 : decode cX5_image 0 = .ok (.aload_n 0, 1) := by decide +kernel
theorem dX5_image_1 : decode cX5_image 1 = .ok (.getfield 9, 3) := by decide +kernel
theorem dX5_image_4 : decode cX5_image 4 = .ok (.aload_n 0, 1) := by decide +kernel
theorem dX5_image_5 : decode cX5_image 5 = .ok (.getfield 16, 3) := by decide +kernel
theorem dX5_image_8 : decode cX5_image 8 = .ok (.invokestatic 140, 3) := by decide +kernel
theorem dX5_image_11 : decode cX5_image 11 = .ok (.aload_n 0, 1) := by decide +kernel
theorem dX5_image_12 : decode cX5_image 12 = .ok (.iconst 1, 1) := by decide +kernel
theorem dX5_image_13 : decode cX5_image 13 = .ok (.putfield 211, 3) := by decide +kernel
theorem dX5_image_16 : decode cX5_image 16 = .ok (.aload_n 0, 1) := by decide +kernel
theorem dX5_image_17 : decode cX5_image 17 = .ok (.getfield 9, 3) := by decide +kernel
theorem dX5_image_20 : decode cX5_image 20 = .ok (.iconst 1, 1) := by decide +kernel
theorem dX5_image_21 : decode cX5_image 21 = .ok (.iaload, 1) := by decide +kernel
theorem dX5_image_22 : decode cX5_image 22 = .ok (.ireturn, 1) := by decide +kernel
theorem dX5_restore_0 : decode cX5_restore 0 = .ok (.aload_n 0, 1) := by decide +kernel
theorem dX5_restore_1 : decode cX5_restore 1 = .ok (.getfield 211, 3) := by decide +kernel
theorem dX5_restore_4 : decode cX5_restore 4 = .ok (.ifCond .ne 6, 3) := by decide +kernel
theorem dX5_restore_7 : decode cX5_restore 7 = .ok (.bipush (-3), 2) := by decide +kernel
theorem dX5_restore_9 : decode cX5_restore 9 = .ok (.ireturn, 1) := by decide +kernel
theorem dX5_restore_10 : decode cX5_restore 10 = .ok (.aload_n 0, 1) := by decide +kernel
theorem dX5_restore_11 : decode cX5_restore 11 = .ok (.getfield 16, 3) := by decide +kernel
theorem dX5_restore_14 : decode cX5_restore 14 = .ok (.aload_n 0, 1) := by decide +kernel
theorem dX5_restore_15 : decode cX5_restore 15 = .ok (.getfield 9, 3) := by decide +kernel
theorem dX5_restore_18 : decode cX5_restore 18 = .ok (.invokestatic 140, 3) := by decide +kernel
theorem dX5_restore_21 : decode cX5_restore 21 = .ok (.aload_n 0, 1) := by decide +kernel
theorem dX5_restore_22 : decode cX5_restore 22 = .ok (.getfield 9, 3) := by decide +kernel
theorem dX5_restore_25 : decode cX5_restore 25 = .ok (.iconst 1, 1) := by decide +kernel
theorem dX5_restore_26 : decode cX5_restore 26 = .ok (.iaload, 1) := by decide +kernel
theorem dX5_restore_27 : decode cX5_restore 27 = .ok (.ireturn, 1) := by decide +kernel
theorem dX5_count_0 : decode cX5_count 0 = .ok (.iconst 0, 1) := by decide +kernel
theorem dX5_count_1 : decode cX5_count 1 = .ok (.istore_n 2, 1) := by decide +kernel
theorem dX5_count_2 : decode cX5_count 2 = .ok (.iload_n 1, 1) := by decide +kernel
theorem dX5_count_3 : decode cX5_count 3 = .ok (.tableswitch 115 0 6 #[41, 41, 48, 54, 61, 70, 105], 41) := by decide +kernel
theorem dX5_count_44 : decode cX5_count 44 = .ok (.aload_n 0, 1) := by decide +kernel
theorem dX5_count_45 : decode cX5_count 45 = .ok (.getfield 9, 3) := by decide +kernel
theorem dX5_count_48 : decode cX5_count 48 = .ok (.iload_n 1, 1) := by decide +kernel
theorem dX5_count_49 : decode cX5_count 49 = .ok (.iaload, 1) := by decide +kernel
theorem dX5_count_50 : decode cX5_count 50 = .ok (.ireturn, 1) := by decide +kernel
theorem dX5_count_51 : decode cX5_count 51 = .ok (.aload_n 0, 1) := by decide +kernel
theorem dX5_count_52 : decode cX5_count 52 = .ok (.iconst 5, 1) := by decide +kernel
theorem dX5_count_53 : decode cX5_count 53 = .ok (.invokevirtual 197, 3) := by decide +kernel
theorem dX5_count_56 : decode cX5_count 56 = .ok (.ireturn, 1) := by decide +kernel
theorem dX5_count_57 : decode cX5_count 57 = .ok (.aload_n 0, 1) := by decide +kernel
theorem dX5_count_58 : decode cX5_count 58 = .ok (.bipush 15, 2) := by decide +kernel
theorem dX5_count_60 : decode cX5_count 60 = .ok (.invokevirtual 197, 3) := by decide +kernel
theorem dX5_count_63 : decode cX5_count 63 = .ok (.ireturn, 1) := by decide +kernel
theorem dX5_count_64 : decode cX5_count 64 = .ok (.aload_n 0, 1) := by decide +kernel
theorem dX5_count_65 : decode cX5_count 65 = .ok (.getfield 9, 3) := by decide +kernel
theorem dX5_count_68 : decode cX5_count 68 = .ok (.iconst (-1), 1) := by decide +kernel
theorem dX5_count_69 : decode cX5_count 69 = .ok (.invokestatic 152, 3) := by decide +kernel
theorem dX5_count_72 : decode cX5_count 72 = .ok (.ireturn, 1) := by decide +kernel
theorem dX5_count_73 : decode cX5_count 73 = .ok (.iconst 0, 1) := by decide +kernel
theorem dX5_count_74 : decode cX5_count 74 = .ok (.istore_n 3, 1) := by decide +kernel
theorem dX5_count_75 : decode cX5_count 75 = .ok (.iload_n 3, 1) := by decide +kernel
theorem dX5_count_76 : decode cX5_count 76 = .ok (.aload_n 0, 1) := by decide +kernel
theorem dX5_count_77 : decode cX5_count 77 = .ok (.getfield 9, 3) := by decide +kernel
theorem dX5_count_80 : decode cX5_count 80 = .ok (.iconst 0, 1) := by decide +kernel
theorem dX5_count_81 : decode cX5_count 81 = .ok (.iaload, 1) := by decide +kernel
theorem dX5_count_82 : decode cX5_count 82 = .ok (.if_icmp .ge 24, 3) := by decide +kernel
theorem dX5_count_85 : decode cX5_count 85 = .ok (.iload_n 2, 1) := by decide +kernel
theorem dX5_count_86 : decode cX5_count 86 = .ok (.aload_n 0, 1) := by decide +kernel
theorem dX5_count_87 : decode cX5_count 87 = .ok (.getfield 9, 3) := by decide +kernel
theorem dX5_count_90 : decode cX5_count 90 = .ok (.iload_n 3, 1) := by decide +kernel
theorem dX5_count_91 : decode cX5_count 91 = .ok (.iconst 5, 1) := by decide +kernel
theorem dX5_count_92 : decode cX5_count 92 = .ok (.invokestatic 47, 3) := by decide +kernel
theorem dX5_count_95 : decode cX5_count 95 = .ok (.iaload, 1) := by decide +kernel
theorem dX5_count_96 : decode cX5_count 96 = .ok (.iload_n 3, 1) := by decide +kernel
theorem dX5_count_97 : decode cX5_count 97 = .ok (.ishl, 1) := by decide +kernel
theorem dX5_count_98 : decode cX5_count 98 = .ok (.ior, 1) := by decide +kernel
theorem dX5_count_99 : decode cX5_count 99 = .ok (.istore_n 2, 1) := by decide +kernel
theorem dX5_count_100 : decode cX5_count 100 = .ok (.iinc 3 1, 3) := by decide +kernel
theorem dX5_count_103 : decode cX5_count 103 = .ok (.goto (-28), 3) := by decide +kernel
theorem dX5_count_106 : decode cX5_count 106 = .ok (.iload_n 2, 1) := by decide +kernel
theorem dX5_count_107 : decode cX5_count 107 = .ok (.ireturn, 1) := by decide +kernel
theorem dX5_count_108 : decode cX5_count 108 = .ok (.aload_n 0, 1) := by decide +kernel
theorem dX5_count_109 : decode cX5_count 109 = .ok (.getfield 9, 3) := by decide +kernel
theorem dX5_count_112 : decode cX5_count 112 = .ok (.iconst 2, 1) := by decide +kernel
theorem dX5_count_113 : decode cX5_count 113 = .ok (.iaload, 1) := by decide +kernel
theorem dX5_count_114 : decode cX5_count 114 = .ok (.bipush 9, 2) := by decide +kernel
theorem dX5_count_116 : decode cX5_count 116 = .ok (.iadd, 1) := by decide +kernel
theorem dX5_count_117 : decode cX5_count 117 = .ok (.ireturn, 1) := by decide +kernel
theorem dX5_count_118 : decode cX5_count 118 = .ok (.iconst (-1), 1) := by decide +kernel
theorem dX5_count_119 : decode cX5_count 119 = .ok (.ireturn, 1) := by decide +kernel
theorem dX5_thrown_0 : decode cX5_thrown 0 = .ok (.aload_n 0, 1) := by decide +kernel
theorem dX5_thrown_1 : decode cX5_thrown 1 = .ok (.getfield 215, 3) := by decide +kernel
theorem dX5_thrown_4 : decode cX5_thrown 4 = .ok (.ireturn, 1) := by decide +kernel
theorem dX5_isShelf_0 : decode cX5_isShelf 0 = .ok (.iload_n 0, 1) := by decide +kernel
theorem dX5_isShelf_1 : decode cX5_isShelf 1 = .ok (.iconst 0, 1) := by decide +kernel
theorem dX5_isShelf_2 : decode cX5_isShelf 2 = .ok (.bipush 7, 2) := by decide +kernel
theorem dX5_isShelf_4 : decode cX5_isShelf 4 = .ok (.invokestatic 43, 3) := by decide +kernel
theorem dX5_isShelf_7 : decode cX5_isShelf 7 = .ok (.ireturn, 1) := by decide +kernel
theorem dX5_wrongRow_0 : decode cX5_wrongRow 0 = .ok (.iload_n 1, 1) := by decide +kernel
theorem dX5_wrongRow_1 : decode cX5_wrongRow 1 = .ok (.invokestatic 218, 3) := by decide +kernel
theorem dX5_wrongRow_4 : decode cX5_wrongRow 4 = .ok (.ifCond .ne 7, 3) := by decide +kernel
theorem dX5_wrongRow_7 : decode cX5_wrongRow 7 = .ok (.iconst (-1), 1) := by decide +kernel
theorem dX5_wrongRow_8 : decode cX5_wrongRow 8 = .ok (.goto 47, 3) := by decide +kernel
theorem dX5_wrongRow_11 : decode cX5_wrongRow 11 = .ok (.aload_n 0, 1) := by decide +kernel
theorem dX5_wrongRow_12 : decode cX5_wrongRow 12 = .ok (.getfield 25, 3) := by decide +kernel
theorem dX5_wrongRow_15 : decode cX5_wrongRow 15 = .ok (.iload_n 1, 1) := by decide +kernel
theorem dX5_wrongRow_16 : decode cX5_wrongRow 16 = .ok (.iaload, 1) := by decide +kernel
theorem dX5_wrongRow_17 : decode cX5_wrongRow 17 = .ok (.ifCond .ne 8, 3) := by decide +kernel
theorem dX5_wrongRow_20 : decode cX5_wrongRow 20 = .ok (.bipush (-11), 2) := by decide +kernel
theorem dX5_wrongRow_22 : decode cX5_wrongRow 22 = .ok (.goto 33, 3) := by decide +kernel
theorem dX5_wrongRow_25 : decode cX5_wrongRow 25 = .ok (.aload_n 0, 1) := by decide +kernel
theorem dX5_wrongRow_26 : decode cX5_wrongRow 26 = .ok (.getfield 25, 3) := by decide +kernel
theorem dX5_wrongRow_29 : decode cX5_wrongRow 29 = .ok (.iload_n 1, 1) := by decide +kernel
theorem dX5_wrongRow_30 : decode cX5_wrongRow 30 = .ok (.iaload, 1) := by decide +kernel
theorem dX5_wrongRow_31 : decode cX5_wrongRow 31 = .ok (.iconst 2, 1) := by decide +kernel
theorem dX5_wrongRow_32 : decode cX5_wrongRow 32 = .ok (.if_icmp .ne 17, 3) := by decide +kernel
theorem dX5_wrongRow_35 : decode cX5_wrongRow 35 = .ok (.iload_n 2, 1) := by decide +kernel
theorem dX5_wrongRow_36 : decode cX5_wrongRow 36 = .ok (.ifCond .lt 18, 3) := by decide +kernel
theorem dX5_wrongRow_39 : decode cX5_wrongRow 39 = .ok (.aload_n 0, 1) := by decide +kernel
theorem dX5_wrongRow_40 : decode cX5_wrongRow 40 = .ok (.getfield 34, 3) := by decide +kernel
theorem dX5_wrongRow_43 : decode cX5_wrongRow 43 = .ok (.iload_n 1, 1) := by decide +kernel
theorem dX5_wrongRow_44 : decode cX5_wrongRow 44 = .ok (.iaload, 1) := by decide +kernel
theorem dX5_wrongRow_45 : decode cX5_wrongRow 45 = .ok (.iload_n 2, 1) := by decide +kernel
theorem dX5_wrongRow_46 : decode cX5_wrongRow 46 = .ok (.if_icmp .eq 8, 3) := by decide +kernel
theorem dX5_wrongRow_49 : decode cX5_wrongRow 49 = .ok (.bipush (-12), 2) := by decide +kernel
theorem dX5_wrongRow_51 : decode cX5_wrongRow 51 = .ok (.goto 4, 3) := by decide +kernel
theorem dX5_wrongRow_54 : decode cX5_wrongRow 54 = .ok (.iconst 0, 1) := by decide +kernel
theorem dX5_wrongRow_55 : decode cX5_wrongRow 55 = .ok (.ireturn, 1) := by decide +kernel
theorem dX5_wrongKept_0 : decode cX5_wrongKept 0 = .ok (.iload_n 1, 1) := by decide +kernel
theorem dX5_wrongKept_1 : decode cX5_wrongKept 1 = .ok (.invokestatic 218, 3) := by decide +kernel
theorem dX5_wrongKept_4 : decode cX5_wrongKept 4 = .ok (.ifCond .ne 7, 3) := by decide +kernel
theorem dX5_wrongKept_7 : decode cX5_wrongKept 7 = .ok (.iconst (-1), 1) := by decide +kernel
theorem dX5_wrongKept_8 : decode cX5_wrongKept 8 = .ok (.goto 33, 3) := by decide +kernel
theorem dX5_wrongKept_11 : decode cX5_wrongKept 11 = .ok (.aload_n 0, 1) := by decide +kernel
theorem dX5_wrongKept_12 : decode cX5_wrongKept 12 = .ok (.getfield 25, 3) := by decide +kernel
theorem dX5_wrongKept_15 : decode cX5_wrongKept 15 = .ok (.iload_n 1, 1) := by decide +kernel
theorem dX5_wrongKept_16 : decode cX5_wrongKept 16 = .ok (.iaload, 1) := by decide +kernel
theorem dX5_wrongKept_17 : decode cX5_wrongKept 17 = .ok (.ifCond .ne 8, 3) := by decide +kernel
theorem dX5_wrongKept_20 : decode cX5_wrongKept 20 = .ok (.bipush (-11), 2) := by decide +kernel
theorem dX5_wrongKept_22 : decode cX5_wrongKept 22 = .ok (.goto 19, 3) := by decide +kernel
theorem dX5_wrongKept_25 : decode cX5_wrongKept 25 = .ok (.aload_n 0, 1) := by decide +kernel
theorem dX5_wrongKept_26 : decode cX5_wrongKept 26 = .ok (.getfield 25, 3) := by decide +kernel
theorem dX5_wrongKept_29 : decode cX5_wrongKept 29 = .ok (.iload_n 1, 1) := by decide +kernel
theorem dX5_wrongKept_30 : decode cX5_wrongKept 30 = .ok (.iaload, 1) := by decide +kernel
theorem dX5_wrongKept_31 : decode cX5_wrongKept 31 = .ok (.iconst 2, 1) := by decide +kernel
theorem dX5_wrongKept_32 : decode cX5_wrongKept 32 = .ok (.if_icmp .ne 8, 3) := by decide +kernel
theorem dX5_wrongKept_35 : decode cX5_wrongKept 35 = .ok (.bipush (-12), 2) := by decide +kernel
theorem dX5_wrongKept_37 : decode cX5_wrongKept 37 = .ok (.goto 4, 3) := by decide +kernel
theorem dX5_wrongKept_40 : decode cX5_wrongKept 40 = .ok (.iconst 0, 1) := by decide +kernel
theorem dX5_wrongKept_41 : decode cX5_wrongKept 41 = .ok (.ireturn, 1) := by decide +kernel
theorem dX5_keep_0 : decode cX5_keep 0 = .ok (.iload_n 1, 1) := by decide +kernel
theorem dX5_keep_1 : decode cX5_keep 1 = .ok (.invokestatic 218, 3) := by decide +kernel
theorem dX5_keep_4 : decode cX5_keep 4 = .ok (.ifCond .eq 38, 3) := by decide +kernel
theorem dX5_keep_7 : decode cX5_keep 7 = .ok (.iload_n 2, 1) := by decide +kernel
theorem dX5_keep_8 : decode cX5_keep 8 = .ok (.iconst 0, 1) := by decide +kernel
theorem dX5_keep_9 : decode cX5_keep 9 = .ok (.iconst 1, 1) := by decide +kernel
theorem dX5_keep_10 : decode cX5_keep 10 = .ok (.invokestatic 43, 3) := by decide +kernel
theorem dX5_keep_13 : decode cX5_keep 13 = .ok (.ifCond .eq 29, 3) := by decide +kernel
theorem dX5_keep_16 : decode cX5_keep 16 = .ok (.iload_n 2, 1) := by decide +kernel
theorem dX5_keep_17 : decode cX5_keep 17 = .ok (.iconst 1, 1) := by decide +kernel
theorem dX5_keep_18 : decode cX5_keep 18 = .ok (.if_icmp .ne 26, 3) := by decide +kernel
theorem dX5_keep_21 : decode cX5_keep 21 = .ok (.iload_n 3, 1) := by decide +kernel
theorem dX5_keep_22 : decode cX5_keep 22 = .ok (.iconst 0, 1) := by decide +kernel
theorem dX5_keep_23 : decode cX5_keep 23 = .ok (.bipush 7, 2) := by decide +kernel
theorem dX5_keep_25 : decode cX5_keep 25 = .ok (.invokestatic 43, 3) := by decide +kernel
theorem dX5_keep_28 : decode cX5_keep 28 = .ok (.ifCond .eq 14, 3) := by decide +kernel
theorem dX5_keep_31 : decode cX5_keep 31 = .ok (.iload 4, 2) := by decide +kernel
theorem dX5_keep_33 : decode cX5_keep 33 = .ok (.iconst 0, 1) := by decide +kernel
theorem dX5_keep_34 : decode cX5_keep 34 = .ok (.bipush 9, 2) := by decide +kernel
theorem dX5_keep_36 : decode cX5_keep 36 = .ok (.invokestatic 43, 3) := by decide +kernel
theorem dX5_keep_39 : decode cX5_keep 39 = .ok (.ifCond .ne 5, 3) := by decide +kernel
theorem dX5_keep_42 : decode cX5_keep 42 = .ok (.iconst (-1), 1) := by decide +kernel
theorem dX5_keep_43 : decode cX5_keep 43 = .ok (.ireturn, 1) := by decide +kernel
theorem dX5_keep_44 : decode cX5_keep 44 = .ok (.aload_n 0, 1) := by decide +kernel
theorem dX5_keep_45 : decode cX5_keep 45 = .ok (.getfield 25, 3) := by decide +kernel
theorem dX5_keep_48 : decode cX5_keep 48 = .ok (.iload_n 1, 1) := by decide +kernel
theorem dX5_keep_49 : decode cX5_keep 49 = .ok (.iload_n 2, 1) := by decide +kernel
theorem dX5_keep_50 : decode cX5_keep 50 = .ok (.iastore, 1) := by decide +kernel
theorem dX5_keep_51 : decode cX5_keep 51 = .ok (.aload_n 0, 1) := by decide +kernel
theorem dX5_keep_52 : decode cX5_keep 52 = .ok (.getfield 28, 3) := by decide +kernel
theorem dX5_keep_55 : decode cX5_keep 55 = .ok (.iload_n 1, 1) := by decide +kernel
theorem dX5_keep_56 : decode cX5_keep 56 = .ok (.iload_n 3, 1) := by decide +kernel
theorem dX5_keep_57 : decode cX5_keep 57 = .ok (.iastore, 1) := by decide +kernel
theorem dX5_keep_58 : decode cX5_keep 58 = .ok (.aload_n 0, 1) := by decide +kernel
theorem dX5_keep_59 : decode cX5_keep 59 = .ok (.getfield 31, 3) := by decide +kernel
theorem dX5_keep_62 : decode cX5_keep 62 = .ok (.iload_n 1, 1) := by decide +kernel
theorem dX5_keep_63 : decode cX5_keep 63 = .ok (.iload 4, 2) := by decide +kernel
theorem dX5_keep_65 : decode cX5_keep 65 = .ok (.iastore, 1) := by decide +kernel
theorem dX5_keep_66 : decode cX5_keep 66 = .ok (.iconst 0, 1) := by decide +kernel
theorem dX5_keep_67 : decode cX5_keep 67 = .ok (.ireturn, 1) := by decide +kernel
theorem dX5_row_0 : decode cX5_row 0 = .ok (.iload_n 1, 1) := by decide +kernel
theorem dX5_row_1 : decode cX5_row 1 = .ok (.invokestatic 218, 3) := by decide +kernel
theorem dX5_row_4 : decode cX5_row 4 = .ok (.ifCond .eq 18, 3) := by decide +kernel
theorem dX5_row_7 : decode cX5_row 7 = .ok (.iload_n 2, 1) := by decide +kernel
theorem dX5_row_8 : decode cX5_row 8 = .ok (.iconst 0, 1) := by decide +kernel
theorem dX5_row_9 : decode cX5_row 9 = .ok (.iconst 2, 1) := by decide +kernel
theorem dX5_row_10 : decode cX5_row 10 = .ok (.invokestatic 43, 3) := by decide +kernel
theorem dX5_row_13 : decode cX5_row 13 = .ok (.ifCond .eq 9, 3) := by decide +kernel
theorem dX5_row_16 : decode cX5_row 16 = .ok (.iload_n 3, 1) := by decide +kernel
theorem dX5_row_17 : decode cX5_row 17 = .ok (.bipush 100, 2) := by decide +kernel
theorem dX5_row_19 : decode cX5_row 19 = .ok (.if_icmp .le 5, 3) := by decide +kernel
theorem dX5_row_22 : decode cX5_row 22 = .ok (.iconst (-1), 1) := by decide +kernel
theorem dX5_row_23 : decode cX5_row 23 = .ok (.ireturn, 1) := by decide +kernel
theorem dX5_row_24 : decode cX5_row 24 = .ok (.iload_n 3, 1) := by decide +kernel
theorem dX5_row_25 : decode cX5_row 25 = .ok (.ifCond .ge 6, 3) := by decide +kernel
theorem dX5_row_28 : decode cX5_row 28 = .ok (.bipush (-14), 2) := by decide +kernel
theorem dX5_row_30 : decode cX5_row 30 = .ok (.ireturn, 1) := by decide +kernel
theorem dX5_row_31 : decode cX5_row 31 = .ok (.aload_n 0, 1) := by decide +kernel
theorem dX5_row_32 : decode cX5_row 32 = .ok (.getfield 25, 3) := by decide +kernel
theorem dX5_row_35 : decode cX5_row 35 = .ok (.iload_n 1, 1) := by decide +kernel
theorem dX5_row_36 : decode cX5_row 36 = .ok (.iconst 2, 1) := by decide +kernel
theorem dX5_row_37 : decode cX5_row 37 = .ok (.iastore, 1) := by decide +kernel
theorem dX5_row_38 : decode cX5_row 38 = .ok (.aload_n 0, 1) := by decide +kernel
theorem dX5_row_39 : decode cX5_row 39 = .ok (.getfield 34, 3) := by decide +kernel
theorem dX5_row_42 : decode cX5_row 42 = .ok (.iload_n 1, 1) := by decide +kernel
theorem dX5_row_43 : decode cX5_row 43 = .ok (.iload_n 2, 1) := by decide +kernel
theorem dX5_row_44 : decode cX5_row 44 = .ok (.iastore, 1) := by decide +kernel
theorem dX5_row_45 : decode cX5_row 45 = .ok (.aload_n 0, 1) := by decide +kernel
theorem dX5_row_46 : decode cX5_row 46 = .ok (.getfield 37, 3) := by decide +kernel
theorem dX5_row_49 : decode cX5_row 49 = .ok (.iload_n 1, 1) := by decide +kernel
theorem dX5_row_50 : decode cX5_row 50 = .ok (.iload_n 3, 1) := by decide +kernel
theorem dX5_row_51 : decode cX5_row 51 = .ok (.iastore, 1) := by decide +kernel
theorem dX5_row_52 : decode cX5_row 52 = .ok (.iconst 0, 1) := by decide +kernel
theorem dX5_row_53 : decode cX5_row 53 = .ok (.istore 4, 2) := by decide +kernel
theorem dX5_row_55 : decode cX5_row 55 = .ok (.iload 4, 2) := by decide +kernel
theorem dX5_row_57 : decode cX5_row 57 = .ok (.bipush 100, 2) := by decide +kernel
theorem dX5_row_59 : decode cX5_row 59 = .ok (.if_icmp .ge 22, 3) := by decide +kernel
theorem dX5_row_62 : decode cX5_row 62 = .ok (.aload_n 0, 1) := by decide +kernel
theorem dX5_row_63 : decode cX5_row 63 = .ok (.getfield 40, 3) := by decide +kernel
theorem dX5_row_66 : decode cX5_row 66 = .ok (.bipush 100, 2) := by decide +kernel
theorem dX5_row_68 : decode cX5_row 68 = .ok (.iload_n 1, 1) := by decide +kernel
theorem dX5_row_69 : decode cX5_row 69 = .ok (.imul, 1) := by decide +kernel
theorem dX5_row_70 : decode cX5_row 70 = .ok (.iload 4, 2) := by decide +kernel
theorem dX5_row_72 : decode cX5_row 72 = .ok (.iadd, 1) := by decide +kernel
theorem dX5_row_73 : decode cX5_row 73 = .ok (.iconst 0, 1) := by decide +kernel
theorem dX5_row_74 : decode cX5_row 74 = .ok (.iastore, 1) := by decide +kernel
theorem dX5_row_75 : decode cX5_row 75 = .ok (.iinc 4 1, 3) := by decide +kernel
theorem dX5_row_78 : decode cX5_row 78 = .ok (.goto (-23), 3) := by decide +kernel
theorem dX5_row_81 : decode cX5_row 81 = .ok (.iconst 0, 1) := by decide +kernel
theorem dX5_row_82 : decode cX5_row 82 = .ok (.ireturn, 1) := by decide +kernel
theorem dX5_put_0 : decode cX5_put 0 = .ok (.aload_n 0, 1) := by decide +kernel
theorem dX5_put_1 : decode cX5_put 1 = .ok (.iload_n 1, 1) := by decide +kernel
theorem dX5_put_2 : decode cX5_put 2 = .ok (.iconst (-1), 1) := by decide +kernel
theorem dX5_put_3 : decode cX5_put 3 = .ok (.invokevirtual 133, 3) := by decide +kernel
theorem dX5_put_6 : decode cX5_put 6 = .ok (.istore 4, 2) := by decide +kernel
theorem dX5_put_8 : decode cX5_put 8 = .ok (.iload 4, 2) := by decide +kernel
theorem dX5_put_10 : decode cX5_put 10 = .ok (.ifCond .eq 6, 3) := by decide +kernel
theorem dX5_put_13 : decode cX5_put 13 = .ok (.iload 4, 2) := by decide +kernel
theorem dX5_put_15 : decode cX5_put 15 = .ok (.ireturn, 1) := by decide +kernel
theorem dX5_put_16 : decode cX5_put 16 = .ok (.iload_n 2, 1) := by decide +kernel
theorem dX5_put_17 : decode cX5_put 17 = .ok (.iconst 0, 1) := by decide +kernel
theorem dX5_put_18 : decode cX5_put 18 = .ok (.aload_n 0, 1) := by decide +kernel
theorem dX5_put_19 : decode cX5_put 19 = .ok (.getfield 37, 3) := by decide +kernel
theorem dX5_put_22 : decode cX5_put 22 = .ok (.iload_n 1, 1) := by decide +kernel
theorem dX5_put_23 : decode cX5_put 23 = .ok (.iaload, 1) := by decide +kernel
theorem dX5_put_24 : decode cX5_put 24 = .ok (.iconst 1, 1) := by decide +kernel
theorem dX5_put_25 : decode cX5_put 25 = .ok (.isub, 1) := by decide +kernel
theorem dX5_put_26 : decode cX5_put 26 = .ok (.invokestatic 43, 3) := by decide +kernel
theorem dX5_put_29 : decode cX5_put 29 = .ok (.ifCond .ne 6, 3) := by decide +kernel
theorem dX5_put_32 : decode cX5_put 32 = .ok (.bipush (-13), 2) := by decide +kernel
theorem dX5_put_34 : decode cX5_put 34 = .ok (.ireturn, 1) := by decide +kernel
theorem dX5_put_35 : decode cX5_put 35 = .ok (.aload_n 0, 1) := by decide +kernel
theorem dX5_put_36 : decode cX5_put 36 = .ok (.getfield 40, 3) := by decide +kernel
theorem dX5_put_39 : decode cX5_put 39 = .ok (.bipush 100, 2) := by decide +kernel
theorem dX5_put_41 : decode cX5_put 41 = .ok (.iload_n 1, 1) := by decide +kernel
theorem dX5_put_42 : decode cX5_put 42 = .ok (.imul, 1) := by decide +kernel
theorem dX5_put_43 : decode cX5_put 43 = .ok (.iload_n 2, 1) := by decide +kernel
theorem dX5_put_44 : decode cX5_put 44 = .ok (.iadd, 1) := by decide +kernel
theorem dX5_put_45 : decode cX5_put 45 = .ok (.aload_n 0, 1) := by decide +kernel
theorem dX5_put_46 : decode cX5_put 46 = .ok (.getfield 34, 3) := by decide +kernel
theorem dX5_put_49 : decode cX5_put 49 = .ok (.iload_n 1, 1) := by decide +kernel
theorem dX5_put_50 : decode cX5_put 50 = .ok (.iaload, 1) := by decide +kernel
theorem dX5_put_51 : decode cX5_put 51 = .ok (.ifCond .ne 8, 3) := by decide +kernel
theorem dX5_put_54 : decode cX5_put 54 = .ok (.iload_n 3, 1) := by decide +kernel
theorem dX5_put_55 : decode cX5_put 55 = .ok (.i2b, 1) := by decide +kernel
theorem dX5_put_56 : decode cX5_put 56 = .ok (.goto 19, 3) := by decide +kernel
theorem dX5_put_59 : decode cX5_put 59 = .ok (.aload_n 0, 1) := by decide +kernel
theorem dX5_put_60 : decode cX5_put 60 = .ok (.getfield 34, 3) := by decide +kernel
theorem dX5_put_63 : decode cX5_put 63 = .ok (.iload_n 1, 1) := by decide +kernel
theorem dX5_put_64 : decode cX5_put 64 = .ok (.iaload, 1) := by decide +kernel
theorem dX5_put_65 : decode cX5_put 65 = .ok (.iconst 1, 1) := by decide +kernel
theorem dX5_put_66 : decode cX5_put 66 = .ok (.if_icmp .ne 8, 3) := by decide +kernel
theorem dX5_put_69 : decode cX5_put 69 = .ok (.iload_n 3, 1) := by decide +kernel
theorem dX5_put_70 : decode cX5_put 70 = .ok (.i2s, 1) := by decide +kernel
theorem dX5_put_71 : decode cX5_put 71 = .ok (.goto 4, 3) := by decide +kernel
theorem dX5_put_74 : decode cX5_put 74 = .ok (.iload_n 3, 1) := by decide +kernel
theorem dX5_put_75 : decode cX5_put 75 = .ok (.iastore, 1) := by decide +kernel
theorem dX5_put_76 : decode cX5_put 76 = .ok (.iconst 0, 1) := by decide +kernel
theorem dX5_put_77 : decode cX5_put 77 = .ok (.ireturn, 1) := by decide +kernel
theorem dX5_element_0 : decode cX5_element 0 = .ok (.aload_n 0, 1) := by decide +kernel
theorem dX5_element_1 : decode cX5_element 1 = .ok (.iload_n 1, 1) := by decide +kernel
theorem dX5_element_2 : decode cX5_element 2 = .ok (.invokestatic 218, 3) := by decide +kernel
theorem dX5_element_5 : decode cX5_element 5 = .ok (.ifCond .ne 7, 3) := by decide +kernel
theorem dX5_element_8 : decode cX5_element 8 = .ok (.iconst 1, 1) := by decide +kernel
theorem dX5_element_9 : decode cX5_element 9 = .ok (.goto 34, 3) := by decide +kernel
theorem dX5_element_12 : decode cX5_element 12 = .ok (.aload_n 0, 1) := by decide +kernel
theorem dX5_element_13 : decode cX5_element 13 = .ok (.getfield 25, 3) := by decide +kernel
theorem dX5_element_16 : decode cX5_element 16 = .ok (.iload_n 1, 1) := by decide +kernel
theorem dX5_element_17 : decode cX5_element 17 = .ok (.iaload, 1) := by decide +kernel
theorem dX5_element_18 : decode cX5_element 18 = .ok (.iconst 2, 1) := by decide +kernel
theorem dX5_element_19 : decode cX5_element 19 = .ok (.if_icmp .ne 19, 3) := by decide +kernel
theorem dX5_element_22 : decode cX5_element 22 = .ok (.iload_n 2, 1) := by decide +kernel
theorem dX5_element_23 : decode cX5_element 23 = .ok (.iconst 0, 1) := by decide +kernel
theorem dX5_element_24 : decode cX5_element 24 = .ok (.aload_n 0, 1) := by decide +kernel
theorem dX5_element_25 : decode cX5_element 25 = .ok (.getfield 37, 3) := by decide +kernel
theorem dX5_element_28 : decode cX5_element 28 = .ok (.iload_n 1, 1) := by decide +kernel
theorem dX5_element_29 : decode cX5_element 29 = .ok (.iaload, 1) := by decide +kernel
theorem dX5_element_30 : decode cX5_element 30 = .ok (.iconst 1, 1) := by decide +kernel
theorem dX5_element_31 : decode cX5_element 31 = .ok (.isub, 1) := by decide +kernel
theorem dX5_element_32 : decode cX5_element 32 = .ok (.invokestatic 43, 3) := by decide +kernel
theorem dX5_element_35 : decode cX5_element 35 = .ok (.ifCond .ne 7, 3) := by decide +kernel
theorem dX5_element_38 : decode cX5_element 38 = .ok (.iconst 2, 1) := by decide +kernel
theorem dX5_element_39 : decode cX5_element 39 = .ok (.goto 4, 3) := by decide +kernel
theorem dX5_element_42 : decode cX5_element 42 = .ok (.iconst 0, 1) := by decide +kernel
theorem dX5_element_43 : decode cX5_element 43 = .ok (.putfield 215, 3) := by decide +kernel
theorem dX5_element_46 : decode cX5_element 46 = .ok (.aload_n 0, 1) := by decide +kernel
theorem dX5_element_47 : decode cX5_element 47 = .ok (.getfield 215, 3) := by decide +kernel
theorem dX5_element_50 : decode cX5_element 50 = .ok (.ifCond .ne 18, 3) := by decide +kernel
theorem dX5_element_53 : decode cX5_element 53 = .ok (.aload_n 0, 1) := by decide +kernel
theorem dX5_element_54 : decode cX5_element 54 = .ok (.getfield 40, 3) := by decide +kernel
theorem dX5_element_57 : decode cX5_element 57 = .ok (.bipush 100, 2) := by decide +kernel
theorem dX5_element_59 : decode cX5_element 59 = .ok (.iload_n 1, 1) := by decide +kernel
theorem dX5_element_60 : decode cX5_element 60 = .ok (.imul, 1) := by decide +kernel
theorem dX5_element_61 : decode cX5_element 61 = .ok (.iload_n 2, 1) := by decide +kernel
theorem dX5_element_62 : decode cX5_element 62 = .ok (.iadd, 1) := by decide +kernel
theorem dX5_element_63 : decode cX5_element 63 = .ok (.iaload, 1) := by decide +kernel
theorem dX5_element_64 : decode cX5_element 64 = .ok (.i2l, 1) := by decide +kernel
theorem dX5_element_65 : decode cX5_element 65 = .ok (.goto 4, 3) := by decide +kernel
theorem dX5_element_68 : decode cX5_element 68 = .ok (.lconst 0, 1) := by decide +kernel
theorem dX5_element_69 : decode cX5_element 69 = .ok (.lreturn, 1) := by decide +kernel
theorem dX5_copy_0 : decode cX5_copy 0 = .ok (.iload_n 1, 1) := by decide +kernel
theorem dX5_copy_1 : decode cX5_copy 1 = .ok (.invokestatic 218, 3) := by decide +kernel
theorem dX5_copy_4 : decode cX5_copy 4 = .ok (.ifCond .eq 10, 3) := by decide +kernel
theorem dX5_copy_7 : decode cX5_copy 7 = .ok (.iload_n 3, 1) := by decide +kernel
theorem dX5_copy_8 : decode cX5_copy 8 = .ok (.invokestatic 218, 3) := by decide +kernel
theorem dX5_copy_11 : decode cX5_copy 11 = .ok (.ifCond .ne 5, 3) := by decide +kernel
theorem dX5_copy_14 : decode cX5_copy 14 = .ok (.iconst (-1), 1) := by decide +kernel
theorem dX5_copy_15 : decode cX5_copy 15 = .ok (.ireturn, 1) := by decide +kernel
theorem dX5_copy_16 : decode cX5_copy 16 = .ok (.aload_n 0, 1) := by decide +kernel
theorem dX5_copy_17 : decode cX5_copy 17 = .ok (.getfield 25, 3) := by decide +kernel
theorem dX5_copy_20 : decode cX5_copy 20 = .ok (.iload_n 1, 1) := by decide +kernel
theorem dX5_copy_21 : decode cX5_copy 21 = .ok (.iaload, 1) := by decide +kernel
theorem dX5_copy_22 : decode cX5_copy 22 = .ok (.ifCond .eq 12, 3) := by decide +kernel
theorem dX5_copy_25 : decode cX5_copy 25 = .ok (.aload_n 0, 1) := by decide +kernel
theorem dX5_copy_26 : decode cX5_copy 26 = .ok (.getfield 25, 3) := by decide +kernel
theorem dX5_copy_29 : decode cX5_copy 29 = .ok (.iload_n 3, 1) := by decide +kernel
theorem dX5_copy_30 : decode cX5_copy 30 = .ok (.iaload, 1) := by decide +kernel
theorem dX5_copy_31 : decode cX5_copy 31 = .ok (.ifCond .ne 6, 3) := by decide +kernel
theorem dX5_copy_34 : decode cX5_copy 34 = .ok (.bipush (-11), 2) := by decide +kernel
theorem dX5_copy_36 : decode cX5_copy 36 = .ok (.ireturn, 1) := by decide +kernel
theorem dX5_copy_37 : decode cX5_copy 37 = .ok (.aload_n 0, 1) := by decide +kernel
theorem dX5_copy_38 : decode cX5_copy 38 = .ok (.getfield 25, 3) := by decide +kernel
theorem dX5_copy_41 : decode cX5_copy 41 = .ok (.iload_n 1, 1) := by decide +kernel
theorem dX5_copy_42 : decode cX5_copy 42 = .ok (.iaload, 1) := by decide +kernel
theorem dX5_copy_43 : decode cX5_copy 43 = .ok (.iconst 2, 1) := by decide +kernel
theorem dX5_copy_44 : decode cX5_copy 44 = .ok (.if_icmp .ne 28, 3) := by decide +kernel
theorem dX5_copy_47 : decode cX5_copy 47 = .ok (.aload_n 0, 1) := by decide +kernel
theorem dX5_copy_48 : decode cX5_copy 48 = .ok (.getfield 25, 3) := by decide +kernel
theorem dX5_copy_51 : decode cX5_copy 51 = .ok (.iload_n 3, 1) := by decide +kernel
theorem dX5_copy_52 : decode cX5_copy 52 = .ok (.iaload, 1) := by decide +kernel
theorem dX5_copy_53 : decode cX5_copy 53 = .ok (.iconst 2, 1) := by decide +kernel
theorem dX5_copy_54 : decode cX5_copy 54 = .ok (.if_icmp .ne 18, 3) := by decide +kernel
theorem dX5_copy_57 : decode cX5_copy 57 = .ok (.aload_n 0, 1) := by decide +kernel
theorem dX5_copy_58 : decode cX5_copy 58 = .ok (.getfield 34, 3) := by decide +kernel
theorem dX5_copy_61 : decode cX5_copy 61 = .ok (.iload_n 1, 1) := by decide +kernel
theorem dX5_copy_62 : decode cX5_copy 62 = .ok (.iaload, 1) := by decide +kernel
theorem dX5_copy_63 : decode cX5_copy 63 = .ok (.aload_n 0, 1) := by decide +kernel
theorem dX5_copy_64 : decode cX5_copy 64 = .ok (.getfield 34, 3) := by decide +kernel
theorem dX5_copy_67 : decode cX5_copy 67 = .ok (.iload_n 3, 1) := by decide +kernel
theorem dX5_copy_68 : decode cX5_copy 68 = .ok (.iaload, 1) := by decide +kernel
theorem dX5_copy_69 : decode cX5_copy 69 = .ok (.if_icmp .eq 6, 3) := by decide +kernel
theorem dX5_copy_72 : decode cX5_copy 72 = .ok (.bipush (-12), 2) := by decide +kernel
theorem dX5_copy_74 : decode cX5_copy 74 = .ok (.ireturn, 1) := by decide +kernel
theorem dX5_copy_75 : decode cX5_copy 75 = .ok (.iload 5, 2) := by decide +kernel
theorem dX5_copy_77 : decode cX5_copy 77 = .ok (.ifCond .lt 39, 3) := by decide +kernel
theorem dX5_copy_80 : decode cX5_copy 80 = .ok (.iload_n 2, 1) := by decide +kernel
theorem dX5_copy_81 : decode cX5_copy 81 = .ok (.ifCond .lt 35, 3) := by decide +kernel
theorem dX5_copy_84 : decode cX5_copy 84 = .ok (.iload 4, 2) := by decide +kernel
theorem dX5_copy_86 : decode cX5_copy 86 = .ok (.ifCond .lt 30, 3) := by decide +kernel
theorem dX5_copy_89 : decode cX5_copy 89 = .ok (.iload 5, 2) := by decide +kernel
theorem dX5_copy_91 : decode cX5_copy 91 = .ok (.aload_n 0, 1) := by decide +kernel
theorem dX5_copy_92 : decode cX5_copy 92 = .ok (.getfield 37, 3) := by decide +kernel
theorem dX5_copy_95 : decode cX5_copy 95 = .ok (.iload_n 1, 1) := by decide +kernel
theorem dX5_copy_96 : decode cX5_copy 96 = .ok (.iaload, 1) := by decide +kernel
theorem dX5_copy_97 : decode cX5_copy 97 = .ok (.iload_n 2, 1) := by decide +kernel
theorem dX5_copy_98 : decode cX5_copy 98 = .ok (.isub, 1) := by decide +kernel
theorem dX5_copy_99 : decode cX5_copy 99 = .ok (.if_icmp .gt 17, 3) := by decide +kernel
theorem dX5_copy_102 : decode cX5_copy 102 = .ok (.iload 5, 2) := by decide +kernel
theorem dX5_copy_104 : decode cX5_copy 104 = .ok (.aload_n 0, 1) := by decide +kernel
theorem dX5_copy_105 : decode cX5_copy 105 = .ok (.getfield 37, 3) := by decide +kernel
theorem dX5_copy_108 : decode cX5_copy 108 = .ok (.iload_n 3, 1) := by decide +kernel
theorem dX5_copy_109 : decode cX5_copy 109 = .ok (.iaload, 1) := by decide +kernel
theorem dX5_copy_110 : decode cX5_copy 110 = .ok (.iload 4, 2) := by decide +kernel
theorem dX5_copy_112 : decode cX5_copy 112 = .ok (.isub, 1) := by decide +kernel
theorem dX5_copy_113 : decode cX5_copy 113 = .ok (.if_icmp .le 6, 3) := by decide +kernel
theorem dX5_copy_116 : decode cX5_copy 116 = .ok (.bipush (-13), 2) := by decide +kernel
theorem dX5_copy_118 : decode cX5_copy 118 = .ok (.ireturn, 1) := by decide +kernel
theorem dX5_copy_119 : decode cX5_copy 119 = .ok (.iconst 0, 1) := by decide +kernel
theorem dX5_copy_120 : decode cX5_copy 120 = .ok (.istore 6, 2) := by decide +kernel
theorem dX5_copy_122 : decode cX5_copy 122 = .ok (.iload 6, 2) := by decide +kernel
theorem dX5_copy_124 : decode cX5_copy 124 = .ok (.iload 5, 2) := by decide +kernel
theorem dX5_copy_126 : decode cX5_copy 126 = .ok (.if_icmp .ge 58, 3) := by decide +kernel
theorem dX5_copy_129 : decode cX5_copy 129 = .ok (.iload_n 2, 1) := by decide +kernel
theorem dX5_copy_130 : decode cX5_copy 130 = .ok (.iload 4, 2) := by decide +kernel
theorem dX5_copy_132 : decode cX5_copy 132 = .ok (.if_icmp .le 8, 3) := by decide +kernel
theorem dX5_copy_135 : decode cX5_copy 135 = .ok (.iload 6, 2) := by decide +kernel
theorem dX5_copy_137 : decode cX5_copy 137 = .ok (.goto 10, 3) := by decide +kernel
theorem dX5_copy_140 : decode cX5_copy 140 = .ok (.iload 5, 2) := by decide +kernel
theorem dX5_copy_142 : decode cX5_copy 142 = .ok (.iconst 1, 1) := by decide +kernel
theorem dX5_copy_143 : decode cX5_copy 143 = .ok (.isub, 1) := by decide +kernel
theorem dX5_copy_144 : decode cX5_copy 144 = .ok (.iload 6, 2) := by decide +kernel
theorem dX5_copy_146 : decode cX5_copy 146 = .ok (.isub, 1) := by decide +kernel
theorem dX5_copy_147 : decode cX5_copy 147 = .ok (.istore 7, 2) := by decide +kernel
theorem dX5_copy_149 : decode cX5_copy 149 = .ok (.aload_n 0, 1) := by decide +kernel
theorem dX5_copy_150 : decode cX5_copy 150 = .ok (.getfield 40, 3) := by decide +kernel
theorem dX5_copy_153 : decode cX5_copy 153 = .ok (.bipush 100, 2) := by decide +kernel
theorem dX5_copy_155 : decode cX5_copy 155 = .ok (.iload_n 3, 1) := by decide +kernel
theorem dX5_copy_156 : decode cX5_copy 156 = .ok (.imul, 1) := by decide +kernel
theorem dX5_copy_157 : decode cX5_copy 157 = .ok (.iload 4, 2) := by decide +kernel
theorem dX5_copy_159 : decode cX5_copy 159 = .ok (.iadd, 1) := by decide +kernel
theorem dX5_copy_160 : decode cX5_copy 160 = .ok (.iload 7, 2) := by decide +kernel
theorem dX5_copy_162 : decode cX5_copy 162 = .ok (.iadd, 1) := by decide +kernel
theorem dX5_copy_163 : decode cX5_copy 163 = .ok (.aload_n 0, 1) := by decide +kernel
theorem dX5_copy_164 : decode cX5_copy 164 = .ok (.getfield 40, 3) := by decide +kernel
theorem dX5_copy_167 : decode cX5_copy 167 = .ok (.bipush 100, 2) := by decide +kernel
theorem dX5_copy_169 : decode cX5_copy 169 = .ok (.iload_n 1, 1) := by decide +kernel
theorem dX5_copy_170 : decode cX5_copy 170 = .ok (.imul, 1) := by decide +kernel
theorem dX5_copy_171 : decode cX5_copy 171 = .ok (.iload_n 2, 1) := by decide +kernel
theorem dX5_copy_172 : decode cX5_copy 172 = .ok (.iadd, 1) := by decide +kernel
theorem dX5_copy_173 : decode cX5_copy 173 = .ok (.iload 7, 2) := by decide +kernel
theorem dX5_copy_175 : decode cX5_copy 175 = .ok (.iadd, 1) := by decide +kernel
theorem dX5_copy_176 : decode cX5_copy 176 = .ok (.iaload, 1) := by decide +kernel
theorem dX5_copy_177 : decode cX5_copy 177 = .ok (.iastore, 1) := by decide +kernel
theorem dX5_copy_178 : decode cX5_copy 178 = .ok (.iinc 6 1, 3) := by decide +kernel
theorem dX5_copy_181 : decode cX5_copy 181 = .ok (.goto (-59), 3) := by decide +kernel
theorem dX5_copy_184 : decode cX5_copy 184 = .ok (.iload 5, 2) := by decide +kernel
theorem dX5_copy_186 : decode cX5_copy 186 = .ok (.ireturn, 1) := by decide +kernel
theorem dX5_costBy_0 : decode cX5_costBy 0 = .ok (.iload_n 0, 1) := by decide +kernel
theorem dX5_costBy_1 : decode cX5_costBy 1 = .ok (.tableswitch 55 1 6 #[39, 43, 45, 47, 49, 53], 39) := by decide +kernel
theorem dX5_costBy_40 : decode cX5_costBy 40 = .ok (.iconst 4, 1) := by decide +kernel
theorem dX5_costBy_41 : decode cX5_costBy 41 = .ok (.iload_n 1, 1) := by decide +kernel
theorem dX5_costBy_42 : decode cX5_costBy 42 = .ok (.iadd, 1) := by decide +kernel
theorem dX5_costBy_43 : decode cX5_costBy 43 = .ok (.ireturn, 1) := by decide +kernel
theorem dX5_costBy_44 : decode cX5_costBy 44 = .ok (.iconst 2, 1) := by decide +kernel
theorem dX5_costBy_45 : decode cX5_costBy 45 = .ok (.ireturn, 1) := by decide +kernel
theorem dX5_costBy_46 : decode cX5_costBy 46 = .ok (.iconst 3, 1) := by decide +kernel
theorem dX5_costBy_47 : decode cX5_costBy 47 = .ok (.ireturn, 1) := by decide +kernel
theorem dX5_costBy_48 : decode cX5_costBy 48 = .ok (.iconst 0, 1) := by decide +kernel
theorem dX5_costBy_49 : decode cX5_costBy 49 = .ok (.ireturn, 1) := by decide +kernel
theorem dX5_costBy_50 : decode cX5_costBy 50 = .ok (.iconst 2, 1) := by decide +kernel
theorem dX5_costBy_51 : decode cX5_costBy 51 = .ok (.iload_n 1, 1) := by decide +kernel
theorem dX5_costBy_52 : decode cX5_costBy 52 = .ok (.iadd, 1) := by decide +kernel
theorem dX5_costBy_53 : decode cX5_costBy 53 = .ok (.ireturn, 1) := by decide +kernel
theorem dX5_costBy_54 : decode cX5_costBy 54 = .ok (.iconst 1, 1) := by decide +kernel
theorem dX5_costBy_55 : decode cX5_costBy 55 = .ok (.ireturn, 1) := by decide +kernel
theorem dX5_costBy_56 : decode cX5_costBy 56 = .ok (.iconst 4, 1) := by decide +kernel
theorem dX5_costBy_57 : decode cX5_costBy 57 = .ok (.ireturn, 1) := by decide +kernel
theorem dX5_cost_0 : decode cX5_cost 0 = .ok (.aload_n 0, 1) := by decide +kernel
theorem dX5_cost_1 : decode cX5_cost 1 = .ok (.iload_n 1, 1) := by decide +kernel
theorem dX5_cost_2 : decode cX5_cost 2 = .ok (.invokevirtual 147, 3) := by decide +kernel
theorem dX5_cost_5 : decode cX5_cost 5 = .ok (.istore_n 2, 1) := by decide +kernel
theorem dX5_cost_6 : decode cX5_cost 6 = .ok (.iload_n 2, 1) := by decide +kernel
theorem dX5_cost_7 : decode cX5_cost 7 = .ok (.ifCond .eq 7, 3) := by decide +kernel
theorem dX5_cost_10 : decode cX5_cost 10 = .ok (.iload_n 2, 1) := by decide +kernel
theorem dX5_cost_11 : decode cX5_cost 11 = .ok (.goto 18, 3) := by decide +kernel
theorem dX5_cost_14 : decode cX5_cost 14 = .ok (.aload_n 0, 1) := by decide +kernel
theorem dX5_cost_15 : decode cX5_cost 15 = .ok (.getfield 28, 3) := by decide +kernel
theorem dX5_cost_18 : decode cX5_cost 18 = .ok (.iload_n 1, 1) := by decide +kernel
theorem dX5_cost_19 : decode cX5_cost 19 = .ok (.iaload, 1) := by decide +kernel
theorem dX5_cost_20 : decode cX5_cost 20 = .ok (.aload_n 0, 1) := by decide +kernel
theorem dX5_cost_21 : decode cX5_cost 21 = .ok (.getfield 31, 3) := by decide +kernel
theorem dX5_cost_24 : decode cX5_cost 24 = .ok (.iload_n 1, 1) := by decide +kernel
theorem dX5_cost_25 : decode cX5_cost 25 = .ok (.iaload, 1) := by decide +kernel
theorem dX5_cost_26 : decode cX5_cost 26 = .ok (.invokestatic 221, 3) := by decide +kernel
theorem dX5_cost_29 : decode cX5_cost 29 = .ok (.ireturn, 1) := by decide +kernel
theorem dX5_toss_0 : decode cX5_toss 0 = .ok (.aload_n 0, 1) := by decide +kernel
theorem dX5_toss_1 : decode cX5_toss 1 = .ok (.iload_n 1, 1) := by decide +kernel
theorem dX5_toss_2 : decode cX5_toss 2 = .ok (.invokevirtual 147, 3) := by decide +kernel
theorem dX5_toss_5 : decode cX5_toss 5 = .ok (.istore_n 2, 1) := by decide +kernel
theorem dX5_toss_6 : decode cX5_toss 6 = .ok (.iload_n 2, 1) := by decide +kernel
theorem dX5_toss_7 : decode cX5_toss 7 = .ok (.ifCond .eq 5, 3) := by decide +kernel
theorem dX5_toss_10 : decode cX5_toss 10 = .ok (.iload_n 2, 1) := by decide +kernel
theorem dX5_toss_11 : decode cX5_toss 11 = .ok (.ireturn, 1) := by decide +kernel
theorem dX5_toss_12 : decode cX5_toss 12 = .ok (.aload_n 0, 1) := by decide +kernel
theorem dX5_toss_13 : decode cX5_toss 13 = .ok (.getfield 28, 3) := by decide +kernel
theorem dX5_toss_16 : decode cX5_toss 16 = .ok (.iload_n 1, 1) := by decide +kernel
theorem dX5_toss_17 : decode cX5_toss 17 = .ok (.iaload, 1) := by decide +kernel
theorem dX5_toss_18 : decode cX5_toss 18 = .ok (.istore_n 3, 1) := by decide +kernel
theorem dX5_toss_19 : decode cX5_toss 19 = .ok (.aload_n 0, 1) := by decide +kernel
theorem dX5_toss_20 : decode cX5_toss 20 = .ok (.getfield 31, 3) := by decide +kernel
theorem dX5_toss_23 : decode cX5_toss 23 = .ok (.iload_n 1, 1) := by decide +kernel
theorem dX5_toss_24 : decode cX5_toss 24 = .ok (.iaload, 1) := by decide +kernel
theorem dX5_toss_25 : decode cX5_toss 25 = .ok (.istore 4, 2) := by decide +kernel
theorem dX5_toss_27 : decode cX5_toss 27 = .ok (.iload_n 3, 1) := by decide +kernel
theorem dX5_toss_28 : decode cX5_toss 28 = .ok (.iconst 3, 1) := by decide +kernel
theorem dX5_toss_29 : decode cX5_toss 29 = .ok (.if_icmp .eq 14, 3) := by decide +kernel
theorem dX5_toss_32 : decode cX5_toss 32 = .ok (.iload_n 3, 1) := by decide +kernel
theorem dX5_toss_33 : decode cX5_toss 33 = .ok (.bipush 6, 2) := by decide +kernel
theorem dX5_toss_35 : decode cX5_toss 35 = .ok (.if_icmp .eq 8, 3) := by decide +kernel
theorem dX5_toss_38 : decode cX5_toss 38 = .ok (.iload 4, 2) := by decide +kernel
theorem dX5_toss_40 : decode cX5_toss 40 = .ok (.ifCond .ne 6, 3) := by decide +kernel
theorem dX5_toss_43 : decode cX5_toss 43 = .ok (.bipush (-15), 2) := by decide +kernel
theorem dX5_toss_45 : decode cX5_toss 45 = .ok (.ireturn, 1) := by decide +kernel
theorem dX5_toss_46 : decode cX5_toss 46 = .ok (.iload_n 3, 1) := by decide +kernel
theorem dX5_toss_47 : decode cX5_toss 47 = .ok (.iconst 5, 1) := by decide +kernel
theorem dX5_toss_48 : decode cX5_toss 48 = .ok (.if_icmp .ne 16, 3) := by decide +kernel
theorem dX5_toss_51 : decode cX5_toss 51 = .ok (.sipush 200, 3) := by decide +kernel
theorem dX5_toss_54 : decode cX5_toss 54 = .ok (.iload_n 3, 1) := by decide +kernel
theorem dX5_toss_55 : decode cX5_toss 55 = .ok (.iload 4, 2) := by decide +kernel
theorem dX5_toss_57 : decode cX5_toss 57 = .ok (.invokestatic 221, 3) := by decide +kernel
theorem dX5_toss_60 : decode cX5_toss 60 = .ok (.iadd, 1) := by decide +kernel
theorem dX5_toss_61 : decode cX5_toss 61 = .ok (.goto 18, 3) := by decide +kernel
theorem dX5_toss_64 : decode cX5_toss 64 = .ok (.iload_n 3, 1) := by decide +kernel
theorem dX5_toss_65 : decode cX5_toss 65 = .ok (.iconst 2, 1) := by decide +kernel
theorem dX5_toss_66 : decode cX5_toss 66 = .ok (.if_icmp .ne 11, 3) := by decide +kernel
theorem dX5_toss_69 : decode cX5_toss 69 = .ok (.bipush 100, 2) := by decide +kernel
theorem dX5_toss_71 : decode cX5_toss 71 = .ok (.iload 4, 2) := by decide +kernel
theorem dX5_toss_73 : decode cX5_toss 73 = .ok (.iadd, 1) := by decide +kernel
theorem dX5_toss_74 : decode cX5_toss 74 = .ok (.goto 5, 3) := by decide +kernel
theorem dX5_toss_77 : decode cX5_toss 77 = .ok (.iload 4, 2) := by decide +kernel
theorem dX5_toss_79 : decode cX5_toss 79 = .ok (.ireturn, 1) := by decide +kernel
theorem dJ6_bitCount_0f7a4_0 : decode cJ6_bitCount_0f7a4 0 = .ok (.iload_n 0, 1) := by decide +kernel
theorem dJ6_bitCount_0f7a4_1 : decode cJ6_bitCount_0f7a4 1 = .ok (.iload_n 0, 1) := by decide +kernel
theorem dJ6_bitCount_0f7a4_2 : decode cJ6_bitCount_0f7a4 2 = .ok (.iconst 1, 1) := by decide +kernel
theorem dJ6_bitCount_0f7a4_3 : decode cJ6_bitCount_0f7a4 3 = .ok (.iushr, 1) := by decide +kernel
theorem dJ6_bitCount_0f7a4_4 : decode cJ6_bitCount_0f7a4 4 = .ok (.ldc_w 265, 3) := by decide +kernel
theorem dJ6_bitCount_0f7a4_7 : decode cJ6_bitCount_0f7a4 7 = .ok (.iand, 1) := by decide +kernel
theorem dJ6_bitCount_0f7a4_8 : decode cJ6_bitCount_0f7a4 8 = .ok (.isub, 1) := by decide +kernel
theorem dJ6_bitCount_0f7a4_9 : decode cJ6_bitCount_0f7a4 9 = .ok (.istore_n 0, 1) := by decide +kernel
theorem dJ6_bitCount_0f7a4_10 : decode cJ6_bitCount_0f7a4 10 = .ok (.iload_n 0, 1) := by decide +kernel
theorem dJ6_bitCount_0f7a4_11 : decode cJ6_bitCount_0f7a4 11 = .ok (.ldc_w 266, 3) := by decide +kernel
theorem dJ6_bitCount_0f7a4_14 : decode cJ6_bitCount_0f7a4 14 = .ok (.iand, 1) := by decide +kernel
theorem dJ6_bitCount_0f7a4_15 : decode cJ6_bitCount_0f7a4 15 = .ok (.iload_n 0, 1) := by decide +kernel
theorem dJ6_bitCount_0f7a4_16 : decode cJ6_bitCount_0f7a4 16 = .ok (.iconst 2, 1) := by decide +kernel
theorem dJ6_bitCount_0f7a4_17 : decode cJ6_bitCount_0f7a4 17 = .ok (.iushr, 1) := by decide +kernel
theorem dJ6_bitCount_0f7a4_18 : decode cJ6_bitCount_0f7a4 18 = .ok (.ldc_w 266, 3) := by decide +kernel
theorem dJ6_bitCount_0f7a4_21 : decode cJ6_bitCount_0f7a4 21 = .ok (.iand, 1) := by decide +kernel
theorem dJ6_bitCount_0f7a4_22 : decode cJ6_bitCount_0f7a4 22 = .ok (.iadd, 1) := by decide +kernel
theorem dJ6_bitCount_0f7a4_23 : decode cJ6_bitCount_0f7a4 23 = .ok (.istore_n 0, 1) := by decide +kernel
theorem dJ6_bitCount_0f7a4_24 : decode cJ6_bitCount_0f7a4 24 = .ok (.iload_n 0, 1) := by decide +kernel
theorem dJ6_bitCount_0f7a4_25 : decode cJ6_bitCount_0f7a4 25 = .ok (.iload_n 0, 1) := by decide +kernel
theorem dJ6_bitCount_0f7a4_26 : decode cJ6_bitCount_0f7a4 26 = .ok (.iconst 4, 1) := by decide +kernel
theorem dJ6_bitCount_0f7a4_27 : decode cJ6_bitCount_0f7a4 27 = .ok (.iushr, 1) := by decide +kernel
theorem dJ6_bitCount_0f7a4_28 : decode cJ6_bitCount_0f7a4 28 = .ok (.iadd, 1) := by decide +kernel
theorem dJ6_bitCount_0f7a4_29 : decode cJ6_bitCount_0f7a4 29 = .ok (.ldc_w 267, 3) := by decide +kernel
theorem dJ6_bitCount_0f7a4_32 : decode cJ6_bitCount_0f7a4 32 = .ok (.iand, 1) := by decide +kernel
theorem dJ6_bitCount_0f7a4_33 : decode cJ6_bitCount_0f7a4 33 = .ok (.istore_n 0, 1) := by decide +kernel
theorem dJ6_bitCount_0f7a4_34 : decode cJ6_bitCount_0f7a4 34 = .ok (.iload_n 0, 1) := by decide +kernel
theorem dJ6_bitCount_0f7a4_35 : decode cJ6_bitCount_0f7a4 35 = .ok (.iload_n 0, 1) := by decide +kernel
theorem dJ6_bitCount_0f7a4_36 : decode cJ6_bitCount_0f7a4 36 = .ok (.bipush 8, 2) := by decide +kernel
theorem dJ6_bitCount_0f7a4_38 : decode cJ6_bitCount_0f7a4 38 = .ok (.iushr, 1) := by decide +kernel
theorem dJ6_bitCount_0f7a4_39 : decode cJ6_bitCount_0f7a4 39 = .ok (.iadd, 1) := by decide +kernel
theorem dJ6_bitCount_0f7a4_40 : decode cJ6_bitCount_0f7a4 40 = .ok (.istore_n 0, 1) := by decide +kernel
theorem dJ6_bitCount_0f7a4_41 : decode cJ6_bitCount_0f7a4 41 = .ok (.iload_n 0, 1) := by decide +kernel
theorem dJ6_bitCount_0f7a4_42 : decode cJ6_bitCount_0f7a4 42 = .ok (.iload_n 0, 1) := by decide +kernel
theorem dJ6_bitCount_0f7a4_43 : decode cJ6_bitCount_0f7a4 43 = .ok (.bipush 16, 2) := by decide +kernel
theorem dJ6_bitCount_0f7a4_45 : decode cJ6_bitCount_0f7a4 45 = .ok (.iushr, 1) := by decide +kernel
theorem dJ6_bitCount_0f7a4_46 : decode cJ6_bitCount_0f7a4 46 = .ok (.iadd, 1) := by decide +kernel
theorem dJ6_bitCount_0f7a4_47 : decode cJ6_bitCount_0f7a4 47 = .ok (.istore_n 0, 1) := by decide +kernel
theorem dJ6_bitCount_0f7a4_48 : decode cJ6_bitCount_0f7a4 48 = .ok (.iload_n 0, 1) := by decide +kernel
theorem dJ6_bitCount_0f7a4_49 : decode cJ6_bitCount_0f7a4 49 = .ok (.bipush 63, 2) := by decide +kernel
theorem dJ6_bitCount_0f7a4_51 : decode cJ6_bitCount_0f7a4 51 = .ok (.iand, 1) := by decide +kernel
theorem dJ6_bitCount_0f7a4_52 : decode cJ6_bitCount_0f7a4 52 = .ok (.ireturn, 1) := by decide +kernel
theorem dJ9_abs_0f7a4_0 : decode cJ9_abs_0f7a4 0 = .ok (.iload_n 0, 1) := by decide +kernel
theorem dJ9_abs_0f7a4_1 : decode cJ9_abs_0f7a4 1 = .ok (.ifCond .ge 8, 3) := by decide +kernel
theorem dJ9_abs_0f7a4_4 : decode cJ9_abs_0f7a4 4 = .ok (.iload_n 0, 1) := by decide +kernel
theorem dJ9_abs_0f7a4_5 : decode cJ9_abs_0f7a4 5 = .ok (.ineg, 1) := by decide +kernel
theorem dJ9_abs_0f7a4_6 : decode cJ9_abs_0f7a4 6 = .ok (.goto 4, 3) := by decide +kernel
theorem dJ9_abs_0f7a4_9 : decode cJ9_abs_0f7a4 9 = .ok (.iload_n 0, 1) := by decide +kernel
theorem dJ9_abs_0f7a4_10 : decode cJ9_abs_0f7a4 10 = .ok (.ireturn, 1) := by decide +kernel
theorem dJ9_max_7cf53_0 : decode cJ9_max_7cf53 0 = .ok (.iload_n 0, 1) := by decide +kernel
theorem dJ9_max_7cf53_1 : decode cJ9_max_7cf53 1 = .ok (.iload_n 1, 1) := by decide +kernel
theorem dJ9_max_7cf53_2 : decode cJ9_max_7cf53 2 = .ok (.if_icmp .lt 7, 3) := by decide +kernel
theorem dJ9_max_7cf53_5 : decode cJ9_max_7cf53 5 = .ok (.iload_n 0, 1) := by decide +kernel
theorem dJ9_max_7cf53_6 : decode cJ9_max_7cf53 6 = .ok (.goto 4, 3) := by decide +kernel
theorem dJ9_max_7cf53_9 : decode cJ9_max_7cf53 9 = .ok (.iload_n 1, 1) := by decide +kernel
theorem dJ9_max_7cf53_10 : decode cJ9_max_7cf53 10 = .ok (.ireturn, 1) := by decide +kernel
theorem dJ9_min_7cf53_0 : decode cJ9_min_7cf53 0 = .ok (.iload_n 0, 1) := by decide +kernel
theorem dJ9_min_7cf53_1 : decode cJ9_min_7cf53 1 = .ok (.iload_n 1, 1) := by decide +kernel
theorem dJ9_min_7cf53_2 : decode cJ9_min_7cf53 2 = .ok (.if_icmp .gt 7, 3) := by decide +kernel
theorem dJ9_min_7cf53_5 : decode cJ9_min_7cf53 5 = .ok (.iload_n 0, 1) := by decide +kernel
theorem dJ9_min_7cf53_6 : decode cJ9_min_7cf53 6 = .ok (.goto 4, 3) := by decide +kernel
theorem dJ9_min_7cf53_9 : decode cJ9_min_7cf53 9 = .ok (.iload_n 1, 1) := by decide +kernel
theorem dJ9_min_7cf53_10 : decode cJ9_min_7cf53 10 = .ok (.ireturn, 1) := by decide +kernel
theorem dJ7_fill_53178_0 : decode cJ7_fill_53178 0 = .ok (.iconst 0, 1) := by decide +kernel
theorem dJ7_fill_53178_1 : decode cJ7_fill_53178 1 = .ok (.istore_n 2, 1) := by decide +kernel
theorem dJ7_fill_53178_2 : decode cJ7_fill_53178 2 = .ok (.aload_n 0, 1) := by decide +kernel
theorem dJ7_fill_53178_3 : decode cJ7_fill_53178 3 = .ok (.arraylength, 1) := by decide +kernel
theorem dJ7_fill_53178_4 : decode cJ7_fill_53178 4 = .ok (.istore_n 3, 1) := by decide +kernel
theorem dJ7_fill_53178_5 : decode cJ7_fill_53178 5 = .ok (.iload_n 2, 1) := by decide +kernel
theorem dJ7_fill_53178_6 : decode cJ7_fill_53178 6 = .ok (.iload_n 3, 1) := by decide +kernel
theorem dJ7_fill_53178_7 : decode cJ7_fill_53178 7 = .ok (.if_icmp .ge 13, 3) := by decide +kernel
theorem dJ7_fill_53178_10 : decode cJ7_fill_53178 10 = .ok (.aload_n 0, 1) := by decide +kernel
theorem dJ7_fill_53178_11 : decode cJ7_fill_53178 11 = .ok (.iload_n 2, 1) := by decide +kernel
theorem dJ7_fill_53178_12 : decode cJ7_fill_53178 12 = .ok (.iload_n 1, 1) := by decide +kernel
theorem dJ7_fill_53178_13 : decode cJ7_fill_53178 13 = .ok (.iastore, 1) := by decide +kernel
theorem dJ7_fill_53178_14 : decode cJ7_fill_53178 14 = .ok (.iinc 2 1, 3) := by decide +kernel
theorem dJ7_fill_53178_17 : decode cJ7_fill_53178 17 = .ok (.goto (-12), 3) := by decide +kernel
theorem dJ7_fill_53178_20 : decode cJ7_fill_53178 20 = .ok (.return_, 1) := by decide +kernel
end
section
/-! GO: the machine's walk with handles: a cell is named by its place in a list, not by its address -/
abbrev Ce : Type := (FieldType × vp_A) ⊕ (Nat × List Value)
abbrev Hp : Type := List Ce
def vM (ad : Nat → Nat) (v : Value) : Value := match v with
  | .ref k => .ref (ad k)
  | w => w
def aM (ad : Nat → Nat) (a : vp_A) : vp_A := match a with
  | (n, .inr (.inr (.inr (.inr f)))) => (n, .inr (.inr (.inr (.inr (fun j => (f j).map ad)))))
  | b => b
def eH (ad : Nat → Nat) (e : Ce) : Ce := match e with
  | .inl (ty, a) => .inl (ty, aM ad a)
  | .inr (c, fs) => .inr (c, fs.map (vM ad))
def eM (ad : Nat → Nat) (cA : FieldType → ClassId) (e : Ce) : va_E := match e with
  | .inl (ty, a) => .inl (cA ty, aM ad a)
  | .inr (c, fs) => .inr (c, fs.map (vM ad))
def wM (ad : Nat → Nat) (cA : FieldType → ClassId) (hp : Hp) : va_W := hp.mapIdx (fun k e => (ad k, eM ad cA e))
theorem wM_get {ad : Nat → Nat} {cA : FieldType → ClassId} {hp : Hp} {k : Nat} {e : Ce} (h : hp[k]? = some e) : (wM ad cA hp)[k]? = some (ad k, eM ad cA e) := by
  simp [wM, h]
theorem wM_of {ad : Nat → Nat} {cA : FieldType → ClassId} {hp : Hp} {k : Nat} {q : Nat × va_E} (h : (wM ad cA hp)[k]? = some q) : ∃ e, hp[k]? = some e ∧ q = (ad k, eM ad cA e) := by
  simp only [wM, List.getElem?_mapIdx, Option.map_eq_some_iff] at h
  obtain ⟨e, h1, h2⟩ := h
  exact ⟨e, h1, h2.symm⟩
theorem wM_set {ad : Nat → Nat} {cA : FieldType → ClassId} {hp : Hp} (k : Nat) (e : Ce) : (wM ad cA hp).set k (ad k, eM ad cA e) = wM ad cA (hp.set k e) := by
  apply List.ext_getElem?
  intro i
  simp only [wM, List.getElem?_set, List.getElem?_mapIdx, List.length_mapIdx]
  by_cases h : k = i
  · subst h
    by_cases h2 : k < hp.length <;> simp [h2]
  · simp [h]
theorem vM_vM (f g : Nat → Nat) (v : Value) : vM f (vM g v) = vM (fun k => f (g k)) v := by cases v <;> rfl
theorem aM_aM (f g : Nat → Nat) (a : vp_A) : aM f (aM g a) = aM (fun k => f (g k)) a := by
  obtain ⟨n, x⟩ := a
  rcases x with x | x | x | x | x <;> try rfl
  simp only [aM, Option.map_map]
  rfl
theorem eM_eH (f g : Nat → Nat) (cA : FieldType → ClassId) (e : Ce) : eM f cA (eH g e) = eM (fun k => f (g k)) cA e := by
  rcases e with ⟨ty, a⟩ | ⟨c, fs⟩
  · simp only [eH, eM, aM_aM]
  · simp only [eH, eM, List.map_map]
    congr 3
    funext v
    exact vM_vM f g v
/-- no handle beyond n -/
def clV (n : Nat) (v : Value) : Prop := match v with
  | .ref k => k < n
  | _ => True
def clE (n : Nat) (e : Ce) : Prop := match e with
  | .inl (_, (_, .inr (.inr (.inr (.inr f))))) => ∀ j k, f j = some k → k < n
  | .inl _ => True
  | .inr (_, fs) => ∀ v ∈ fs, clV n v
def clH (n : Nat) (hp : Hp) : Prop := ∀ e ∈ hp, clE n e
def clS (n : Nat) (st : List Value) : Prop := ∀ v ∈ st, clV n v
def clL (n : Nat) (ls : List (Nat × Value)) : Prop := ∀ q ∈ ls, clV n q.2
def clAll (ls : List (Nat × Value)) (st : List Value) (hp : Hp) : Prop := clL hp.length ls ∧ clS hp.length st ∧ clH hp.length hp
theorem vM_cong {f g : Nat → Nat} {n : Nat} {v : Value} (h : clV n v) (hfg : ∀ k, k < n → f k = g k) : vM f v = vM g v := by
  cases v <;> first | rfl | exact congrArg Value.ref (hfg _ h)
theorem eM_cong {f g : Nat → Nat} {n : Nat} {cA : FieldType → ClassId} {e : Ce} (h : clE n e) (hfg : ∀ k, k < n → f k = g k) : eM f cA e = eM g cA e := by
  rcases e with ⟨ty, m, a⟩ | ⟨c, fs⟩
  · rcases a with x | x | x | x | x <;> try rfl
    have e : (fun j => (x j).map f) = fun j => (x j).map g := by
      funext j
      cases hj : x j with
      | none => rfl
      | some k => exact congrArg some (hfg _ (h j k hj))
    simp only [eM, aM, e]
  · simp only [eM]
    congr 2
    exact List.map_congr_left (fun v hv => vM_cong (h v hv) hfg)
theorem clV_mono {n m : Nat} {v : Value} (h : clV n v) (hnm : n ≤ m) : clV m v := by
  cases v <;> first | trivial | exact Nat.lt_of_lt_of_le h hnm
theorem clE_mono {n m : Nat} {e : Ce} (h : clE n e) (hnm : n ≤ m) : clE m e := by
  rcases e with ⟨ty, z, a⟩ | ⟨c, fs⟩
  · rcases a with x | x | x | x | x <;> try trivial
    exact fun j k hj => Nat.lt_of_lt_of_le (h j k hj) hnm
  · exact fun v hv => clV_mono (h v hv) hnm
theorem clS_push {n : Nat} {v : Value} {st : List Value} (hv : clV n v) (h : clS n st) : clS n (v :: st) := fun x hx => (List.mem_cons.mp hx).elim (fun e => e ▸ hv) (h x)
theorem clS_tail {n : Nat} {v : Value} {st : List Value} (h : clS n (v :: st)) : clS n st := fun x hx => h x (List.mem_cons_of_mem _ hx)
theorem clS_head {n : Nat} {v : Value} {st : List Value} (h : clS n (v :: st)) : clV n v := h v List.mem_cons_self
theorem clH_set {n k : Nat} {e : Ce} {hp : Hp} (he : clE n e) (h : clH n hp) : clH n (hp.set k e) := fun x hx => (List.mem_or_eq_of_mem_set hx).elim (h x) (fun q => q ▸ he)
theorem clH_get {n k : Nat} {e : Ce} {hp : Hp} (h : clH n hp) (he : hp[k]? = some e) : clE n e := h e (List.mem_of_getElem? he)
/-- locals -/
def look : List (Nat × Value) → Nat → Option Value
  | [], _ => none
  | (j, v) :: t, i => if j = i then some v else look t i
theorem look_mem : ∀ {ls : List (Nat × Value)} {i : Nat} {v : Value}, look ls i = some v → (i, v) ∈ ls
  | (j, w) :: t, i, v, h => by
    unfold look at h
    by_cases q : j = i
    · rw [if_pos q] at h
      cases h
      subst q
      exact List.mem_cons_self
    · rw [if_neg q] at h
      exact List.mem_cons_of_mem _ (look_mem h)
def rm1 : List (Nat × Value) → Nat → List (Nat × Value)
  | [], _ => []
  | (j, w) :: t, i => if j = i then rm1 t i else if j + 1 = i ∧ w.category = 2 then rm1 t i else (j, w) :: rm1 t i
def put1 : List (Nat × Value) → Nat → Value → List (Nat × Value)
  | [], i, v => [(i, v)]
  | (j, w) :: t, i, v => if j = i then (i, v) :: rm1 t i else if j + 1 = i ∧ w.category = 2 then put1 t i v else (j, w) :: put1 t i v
def rm2 : List (Nat × Value) → Nat → List (Nat × Value)
  | [], _ => []
  | (j, w) :: t, i => if j = i then rm2 t i else if j = i + 1 then rm2 t i else if j + 1 = i ∧ w.category = 2 then rm2 t i else (j, w) :: rm2 t i
def put2 : List (Nat × Value) → Nat → Value → List (Nat × Value)
  | [], i, v => [(i, v)]
  | (j, w) :: t, i, v => if j = i then (i, v) :: rm2 t i else if j = i + 1 then put2 t i v else if j + 1 = i ∧ w.category = 2 then put2 t i v else (j, w) :: put2 t i v
theorem rm1_mem : ∀ {ls : List (Nat × Value)} {i : Nat} {q : Nat × Value}, q ∈ rm1 ls i → q ∈ ls.filter (fun q => !(q.1 == i) && !(q.1 + 1 == i && q.2.category == 2))
  | (j, w) :: t, i, q, h => by
    unfold rm1 at h
    split at h
    · exact List.mem_filter.mpr ⟨List.mem_cons_of_mem _ (List.mem_filter.mp (rm1_mem h)).1, (List.mem_filter.mp (rm1_mem h)).2⟩
    · split at h
      · exact List.mem_filter.mpr ⟨List.mem_cons_of_mem _ (List.mem_filter.mp (rm1_mem h)).1, (List.mem_filter.mp (rm1_mem h)).2⟩
      · rename_i a b
        rcases List.mem_cons.mp h with rfl | h
        · exact List.mem_filter.mpr ⟨List.mem_cons_self, by simp [a]; omega⟩
        · exact List.mem_filter.mpr ⟨List.mem_cons_of_mem _ (List.mem_filter.mp (rm1_mem h)).1, (List.mem_filter.mp (rm1_mem h)).2⟩
theorem put1_mem : ∀ {ls : List (Nat × Value)} {i : Nat} {v : Value} {q : Nat × Value}, q ∈ put1 ls i v → q ∈ (i, v) :: ls.filter (fun q => !(q.1 == i) && !(q.1 + 1 == i && q.2.category == 2))
  | [], i, v, q, h => h
  | (j, w) :: t, i, v, q, h => by
    unfold put1 at h
    have up : ∀ z, z ∈ t.filter (fun q => !(q.1 == i) && !(q.1 + 1 == i && q.2.category == 2)) → z ∈ ((j, w) :: t).filter (fun q => !(q.1 == i) && !(q.1 + 1 == i && q.2.category == 2)) := fun z hz => List.mem_filter.mpr ⟨List.mem_cons_of_mem _ (List.mem_filter.mp hz).1, (List.mem_filter.mp hz).2⟩
    split at h
    · rcases List.mem_cons.mp h with rfl | h
      · exact List.mem_cons_self
      · exact List.mem_cons_of_mem _ (up _ (rm1_mem h))
    · split at h
      · rcases List.mem_cons.mp (put1_mem h) with rfl | h
        · exact List.mem_cons_self
        · exact List.mem_cons_of_mem _ (up _ h)
      · rename_i a b
        rcases List.mem_cons.mp h with rfl | h
        · exact List.mem_cons_of_mem _ (List.mem_filter.mpr ⟨List.mem_cons_self, by simp [a]; omega⟩)
        · rcases List.mem_cons.mp (put1_mem h) with rfl | h
          · exact List.mem_cons_self
          · exact List.mem_cons_of_mem _ (up _ h)
theorem rm2_mem : ∀ {ls : List (Nat × Value)} {i : Nat} {q : Nat × Value}, q ∈ rm2 ls i → q ∈ ls.filter (fun q => !(q.1 == i) && (!(q.1 == i + 1) && !(q.1 + 1 == i && q.2.category == 2)))
  | (j, w) :: t, i, q, h => by
    unfold rm2 at h
    have up : ∀ z, z ∈ t.filter (fun q => !(q.1 == i) && (!(q.1 == i + 1) && !(q.1 + 1 == i && q.2.category == 2))) → z ∈ ((j, w) :: t).filter (fun q => !(q.1 == i) && (!(q.1 == i + 1) && !(q.1 + 1 == i && q.2.category == 2))) := fun z hz => List.mem_filter.mpr ⟨List.mem_cons_of_mem _ (List.mem_filter.mp hz).1, (List.mem_filter.mp hz).2⟩
    split at h
    · exact up _ (rm2_mem h)
    · split at h
      · exact up _ (rm2_mem h)
      · split at h
        · exact up _ (rm2_mem h)
        · rename_i a b c
          rcases List.mem_cons.mp h with rfl | h
          · exact List.mem_filter.mpr ⟨List.mem_cons_self, by simp [a, b]; omega⟩
          · exact up _ (rm2_mem h)
theorem put2_mem : ∀ {ls : List (Nat × Value)} {i : Nat} {v : Value} {q : Nat × Value}, q ∈ put2 ls i v → q ∈ (i, v) :: ls.filter (fun q => !(q.1 == i) && (!(q.1 == i + 1) && !(q.1 + 1 == i && q.2.category == 2)))
  | [], i, v, q, h => h
  | (j, w) :: t, i, v, q, h => by
    unfold put2 at h
    have up : ∀ z, z ∈ t.filter (fun q => !(q.1 == i) && (!(q.1 == i + 1) && !(q.1 + 1 == i && q.2.category == 2))) → z ∈ ((j, w) :: t).filter (fun q => !(q.1 == i) && (!(q.1 == i + 1) && !(q.1 + 1 == i && q.2.category == 2))) := fun z hz => List.mem_filter.mpr ⟨List.mem_cons_of_mem _ (List.mem_filter.mp hz).1, (List.mem_filter.mp hz).2⟩
    split at h
    · rcases List.mem_cons.mp h with rfl | h
      · exact List.mem_cons_self
      · exact List.mem_cons_of_mem _ (up _ (rm2_mem h))
    · split at h
      · rcases List.mem_cons.mp (put2_mem h) with rfl | h
        · exact List.mem_cons_self
        · exact List.mem_cons_of_mem _ (up _ h)
      · split at h
        · rcases List.mem_cons.mp (put2_mem h) with rfl | h
          · exact List.mem_cons_self
          · exact List.mem_cons_of_mem _ (up _ h)
        · rename_i a b c
          rcases List.mem_cons.mp h with rfl | h
          · exact List.mem_cons_of_mem _ (List.mem_filter.mpr ⟨List.mem_cons_self, by simp [a, b]; omega⟩)
          · rcases List.mem_cons.mp (put2_mem h) with rfl | h
            · exact List.mem_cons_self
            · exact List.mem_cons_of_mem _ (up _ h)
def lM (ad : Nat → Nat) (ls : List (Nat × Value)) : List (Nat × Value) := ls.map (fun q => (q.1, vM ad q.2))
theorem vM_cat (ad : Nat → Nat) (v : Value) : (vM ad v).category = v.category := by cases v <;> rfl
theorem lM_mem {ad : Nat → Nat} {ls : List (Nat × Value)} {i : Nat} {v : Value} (h : (i, v) ∈ ls) : (i, vM ad v) ∈ lM ad ls := List.mem_map.mpr ⟨(i, v), h, rfl⟩
theorem lv_memb {LS : Array Slot} {nL : Nat} {l : List (Nat × Value)} {l' : List (Nat × Value)} (h : lv_has LS nL l) (hs : ∀ q ∈ l', q ∈ l) : lv_has LS nL l' := ⟨h.1, h.2.1, fun q hq => h.2.2 q (hs q hq)⟩
theorem lv_look {ad : Nat → Nat} {LS : Array Slot} {nL : Nat} {ls : List (Nat × Value)} {i : Nat} {v : Value} (h : lv_has LS nL (lM ad ls)) (hl : look ls i = some v) : LS[i]? = some (.val (vM ad v)) := h.2.2 _ (lM_mem (look_mem hl))
theorem lM_put1 {ad : Nat → Nat} {ls : List (Nat × Value)} {i : Nat} {v : Value} : ∀ q ∈ lM ad (put1 ls i v), q ∈ (i, vM ad v) :: (lM ad ls).filter (fun q => !(q.1 == i) && !(q.1 + 1 == i && q.2.category == 2)) := by
  intro q hq
  obtain ⟨r, h1, rfl⟩ := List.mem_map.mp hq
  rcases List.mem_cons.mp (put1_mem h1) with rfl | h
  · exact List.mem_cons_self
  · obtain ⟨g1, g2⟩ := List.mem_filter.mp h
    refine List.mem_cons_of_mem _ (List.mem_filter.mpr ⟨List.mem_map.mpr ⟨r, g1, rfl⟩, ?_⟩)
    simpa only [vM_cat] using g2
theorem lM_put2 {ad : Nat → Nat} {ls : List (Nat × Value)} {i : Nat} {v : Value} : ∀ q ∈ lM ad (put2 ls i v), q ∈ (i, vM ad v) :: (lM ad ls).filter (fun q => !(q.1 == i) && (!(q.1 == i + 1) && !(q.1 + 1 == i && q.2.category == 2))) := by
  intro q hq
  obtain ⟨r, h1, rfl⟩ := List.mem_map.mp hq
  rcases List.mem_cons.mp (put2_mem h1) with rfl | h
  · exact List.mem_cons_self
  · obtain ⟨g1, g2⟩ := List.mem_filter.mp h
    refine List.mem_cons_of_mem _ (List.mem_filter.mpr ⟨List.mem_map.mpr ⟨r, g1, rfl⟩, ?_⟩)
    simpa only [vM_cat] using g2
theorem clL_put1 {n i : Nat} {v : Value} {ls : List (Nat × Value)} (hv : clV n v) (h : clL n ls) : clL n (put1 ls i v) := fun q hq => (List.mem_cons.mp (put1_mem hq)).elim (fun e => e ▸ hv) (fun g => h q (List.mem_filter.mp g).1)
theorem clL_put2 {n i : Nat} {v : Value} {ls : List (Nat × Value)} (hv : clV n v) (h : clL n ls) : clL n (put2 ls i v) := fun q hq => (List.mem_cons.mp (put2_mem hq)).elim (fun e => e ▸ hv) (fun g => h q (List.mem_filter.mp g).1)
/-! the tables' words that every method carries -/
def TB : List Cond := lw_tbl.filter goodWord
theorem TB_in {w : Cond} (h : w ∈ lw_tbl) (hg : goodWord w = true) : w ∈ TB := List.mem_filter.mpr ⟨h, hg⟩
theorem TB_i {w : Cond} (i : Nat) (h : (match lw_tbl[i]? with | some z => decide (z = w) | none => false) = true) (hg : goodWord w = true) : w ∈ TB := by
  cases hz : lw_tbl[i]? with
  | none => rw [hz] at h; cases h
  | some z =>
    rw [hz] at h
    have e : z = w := of_decide_eq_true h
    exact TB_in (e ▸ List.mem_of_getElem? hz) hg
theorem TB_good {y : MethodName} {b : ByteArray} {n : Nat} {r : Option FieldType} (h : Cond.code y b n r ∈ TB) : GoodIn TB (.code y b n r :: TB) := by
  have ok : ∀ w ∈ TB, w ∈ TB ∧ ((w.onTables && w.keeps) = true ∨ ∃ ty, w = .arrayClass ty) := fun w hw => ⟨hw, good_of_word (List.mem_filter.mp hw).2⟩
  intro w hw
  rcases List.mem_cons.mp hw with rfl | hw
  · exact ok _ h
  · exact ok _ hw
def nest : List (String × Nat × MethodName × String) := [(RX4, 39, yX2_init, RX4), (RX2, 37, yX4_isWithin, RX4), (RX3, 80, yX4_isWithin, RX4), (RX0, 75, yX4_hasBit, RX4), (RX0, 105, yX4_isDip, RX4)]
/-- the classes, the arrays' classes, the nest mates' links, the class that arrays of Shelf are of -/
def KK (D : va_G) (cA : FieldType → ClassId) (s : State) : Prop :=
  va_K D vwCl [(cA .int, .int), (cA .long, .long), (cA (.object RX2), .object RX2)] s ∧ (∀ q ∈ nest, va_Nw (.methodLinkNest q.1 q.2.1 q.2.2.1 q.2.2.2) s) ∧ va_AO RX2 s
theorem KK.moved {D : va_G} {cA : FieldType → ClassId} {u U : State} (hW : u.WarmedH U.vm) (h : KK D cA u) : KK D cA U :=
  ⟨h.1.moved hW.alike, fun q hq => va_Nw.warmM hW (h.2.1 q hq), h.2.2.moved hW.alike⟩
abbrev Cx : Type := Program × Launch × Env × Room × State × MethodId × Array Value × List Frame × Method × Code × va_G × (FieldType → ClassId) × (Nat → Prop) × (State → Prop) × Nat × Nat × (Nat → Nat)
/-- THE WALK: from pc, with locals ls, stack st and cells hp; k cells of n slots made so far -/
def Go (K : Cx) (k n pc : Nat) (ls : List (Nat × Value)) (st : List Value) (hp : Hp) : Prop := match K with
  | (p, l, e, R, s, m, args, below, meth, c, D, cA, A, Q, nL, n0, ad0) => clAll ls st hp → n0 ≤ hp.length → ∀ (ad : Nat → Nat) (H : Heap) (locs : List Loc) (LS : Array Slot), (∀ j, j < n0 → ad j = ad0 j) → va_P D vwCl (wM ad cA hp) H → va_D A (wM ad cA hp) → va_S A s.heap H locs → lv_has LS nL (lM ad ls) → W p l e R s m args below meth c H locs k n Q (F0 m pc LS (st.map (vM ad)))
def Fx (K : Cx) (own : String) (cc : ByteArray) (nL fr mc ms : Nat) : Prop := match K with
  | (p, _, _, R, s, m, args, _, _, c, D, cA, A, _, nL', _, _) => p.tables.exec = Jvm.exec ∧ c.code = cc ∧ c.maxLocals = nL ∧ nL' = nL ∧ s.vm.findClass own = some m.cls ∧ (∀ w ∈ TB, w.before args s = true) ∧ KK D cA s ∧ (∀ q, s.heap.size ≤ q → A q) ∧ fr ≤ R.frames ∧ 40 * fr ≤ R.locals ∧ mc ≤ R.cells ∧ ms ≤ R.slots

theorem tb_max_s : Cond.static Lib.Math.max.name ∈ TB := TB_i 280 (by decide +kernel) rfl
theorem tb_max_c : Cond.code Lib.Math.max.name Lib.Math.max.code 2 (some .int) ∈ TB := TB_i 281 (by decide +kernel) rfl
theorem tb_min_s : Cond.static Lib.Math.min.name ∈ TB := TB_i 266 (by decide +kernel) rfl
theorem tb_min_c : Cond.code Lib.Math.min.name Lib.Math.min.code 2 (some .int) ∈ TB := TB_i 267 (by decide +kernel) rfl
theorem tb_abs_s : Cond.static Lib.Math.abs.name ∈ TB := TB_i 401 (by decide +kernel) rfl
theorem tb_abs_c : Cond.code Lib.Math.abs.name Lib.Math.abs.code 1 (some .int) ∈ TB := TB_i 402 (by decide +kernel) rfl
theorem tb_mathini : Cond.initialized "java/lang/Math" ∈ TB := TB_i 37 (by decide +kernel) rfl
theorem tb_copy_n : Cond.native arraycopyName ∈ TB := TB_i 210 (by decide +kernel) rfl
theorem tb_copy_s : Cond.static arraycopyName ∈ TB := TB_i 209 (by decide +kernel) rfl
theorem tb_copy_i : Cond.initialized "java/lang/System" ∈ TB := TB_i 36 (by decide +kernel) rfl
theorem tb_copy_w : nativeFrameWords "java/lang/System" "arraycopy" 5 + 11 ≤ 72 := by decide +kernel
theorem g_iadd {K : Cx} {own : String} {cc : ByteArray} {nL fr mc ms k n pc : Nat} {ls : List (Nat × Value)} {st : List Value} {hp : Hp} (F : Fx K own cc nL fr mc ms) {x y : Int32} (d : decode cc pc = .ok (.iadd, 1)) (kk : Go K k n (pc + 1) (ls) (.int (x + y) :: st) (hp)) : Go K k n (pc) (ls) (.int y :: .int x :: st) (hp) := by
  obtain ⟨p, l, e, R, s, m, args, below, meth, c, D, cA, A, Q, nL', n0, ad0⟩ := K
  obtain ⟨hx, hb, hml, hnl, hown, hts, hK, hA, hfr, hlo, hmc, hms⟩ := F
  intro hcl h0 ad H locs LS h1 h2 h3 h4 h5
  exact lv_iadd hx hb d (kk (⟨hcl.1, clS_push trivial (clS_tail (clS_tail hcl.2.1)), hcl.2.2⟩) h0 ad H locs LS h1 h2 h3 h4 h5)
theorem g_isub {K : Cx} {own : String} {cc : ByteArray} {nL fr mc ms k n pc : Nat} {ls : List (Nat × Value)} {st : List Value} {hp : Hp} (F : Fx K own cc nL fr mc ms) {x y : Int32} (d : decode cc pc = .ok (.isub, 1)) (kk : Go K k n (pc + 1) (ls) (.int (x - y) :: st) (hp)) : Go K k n (pc) (ls) (.int y :: .int x :: st) (hp) := by
  obtain ⟨p, l, e, R, s, m, args, below, meth, c, D, cA, A, Q, nL', n0, ad0⟩ := K
  obtain ⟨hx, hb, hml, hnl, hown, hts, hK, hA, hfr, hlo, hmc, hms⟩ := F
  intro hcl h0 ad H locs LS h1 h2 h3 h4 h5
  exact lv_isub hx hb d (kk (⟨hcl.1, clS_push trivial (clS_tail (clS_tail hcl.2.1)), hcl.2.2⟩) h0 ad H locs LS h1 h2 h3 h4 h5)
theorem g_imul {K : Cx} {own : String} {cc : ByteArray} {nL fr mc ms k n pc : Nat} {ls : List (Nat × Value)} {st : List Value} {hp : Hp} (F : Fx K own cc nL fr mc ms) {x y : Int32} (d : decode cc pc = .ok (.imul, 1)) (kk : Go K k n (pc + 1) (ls) (.int (x * y) :: st) (hp)) : Go K k n (pc) (ls) (.int y :: .int x :: st) (hp) := by
  obtain ⟨p, l, e, R, s, m, args, below, meth, c, D, cA, A, Q, nL', n0, ad0⟩ := K
  obtain ⟨hx, hb, hml, hnl, hown, hts, hK, hA, hfr, hlo, hmc, hms⟩ := F
  intro hcl h0 ad H locs LS h1 h2 h3 h4 h5
  exact lv_imul hx hb d (kk (⟨hcl.1, clS_push trivial (clS_tail (clS_tail hcl.2.1)), hcl.2.2⟩) h0 ad H locs LS h1 h2 h3 h4 h5)
theorem g_iand {K : Cx} {own : String} {cc : ByteArray} {nL fr mc ms k n pc : Nat} {ls : List (Nat × Value)} {st : List Value} {hp : Hp} (F : Fx K own cc nL fr mc ms) {x y : Int32} (d : decode cc pc = .ok (.iand, 1)) (kk : Go K k n (pc + 1) (ls) (.int (x &&& y) :: st) (hp)) : Go K k n (pc) (ls) (.int y :: .int x :: st) (hp) := by
  obtain ⟨p, l, e, R, s, m, args, below, meth, c, D, cA, A, Q, nL', n0, ad0⟩ := K
  obtain ⟨hx, hb, hml, hnl, hown, hts, hK, hA, hfr, hlo, hmc, hms⟩ := F
  intro hcl h0 ad H locs LS h1 h2 h3 h4 h5
  exact lv_iand hx hb d (kk (⟨hcl.1, clS_push trivial (clS_tail (clS_tail hcl.2.1)), hcl.2.2⟩) h0 ad H locs LS h1 h2 h3 h4 h5)
theorem g_ior {K : Cx} {own : String} {cc : ByteArray} {nL fr mc ms k n pc : Nat} {ls : List (Nat × Value)} {st : List Value} {hp : Hp} (F : Fx K own cc nL fr mc ms) {x y : Int32} (d : decode cc pc = .ok (.ior, 1)) (kk : Go K k n (pc + 1) (ls) (.int (x ||| y) :: st) (hp)) : Go K k n (pc) (ls) (.int y :: .int x :: st) (hp) := by
  obtain ⟨p, l, e, R, s, m, args, below, meth, c, D, cA, A, Q, nL', n0, ad0⟩ := K
  obtain ⟨hx, hb, hml, hnl, hown, hts, hK, hA, hfr, hlo, hmc, hms⟩ := F
  intro hcl h0 ad H locs LS h1 h2 h3 h4 h5
  exact lv_ior hx hb d (kk (⟨hcl.1, clS_push trivial (clS_tail (clS_tail hcl.2.1)), hcl.2.2⟩) h0 ad H locs LS h1 h2 h3 h4 h5)
theorem g_ixor {K : Cx} {own : String} {cc : ByteArray} {nL fr mc ms k n pc : Nat} {ls : List (Nat × Value)} {st : List Value} {hp : Hp} (F : Fx K own cc nL fr mc ms) {x y : Int32} (d : decode cc pc = .ok (.ixor, 1)) (kk : Go K k n (pc + 1) (ls) (.int (x ^^^ y) :: st) (hp)) : Go K k n (pc) (ls) (.int y :: .int x :: st) (hp) := by
  obtain ⟨p, l, e, R, s, m, args, below, meth, c, D, cA, A, Q, nL', n0, ad0⟩ := K
  obtain ⟨hx, hb, hml, hnl, hown, hts, hK, hA, hfr, hlo, hmc, hms⟩ := F
  intro hcl h0 ad H locs LS h1 h2 h3 h4 h5
  exact lv_ixor hx hb d (kk (⟨hcl.1, clS_push trivial (clS_tail (clS_tail hcl.2.1)), hcl.2.2⟩) h0 ad H locs LS h1 h2 h3 h4 h5)
theorem g_ishl {K : Cx} {own : String} {cc : ByteArray} {nL fr mc ms k n pc : Nat} {ls : List (Nat × Value)} {st : List Value} {hp : Hp} (F : Fx K own cc nL fr mc ms) {x y : Int32} (d : decode cc pc = .ok (.ishl, 1)) (kk : Go K k n (pc + 1) (ls) (.int (x <<< (y &&& 31)) :: st) (hp)) : Go K k n (pc) (ls) (.int y :: .int x :: st) (hp) := by
  obtain ⟨p, l, e, R, s, m, args, below, meth, c, D, cA, A, Q, nL', n0, ad0⟩ := K
  obtain ⟨hx, hb, hml, hnl, hown, hts, hK, hA, hfr, hlo, hmc, hms⟩ := F
  intro hcl h0 ad H locs LS h1 h2 h3 h4 h5
  exact lv_ishl hx hb d (kk (⟨hcl.1, clS_push trivial (clS_tail (clS_tail hcl.2.1)), hcl.2.2⟩) h0 ad H locs LS h1 h2 h3 h4 h5)
theorem g_ishr {K : Cx} {own : String} {cc : ByteArray} {nL fr mc ms k n pc : Nat} {ls : List (Nat × Value)} {st : List Value} {hp : Hp} (F : Fx K own cc nL fr mc ms) {x y : Int32} (d : decode cc pc = .ok (.ishr, 1)) (kk : Go K k n (pc + 1) (ls) (.int (x >>> (y &&& 31)) :: st) (hp)) : Go K k n (pc) (ls) (.int y :: .int x :: st) (hp) := by
  obtain ⟨p, l, e, R, s, m, args, below, meth, c, D, cA, A, Q, nL', n0, ad0⟩ := K
  obtain ⟨hx, hb, hml, hnl, hown, hts, hK, hA, hfr, hlo, hmc, hms⟩ := F
  intro hcl h0 ad H locs LS h1 h2 h3 h4 h5
  exact lv_ishr hx hb d (kk (⟨hcl.1, clS_push trivial (clS_tail (clS_tail hcl.2.1)), hcl.2.2⟩) h0 ad H locs LS h1 h2 h3 h4 h5)
theorem g_iushr {K : Cx} {own : String} {cc : ByteArray} {nL fr mc ms k n pc : Nat} {ls : List (Nat × Value)} {st : List Value} {hp : Hp} (F : Fx K own cc nL fr mc ms) {x y : Int32} (d : decode cc pc = .ok (.iushr, 1)) (kk : Go K k n (pc + 1) (ls) (.int ((x.toUInt32 >>> (y.toUInt32 &&& Int32.toUInt32 31)).toInt32) :: st) (hp)) : Go K k n (pc) (ls) (.int y :: .int x :: st) (hp) := by
  obtain ⟨p, l, e, R, s, m, args, below, meth, c, D, cA, A, Q, nL', n0, ad0⟩ := K
  obtain ⟨hx, hb, hml, hnl, hown, hts, hK, hA, hfr, hlo, hmc, hms⟩ := F
  intro hcl h0 ad H locs LS h1 h2 h3 h4 h5
  exact lv_iushr hx hb d rfl (kk (⟨hcl.1, clS_push trivial (clS_tail (clS_tail hcl.2.1)), hcl.2.2⟩) h0 ad H locs LS h1 h2 h3 h4 h5)
theorem g_idiv {K : Cx} {own : String} {cc : ByteArray} {nL fr mc ms k n pc : Nat} {ls : List (Nat × Value)} {st : List Value} {hp : Hp} (F : Fx K own cc nL fr mc ms) {x y : Int32} (d : decode cc pc = .ok (.idiv, 1)) (hne : ¬ y = 0) (kk : Go K k n (pc + 1) (ls) (.int (x / y) :: st) (hp)) : Go K k n (pc) (ls) (.int y :: .int x :: st) (hp) := by
  obtain ⟨p, l, e, R, s, m, args, below, meth, c, D, cA, A, Q, nL', n0, ad0⟩ := K
  obtain ⟨hx, hb, hml, hnl, hown, hts, hK, hA, hfr, hlo, hmc, hms⟩ := F
  intro hcl h0 ad H locs LS h1 h2 h3 h4 h5
  exact lv_idiv hx hb d hne (kk (⟨hcl.1, clS_push trivial (clS_tail (clS_tail hcl.2.1)), hcl.2.2⟩) h0 ad H locs LS h1 h2 h3 h4 h5)
theorem g_irem {K : Cx} {own : String} {cc : ByteArray} {nL fr mc ms k n pc : Nat} {ls : List (Nat × Value)} {st : List Value} {hp : Hp} (F : Fx K own cc nL fr mc ms) {x y : Int32} (d : decode cc pc = .ok (.irem, 1)) (hne : ¬ y = 0) (kk : Go K k n (pc + 1) (ls) (.int (x - x / y * y) :: st) (hp)) : Go K k n (pc) (ls) (.int y :: .int x :: st) (hp) := by
  obtain ⟨p, l, e, R, s, m, args, below, meth, c, D, cA, A, Q, nL', n0, ad0⟩ := K
  obtain ⟨hx, hb, hml, hnl, hown, hts, hK, hA, hfr, hlo, hmc, hms⟩ := F
  intro hcl h0 ad H locs LS h1 h2 h3 h4 h5
  exact lv_irem hx hb d hne (kk (⟨hcl.1, clS_push trivial (clS_tail (clS_tail hcl.2.1)), hcl.2.2⟩) h0 ad H locs LS h1 h2 h3 h4 h5)
theorem g_ladd {K : Cx} {own : String} {cc : ByteArray} {nL fr mc ms k n pc : Nat} {ls : List (Nat × Value)} {st : List Value} {hp : Hp} (F : Fx K own cc nL fr mc ms) {x y : Int64} (d : decode cc pc = .ok (.ladd, 1)) (kk : Go K k n (pc + 1) (ls) (.long (x + y) :: st) (hp)) : Go K k n (pc) (ls) (.long y :: .long x :: st) (hp) := by
  obtain ⟨p, l, e, R, s, m, args, below, meth, c, D, cA, A, Q, nL', n0, ad0⟩ := K
  obtain ⟨hx, hb, hml, hnl, hown, hts, hK, hA, hfr, hlo, hmc, hms⟩ := F
  intro hcl h0 ad H locs LS h1 h2 h3 h4 h5
  exact lv_ladd hx hb d (kk (⟨hcl.1, clS_push trivial (clS_tail (clS_tail hcl.2.1)), hcl.2.2⟩) h0 ad H locs LS h1 h2 h3 h4 h5)
theorem g_lsub {K : Cx} {own : String} {cc : ByteArray} {nL fr mc ms k n pc : Nat} {ls : List (Nat × Value)} {st : List Value} {hp : Hp} (F : Fx K own cc nL fr mc ms) {x y : Int64} (d : decode cc pc = .ok (.lsub, 1)) (kk : Go K k n (pc + 1) (ls) (.long (x - y) :: st) (hp)) : Go K k n (pc) (ls) (.long y :: .long x :: st) (hp) := by
  obtain ⟨p, l, e, R, s, m, args, below, meth, c, D, cA, A, Q, nL', n0, ad0⟩ := K
  obtain ⟨hx, hb, hml, hnl, hown, hts, hK, hA, hfr, hlo, hmc, hms⟩ := F
  intro hcl h0 ad H locs LS h1 h2 h3 h4 h5
  exact lv_lsub hx hb d (kk (⟨hcl.1, clS_push trivial (clS_tail (clS_tail hcl.2.1)), hcl.2.2⟩) h0 ad H locs LS h1 h2 h3 h4 h5)
theorem g_lmul {K : Cx} {own : String} {cc : ByteArray} {nL fr mc ms k n pc : Nat} {ls : List (Nat × Value)} {st : List Value} {hp : Hp} (F : Fx K own cc nL fr mc ms) {x y : Int64} (d : decode cc pc = .ok (.lmul, 1)) (kk : Go K k n (pc + 1) (ls) (.long (x * y) :: st) (hp)) : Go K k n (pc) (ls) (.long y :: .long x :: st) (hp) := by
  obtain ⟨p, l, e, R, s, m, args, below, meth, c, D, cA, A, Q, nL', n0, ad0⟩ := K
  obtain ⟨hx, hb, hml, hnl, hown, hts, hK, hA, hfr, hlo, hmc, hms⟩ := F
  intro hcl h0 ad H locs LS h1 h2 h3 h4 h5
  exact lv_lmul hx hb d (kk (⟨hcl.1, clS_push trivial (clS_tail (clS_tail hcl.2.1)), hcl.2.2⟩) h0 ad H locs LS h1 h2 h3 h4 h5)
theorem g_ldiv {K : Cx} {own : String} {cc : ByteArray} {nL fr mc ms k n pc : Nat} {ls : List (Nat × Value)} {st : List Value} {hp : Hp} (F : Fx K own cc nL fr mc ms) {x y : Int64} (d : decode cc pc = .ok (.ldiv, 1)) (hne : ¬ y = 0) (kk : Go K k n (pc + 1) (ls) (.long (x / y) :: st) (hp)) : Go K k n (pc) (ls) (.long y :: .long x :: st) (hp) := by
  obtain ⟨p, l, e, R, s, m, args, below, meth, c, D, cA, A, Q, nL', n0, ad0⟩ := K
  obtain ⟨hx, hb, hml, hnl, hown, hts, hK, hA, hfr, hlo, hmc, hms⟩ := F
  intro hcl h0 ad H locs LS h1 h2 h3 h4 h5
  exact lv_ldiv hx hb d hne (kk (⟨hcl.1, clS_push trivial (clS_tail (clS_tail hcl.2.1)), hcl.2.2⟩) h0 ad H locs LS h1 h2 h3 h4 h5)
theorem g_lrem {K : Cx} {own : String} {cc : ByteArray} {nL fr mc ms k n pc : Nat} {ls : List (Nat × Value)} {st : List Value} {hp : Hp} (F : Fx K own cc nL fr mc ms) {x y : Int64} (d : decode cc pc = .ok (.lrem, 1)) (hne : ¬ y = 0) (kk : Go K k n (pc + 1) (ls) (.long (x - x / y * y) :: st) (hp)) : Go K k n (pc) (ls) (.long y :: .long x :: st) (hp) := by
  obtain ⟨p, l, e, R, s, m, args, below, meth, c, D, cA, A, Q, nL', n0, ad0⟩ := K
  obtain ⟨hx, hb, hml, hnl, hown, hts, hK, hA, hfr, hlo, hmc, hms⟩ := F
  intro hcl h0 ad H locs LS h1 h2 h3 h4 h5
  exact lv_lrem hx hb d hne (kk (⟨hcl.1, clS_push trivial (clS_tail (clS_tail hcl.2.1)), hcl.2.2⟩) h0 ad H locs LS h1 h2 h3 h4 h5)
theorem g_lcmp {K : Cx} {own : String} {cc : ByteArray} {nL fr mc ms k n pc : Nat} {ls : List (Nat × Value)} {st : List Value} {hp : Hp} (F : Fx K own cc nL fr mc ms) {x y : Int64} (d : decode cc pc = .ok (.lcmp, 1)) (kk : Go K k n (pc + 1) (ls) (.int (lg_cmp x y) :: st) (hp)) : Go K k n (pc) (ls) (.long y :: .long x :: st) (hp) := by
  obtain ⟨p, l, e, R, s, m, args, below, meth, c, D, cA, A, Q, nL', n0, ad0⟩ := K
  obtain ⟨hx, hb, hml, hnl, hown, hts, hK, hA, hfr, hlo, hmc, hms⟩ := F
  intro hcl h0 ad H locs LS h1 h2 h3 h4 h5
  exact W.lcmp hx hb d (kk (⟨hcl.1, clS_push trivial (clS_tail (clS_tail hcl.2.1)), hcl.2.2⟩) h0 ad H locs LS h1 h2 h3 h4 h5)
theorem g_ineg {K : Cx} {own : String} {cc : ByteArray} {nL fr mc ms k n pc : Nat} {ls : List (Nat × Value)} {st : List Value} {hp : Hp} (F : Fx K own cc nL fr mc ms) {x : Int32} (d : decode cc pc = .ok (.ineg, 1)) (kk : Go K k n (pc + 1) (ls) (.int (-x) :: st) (hp)) : Go K k n (pc) (ls) (.int x :: st) (hp) := by
  obtain ⟨p, l, e, R, s, m, args, below, meth, c, D, cA, A, Q, nL', n0, ad0⟩ := K
  obtain ⟨hx, hb, hml, hnl, hown, hts, hK, hA, hfr, hlo, hmc, hms⟩ := F
  intro hcl h0 ad H locs LS h1 h2 h3 h4 h5
  exact lv_ineg hx hb d (kk (⟨hcl.1, clS_push trivial (clS_tail hcl.2.1), hcl.2.2⟩) h0 ad H locs LS h1 h2 h3 h4 h5)
theorem g_i2l {K : Cx} {own : String} {cc : ByteArray} {nL fr mc ms k n pc : Nat} {ls : List (Nat × Value)} {st : List Value} {hp : Hp} (F : Fx K own cc nL fr mc ms) {x : Int32} (d : decode cc pc = .ok (.i2l, 1)) (kk : Go K k n (pc + 1) (ls) (.long (x.toInt64) :: st) (hp)) : Go K k n (pc) (ls) (.int x :: st) (hp) := by
  obtain ⟨p, l, e, R, s, m, args, below, meth, c, D, cA, A, Q, nL', n0, ad0⟩ := K
  obtain ⟨hx, hb, hml, hnl, hown, hts, hK, hA, hfr, hlo, hmc, hms⟩ := F
  intro hcl h0 ad H locs LS h1 h2 h3 h4 h5
  exact lv_i2l hx hb d rfl (kk (⟨hcl.1, clS_push trivial (clS_tail hcl.2.1), hcl.2.2⟩) h0 ad H locs LS h1 h2 h3 h4 h5)
theorem g_l2i {K : Cx} {own : String} {cc : ByteArray} {nL fr mc ms k n pc : Nat} {ls : List (Nat × Value)} {st : List Value} {hp : Hp} (F : Fx K own cc nL fr mc ms) {x : Int64} (d : decode cc pc = .ok (.l2i, 1)) (kk : Go K k n (pc + 1) (ls) (.int (x.toInt32) :: st) (hp)) : Go K k n (pc) (ls) (.long x :: st) (hp) := by
  obtain ⟨p, l, e, R, s, m, args, below, meth, c, D, cA, A, Q, nL', n0, ad0⟩ := K
  obtain ⟨hx, hb, hml, hnl, hown, hts, hK, hA, hfr, hlo, hmc, hms⟩ := F
  intro hcl h0 ad H locs LS h1 h2 h3 h4 h5
  exact lv_l2i hx hb d rfl (kk (⟨hcl.1, clS_push trivial (clS_tail hcl.2.1), hcl.2.2⟩) h0 ad H locs LS h1 h2 h3 h4 h5)
theorem g_i2b {K : Cx} {own : String} {cc : ByteArray} {nL fr mc ms k n pc : Nat} {ls : List (Nat × Value)} {st : List Value} {hp : Hp} (F : Fx K own cc nL fr mc ms) {x : Int32} (d : decode cc pc = .ok (.i2b, 1)) (kk : Go K k n (pc + 1) (ls) (.int (x.toInt8.toInt32) :: st) (hp)) : Go K k n (pc) (ls) (.int x :: st) (hp) := by
  obtain ⟨p, l, e, R, s, m, args, below, meth, c, D, cA, A, Q, nL', n0, ad0⟩ := K
  obtain ⟨hx, hb, hml, hnl, hown, hts, hK, hA, hfr, hlo, hmc, hms⟩ := F
  intro hcl h0 ad H locs LS h1 h2 h3 h4 h5
  exact lv_i2b hx hb d rfl (kk (⟨hcl.1, clS_push trivial (clS_tail hcl.2.1), hcl.2.2⟩) h0 ad H locs LS h1 h2 h3 h4 h5)
theorem g_i2s {K : Cx} {own : String} {cc : ByteArray} {nL fr mc ms k n pc : Nat} {ls : List (Nat × Value)} {st : List Value} {hp : Hp} (F : Fx K own cc nL fr mc ms) {x : Int32} (d : decode cc pc = .ok (.i2s, 1)) (kk : Go K k n (pc + 1) (ls) (.int (x.toInt16.toInt32) :: st) (hp)) : Go K k n (pc) (ls) (.int x :: st) (hp) := by
  obtain ⟨p, l, e, R, s, m, args, below, meth, c, D, cA, A, Q, nL', n0, ad0⟩ := K
  obtain ⟨hx, hb, hml, hnl, hown, hts, hK, hA, hfr, hlo, hmc, hms⟩ := F
  intro hcl h0 ad H locs LS h1 h2 h3 h4 h5
  exact lv_i2s hx hb d rfl (kk (⟨hcl.1, clS_push trivial (clS_tail hcl.2.1), hcl.2.2⟩) h0 ad H locs LS h1 h2 h3 h4 h5)
theorem g_iconst {K : Cx} {own : String} {cc : ByteArray} {nL fr mc ms k n pc : Nat} {ls : List (Nat × Value)} {st : List Value} {hp : Hp} (F : Fx K own cc nL fr mc ms) {a : Int} {v : Int32} (d : decode cc pc = .ok (.iconst a, 1)) (hv : Int32.ofInt a = v) (kk : Go K k n (pc + 1) (ls) (.int v :: st) (hp)) : Go K k n (pc) (ls) (st) (hp) := by
  obtain ⟨p, l, e, R, s, m, args, below, meth, c, D, cA, A, Q, nL', n0, ad0⟩ := K
  obtain ⟨hx, hb, hml, hnl, hown, hts, hK, hA, hfr, hlo, hmc, hms⟩ := F
  intro hcl h0 ad H locs LS h1 h2 h3 h4 h5
  exact lv_iconst hx hb d hv (kk (⟨hcl.1, clS_push trivial hcl.2.1, hcl.2.2⟩) h0 ad H locs LS h1 h2 h3 h4 h5)
theorem g_bipush {K : Cx} {own : String} {cc : ByteArray} {nL fr mc ms k n pc : Nat} {ls : List (Nat × Value)} {st : List Value} {hp : Hp} (F : Fx K own cc nL fr mc ms) {a : Int} {v : Int32} (d : decode cc pc = .ok (.bipush a, 2)) (hv : (Int8.ofInt a).toInt32 = v) (kk : Go K k n (pc + 2) (ls) (.int v :: st) (hp)) : Go K k n (pc) (ls) (st) (hp) := by
  obtain ⟨p, l, e, R, s, m, args, below, meth, c, D, cA, A, Q, nL', n0, ad0⟩ := K
  obtain ⟨hx, hb, hml, hnl, hown, hts, hK, hA, hfr, hlo, hmc, hms⟩ := F
  intro hcl h0 ad H locs LS h1 h2 h3 h4 h5
  exact lv_bipush hx hb d hv (kk (⟨hcl.1, clS_push trivial hcl.2.1, hcl.2.2⟩) h0 ad H locs LS h1 h2 h3 h4 h5)
theorem g_sipush {K : Cx} {own : String} {cc : ByteArray} {nL fr mc ms k n pc : Nat} {ls : List (Nat × Value)} {st : List Value} {hp : Hp} (F : Fx K own cc nL fr mc ms) {a : Int} {v : Int32} (d : decode cc pc = .ok (.sipush a, 3)) (hv : (Int16.ofInt a).toInt32 = v) (kk : Go K k n (pc + 3) (ls) (.int v :: st) (hp)) : Go K k n (pc) (ls) (st) (hp) := by
  obtain ⟨p, l, e, R, s, m, args, below, meth, c, D, cA, A, Q, nL', n0, ad0⟩ := K
  obtain ⟨hx, hb, hml, hnl, hown, hts, hK, hA, hfr, hlo, hmc, hms⟩ := F
  intro hcl h0 ad H locs LS h1 h2 h3 h4 h5
  exact lv_sipush hx hb d hv (kk (⟨hcl.1, clS_push trivial hcl.2.1, hcl.2.2⟩) h0 ad H locs LS h1 h2 h3 h4 h5)
theorem g_lconst {K : Cx} {own : String} {cc : ByteArray} {nL fr mc ms k n pc : Nat} {ls : List (Nat × Value)} {st : List Value} {hp : Hp} (F : Fx K own cc nL fr mc ms) {a : Fin 2} {v : Int64} (d : decode cc pc = .ok (.lconst a, 1)) (hv : Int64.ofNat (a : Nat) = v) (kk : Go K k n (pc + 1) (ls) (.long v :: st) (hp)) : Go K k n (pc) (ls) (st) (hp) := by
  obtain ⟨p, l, e, R, s, m, args, below, meth, c, D, cA, A, Q, nL', n0, ad0⟩ := K
  obtain ⟨hx, hb, hml, hnl, hown, hts, hK, hA, hfr, hlo, hmc, hms⟩ := F
  intro hcl h0 ad H locs LS h1 h2 h3 h4 h5
  exact lv_lconst hx hb d hv (kk (⟨hcl.1, clS_push trivial hcl.2.1, hcl.2.2⟩) h0 ad H locs LS h1 h2 h3 h4 h5)
theorem g_ldc {K : Cx} {own : String} {cc : ByteArray} {nL fr mc ms k n pc : Nat} {ls : List (Nat × Value)} {st : List Value} {hp : Hp} (F : Fx K own cc nL fr mc ms) {i : Nat} {v : Int32} (d : decode cc pc = .ok (.ldc i, 2)) (hc : Cond.constant own i v ∈ TB) (kk : Go K k n (pc + 2) (ls) (.int v :: st) (hp)) : Go K k n (pc) (ls) (st) (hp) := by
  obtain ⟨p, l, e, R, s, m, args, below, meth, c, D, cA, A, Q, nL', n0, ad0⟩ := K
  obtain ⟨hx, hb, hml, hnl, hown, hts, hK, hA, hfr, hlo, hmc, hms⟩ := F
  intro hcl h0 ad H locs LS h1 h2 h3 h4 h5
  exact lv_ldc hx hb hown (hts _ hc) d (kk (⟨hcl.1, clS_push trivial hcl.2.1, hcl.2.2⟩) h0 ad H locs LS h1 h2 h3 h4 h5)
theorem g_ldcw {K : Cx} {own : String} {cc : ByteArray} {nL fr mc ms k n pc : Nat} {ls : List (Nat × Value)} {st : List Value} {hp : Hp} (F : Fx K own cc nL fr mc ms) {i : Nat} {v : Int32} (d : decode cc pc = .ok (.ldc_w i, 3)) (hc : Cond.constant own i v ∈ TB) (kk : Go K k n (pc + 3) (ls) (.int v :: st) (hp)) : Go K k n (pc) (ls) (st) (hp) := by
  obtain ⟨p, l, e, R, s, m, args, below, meth, c, D, cA, A, Q, nL', n0, ad0⟩ := K
  obtain ⟨hx, hb, hml, hnl, hown, hts, hK, hA, hfr, hlo, hmc, hms⟩ := F
  intro hcl h0 ad H locs LS h1 h2 h3 h4 h5
  exact lv_ldcw hx hb hown (hts _ hc) d (kk (⟨hcl.1, clS_push trivial hcl.2.1, hcl.2.2⟩) h0 ad H locs LS h1 h2 h3 h4 h5)
theorem g_ldc2 {K : Cx} {own : String} {cc : ByteArray} {nL fr mc ms k n pc : Nat} {ls : List (Nat × Value)} {st : List Value} {hp : Hp} (F : Fx K own cc nL fr mc ms) {i : Nat} {v : Int64} (d : decode cc pc = .ok (.ldc2_w i, 3)) (hc : Cond.constantLong own i v ∈ TB) (kk : Go K k n (pc + 3) (ls) (.long v :: st) (hp)) : Go K k n (pc) (ls) (st) (hp) := by
  obtain ⟨p, l, e, R, s, m, args, below, meth, c, D, cA, A, Q, nL', n0, ad0⟩ := K
  obtain ⟨hx, hb, hml, hnl, hown, hts, hK, hA, hfr, hlo, hmc, hms⟩ := F
  intro hcl h0 ad H locs LS h1 h2 h3 h4 h5
  exact lv_ldc2 hx hb hown (hts _ hc) d (kk (⟨hcl.1, clS_push trivial hcl.2.1, hcl.2.2⟩) h0 ad H locs LS h1 h2 h3 h4 h5)
theorem g_null {K : Cx} {own : String} {cc : ByteArray} {nL fr mc ms k n pc : Nat} {ls : List (Nat × Value)} {st : List Value} {hp : Hp} (F : Fx K own cc nL fr mc ms) (d : decode cc pc = .ok (.aconst_null, 1)) (kk : Go K k n (pc + 1) (ls) (.null :: st) (hp)) : Go K k n (pc) (ls) (st) (hp) := by
  obtain ⟨p, l, e, R, s, m, args, below, meth, c, D, cA, A, Q, nL', n0, ad0⟩ := K
  obtain ⟨hx, hb, hml, hnl, hown, hts, hK, hA, hfr, hlo, hmc, hms⟩ := F
  intro hcl h0 ad H locs LS h1 h2 h3 h4 h5
  exact lv_null hx hb d (kk (⟨hcl.1, clS_push trivial hcl.2.1, hcl.2.2⟩) h0 ad H locs LS h1 h2 h3 h4 h5)
theorem g_iload {K : Cx} {own : String} {cc : ByteArray} {nL fr mc ms k n pc : Nat} {ls : List (Nat × Value)} {st : List Value} {hp : Hp} (F : Fx K own cc nL fr mc ms) {i : Nat} {x : Int32} (d : decode cc pc = .ok (.iload i, 2)) (hv : look ls i = some (.int x)) (kk : Go K k n (pc + 2) (ls) (.int x :: st) (hp)) : Go K k n (pc) (ls) (st) (hp) := by
  obtain ⟨p, l, e, R, s, m, args, below, meth, c, D, cA, A, Q, nL', n0, ad0⟩ := K
  obtain ⟨hx, hb, hml, hnl, hown, hts, hK, hA, hfr, hlo, hmc, hms⟩ := F
  intro hcl h0 ad H locs LS h1 h2 h3 h4 h5
  exact lv_iload hx hb d (lv_look h5 hv) (kk (⟨hcl.1, clS_push (hcl.1 _ (look_mem hv)) hcl.2.1, hcl.2.2⟩) h0 ad H locs LS h1 h2 h3 h4 h5)
theorem g_iload_n {K : Cx} {own : String} {cc : ByteArray} {nL fr mc ms k n pc : Nat} {ls : List (Nat × Value)} {st : List Value} {hp : Hp} (F : Fx K own cc nL fr mc ms) {i : Fin 4} {x : Int32} (d : decode cc pc = .ok (.iload_n i, 1)) (hv : look ls (i : Nat) = some (.int x)) (kk : Go K k n (pc + 1) (ls) (.int x :: st) (hp)) : Go K k n (pc) (ls) (st) (hp) := by
  obtain ⟨p, l, e, R, s, m, args, below, meth, c, D, cA, A, Q, nL', n0, ad0⟩ := K
  obtain ⟨hx, hb, hml, hnl, hown, hts, hK, hA, hfr, hlo, hmc, hms⟩ := F
  intro hcl h0 ad H locs LS h1 h2 h3 h4 h5
  exact lv_iload_n hx hb d rfl (lv_look h5 hv) (kk (⟨hcl.1, clS_push (hcl.1 _ (look_mem hv)) hcl.2.1, hcl.2.2⟩) h0 ad H locs LS h1 h2 h3 h4 h5)
theorem g_lload {K : Cx} {own : String} {cc : ByteArray} {nL fr mc ms k n pc : Nat} {ls : List (Nat × Value)} {st : List Value} {hp : Hp} (F : Fx K own cc nL fr mc ms) {i : Nat} {x : Int64} (d : decode cc pc = .ok (.lload i, 2)) (hv : look ls i = some (.long x)) (kk : Go K k n (pc + 2) (ls) (.long x :: st) (hp)) : Go K k n (pc) (ls) (st) (hp) := by
  obtain ⟨p, l, e, R, s, m, args, below, meth, c, D, cA, A, Q, nL', n0, ad0⟩ := K
  obtain ⟨hx, hb, hml, hnl, hown, hts, hK, hA, hfr, hlo, hmc, hms⟩ := F
  intro hcl h0 ad H locs LS h1 h2 h3 h4 h5
  exact lv_lload hx hb d (lv_look h5 hv) (kk (⟨hcl.1, clS_push (hcl.1 _ (look_mem hv)) hcl.2.1, hcl.2.2⟩) h0 ad H locs LS h1 h2 h3 h4 h5)
theorem g_lload_n {K : Cx} {own : String} {cc : ByteArray} {nL fr mc ms k n pc : Nat} {ls : List (Nat × Value)} {st : List Value} {hp : Hp} (F : Fx K own cc nL fr mc ms) {i : Fin 4} {x : Int64} (d : decode cc pc = .ok (.lload_n i, 1)) (hv : look ls (i : Nat) = some (.long x)) (kk : Go K k n (pc + 1) (ls) (.long x :: st) (hp)) : Go K k n (pc) (ls) (st) (hp) := by
  obtain ⟨p, l, e, R, s, m, args, below, meth, c, D, cA, A, Q, nL', n0, ad0⟩ := K
  obtain ⟨hx, hb, hml, hnl, hown, hts, hK, hA, hfr, hlo, hmc, hms⟩ := F
  intro hcl h0 ad H locs LS h1 h2 h3 h4 h5
  exact lv_lload_n hx hb d rfl (lv_look h5 hv) (kk (⟨hcl.1, clS_push (hcl.1 _ (look_mem hv)) hcl.2.1, hcl.2.2⟩) h0 ad H locs LS h1 h2 h3 h4 h5)
theorem g_aload {K : Cx} {own : String} {cc : ByteArray} {nL fr mc ms k n pc : Nat} {ls : List (Nat × Value)} {st : List Value} {hp : Hp} (F : Fx K own cc nL fr mc ms) {i : Nat} {x : Nat} (d : decode cc pc = .ok (.aload i, 2)) (hv : look ls i = some (.ref x)) (kk : Go K k n (pc + 2) (ls) (.ref x :: st) (hp)) : Go K k n (pc) (ls) (st) (hp) := by
  obtain ⟨p, l, e, R, s, m, args, below, meth, c, D, cA, A, Q, nL', n0, ad0⟩ := K
  obtain ⟨hx, hb, hml, hnl, hown, hts, hK, hA, hfr, hlo, hmc, hms⟩ := F
  intro hcl h0 ad H locs LS h1 h2 h3 h4 h5
  exact lv_aload hx hb d (lv_look h5 hv) (kk (⟨hcl.1, clS_push (hcl.1 _ (look_mem hv)) hcl.2.1, hcl.2.2⟩) h0 ad H locs LS h1 h2 h3 h4 h5)
theorem g_aload_n {K : Cx} {own : String} {cc : ByteArray} {nL fr mc ms k n pc : Nat} {ls : List (Nat × Value)} {st : List Value} {hp : Hp} (F : Fx K own cc nL fr mc ms) {i : Fin 4} {x : Nat} (d : decode cc pc = .ok (.aload_n i, 1)) (hv : look ls (i : Nat) = some (.ref x)) (kk : Go K k n (pc + 1) (ls) (.ref x :: st) (hp)) : Go K k n (pc) (ls) (st) (hp) := by
  obtain ⟨p, l, e, R, s, m, args, below, meth, c, D, cA, A, Q, nL', n0, ad0⟩ := K
  obtain ⟨hx, hb, hml, hnl, hown, hts, hK, hA, hfr, hlo, hmc, hms⟩ := F
  intro hcl h0 ad H locs LS h1 h2 h3 h4 h5
  exact lv_aload_n hx hb d rfl (lv_look h5 hv) (kk (⟨hcl.1, clS_push (hcl.1 _ (look_mem hv)) hcl.2.1, hcl.2.2⟩) h0 ad H locs LS h1 h2 h3 h4 h5)
theorem g_aload_nN {K : Cx} {own : String} {cc : ByteArray} {nL fr mc ms k n pc : Nat} {ls : List (Nat × Value)} {st : List Value} {hp : Hp} (F : Fx K own cc nL fr mc ms) {i : Fin 4} (d : decode cc pc = .ok (.aload_n i, 1)) (hv : look ls (i : Nat) = some .null) (kk : Go K k n (pc + 1) (ls) (.null :: st) (hp)) : Go K k n (pc) (ls) (st) (hp) := by
  obtain ⟨p, l, e, R, s, m, args, below, meth, c, D, cA, A, Q, nL', n0, ad0⟩ := K
  obtain ⟨hx, hb, hml, hnl, hown, hts, hK, hA, hfr, hlo, hmc, hms⟩ := F
  intro hcl h0 ad H locs LS h1 h2 h3 h4 h5
  exact lv_aload_nN hx hb d rfl (lv_look h5 hv) (kk (⟨hcl.1, clS_push trivial hcl.2.1, hcl.2.2⟩) h0 ad H locs LS h1 h2 h3 h4 h5)
theorem g_aloadN {K : Cx} {own : String} {cc : ByteArray} {nL fr mc ms k n pc : Nat} {ls : List (Nat × Value)} {st : List Value} {hp : Hp} (F : Fx K own cc nL fr mc ms) {i : Nat} (d : decode cc pc = .ok (.aload i, 2)) (hv : look ls i = some .null) (kk : Go K k n (pc + 2) (ls) (.null :: st) (hp)) : Go K k n (pc) (ls) (st) (hp) := by
  obtain ⟨p, l, e, R, s, m, args, below, meth, c, D, cA, A, Q, nL', n0, ad0⟩ := K
  obtain ⟨hx, hb, hml, hnl, hown, hts, hK, hA, hfr, hlo, hmc, hms⟩ := F
  intro hcl h0 ad H locs LS h1 h2 h3 h4 h5
  exact lv_aloadN hx hb d (lv_look h5 hv) (kk (⟨hcl.1, clS_push trivial hcl.2.1, hcl.2.2⟩) h0 ad H locs LS h1 h2 h3 h4 h5)
theorem g_istore {K : Cx} {own : String} {cc : ByteArray} {nL fr mc ms k n pc : Nat} {ls : List (Nat × Value)} {st : List Value} {hp : Hp} (F : Fx K own cc nL fr mc ms) {i : Nat} {x : Int32} (d : decode cc pc = .ok (.istore i, 2)) (hi : i < nL) (kk : Go K k n (pc + 2) (put1 ls i (.int x)) (st) (hp)) : Go K k n (pc) (ls) (.int x :: st) (hp) := by
  obtain ⟨p, l, e, R, s, m, args, below, meth, c, D, cA, A, Q, nL', n0, ad0⟩ := K
  obtain ⟨hx, hb, hml, hnl, hown, hts, hK, hA, hfr, hlo, hmc, hms⟩ := F
  intro hcl h0 ad H locs LS h1 h2 h3 h4 h5
  subst hnl
  exact lv_istore hx hb d h5 hi rfl (fun LS2 g => kk (⟨clL_put1 (clS_head hcl.2.1) hcl.1, clS_tail hcl.2.1, hcl.2.2⟩) h0 ad H locs LS2 h1 h2 h3 h4 (lv_memb g lM_put1))
theorem g_istore_n {K : Cx} {own : String} {cc : ByteArray} {nL fr mc ms k n pc : Nat} {ls : List (Nat × Value)} {st : List Value} {hp : Hp} (F : Fx K own cc nL fr mc ms) {i : Fin 4} {x : Int32} (d : decode cc pc = .ok (.istore_n i, 1)) (hi : (i : Nat) < nL) (kk : Go K k n (pc + 1) (put1 ls (i : Nat) (.int x)) (st) (hp)) : Go K k n (pc) (ls) (.int x :: st) (hp) := by
  obtain ⟨p, l, e, R, s, m, args, below, meth, c, D, cA, A, Q, nL', n0, ad0⟩ := K
  obtain ⟨hx, hb, hml, hnl, hown, hts, hK, hA, hfr, hlo, hmc, hms⟩ := F
  intro hcl h0 ad H locs LS h1 h2 h3 h4 h5
  subst hnl
  exact lv_istore_n hx hb d rfl h5 hi rfl (fun LS2 g => kk (⟨clL_put1 (clS_head hcl.2.1) hcl.1, clS_tail hcl.2.1, hcl.2.2⟩) h0 ad H locs LS2 h1 h2 h3 h4 (lv_memb g lM_put1))
theorem g_lstore {K : Cx} {own : String} {cc : ByteArray} {nL fr mc ms k n pc : Nat} {ls : List (Nat × Value)} {st : List Value} {hp : Hp} (F : Fx K own cc nL fr mc ms) {i : Nat} {x : Int64} (d : decode cc pc = .ok (.lstore i, 2)) (hi : i + 1 < nL) (kk : Go K k n (pc + 2) (put2 ls i (.long x)) (st) (hp)) : Go K k n (pc) (ls) (.long x :: st) (hp) := by
  obtain ⟨p, l, e, R, s, m, args, below, meth, c, D, cA, A, Q, nL', n0, ad0⟩ := K
  obtain ⟨hx, hb, hml, hnl, hown, hts, hK, hA, hfr, hlo, hmc, hms⟩ := F
  intro hcl h0 ad H locs LS h1 h2 h3 h4 h5
  subst hnl
  exact lv_lstore hx hb d h5 hi rfl (fun LS2 g => kk (⟨clL_put2 (clS_head hcl.2.1) hcl.1, clS_tail hcl.2.1, hcl.2.2⟩) h0 ad H locs LS2 h1 h2 h3 h4 (lv_memb g lM_put2))
theorem g_lstore_n {K : Cx} {own : String} {cc : ByteArray} {nL fr mc ms k n pc : Nat} {ls : List (Nat × Value)} {st : List Value} {hp : Hp} (F : Fx K own cc nL fr mc ms) {i : Fin 4} {x : Int64} (d : decode cc pc = .ok (.lstore_n i, 1)) (hi : (i : Nat) + 1 < nL) (kk : Go K k n (pc + 1) (put2 ls (i : Nat) (.long x)) (st) (hp)) : Go K k n (pc) (ls) (.long x :: st) (hp) := by
  obtain ⟨p, l, e, R, s, m, args, below, meth, c, D, cA, A, Q, nL', n0, ad0⟩ := K
  obtain ⟨hx, hb, hml, hnl, hown, hts, hK, hA, hfr, hlo, hmc, hms⟩ := F
  intro hcl h0 ad H locs LS h1 h2 h3 h4 h5
  subst hnl
  exact lv_lstore_n hx hb d rfl h5 hi rfl (fun LS2 g => kk (⟨clL_put2 (clS_head hcl.2.1) hcl.1, clS_tail hcl.2.1, hcl.2.2⟩) h0 ad H locs LS2 h1 h2 h3 h4 (lv_memb g lM_put2))
theorem g_astore {K : Cx} {own : String} {cc : ByteArray} {nL fr mc ms k n pc : Nat} {ls : List (Nat × Value)} {st : List Value} {hp : Hp} (F : Fx K own cc nL fr mc ms) {i : Nat} {x : Nat} (d : decode cc pc = .ok (.astore i, 2)) (hi : i < nL) (kk : Go K k n (pc + 2) (put1 ls i (.ref x)) (st) (hp)) : Go K k n (pc) (ls) (.ref x :: st) (hp) := by
  obtain ⟨p, l, e, R, s, m, args, below, meth, c, D, cA, A, Q, nL', n0, ad0⟩ := K
  obtain ⟨hx, hb, hml, hnl, hown, hts, hK, hA, hfr, hlo, hmc, hms⟩ := F
  intro hcl h0 ad H locs LS h1 h2 h3 h4 h5
  subst hnl
  exact lv_astore hx hb d h5 hi rfl (fun LS2 g => kk (⟨clL_put1 (clS_head hcl.2.1) hcl.1, clS_tail hcl.2.1, hcl.2.2⟩) h0 ad H locs LS2 h1 h2 h3 h4 (lv_memb g lM_put1))
theorem g_astore_n {K : Cx} {own : String} {cc : ByteArray} {nL fr mc ms k n pc : Nat} {ls : List (Nat × Value)} {st : List Value} {hp : Hp} (F : Fx K own cc nL fr mc ms) {i : Fin 4} {x : Nat} (d : decode cc pc = .ok (.astore_n i, 1)) (hi : (i : Nat) < nL) (kk : Go K k n (pc + 1) (put1 ls (i : Nat) (.ref x)) (st) (hp)) : Go K k n (pc) (ls) (.ref x :: st) (hp) := by
  obtain ⟨p, l, e, R, s, m, args, below, meth, c, D, cA, A, Q, nL', n0, ad0⟩ := K
  obtain ⟨hx, hb, hml, hnl, hown, hts, hK, hA, hfr, hlo, hmc, hms⟩ := F
  intro hcl h0 ad H locs LS h1 h2 h3 h4 h5
  subst hnl
  exact lv_astore_n hx hb d rfl h5 hi rfl (fun LS2 g => kk (⟨clL_put1 (clS_head hcl.2.1) hcl.1, clS_tail hcl.2.1, hcl.2.2⟩) h0 ad H locs LS2 h1 h2 h3 h4 (lv_memb g lM_put1))
theorem g_astore_nN {K : Cx} {own : String} {cc : ByteArray} {nL fr mc ms k n pc : Nat} {ls : List (Nat × Value)} {st : List Value} {hp : Hp} (F : Fx K own cc nL fr mc ms) {i : Fin 4} (d : decode cc pc = .ok (.astore_n i, 1)) (hi : (i : Nat) < nL) (kk : Go K k n (pc + 1) (put1 ls (i : Nat) .null) (st) (hp)) : Go K k n (pc) (ls) (.null :: st) (hp) := by
  obtain ⟨p, l, e, R, s, m, args, below, meth, c, D, cA, A, Q, nL', n0, ad0⟩ := K
  obtain ⟨hx, hb, hml, hnl, hown, hts, hK, hA, hfr, hlo, hmc, hms⟩ := F
  intro hcl h0 ad H locs LS h1 h2 h3 h4 h5
  subst hnl
  exact lv_astore_nN hx hb d rfl h5 hi rfl (fun LS2 g => kk (⟨clL_put1 (clS_head hcl.2.1) hcl.1, clS_tail hcl.2.1, hcl.2.2⟩) h0 ad H locs LS2 h1 h2 h3 h4 (lv_memb g lM_put1))
theorem g_astoreN {K : Cx} {own : String} {cc : ByteArray} {nL fr mc ms k n pc : Nat} {ls : List (Nat × Value)} {st : List Value} {hp : Hp} (F : Fx K own cc nL fr mc ms) {i : Nat} (d : decode cc pc = .ok (.astore i, 2)) (hi : i < nL) (kk : Go K k n (pc + 2) (put1 ls i .null) (st) (hp)) : Go K k n (pc) (ls) (.null :: st) (hp) := by
  obtain ⟨p, l, e, R, s, m, args, below, meth, c, D, cA, A, Q, nL', n0, ad0⟩ := K
  obtain ⟨hx, hb, hml, hnl, hown, hts, hK, hA, hfr, hlo, hmc, hms⟩ := F
  intro hcl h0 ad H locs LS h1 h2 h3 h4 h5
  subst hnl
  exact lv_astoreN hx hb d h5 hi rfl (fun LS2 g => kk (⟨clL_put1 (clS_head hcl.2.1) hcl.1, clS_tail hcl.2.1, hcl.2.2⟩) h0 ad H locs LS2 h1 h2 h3 h4 (lv_memb g lM_put1))
theorem g_iinc {K : Cx} {own : String} {cc : ByteArray} {nL fr mc ms k n pc : Nat} {ls : List (Nat × Value)} {st : List Value} {hp : Hp} (F : Fx K own cc nL fr mc ms) {i : Nat} {a : Int} {x v : Int32} (d : decode cc pc = .ok (.iinc i a, 3)) (hv : look ls i = some (.int x)) (hw : x + Int32.ofInt a = v) (hi : i < nL) (kk : Go K k n (pc + 3) (put1 ls i (.int v)) (st) (hp)) : Go K k n (pc) (ls) (st) (hp) := by
  obtain ⟨p, l, e, R, s, m, args, below, meth, c, D, cA, A, Q, nL', n0, ad0⟩ := K
  obtain ⟨hx, hb, hml, hnl, hown, hts, hK, hA, hfr, hlo, hmc, hms⟩ := F
  intro hcl h0 ad H locs LS h1 h2 h3 h4 h5
  subst hnl
  obtain ⟨j, hj⟩ := List.getElem?_of_mem (lM_mem (ad := ad) (look_mem hv))
  exact lv_iinc (k := j) hx hb d h5 hj hw hi rfl (fun LS2 g => kk ⟨clL_put1 trivial hcl.1, hcl.2.1, hcl.2.2⟩ h0 ad H locs LS2 h1 h2 h3 h4 (lv_memb g lM_put1))
theorem g_dup {K : Cx} {own : String} {cc : ByteArray} {nL fr mc ms k n pc : Nat} {ls : List (Nat × Value)} {st : List Value} {hp : Hp} (F : Fx K own cc nL fr mc ms) {v : Value} (d : decode cc pc = .ok (.dup, 1)) (hv : v.category = 1) (kk : Go K k n (pc + 1) (ls) (v :: v :: st) (hp)) : Go K k n (pc) (ls) (v :: st) (hp) := by
  obtain ⟨p, l, e, R, s, m, args, below, meth, c, D, cA, A, Q, nL', n0, ad0⟩ := K
  obtain ⟨hx, hb, hml, hnl, hown, hts, hK, hA, hfr, hlo, hmc, hms⟩ := F
  intro hcl h0 ad H locs LS h1 h2 h3 h4 h5
  exact lv_dup hx hb d ((vM_cat ad v).trans hv) (kk (⟨hcl.1, clS_push (clS_head hcl.2.1) hcl.2.1, hcl.2.2⟩) h0 ad H locs LS h1 h2 h3 h4 h5)
theorem g_dup2 {K : Cx} {own : String} {cc : ByteArray} {nL fr mc ms k n pc : Nat} {ls : List (Nat × Value)} {st : List Value} {hp : Hp} (F : Fx K own cc nL fr mc ms) {v u : Value} (d : decode cc pc = .ok (.dup2, 1)) (hv : v.category = 1) (hu : u.category = 1) (kk : Go K k n (pc + 1) (ls) (v :: u :: v :: u :: st) (hp)) : Go K k n (pc) (ls) (v :: u :: st) (hp) := by
  obtain ⟨p, l, e, R, s, m, args, below, meth, c, D, cA, A, Q, nL', n0, ad0⟩ := K
  obtain ⟨hx, hb, hml, hnl, hown, hts, hK, hA, hfr, hlo, hmc, hms⟩ := F
  intro hcl h0 ad H locs LS h1 h2 h3 h4 h5
  exact lv_dup2_11 hx hb d ((vM_cat ad v).trans hv) ((vM_cat ad u).trans hu) (kk (⟨hcl.1, clS_push (clS_head hcl.2.1) (clS_push (clS_head (clS_tail hcl.2.1)) hcl.2.1), hcl.2.2⟩) h0 ad H locs LS h1 h2 h3 h4 h5)
theorem g_dup2L {K : Cx} {own : String} {cc : ByteArray} {nL fr mc ms k n pc : Nat} {ls : List (Nat × Value)} {st : List Value} {hp : Hp} (F : Fx K own cc nL fr mc ms) {v : Value} (d : decode cc pc = .ok (.dup2, 1)) (hv : v.category = 2) (kk : Go K k n (pc + 1) (ls) (v :: v :: st) (hp)) : Go K k n (pc) (ls) (v :: st) (hp) := by
  obtain ⟨p, l, e, R, s, m, args, below, meth, c, D, cA, A, Q, nL', n0, ad0⟩ := K
  obtain ⟨hx, hb, hml, hnl, hown, hts, hK, hA, hfr, hlo, hmc, hms⟩ := F
  intro hcl h0 ad H locs LS h1 h2 h3 h4 h5
  exact lv_dup2_2 hx hb d ((vM_cat ad v).trans hv) (kk (⟨hcl.1, clS_push (clS_head hcl.2.1) hcl.2.1, hcl.2.2⟩) h0 ad H locs LS h1 h2 h3 h4 h5)
theorem g_goto {K : Cx} {own : String} {cc : ByteArray} {nL fr mc ms k n pc : Nat} {ls : List (Nat × Value)} {st : List Value} {hp : Hp} (F : Fx K own cc nL fr mc ms) {off : Int} {tgt : Nat} (d : decode cc pc = .ok (.goto off, 3)) (ht : (pc : Int) + off = (tgt : Int)) (kk : Go K k n (tgt) (ls) (st) (hp)) : Go K k n (pc) (ls) (st) (hp) := by
  obtain ⟨p, l, e, R, s, m, args, below, meth, c, D, cA, A, Q, nL', n0, ad0⟩ := K
  obtain ⟨hx, hb, hml, hnl, hown, hts, hK, hA, hfr, hlo, hmc, hms⟩ := F
  intro hcl h0 ad H locs LS h1 h2 h3 h4 h5
  exact lv_goto hx hb d ht (kk hcl h0 ad H locs LS h1 h2 h3 h4 h5)
theorem g_if_eq {K : Cx} {own : String} {cc : ByteArray} {nL fr mc ms k n pc : Nat} {ls : List (Nat × Value)} {st : List Value} {hp : Hp} (F : Fx K own cc nL fr mc ms) {x : Int32} {off : Int} {tgt : Nat} (d : decode cc pc = .ok (.ifCond .eq off, 3)) (ht : (pc : Int) + off = (tgt : Int)) (kt : x = 0 → Go K k n tgt ls st hp) (kf : ¬ x = 0 → Go K k n (pc + 3) ls st hp) : Go K k n pc ls (.int x :: st) hp := by
  obtain ⟨p, l, e, R, s, m, args, below, meth, c, D, cA, A, Q, nL', n0, ad0⟩ := K
  obtain ⟨hx, hb, hml, hnl, hown, hts, hK, hA, hfr, hlo, hmc, hms⟩ := F
  intro hcl h0 ad H locs LS h1 h2 h3 h4 h5
  exact lv_if_eq hx hb d ht (fun q => kt q (⟨hcl.1, clS_tail hcl.2.1, hcl.2.2⟩) h0 ad H locs LS h1 h2 h3 h4 h5) (fun q => kf q (⟨hcl.1, clS_tail hcl.2.1, hcl.2.2⟩) h0 ad H locs LS h1 h2 h3 h4 h5)
theorem g_ic_eq {K : Cx} {own : String} {cc : ByteArray} {nL fr mc ms k n pc : Nat} {ls : List (Nat × Value)} {st : List Value} {hp : Hp} (F : Fx K own cc nL fr mc ms) {x y : Int32} {off : Int} {tgt : Nat} (d : decode cc pc = .ok (.if_icmp .eq off, 3)) (ht : (pc : Int) + off = (tgt : Int)) (kt : x = y → Go K k n tgt ls st hp) (kf : ¬ x = y → Go K k n (pc + 3) ls st hp) : Go K k n pc ls (.int y :: .int x :: st) hp := by
  obtain ⟨p, l, e, R, s, m, args, below, meth, c, D, cA, A, Q, nL', n0, ad0⟩ := K
  obtain ⟨hx, hb, hml, hnl, hown, hts, hK, hA, hfr, hlo, hmc, hms⟩ := F
  intro hcl h0 ad H locs LS h1 h2 h3 h4 h5
  exact lv_icmp_eq hx hb d ht (fun q => kt q (⟨hcl.1, clS_tail (clS_tail hcl.2.1), hcl.2.2⟩) h0 ad H locs LS h1 h2 h3 h4 h5) (fun q => kf q (⟨hcl.1, clS_tail (clS_tail hcl.2.1), hcl.2.2⟩) h0 ad H locs LS h1 h2 h3 h4 h5)
theorem g_if_ne {K : Cx} {own : String} {cc : ByteArray} {nL fr mc ms k n pc : Nat} {ls : List (Nat × Value)} {st : List Value} {hp : Hp} (F : Fx K own cc nL fr mc ms) {x : Int32} {off : Int} {tgt : Nat} (d : decode cc pc = .ok (.ifCond .ne off, 3)) (ht : (pc : Int) + off = (tgt : Int)) (kt : ¬ x = 0 → Go K k n tgt ls st hp) (kf : x = 0 → Go K k n (pc + 3) ls st hp) : Go K k n pc ls (.int x :: st) hp := by
  obtain ⟨p, l, e, R, s, m, args, below, meth, c, D, cA, A, Q, nL', n0, ad0⟩ := K
  obtain ⟨hx, hb, hml, hnl, hown, hts, hK, hA, hfr, hlo, hmc, hms⟩ := F
  intro hcl h0 ad H locs LS h1 h2 h3 h4 h5
  exact lv_if_ne hx hb d ht (fun q => kt q (⟨hcl.1, clS_tail hcl.2.1, hcl.2.2⟩) h0 ad H locs LS h1 h2 h3 h4 h5) (fun q => kf q (⟨hcl.1, clS_tail hcl.2.1, hcl.2.2⟩) h0 ad H locs LS h1 h2 h3 h4 h5)
theorem g_ic_ne {K : Cx} {own : String} {cc : ByteArray} {nL fr mc ms k n pc : Nat} {ls : List (Nat × Value)} {st : List Value} {hp : Hp} (F : Fx K own cc nL fr mc ms) {x y : Int32} {off : Int} {tgt : Nat} (d : decode cc pc = .ok (.if_icmp .ne off, 3)) (ht : (pc : Int) + off = (tgt : Int)) (kt : ¬ x = y → Go K k n tgt ls st hp) (kf : x = y → Go K k n (pc + 3) ls st hp) : Go K k n pc ls (.int y :: .int x :: st) hp := by
  obtain ⟨p, l, e, R, s, m, args, below, meth, c, D, cA, A, Q, nL', n0, ad0⟩ := K
  obtain ⟨hx, hb, hml, hnl, hown, hts, hK, hA, hfr, hlo, hmc, hms⟩ := F
  intro hcl h0 ad H locs LS h1 h2 h3 h4 h5
  exact lv_icmp_ne hx hb d ht (fun q => kt q (⟨hcl.1, clS_tail (clS_tail hcl.2.1), hcl.2.2⟩) h0 ad H locs LS h1 h2 h3 h4 h5) (fun q => kf q (⟨hcl.1, clS_tail (clS_tail hcl.2.1), hcl.2.2⟩) h0 ad H locs LS h1 h2 h3 h4 h5)
theorem g_if_lt {K : Cx} {own : String} {cc : ByteArray} {nL fr mc ms k n pc : Nat} {ls : List (Nat × Value)} {st : List Value} {hp : Hp} (F : Fx K own cc nL fr mc ms) {x : Int32} {off : Int} {tgt : Nat} (d : decode cc pc = .ok (.ifCond .lt off, 3)) (ht : (pc : Int) + off = (tgt : Int)) (kt : x < 0 → Go K k n tgt ls st hp) (kf : ¬ x < 0 → Go K k n (pc + 3) ls st hp) : Go K k n pc ls (.int x :: st) hp := by
  obtain ⟨p, l, e, R, s, m, args, below, meth, c, D, cA, A, Q, nL', n0, ad0⟩ := K
  obtain ⟨hx, hb, hml, hnl, hown, hts, hK, hA, hfr, hlo, hmc, hms⟩ := F
  intro hcl h0 ad H locs LS h1 h2 h3 h4 h5
  exact lv_if_lt hx hb d ht (fun q => kt q (⟨hcl.1, clS_tail hcl.2.1, hcl.2.2⟩) h0 ad H locs LS h1 h2 h3 h4 h5) (fun q => kf q (⟨hcl.1, clS_tail hcl.2.1, hcl.2.2⟩) h0 ad H locs LS h1 h2 h3 h4 h5)
theorem g_ic_lt {K : Cx} {own : String} {cc : ByteArray} {nL fr mc ms k n pc : Nat} {ls : List (Nat × Value)} {st : List Value} {hp : Hp} (F : Fx K own cc nL fr mc ms) {x y : Int32} {off : Int} {tgt : Nat} (d : decode cc pc = .ok (.if_icmp .lt off, 3)) (ht : (pc : Int) + off = (tgt : Int)) (kt : x < y → Go K k n tgt ls st hp) (kf : ¬ x < y → Go K k n (pc + 3) ls st hp) : Go K k n pc ls (.int y :: .int x :: st) hp := by
  obtain ⟨p, l, e, R, s, m, args, below, meth, c, D, cA, A, Q, nL', n0, ad0⟩ := K
  obtain ⟨hx, hb, hml, hnl, hown, hts, hK, hA, hfr, hlo, hmc, hms⟩ := F
  intro hcl h0 ad H locs LS h1 h2 h3 h4 h5
  exact lv_icmp_lt hx hb d ht (fun q => kt q (⟨hcl.1, clS_tail (clS_tail hcl.2.1), hcl.2.2⟩) h0 ad H locs LS h1 h2 h3 h4 h5) (fun q => kf q (⟨hcl.1, clS_tail (clS_tail hcl.2.1), hcl.2.2⟩) h0 ad H locs LS h1 h2 h3 h4 h5)
theorem g_if_ge {K : Cx} {own : String} {cc : ByteArray} {nL fr mc ms k n pc : Nat} {ls : List (Nat × Value)} {st : List Value} {hp : Hp} (F : Fx K own cc nL fr mc ms) {x : Int32} {off : Int} {tgt : Nat} (d : decode cc pc = .ok (.ifCond .ge off, 3)) (ht : (pc : Int) + off = (tgt : Int)) (kt : 0 ≤ x → Go K k n tgt ls st hp) (kf : ¬ 0 ≤ x → Go K k n (pc + 3) ls st hp) : Go K k n pc ls (.int x :: st) hp := by
  obtain ⟨p, l, e, R, s, m, args, below, meth, c, D, cA, A, Q, nL', n0, ad0⟩ := K
  obtain ⟨hx, hb, hml, hnl, hown, hts, hK, hA, hfr, hlo, hmc, hms⟩ := F
  intro hcl h0 ad H locs LS h1 h2 h3 h4 h5
  exact lv_if_ge hx hb d ht (fun q => kt q (⟨hcl.1, clS_tail hcl.2.1, hcl.2.2⟩) h0 ad H locs LS h1 h2 h3 h4 h5) (fun q => kf q (⟨hcl.1, clS_tail hcl.2.1, hcl.2.2⟩) h0 ad H locs LS h1 h2 h3 h4 h5)
theorem g_ic_ge {K : Cx} {own : String} {cc : ByteArray} {nL fr mc ms k n pc : Nat} {ls : List (Nat × Value)} {st : List Value} {hp : Hp} (F : Fx K own cc nL fr mc ms) {x y : Int32} {off : Int} {tgt : Nat} (d : decode cc pc = .ok (.if_icmp .ge off, 3)) (ht : (pc : Int) + off = (tgt : Int)) (kt : y ≤ x → Go K k n tgt ls st hp) (kf : ¬ y ≤ x → Go K k n (pc + 3) ls st hp) : Go K k n pc ls (.int y :: .int x :: st) hp := by
  obtain ⟨p, l, e, R, s, m, args, below, meth, c, D, cA, A, Q, nL', n0, ad0⟩ := K
  obtain ⟨hx, hb, hml, hnl, hown, hts, hK, hA, hfr, hlo, hmc, hms⟩ := F
  intro hcl h0 ad H locs LS h1 h2 h3 h4 h5
  exact lv_icmp_ge hx hb d ht (fun q => kt q (⟨hcl.1, clS_tail (clS_tail hcl.2.1), hcl.2.2⟩) h0 ad H locs LS h1 h2 h3 h4 h5) (fun q => kf q (⟨hcl.1, clS_tail (clS_tail hcl.2.1), hcl.2.2⟩) h0 ad H locs LS h1 h2 h3 h4 h5)
theorem g_if_gt {K : Cx} {own : String} {cc : ByteArray} {nL fr mc ms k n pc : Nat} {ls : List (Nat × Value)} {st : List Value} {hp : Hp} (F : Fx K own cc nL fr mc ms) {x : Int32} {off : Int} {tgt : Nat} (d : decode cc pc = .ok (.ifCond .gt off, 3)) (ht : (pc : Int) + off = (tgt : Int)) (kt : 0 < x → Go K k n tgt ls st hp) (kf : ¬ 0 < x → Go K k n (pc + 3) ls st hp) : Go K k n pc ls (.int x :: st) hp := by
  obtain ⟨p, l, e, R, s, m, args, below, meth, c, D, cA, A, Q, nL', n0, ad0⟩ := K
  obtain ⟨hx, hb, hml, hnl, hown, hts, hK, hA, hfr, hlo, hmc, hms⟩ := F
  intro hcl h0 ad H locs LS h1 h2 h3 h4 h5
  exact lv_if_gt hx hb d ht (fun q => kt q (⟨hcl.1, clS_tail hcl.2.1, hcl.2.2⟩) h0 ad H locs LS h1 h2 h3 h4 h5) (fun q => kf q (⟨hcl.1, clS_tail hcl.2.1, hcl.2.2⟩) h0 ad H locs LS h1 h2 h3 h4 h5)
theorem g_ic_gt {K : Cx} {own : String} {cc : ByteArray} {nL fr mc ms k n pc : Nat} {ls : List (Nat × Value)} {st : List Value} {hp : Hp} (F : Fx K own cc nL fr mc ms) {x y : Int32} {off : Int} {tgt : Nat} (d : decode cc pc = .ok (.if_icmp .gt off, 3)) (ht : (pc : Int) + off = (tgt : Int)) (kt : y < x → Go K k n tgt ls st hp) (kf : ¬ y < x → Go K k n (pc + 3) ls st hp) : Go K k n pc ls (.int y :: .int x :: st) hp := by
  obtain ⟨p, l, e, R, s, m, args, below, meth, c, D, cA, A, Q, nL', n0, ad0⟩ := K
  obtain ⟨hx, hb, hml, hnl, hown, hts, hK, hA, hfr, hlo, hmc, hms⟩ := F
  intro hcl h0 ad H locs LS h1 h2 h3 h4 h5
  exact lv_icmp_gt hx hb d ht (fun q => kt q (⟨hcl.1, clS_tail (clS_tail hcl.2.1), hcl.2.2⟩) h0 ad H locs LS h1 h2 h3 h4 h5) (fun q => kf q (⟨hcl.1, clS_tail (clS_tail hcl.2.1), hcl.2.2⟩) h0 ad H locs LS h1 h2 h3 h4 h5)
theorem g_if_le {K : Cx} {own : String} {cc : ByteArray} {nL fr mc ms k n pc : Nat} {ls : List (Nat × Value)} {st : List Value} {hp : Hp} (F : Fx K own cc nL fr mc ms) {x : Int32} {off : Int} {tgt : Nat} (d : decode cc pc = .ok (.ifCond .le off, 3)) (ht : (pc : Int) + off = (tgt : Int)) (kt : x ≤ 0 → Go K k n tgt ls st hp) (kf : ¬ x ≤ 0 → Go K k n (pc + 3) ls st hp) : Go K k n pc ls (.int x :: st) hp := by
  obtain ⟨p, l, e, R, s, m, args, below, meth, c, D, cA, A, Q, nL', n0, ad0⟩ := K
  obtain ⟨hx, hb, hml, hnl, hown, hts, hK, hA, hfr, hlo, hmc, hms⟩ := F
  intro hcl h0 ad H locs LS h1 h2 h3 h4 h5
  exact lv_if_le hx hb d ht (fun q => kt q (⟨hcl.1, clS_tail hcl.2.1, hcl.2.2⟩) h0 ad H locs LS h1 h2 h3 h4 h5) (fun q => kf q (⟨hcl.1, clS_tail hcl.2.1, hcl.2.2⟩) h0 ad H locs LS h1 h2 h3 h4 h5)
theorem g_ic_le {K : Cx} {own : String} {cc : ByteArray} {nL fr mc ms k n pc : Nat} {ls : List (Nat × Value)} {st : List Value} {hp : Hp} (F : Fx K own cc nL fr mc ms) {x y : Int32} {off : Int} {tgt : Nat} (d : decode cc pc = .ok (.if_icmp .le off, 3)) (ht : (pc : Int) + off = (tgt : Int)) (kt : x ≤ y → Go K k n tgt ls st hp) (kf : ¬ x ≤ y → Go K k n (pc + 3) ls st hp) : Go K k n pc ls (.int y :: .int x :: st) hp := by
  obtain ⟨p, l, e, R, s, m, args, below, meth, c, D, cA, A, Q, nL', n0, ad0⟩ := K
  obtain ⟨hx, hb, hml, hnl, hown, hts, hK, hA, hfr, hlo, hmc, hms⟩ := F
  intro hcl h0 ad H locs LS h1 h2 h3 h4 h5
  exact lv_icmp_le hx hb d ht (fun q => kt q (⟨hcl.1, clS_tail (clS_tail hcl.2.1), hcl.2.2⟩) h0 ad H locs LS h1 h2 h3 h4 h5) (fun q => kf q (⟨hcl.1, clS_tail (clS_tail hcl.2.1), hcl.2.2⟩) h0 ad H locs LS h1 h2 h3 h4 h5)
theorem g_ifnonnull {K : Cx} {own : String} {cc : ByteArray} {nL fr mc ms k n pc : Nat} {ls : List (Nat × Value)} {st : List Value} {hp : Hp} (F : Fx K own cc nL fr mc ms) {x : Nat} {off : Int} {tgt : Nat} (d : decode cc pc = .ok (.ifnonnull off, 3)) (ht : (pc : Int) + off = (tgt : Int)) (kk : Go K k n (tgt) (ls) (st) (hp)) : Go K k n (pc) (ls) (.ref x :: st) (hp) := by
  obtain ⟨p, l, e, R, s, m, args, below, meth, c, D, cA, A, Q, nL', n0, ad0⟩ := K
  obtain ⟨hx, hb, hml, hnl, hown, hts, hK, hA, hfr, hlo, hmc, hms⟩ := F
  intro hcl h0 ad H locs LS h1 h2 h3 h4 h5
  exact lv_ifnonnull hx hb d ht (kk (⟨hcl.1, clS_tail hcl.2.1, hcl.2.2⟩) h0 ad H locs LS h1 h2 h3 h4 h5)
theorem g_ifnull {K : Cx} {own : String} {cc : ByteArray} {nL fr mc ms k n pc : Nat} {ls : List (Nat × Value)} {st : List Value} {hp : Hp} (F : Fx K own cc nL fr mc ms) {x : Nat} {off : Int} (d : decode cc pc = .ok (.ifnull off, 3)) (kk : Go K k n (pc + 3) (ls) (st) (hp)) : Go K k n (pc) (ls) (.ref x :: st) (hp) := by
  obtain ⟨p, l, e, R, s, m, args, below, meth, c, D, cA, A, Q, nL', n0, ad0⟩ := K
  obtain ⟨hx, hb, hml, hnl, hown, hts, hK, hA, hfr, hlo, hmc, hms⟩ := F
  intro hcl h0 ad H locs LS h1 h2 h3 h4 h5
  exact lv_ifnull hx hb d (kk (⟨hcl.1, clS_tail hcl.2.1, hcl.2.2⟩) h0 ad H locs LS h1 h2 h3 h4 h5)
theorem g_ifnullN {K : Cx} {own : String} {cc : ByteArray} {nL fr mc ms k n pc : Nat} {ls : List (Nat × Value)} {st : List Value} {hp : Hp} (F : Fx K own cc nL fr mc ms) {off : Int} {tgt : Nat} (d : decode cc pc = .ok (.ifnull off, 3)) (ht : (pc : Int) + off = (tgt : Int)) (kk : Go K k n (tgt) (ls) (st) (hp)) : Go K k n (pc) (ls) (.null :: st) (hp) := by
  obtain ⟨p, l, e, R, s, m, args, below, meth, c, D, cA, A, Q, nL', n0, ad0⟩ := K
  obtain ⟨hx, hb, hml, hnl, hown, hts, hK, hA, hfr, hlo, hmc, hms⟩ := F
  intro hcl h0 ad H locs LS h1 h2 h3 h4 h5
  exact lv_ifnullN hx hb d ht (kk (⟨hcl.1, clS_tail hcl.2.1, hcl.2.2⟩) h0 ad H locs LS h1 h2 h3 h4 h5)
theorem g_ifnonnullN {K : Cx} {own : String} {cc : ByteArray} {nL fr mc ms k n pc : Nat} {ls : List (Nat × Value)} {st : List Value} {hp : Hp} (F : Fx K own cc nL fr mc ms) {off : Int} (d : decode cc pc = .ok (.ifnonnull off, 3)) (kk : Go K k n (pc + 3) (ls) (st) (hp)) : Go K k n (pc) (ls) (.null :: st) (hp) := by
  obtain ⟨p, l, e, R, s, m, args, below, meth, c, D, cA, A, Q, nL', n0, ad0⟩ := K
  obtain ⟨hx, hb, hml, hnl, hown, hts, hK, hA, hfr, hlo, hmc, hms⟩ := F
  intro hcl h0 ad H locs LS h1 h2 h3 h4 h5
  exact lv_ifnonnullN hx hb d (kk (⟨hcl.1, clS_tail hcl.2.1, hcl.2.2⟩) h0 ad H locs LS h1 h2 h3 h4 h5)
theorem g_lookup {K : Cx} {own : String} {cc : ByteArray} {nL fr mc ms k n pc : Nat} {ls : List (Nat × Value)} {st : List Value} {hp : Hp} (F : Fx K own cc nL fr mc ms) {dflt : Int} {ps : Array (Int × Int)} {len : Nat} {x : Int32} {off : Int} {tgt : Nat} (d : decode cc pc = .ok (.lookupswitch dflt ps, len)) (hs : (ps.toList.zip (ps.toList.drop 1)).all (fun (a, next) => a.1 < next.1) = true) (ho : Op.lookupswitch.offset ps.toList dflt x.toInt = off) (ht : (pc : Int) + off = (tgt : Int)) (kk : Go K k n (tgt) (ls) (st) (hp)) : Go K k n (pc) (ls) (.int x :: st) (hp) := by
  obtain ⟨p, l, e, R, s, m, args, below, meth, c, D, cA, A, Q, nL', n0, ad0⟩ := K
  obtain ⟨hx, hb, hml, hnl, hown, hts, hK, hA, hfr, hlo, hmc, hms⟩ := F
  intro hcl h0 ad H locs LS h1 h2 h3 h4 h5
  exact lv_lookup hx hb d hs ho ht (kk (⟨hcl.1, clS_tail hcl.2.1, hcl.2.2⟩) h0 ad H locs LS h1 h2 h3 h4 h5)
theorem g_tableOut {K : Cx} {own : String} {cc : ByteArray} {nL fr mc ms k n pc : Nat} {ls : List (Nat × Value)} {st : List Value} {hp : Hp} (F : Fx K own cc nL fr mc ms) {dflt lo hi : Int} {offs : Array Int} {len : Nat} {x : Int32} {tgt : Nat} (d : decode cc pc = .ok (.tableswitch dflt lo hi offs, len)) (h : x.toInt < lo ∨ hi < x.toInt) (ht : (pc : Int) + dflt = (tgt : Int)) (kk : Go K k n (tgt) (ls) (st) (hp)) : Go K k n (pc) (ls) (.int x :: st) (hp) := by
  obtain ⟨p, l, e, R, s, m, args, below, meth, c, D, cA, A, Q, nL', n0, ad0⟩ := K
  obtain ⟨hx, hb, hml, hnl, hown, hts, hK, hA, hfr, hlo, hmc, hms⟩ := F
  intro hcl h0 ad H locs LS h1 h2 h3 h4 h5
  exact lv_tableOut hx hb d h ht (kk (⟨hcl.1, clS_tail hcl.2.1, hcl.2.2⟩) h0 ad H locs LS h1 h2 h3 h4 h5)
theorem g_tableIn {K : Cx} {own : String} {cc : ByteArray} {nL fr mc ms k n pc : Nat} {ls : List (Nat × Value)} {st : List Value} {hp : Hp} (F : Fx K own cc nL fr mc ms) {dflt lo hi : Int} {offs : Array Int} {len : Nat} {x : Int32} {off : Int} {tgt : Nat} (d : decode cc pc = .ok (.tableswitch dflt lo hi offs, len)) (h6 : ¬ x.toInt < lo) (h7 : ¬ hi < x.toInt) (ho : offs[(x.toInt - lo).toNat]? = some off) (ht : (pc : Int) + off = (tgt : Int)) (kk : Go K k n (tgt) (ls) (st) (hp)) : Go K k n (pc) (ls) (.int x :: st) (hp) := by
  obtain ⟨p, l, e, R, s, m, args, below, meth, c, D, cA, A, Q, nL', n0, ad0⟩ := K
  obtain ⟨hx, hb, hml, hnl, hown, hts, hK, hA, hfr, hlo, hmc, hms⟩ := F
  intro hcl h0 ad H locs LS h1 h2 h3 h4 h5
  exact lv_tableIn hx hb d h6 h7 ho ht (kk (⟨hcl.1, clS_tail hcl.2.1, hcl.2.2⟩) h0 ad H locs LS h1 h2 h3 h4 h5)
/-- a class of ours by its number: the tables' words on its fields -/
def Fc (ci : Nat) (C : String) (T : u_T) (N : Nat) (ty : Nat → FieldType) : Prop := vwCl[ci]? = some (C, T, N) ∧ (∀ w ∈ u_ws C T N, w ∈ TB) ∧ (∀ k, k < N → parseFieldDescriptor (T k).2.2.1 = some (ty k)) ∧ (∀ a, a < N → ∀ b, b < N → a ≠ b → (T a).2.1 ≠ (T b).2.1)
/-- the pool's entry idx of the class own names field j of class ci -/
def FL (own : String) (idx ci j : Nat) (ty : FieldType) (fin : Bool) : Prop := ∃ (C : String) (T : u_T) (N : Nat) (t : Nat → FieldType), Fc ci C T N t ∧ j < N ∧ (T j).1 = C ∧ Cond.fieldLink own idx C (T j).2.1 (T j).2.2.1 ∈ TB ∧ t j = ty ∧ (T j).2.2.2 = fin
theorem g_getf {K : Cx} {own : String} {cc : ByteArray} {nL fr mc ms k n pc : Nat} {ls : List (Nat × Value)} {st : List Value} {hp : Hp} (F : Fx K own cc nL fr mc ms) {idx ci j q : Nat} {ty : FieldType} {fin : Bool} {fs : List Value} {v : Value} (f : FL own idx ci j ty fin) (d : decode cc pc = .ok (.getfield idx, 3)) (he : hp[q]? = some (.inr (ci, fs))) (hv : fs[j]? = some v) (kk : Go K k n (pc + 3) (ls) (v :: st) (hp)) : Go K k n (pc) (ls) (.ref q :: st) (hp) := by
  obtain ⟨p, l, e, R, s, m, args, below, meth, c, D, cA, A, Q, nL', n0, ad0⟩ := K
  obtain ⟨hx, hb, hml, hnl, hown, hts, hK, hA, hfr, hlo, hmc, hms⟩ := F
  intro hcl h0 ad H locs LS h1 h2 h3 h4 h5
  obtain ⟨C, T, N, t, ⟨f1, f2, f3, f4⟩, g1, g2, g3, g4, g5⟩ := f
  exact va_get (Ts := TB) hx hb hts f2 hown hK.1 h2 q (wM_get he) f1 j g1 (hts _ g3) (fun x hx => by rw [g2] at hx; exact hx) (v := vM ad v) (by rw [List.getElem?_map, hv]; rfl) d (kk ⟨hcl.1, clS_push (clH_get hcl.2.2 he v (List.mem_of_getElem? hv)) (clS_tail hcl.2.1), hcl.2.2⟩ h0 ad H locs LS h1 h2 h3 h4 h5)
theorem g_putf {K : Cx} {own : String} {cc : ByteArray} {nL fr mc ms k n pc : Nat} {ls : List (Nat × Value)} {st : List Value} {hp : Hp} (F : Fx K own cc nL fr mc ms) {idx ci j q : Nat} {fs : List Value} {x : Int32} (f : FL own idx ci j .int false) (d : decode cc pc = .ok (.putfield idx, 3)) (he : hp[q]? = some (.inr (ci, fs))) (hj : j < fs.length) (kk : Go K k n (pc + 3) (ls) (st) (hp.set q (.inr (ci, fs.set j (.int x))))) : Go K k n (pc) (ls) (.int x :: .ref q :: st) (hp) := by
  obtain ⟨p, l, e, R, s, m, args, below, meth, c, D, cA, A, Q, nL', n0, ad0⟩ := K
  obtain ⟨hx, hb, hml, hnl, hown, hts, hK, hA, hfr, hlo, hmc, hms⟩ := F
  intro hcl h0 ad H locs LS h1 h2 h3 h4 h5
  obtain ⟨C, T, N, t, ⟨f1, f2, f3, f4⟩, g1, g2, g3, g4, g5⟩ := f
  have e : (wM ad cA hp).set q (ad q, .inr (ci, (fs.map (vM ad)).set j (Value.int x))) = wM ad cA (hp.set q (.inr (ci, fs.set j (.int x)))) := by
    rw [show Value.int x = vM ad (.int x) from rfl, ← List.map_set]
    exact wM_set q (.inr (ci, fs.set j (.int x)))
  refine va_put (Ts := TB) (ty := .int) (v := .int x) hx hb hts f2 t f3 f4 hown hK.1 h2 h3 h4 q (wM_get he) f1 j g1 (hts _ g3) (fun x hx => by rw [g2] at hx; exact hx) g5 (g4 ▸ f3 j g1) rfl rfl (by rw [List.length_map]; exact hj) d (fun H1 locs1 a1 a2 a3 => ?_)
  rw [e] at a1 a2
  have hlen : (hp.set q (.inr (ci, fs.set j (.int x)))).length = hp.length := List.length_set
  refine kk ?_ (by rw [hlen]; exact h0) ad H1 locs1 LS h1 a1 a2 a3 h5
  unfold clAll
  rw [hlen]
  exact ⟨hcl.1, clS_tail (clS_tail hcl.2.1), clH_set (fun x hx => (List.mem_or_eq_of_mem_set hx).elim (clH_get hcl.2.2 he x) (fun z => z ▸ clS_head hcl.2.1)) hcl.2.2⟩
theorem g_putz {K : Cx} {own : String} {cc : ByteArray} {nL fr mc ms k n pc : Nat} {ls : List (Nat × Value)} {st : List Value} {hp : Hp} (F : Fx K own cc nL fr mc ms) {idx ci j q : Nat} {fs : List Value} {x : Int32} (f : FL own idx ci j .boolean false) (d : decode cc pc = .ok (.putfield idx, 3)) (he : hp[q]? = some (.inr (ci, fs))) (hj : j < fs.length) (hz : narrow .boolean (.int x) = .int x) (hz2 : fits .boolean (.int x) = true) (kk : Go K k n (pc + 3) (ls) (st) (hp.set q (.inr (ci, fs.set j (.int x))))) : Go K k n (pc) (ls) (.int x :: .ref q :: st) (hp) := by
  obtain ⟨p, l, e, R, s, m, args, below, meth, c, D, cA, A, Q, nL', n0, ad0⟩ := K
  obtain ⟨hx, hb, hml, hnl, hown, hts, hK, hA, hfr, hlo, hmc, hms⟩ := F
  intro hcl h0 ad H locs LS h1 h2 h3 h4 h5
  obtain ⟨C, T, N, t, ⟨f1, f2, f3, f4⟩, g1, g2, g3, g4, g5⟩ := f
  have e : (wM ad cA hp).set q (ad q, .inr (ci, (fs.map (vM ad)).set j (Value.int x))) = wM ad cA (hp.set q (.inr (ci, fs.set j (.int x)))) := by
    rw [show Value.int x = vM ad (.int x) from rfl, ← List.map_set]
    exact wM_set q (.inr (ci, fs.set j (.int x)))
  refine va_put (Ts := TB) (ty := .boolean) (v := .int x) hx hb hts f2 t f3 f4 hown hK.1 h2 h3 h4 q (wM_get he) f1 j g1 (hts _ g3) (fun x hx => by rw [g2] at hx; exact hx) g5 (g4 ▸ f3 j g1) hz hz2 (by rw [List.length_map]; exact hj) d (fun H1 locs1 a1 a2 a3 => ?_)
  rw [e] at a1 a2
  have hlen : (hp.set q (.inr (ci, fs.set j (.int x)))).length = hp.length := List.length_set
  refine kk ?_ (by rw [hlen]; exact h0) ad H1 locs1 LS h1 a1 a2 a3 h5
  unfold clAll
  rw [hlen]
  exact ⟨hcl.1, clS_tail (clS_tail hcl.2.1), clH_set (fun x hx => (List.mem_or_eq_of_mem_set hx).elim (clH_get hcl.2.2 he x) (fun z => z ▸ clS_head hcl.2.1)) hcl.2.2⟩
theorem g_iald {K : Cx} {own : String} {cc : ByteArray} {nL fr mc ms k n pc : Nat} {ls : List (Nat × Value)} {st : List Value} {hp : Hp} (F : Fx K own cc nL fr mc ms) {q a : Nat} {f : Nat → Int32} {i : Int32} (d : decode cc pc = .ok (.iaload, 1)) (ha : hp[q]? = some (.inl (.int, a, .inl f))) (hi : vp_in i a) (kk : Go K k n (pc + 1) (ls) (.int (f i.toNatClampNeg) :: st) (hp)) : Go K k n (pc) (ls) (.int i :: .ref q :: st) (hp) := by
  obtain ⟨p, l, e, R, s, m, args, below, meth, c, D, cA, A, Q, nL', n0, ad0⟩ := K
  obtain ⟨hx, hb, hml, hnl, hown, hts, hK, hA, hfr, hlo, hmc, hms⟩ := F
  intro hcl h0 ad H locs LS h1 h2 h3 h4 h5
  exact va_iald hx hb hK.1 h2 q 0 (wM_get ha) rfl hi d (kk (⟨hcl.1, clS_push trivial (clS_tail (clS_tail hcl.2.1)), hcl.2.2⟩) h0 ad H locs LS h1 h2 h3 h4 h5)
theorem g_lald {K : Cx} {own : String} {cc : ByteArray} {nL fr mc ms k n pc : Nat} {ls : List (Nat × Value)} {st : List Value} {hp : Hp} (F : Fx K own cc nL fr mc ms) {q a : Nat} {f : Nat → Int64} {i : Int32} (d : decode cc pc = .ok (.laload, 1)) (ha : hp[q]? = some (.inl (.long, a, .inr (.inl f)))) (hi : vp_in i a) (kk : Go K k n (pc + 1) (ls) (.long (f i.toNatClampNeg) :: st) (hp)) : Go K k n (pc) (ls) (.int i :: .ref q :: st) (hp) := by
  obtain ⟨p, l, e, R, s, m, args, below, meth, c, D, cA, A, Q, nL', n0, ad0⟩ := K
  obtain ⟨hx, hb, hml, hnl, hown, hts, hK, hA, hfr, hlo, hmc, hms⟩ := F
  intro hcl h0 ad H locs LS h1 h2 h3 h4 h5
  exact va_lald hx hb hK.1 h2 q 1 (wM_get ha) rfl hi d (kk (⟨hcl.1, clS_push trivial (clS_tail (clS_tail hcl.2.1)), hcl.2.2⟩) h0 ad H locs LS h1 h2 h3 h4 h5)
theorem g_iast {K : Cx} {own : String} {cc : ByteArray} {nL fr mc ms k n pc : Nat} {ls : List (Nat × Value)} {st : List Value} {hp : Hp} (F : Fx K own cc nL fr mc ms) {q a : Nat} {f : Nat → Int32} {i x : Int32} (d : decode cc pc = .ok (.iastore, 1)) (ha : hp[q]? = some (.inl (.int, a, .inl f))) (hi : vp_in i a) (kk : Go K k n (pc + 1) (ls) (st) (hp.set q (.inl (.int, a, .inl (upd f i.toNatClampNeg x))))) : Go K k n (pc) (ls) (.int x :: .int i :: .ref q :: st) (hp) := by
  obtain ⟨p, l, e, R, s, m, args, below, meth, c, D, cA, A, Q, nL', n0, ad0⟩ := K
  obtain ⟨hx, hb, hml, hnl, hown, hts, hK, hA, hfr, hlo, hmc, hms⟩ := F
  intro hcl h0 ad H locs LS h1 h2 h3 h4 h5
  refine va_iast hx hb hK.1 h2 h3 h4 q 0 (wM_get ha) rfl hi d (fun H1 locs1 a1 a2 a3 => ?_)
  have e : (wM ad cA hp).set q (ad q, .inl (cA .int, a, .inl (upd f i.toNatClampNeg x))) = wM ad cA (hp.set q (.inl (.int, a, .inl (upd f i.toNatClampNeg x)))) := wM_set q (.inl (.int, a, .inl (upd f i.toNatClampNeg x)))
  rw [e] at a1 a2
  refine kk ?_ (by rw [List.length_set]; exact h0) ad H1 locs1 LS h1 a1 a2 a3 h5
  unfold clAll
  rw [List.length_set]
  exact ⟨hcl.1, clS_tail (clS_tail (clS_tail hcl.2.1)), clH_set trivial hcl.2.2⟩
theorem g_last {K : Cx} {own : String} {cc : ByteArray} {nL fr mc ms k n pc : Nat} {ls : List (Nat × Value)} {st : List Value} {hp : Hp} (F : Fx K own cc nL fr mc ms) {q a : Nat} {f : Nat → Int64} {i : Int32} {x : Int64} (d : decode cc pc = .ok (.lastore, 1)) (ha : hp[q]? = some (.inl (.long, a, .inr (.inl f)))) (hi : vp_in i a) (kk : Go K k n (pc + 1) (ls) (st) (hp.set q (.inl (.long, a, .inr (.inl (vp_updL f i.toNatClampNeg x)))))) : Go K k n (pc) (ls) (.long x :: .int i :: .ref q :: st) (hp) := by
  obtain ⟨p, l, e, R, s, m, args, below, meth, c, D, cA, A, Q, nL', n0, ad0⟩ := K
  obtain ⟨hx, hb, hml, hnl, hown, hts, hK, hA, hfr, hlo, hmc, hms⟩ := F
  intro hcl h0 ad H locs LS h1 h2 h3 h4 h5
  refine va_last hx hb hK.1 h2 h3 h4 q 1 (wM_get ha) rfl hi d (fun H1 locs1 a1 a2 a3 => ?_)
  have e : (wM ad cA hp).set q (ad q, .inl (cA .long, a, .inr (.inl (vp_updL f i.toNatClampNeg x)))) = wM ad cA (hp.set q (.inl (.long, a, .inr (.inl (vp_updL f i.toNatClampNeg x))))) := wM_set q (.inl (.long, a, .inr (.inl (vp_updL f i.toNatClampNeg x))))
  rw [e] at a1 a2
  refine kk ?_ (by rw [List.length_set]; exact h0) ad H1 locs1 LS h1 a1 a2 a3 h5
  unfold clAll
  rw [List.length_set]
  exact ⟨hcl.1, clS_tail (clS_tail (clS_tail hcl.2.1)), clH_set trivial hcl.2.2⟩
theorem g_aald {K : Cx} {own : String} {cc : ByteArray} {nL fr mc ms k n pc : Nat} {ls : List (Nat × Value)} {st : List Value} {hp : Hp} (F : Fx K own cc nL fr mc ms) {q a j : Nat} {f : Nat → Option Nat} {i : Int32} (d : decode cc pc = .ok (.aaload, 1)) (ha : hp[q]? = some (.inl (.object RX2, a, .inr (.inr (.inr (.inr f)))))) (hi : vp_in i a) (hv : f i.toNatClampNeg = some j) (kk : Go K k n (pc + 1) (ls) (.ref j :: st) (hp)) : Go K k n (pc) (ls) (.int i :: .ref q :: st) (hp) := by
  obtain ⟨p, l, e, R, s, m, args, below, meth, c, D, cA, A, Q, nL', n0, ad0⟩ := K
  obtain ⟨hx, hb, hml, hnl, hown, hts, hK, hA, hfr, hlo, hmc, hms⟩ := F
  intro hcl h0 ad H locs LS h1 h2 h3 h4 h5
  refine va_aldq (C := RX2) hx hb hK.1 h2 q 2 (wM_get ha) rfl hi d ?_
  show W _ _ _ _ _ _ _ _ _ _ _ _ _ _ _ (F0 m (pc + 1) LS (va_rf ((f i.toNatClampNeg).map ad) :: st.map (vM ad)))
  rw [hv]
  exact kk ⟨hcl.1, clS_push (clH_get hcl.2.2 ha _ j hv) (clS_tail (clS_tail hcl.2.1)), hcl.2.2⟩ h0 ad H locs LS h1 h2 h3 h4 h5
theorem g_alen {K : Cx} {own : String} {cc : ByteArray} {nL fr mc ms k n pc : Nat} {ls : List (Nat × Value)} {st : List Value} {hp : Hp} (F : Fx K own cc nL fr mc ms) {q a : Nat} {f : Nat → Int32} {v : Int32} (d : decode cc pc = .ok (.arraylength, 1)) (ha : hp[q]? = some (.inl (.int, a, .inl f))) (hv : Int32.ofNat a = v) (kk : Go K k n (pc + 1) (ls) (.int v :: st) (hp)) : Go K k n (pc) (ls) (.ref q :: st) (hp) := by
  obtain ⟨p, l, e, R, s, m, args, below, meth, c, D, cA, A, Q, nL', n0, ad0⟩ := K
  obtain ⟨hx, hb, hml, hnl, hown, hts, hK, hA, hfr, hlo, hmc, hms⟩ := F
  intro hcl h0 ad H locs LS h1 h2 h3 h4 h5
  exact va_alen hx hb hK.1 h2 q 0 (wM_get ha) (ty := .int) rfl hv d (kk (⟨hcl.1, clS_push trivial (clS_tail hcl.2.1), hcl.2.2⟩) h0 ad H locs LS h1 h2 h3 h4 h5)
theorem g_mmax {K : Cx} {own : String} {cc : ByteArray} {nL fr mc ms k n pc : Nat} {ls : List (Nat × Value)} {st : List Value} {hp : Hp} (F : Fx K own cc nL fr mc ms) {idx : Nat} {x y : Int32} (d : decode cc pc = .ok (.invokestatic idx, 3)) (hl : Cond.methodLink own idx Lib.Math.max.name ∈ TB) (hf : 1 ≤ fr) (hr : (st.map fun v => v.category).sum ≤ 8) (hk : k ≤ mc) (hn : n ≤ ms) (kk : Go K k n (pc + 3) (ls) (.int (if x < y then y else x) :: st) (hp)) : Go K k n (pc) (ls) (.int y :: .int x :: st) (hp) := by
  obtain ⟨p, l, e, R, s, m, args, below, meth, c, D, cA, A, Q, nL', n0, ad0⟩ := K
  obtain ⟨hx, hb, hml, hnl, hown, hts, hK, hA, hfr, hlo, hmc, hms⟩ := F
  intro hcl h0 ad H locs LS h1 h2 h3 h4 h5
  have hsz : c.maxLocals = LS.size := by rw [hml, ← hnl]; exact h5.1.symm
  have hcat : ((st.map (vM ad)).map fun v => v.category).sum = (st.map fun v => v.category).sum := by rw [List.map_map]; congr 1; exact List.map_congr_left (fun v _ => vM_cat ad v)
  refine va_mmax hx hb hsz hown (hts _ hl) (hts _ tb_max_s) (hts _ tb_mathini) (hts _ tb_max_c) (Nat.le_trans hf hfr) (by rw [hcat]; omega) ?_ ?_ d (kk (⟨hcl.1, clS_push trivial (clS_tail (clS_tail hcl.2.1)), hcl.2.2⟩) h0 ad H locs LS h1 h2 h3 h4 h5)
  · exact Nat.le_trans hk hmc
  · exact Nat.le_trans hn hms
theorem g_mmin {K : Cx} {own : String} {cc : ByteArray} {nL fr mc ms k n pc : Nat} {ls : List (Nat × Value)} {st : List Value} {hp : Hp} (F : Fx K own cc nL fr mc ms) {idx : Nat} {x y : Int32} (d : decode cc pc = .ok (.invokestatic idx, 3)) (hl : Cond.methodLink own idx Lib.Math.min.name ∈ TB) (hf : 1 ≤ fr) (hr : (st.map fun v => v.category).sum ≤ 8) (hk : k ≤ mc) (hn : n ≤ ms) (kk : Go K k n (pc + 3) (ls) (.int (if y < x then y else x) :: st) (hp)) : Go K k n (pc) (ls) (.int y :: .int x :: st) (hp) := by
  obtain ⟨p, l, e, R, s, m, args, below, meth, c, D, cA, A, Q, nL', n0, ad0⟩ := K
  obtain ⟨hx, hb, hml, hnl, hown, hts, hK, hA, hfr, hlo, hmc, hms⟩ := F
  intro hcl h0 ad H locs LS h1 h2 h3 h4 h5
  have hsz : c.maxLocals = LS.size := by rw [hml, ← hnl]; exact h5.1.symm
  have hcat : ((st.map (vM ad)).map fun v => v.category).sum = (st.map fun v => v.category).sum := by rw [List.map_map]; congr 1; exact List.map_congr_left (fun v _ => vM_cat ad v)
  refine va_mmin hx hb hsz hown (hts _ hl) (hts _ tb_min_s) (hts _ tb_mathini) (hts _ tb_min_c) (Nat.le_trans hf hfr) (by rw [hcat]; omega) ?_ ?_ d (kk (⟨hcl.1, clS_push trivial (clS_tail (clS_tail hcl.2.1)), hcl.2.2⟩) h0 ad H locs LS h1 h2 h3 h4 h5)
  · exact Nat.le_trans hk hmc
  · exact Nat.le_trans hn hms
theorem g_mabs {K : Cx} {own : String} {cc : ByteArray} {nL fr mc ms k n pc : Nat} {ls : List (Nat × Value)} {st : List Value} {hp : Hp} (F : Fx K own cc nL fr mc ms) {idx : Nat} {x : Int32} (d : decode cc pc = .ok (.invokestatic idx, 3)) (hl : Cond.methodLink own idx Lib.Math.abs.name ∈ TB) (hf : 1 ≤ fr) (hr : (st.map fun v => v.category).sum ≤ 8) (hk : k ≤ mc) (hn : n ≤ ms) (kk : Go K k n (pc + 3) (ls) (.int (if 0 ≤ x then x else 0 - x) :: st) (hp)) : Go K k n (pc) (ls) (.int x :: st) (hp) := by
  obtain ⟨p, l, e, R, s, m, args, below, meth, c, D, cA, A, Q, nL', n0, ad0⟩ := K
  obtain ⟨hx, hb, hml, hnl, hown, hts, hK, hA, hfr, hlo, hmc, hms⟩ := F
  intro hcl h0 ad H locs LS h1 h2 h3 h4 h5
  have hsz : c.maxLocals = LS.size := by rw [hml, ← hnl]; exact h5.1.symm
  have hcat : ((st.map (vM ad)).map fun v => v.category).sum = (st.map fun v => v.category).sum := by rw [List.map_map]; congr 1; exact List.map_congr_left (fun v _ => vM_cat ad v)
  refine va_mabs hx hb hsz hown (hts _ hl) (hts _ tb_abs_s) (hts _ tb_mathini) (hts _ tb_abs_c) (Nat.le_trans hf hfr) (by rw [hcat]; omega) ?_ ?_ d (kk (⟨hcl.1, clS_push trivial (clS_tail hcl.2.1), hcl.2.2⟩) h0 ad H locs LS h1 h2 h3 h4 h5)
  · exact Nat.le_trans hk hmc
  · exact Nat.le_trans hn hms
/-! arraycopy between int arrays -/
theorem g_acopy {K : Cx} {own : String} {cc : ByteArray} {nL fr mc ms k n pc : Nat} {ls : List (Nat × Value)} {st : List Value} {hp : Hp} (F : Fx K own cc nL fr mc ms) {idx q0 q1 n0' n1' : Nat} {f g : Nat → Int32} {sp dp len : Int32} (d : decode cc pc = .ok (.invokestatic idx, 3)) (hl : Cond.methodLink own idx arraycopyName ∈ TB) (hf : 2 ≤ fr) (hr : (st.map fun v => v.category).sum ≤ 8)
    (e0 : hp[q0]? = some (.inl (.int, n0', .inl f))) (e1 : hp[q1]? = some (.inl (.int, n1', .inl g))) (c1 : ¬ sp < 0) (c2 : ¬ dp < 0) (c3 : ¬ len < 0) (c4 : sp.toNatClampNeg + len.toNatClampNeg ≤ n0') (c5 : dp.toNatClampNeg + len.toNatClampNeg ≤ n1')
    (kk : Go K k n (pc + 3) ls st (hp.set q1 (.inl (.int, n1', .inl (va_cpy f g sp.toNatClampNeg dp.toNatClampNeg len.toNatClampNeg))))) : Go K k n pc ls (.int len :: .int dp :: .ref q1 :: .int sp :: .ref q0 :: st) hp := by
  obtain ⟨p, l, e, R, s, m, args, below, meth, c, D, cA, A, Q, nL', n0, ad0⟩ := K
  obtain ⟨hx, hb, hml, hnl, hown, hts, hK, hA, hfr, hlo, hmc, hms⟩ := F
  intro hcl h0 ad H locs LS h1 h2 h3 h4 h5
  have hsz : c.maxLocals = LS.size := by rw [hml, ← hnl]; exact h5.1.symm
  have hcat : ((st.map (vM ad)).map fun v => v.category).sum = (st.map fun v => v.category).sum := by rw [List.map_map]; congr 1; exact List.map_congr_left (fun v _ => vM_cat ad v)
  refine va_copyi hx hb hsz hown (hts _ hl) (hts _ tb_copy_n) (hts _ tb_copy_s) (hts _ tb_copy_i) hK.1 h2 h3 h4 q0 q1 0 0 (wM_get e0) (wM_get e1) rfl rfl rfl c1 c2 c3 c4 c5 (fun _ _ => rfl) (Nat.le_trans (by omega) hfr) (by rw [hcat]; have e9 : nativeFrameWords "java/lang/System" "arraycopy" 5 + 11 ≤ 72 := tb_copy_w; omega) d (fun H1 locs1 a1 a2 a3 => ?_)
  have e9 := wM_set (ad := ad) (cA := cA) (hp := hp) q1 (.inl (.int, n1', .inl (va_cpy f g sp.toNatClampNeg dp.toNatClampNeg len.toNatClampNeg)))
  replace a1 := e9 ▸ a1
  replace a2 := e9 ▸ a2
  refine kk ?_ (by rw [List.length_set]; exact h0) ad H1 locs1 LS h1 a1 a2 a3 h5
  unfold clAll
  rw [List.length_set]
  exact ⟨hcl.1, clS_tail (clS_tail (clS_tail (clS_tail (clS_tail hcl.2.1)))), clH_set trivial hcl.2.2⟩
/-! contracts -/
def CQ (D : va_G) (cA : FieldType → ClassId) (ad : Nat → Nat) (hp : Hp) (sz : Nat) (Qp : Option Value → Hp → Prop) (mc : Nat) : State → Outcome → State → Prop := fun st oc t =>
  (∃ (v : Option Value) (hp2 : Hp) (ad2 : Nat → Nat), oc = .returned (v.map (vM ad2)) ∧ Qp v hp2 ∧ hp2.length = hp.length + mc ∧ (∀ w, v = some w → clV hp2.length w) ∧ clH hp2.length hp2 ∧ (∀ j, j < hp.length → ad2 j = ad j) ∧ va_P D vwCl (wM ad2 cA hp2) t.heap ∧ va_D (va_A (wM ad cA hp) sz) (wM ad2 cA hp2)) ∧ va_F (va_A (wM ad cA hp) sz) st t
/-- a method's contract with handles: on cells hp it ends with Qp -/
def Ctr (y : MethodName) (cc : ByteArray) (nL : Nat) (ret : Option FieldType) (fr mc ms : Nat) (as : List Value) (hp : Hp) (Qp : Option Value → Hp → Prop) : Prop :=
  (clS hp.length as ∧ clH hp.length hp) ∧ ∀ (l : Launch) (D : va_G) (cA : FieldType → ClassId) (ad : Nat → Nat) (sz : Nat), Met l y (.code y cc nL ret :: TB) { frames := fr, cells := mc, slots := ms, locals := 40 * fr } (va_Pc (as.map (vM ad)) (fun U => U.heap.size = sz ∧ va_P D vwCl (wM ad cA hp) U.heap ∧ KK D cA U ∧ va_D (fun _ => True) (wM ad cA hp))) (fun _ => CQ D cA ad hp sz Qp mc) mc ms (va_A (wM ad cA hp) sz)
/-- what the end of the method asks -/
def Rx (K : Cx) (nm : String) (ret : Option FieldType) (hp0 : Hp) (Qp : Option Value → Hp → Prop) (mc ms : Nat) : Prop := match K with
  | (_, _, _, _, s, _, args, below, meth, _, D, cA, A, Q, _, n0, ad0) => meth.sig.returnType = ret ∧ meth.locks = false ∧ meth.name = nm ∧ n0 = hp0.length ∧ A = va_A (wM ad0 cA hp0) s.heap.size ∧ Q = MQ below (fun _ => CQ D cA ad0 hp0 s.heap.size Qp mc) args s mc ms A
theorem lv_args_map (ad : Nat → Nat) : ∀ (as : List Value) (i : Nat), lv_args i (as.map (vM ad)) = lM ad (lv_args i as)
  | [], _ => rfl
  | v :: t, i => by
    show (i, vM ad v) :: lv_args (if (vM ad v).category = 2 then i + 2 else i + 1) (t.map (vM ad)) = (i, vM ad v) :: lM ad (lv_args (if v.category = 2 then i + 2 else i + 1) t)
    rw [vM_cat, lv_args_map ad t]
theorem lg_sl_map (ad : Nat → Nat) (as : List Value) : (lg_sl (as.map (vM ad))).length = (lg_sl as).length := by
  induction as with
  | nil => rfl
  | cons v t ih =>
    simp only [lg_sl, List.map_cons, List.flatMap_cons, List.length_append] at ih ⊢
    rw [ih, vM_cat]
    by_cases h : v.category = 2 <;> simp [h]
theorem lv_args_val : ∀ (as : List Value) (i : Nat) (q : Nat × Value), q ∈ lv_args i as → q.2 ∈ as
  | v :: t, i, q, h => by
    rcases List.mem_cons.mp h with rfl | h
    · exact List.mem_cons_self
    · exact List.mem_cons_of_mem _ (lv_args_val t _ q h)
theorem Ctr.of {y : MethodName} {cc : ByteArray} {nL : Nat} {ret : Option FieldType} {fr mc ms : Nat} {as : List Value} {hp : Hp} {Qp : Option Value → Hp → Prop} (hy : plainName y.cls = true) (hn : (lg_sl as).length ≤ nL) (hc : clS hp.length as ∧ clH hp.length hp)
    (body : ∀ K : Cx, Fx K y.cls cc nL fr mc ms → Rx K y.name ret hp Qp mc ms → Go K 0 0 0 (lv_args 0 as) [] hp) : Ctr y cc nL ret fr mc ms as hp Qp := by
  refine ⟨hc, fun l D cA ad sz => ?_⟩
  refine Met.ofW (cc := cc) (maxL := nL) (ret := ret) hy rfl ?_
  intro p e s m args below meth c s₁ B hml hv
  obtain ⟨rfl, hsz, hP, hK, hD0⟩ := hv
  subst hsz
  have hts := atoms_spec (ws := .code y cc nL ret :: TB) B.pre
  have hD := hD0.self (sz := s.heap.size)
  have hl := lv_entry (as.map (vM ad)) (n := nL) (by rw [lg_sl_map]; exact hn)
  rw [lg_entry_eq]
  generalize (lg_sl (as.map (vM ad)) ++ List.replicate (nL - (lg_sl (as.map (vM ad))).length) Slot.unset).toArray = LS at hl ⊢
  rw [lv_args_map] at hl
  have G := body (p, l, e, (headSpec (.code y cc nL ret :: TB) { frames := fr, cells := mc, slots := ms, locals := 40 * fr }).room, s, m, (as.map (vM ad)).toArray, below, meth, c, D, cA, va_A (wM ad cA hp) s.heap.size, MQ below (fun _ => CQ D cA ad hp s.heap.size Qp mc) (as.map (vM ad)).toArray s mc ms (va_A (wM ad cA hp) s.heap.size), nL, hp.length, ad)
    ⟨B.exec, B.bytes, hml, rfl, findClass_of_methodNamed B.named, fun w hw => hts w (List.mem_cons_of_mem _ hw), hK, fun q h => Or.inr h, Nat.le_refl _, Nat.le_refl _, Nat.le_refl _, Nat.le_refl _⟩
    ⟨B.returns, B.notSynchronized, (name_of_methodNamed B.named B.method).1, rfl, rfl, rfl⟩
  exact G ⟨fun q hq => hc.1 _ (lv_args_val _ _ _ hq), fun v hv => absurd hv List.not_mem_nil, hc.2⟩ (Nat.le_refl _) ad s.heap [] LS (fun _ _ => rfl) hP hD va_S.rf hl
section Ends1
variable {K : Cx} {own : String} {cc : ByteArray} {nL fr mc ms k n pc : Nat} {ls : List (Nat × Value)} {hp hp0 : Hp} {nm : String} {Qp : Option Value → Hp → Prop}
theorem g_iret (F : Fx K own cc nL fr mc ms) (X : Rx K nm (some .int) hp0 Qp mc ms) {v : Int32} (d : decode cc pc = .ok (.ireturn, 1)) (hk : k ≤ mc) (hn : n ≤ ms) (hl : hp.length = hp0.length + mc) (q : Qp (some (.int v)) hp) : Go K k n pc ls [.int v] hp := by
  obtain ⟨p, l, e, R, s, m, args, below, meth, c, D, cA, A, Q, nL', n0, ad0⟩ := K
  obtain ⟨hx, hb, -⟩ := F
  obtain ⟨hr, hlocks, hnm, rfl, rfl, rfl⟩ := X
  intro hcl h0 ad H locs LS h1 h2 h3 h4 h5
  refine W.widen hk hn ?_
  exact W.iret hx hb hr (fun t ht hW => ⟨⟨some (.int v), hp, ad, rfl, q, hl, fun w hw => by cases hw; exact trivial, hcl.2.2, h1, by rw [ht]; exact h2, h3⟩, h4.F ht⟩) h4.2.2 d hlocks
theorem g_zret (F : Fx K own cc nL fr mc ms) (X : Rx K nm (some .boolean) hp0 Qp mc ms) {v : Int32} (d : decode cc pc = .ok (.ireturn, 1)) (hz : narrow .boolean (.int v) = .int v) (hk : k ≤ mc) (hn : n ≤ ms) (hl : hp.length = hp0.length + mc) (q : Qp (some (.int v)) hp) : Go K k n pc ls [.int v] hp := by
  obtain ⟨p, l, e, R, s, m, args, below, meth, c, D, cA, A, Q, nL', n0, ad0⟩ := K
  obtain ⟨hx, hb, -⟩ := F
  obtain ⟨hr, hlocks, hnm, rfl, rfl, rfl⟩ := X
  intro hcl h0 ad H locs LS h1 h2 h3 h4 h5
  refine W.widen hk hn ?_
  exact W.zret hx hb hr hz (fun t ht hW => ⟨⟨some (.int v), hp, ad, rfl, q, hl, fun w hw => by cases hw; exact trivial, hcl.2.2, h1, by rw [ht]; exact h2, h3⟩, h4.F ht⟩) h4.2.2 d hlocks
theorem g_lret (F : Fx K own cc nL fr mc ms) (X : Rx K nm (some .long) hp0 Qp mc ms) {v : Int64} (d : decode cc pc = .ok (.lreturn, 1)) (hk : k ≤ mc) (hn : n ≤ ms) (hl : hp.length = hp0.length + mc) (q : Qp (some (.long v)) hp) : Go K k n pc ls [.long v] hp := by
  obtain ⟨p, l, e, R, s, m, args, below, meth, c, D, cA, A, Q, nL', n0, ad0⟩ := K
  obtain ⟨hx, hb, -⟩ := F
  obtain ⟨hr, hlocks, hnm, rfl, rfl, rfl⟩ := X
  intro hcl h0 ad H locs LS h1 h2 h3 h4 h5
  refine W.widen hk hn ?_
  exact W.lret hx hb hr (fun t ht hW => ⟨⟨some (.long v), hp, ad, rfl, q, hl, fun w hw => by cases hw; exact trivial, hcl.2.2, h1, by rw [ht]; exact h2, h3⟩, h4.F ht⟩) h4.2.2 d hlocks
theorem g_vret (F : Fx K own cc nL fr mc ms) (X : Rx K nm none hp0 Qp mc ms) (d : decode cc pc = .ok (.return_, 1)) (hk : k ≤ mc) (hn : n ≤ ms) (hl : hp.length = hp0.length + mc) (q : Qp none hp) : Go K k n pc ls [] hp := by
  obtain ⟨p, l, e, R, s, m, args, below, meth, c, D, cA, A, Q, nL', n0, ad0⟩ := K
  obtain ⟨hx, hb, -⟩ := F
  obtain ⟨hr, hlocks, hnm, rfl, rfl, rfl⟩ := X
  intro hcl h0 ad H locs LS h1 h2 h3 h4 h5
  refine W.widen hk hn ?_
  exact W.vret hx hb hr (fun t ht hW => ⟨⟨none, hp, ad, rfl, q, hl, fun w hw => (by cases hw), hcl.2.2, h1, by rw [ht]; exact h2, h3⟩, h4.F ht⟩) h4.2.2 d hlocks
theorem g_aret (F : Fx K own cc nL fr mc ms) {C : String} (X : Rx K nm (some (.object C)) hp0 Qp mc ms) {v : Value} (d : decode cc pc = .ok (.areturn, 1)) (hv : v = .null ∨ ∃ a, v = .ref a) (hk : k ≤ mc) (hn : n ≤ ms) (hl : hp.length = hp0.length + mc) (q : Qp (some v) hp) : Go K k n pc ls [v] hp := by
  obtain ⟨p, l, e, R, s, m, args, below, meth, c, D, cA, A, Q, nL', n0, ad0⟩ := K
  obtain ⟨hx, hb, -⟩ := F
  obtain ⟨hr, hlocks, hnm, rfl, rfl, rfl⟩ := X
  intro hcl h0 ad H locs LS h1 h2 h3 h4 h5
  refine W.widen hk hn ?_
  have hv2 : vM ad v = .null ∨ ∃ a, vM ad v = .ref a := by
    rcases hv with rfl | ⟨a, rfl⟩
    · exact Or.inl rfl
    · exact Or.inr ⟨_, rfl⟩
  exact W.aret hx hb hr (Or.inl ⟨_, rfl⟩) hv2 (fun t ht hW => ⟨⟨some v, hp, ad, rfl, q, hl, fun w hw => by cases hw; exact clS_head hcl.2.1, hcl.2.2, h1, by rw [ht]; exact h2, h3⟩, h4.F ht⟩) h4.2.2 d hlocks
end Ends1
/-! calls: the callee's cells are those of the caller at the places 'is' -/
def rho (is : List Nat) (N : Nat) (k : Nat) : Nat := is.getD k (N + (k - is.length))
def putAll : Hp → List Nat → Hp → Hp
  | hp, i :: is, e :: es => putAll (hp.set i e) is es
  | hp, _, _ => hp
def place (hp : Hp) (is : List Nat) (chp : Hp) : Hp := putAll hp is (chp.map (eH (rho is hp.length))) ++ (chp.drop is.length).map (eH (rho is hp.length))
def Sub (hp : Hp) (is : List Nat) (chp : Hp) : Prop := chp.map (fun e => some (eH (fun k => is.getD k 0) e)) = is.map (fun i => hp[i]?)
theorem putAll_len : ∀ (is : List Nat) (hp es : Hp), (putAll hp is es).length = hp.length
  | [], hp, es => by cases es <;> rfl
  | i :: is, hp, [] => rfl
  | i :: is, hp, e :: es => by
    show (putAll (hp.set i e) is es).length = _
    rw [putAll_len is, List.length_set]
theorem putAll_off {k : Nat} : ∀ (is : List Nat) (hp es : Hp), k ∉ is → (putAll hp is es)[k]? = hp[k]?
  | [], hp, es, _ => by cases es <;> rfl
  | i :: is, hp, [], _ => rfl
  | i :: is, hp, e :: es, h => by
    show (putAll (hp.set i e) is es)[k]? = _
    have hne : i ≠ k := fun q => h (by rw [q]; exact List.mem_cons_self)
    rw [putAll_off is _ _ (fun q => h (List.mem_cons_of_mem _ q)), List.getElem?_set_ne hne]
theorem va_nd_cons {i : Nat} {is : List Nat} (h : va_nd (i :: is) = true) : i ∉ is ∧ va_nd is = true := by
  have hi := va_nd_inj (i :: is) h
  constructor
  · intro q
    obtain ⟨j, hj⟩ := List.getElem?_of_mem q
    have := hi 0 (j + 1) i rfl hj
    omega
  · simp only [va_nd, Bool.and_eq_true] at h
    exact h.2
theorem putAll_at {k : Nat} : ∀ (is : List Nat) (hp es : Hp) (j : Nat), va_nd is = true → is[j]? = some k → k < hp.length → is.length ≤ es.length → (putAll hp is es)[k]? = es[j]?
  | i :: is, hp, [], j, _, _, _, hle => by simp at hle
  | i :: is, hp, e :: es, 0, hnd, hj, hk, hle => by
    have e9 : i = k := Option.some.inj hj
    subst e9
    show (putAll (hp.set i e) is es)[i]? = some e
    rw [putAll_off is _ _ (va_nd_cons hnd).1, List.getElem?_set_self hk]
  | i :: is, hp, e :: es, j + 1, hnd, hj, hk, hle => by
    show (putAll (hp.set i e) is es)[k]? = es[j]?
    exact putAll_at is _ es j (va_nd_cons hnd).2 hj (by rw [List.length_set]; exact hk) (by simp at hle; omega)
theorem Sub.len {hp : Hp} {is : List Nat} {chp : Hp} (h : Sub hp is chp) : chp.length = is.length := by
  have := congrArg List.length h
  simpa using this
theorem Sub.at {hp : Hp} {is : List Nat} {chp : Hp} (h : Sub hp is chp) {j : Nat} {e : Ce} (he : chp[j]? = some e) : ∃ i, is[j]? = some i ∧ hp[i]? = some (eH (fun k => is.getD k 0) e) := by
  have h2 : (chp.map (fun e => some (eH (fun k => is.getD k 0) e)))[j]? = (is.map (fun i => hp[i]?))[j]? := by rw [h]
  rw [List.getElem?_map, he, List.getElem?_map] at h2
  cases hi : is[j]? with
  | none => rw [hi] at h2; cases h2
  | some i =>
    rw [hi] at h2
    exact ⟨i, rfl, (Option.some.inj h2).symm⟩
theorem Sub.up {hp : Hp} {is : List Nat} {chp : Hp} (h : Sub hp is chp) {j i : Nat} (hi : is[j]? = some i) : ∃ e, chp[j]? = some e ∧ hp[i]? = some (eH (fun k => is.getD k 0) e) := by
  have hj : j < chp.length := by rw [h.len]; exact (List.getElem?_eq_some_iff.mp hi).1
  have he : chp[j]? = some chp[j] := List.getElem?_eq_getElem hj
  obtain ⟨i', h1, h2⟩ := h.at he
  cases hi.symm.trans h1
  exact ⟨_, he, h2⟩
section Heaps
variable {D : va_G} {cA : FieldType → ClassId} {A : Nat → Prop} {ad : Nat → Nat} {hp chp : Hp} {is : List Nat} {H : Heap}
theorem sub_P (hs : Sub hp is chp) (h2 : va_P D vwCl (wM ad cA hp) H) : va_P D vwCl (wM (fun j => ad (is.getD j 0)) cA chp) H := by
  intro k q hq
  obtain ⟨e, he, rfl⟩ := wM_of hq
  obtain ⟨i, hi, hh⟩ := hs.at he
  have h9 := h2 i _ (wM_get hh)
  rw [eM_eH] at h9
  have : is.getD k 0 = i := by rw [List.getD_eq_getElem?_getD, hi]; rfl
  rw [← this] at h9
  exact h9
theorem sub_D (hs : Sub hp is chp) (hnd : va_nd is = true) (h3 : va_D A (wM ad cA hp)) : va_D A (wM (fun j => ad (is.getD j 0)) cA chp) := by
  have key : ∀ (j : Nat) (q : Nat × va_E), (wM (fun j => ad (is.getD j 0)) cA chp)[j]? = some q → ∃ (i : Nat) (E : va_E), is[j]? = some i ∧ (wM ad cA hp)[i]? = some (q.1, E) := by
    intro j q hq
    obtain ⟨e, he, rfl⟩ := wM_of hq
    obtain ⟨i, hi, hh⟩ := hs.at he
    have e9 : is.getD j 0 = i := by rw [List.getD_eq_getElem?_getD, hi]; rfl
    refine ⟨i, eM ad cA (eH (fun k => is.getD k 0) e), hi, ?_⟩
    show _ = some (ad (is.getD j 0), _)
    rw [e9]
    exact wM_get hh
  constructor
  · intro i j x y hx hy hxy
    obtain ⟨i1, E1, a1, a2⟩ := key i x hx
    obtain ⟨i2, E2, b1, b2⟩ := key j y hy
    have := h3.1 i1 i2 _ _ a2 b2 hxy
    subst this
    exact va_nd_inj is hnd i j i1 a1 b1
  · intro k q hq
    obtain ⟨i, E, a1, a2⟩ := key k q hq
    exact h3.2 i (q.1, E) a2
theorem sub_A (hs : Sub hp is chp) (h3 : va_D A (wM ad cA hp)) {sz : Nat} (hA : ∀ q, sz ≤ q → A q) : ∀ q, va_A (wM (fun j => ad (is.getD j 0)) cA chp) sz q → A q := by
  rintro q (⟨k, E, hk⟩ | h)
  · obtain ⟨e, he, hq⟩ := wM_of hk
    obtain ⟨i, hi, hh⟩ := hs.at he
    have e9 : is.getD k 0 = i := by rw [List.getD_eq_getElem?_getD, hi]; rfl
    have : q = ad i := by rw [← e9]; exact congrArg Prod.fst hq
    rw [this]
    exact h3.2 i _ (wM_get hh)
  · exact hA q h
def ad3 (ad ad2 : Nat → Nat) (N L : Nat) : Nat → Nat := fun k => if k < N then ad k else ad2 (L + (k - N))
theorem ad3_rho {ad2 : Nat → Nat} (hlt : ∀ i ∈ is, i < hp.length) (hag : ∀ j, j < is.length → ad2 j = ad (is.getD j 0)) (k : Nat) : ad3 ad ad2 hp.length is.length (rho is hp.length k) = ad2 k := by
  unfold rho ad3
  by_cases h : k < is.length
  · have e1 : is[k]? = some is[k] := List.getElem?_eq_getElem h
    have e2 : ∀ z, is.getD k z = is[k] := fun z => by rw [List.getD_eq_getElem?_getD, e1]; rfl
    rw [e2, if_pos (hlt _ (List.getElem_mem h)), hag k h, e2]
  · have e1 : is[k]? = none := List.getElem?_eq_none (by omega)
    have e2 : is.getD k (hp.length + (k - is.length)) = hp.length + (k - is.length) := by rw [List.getD_eq_getElem?_getD, e1]; rfl
    rw [e2, if_neg (by omega)]
    congr 1
    omega
theorem place_back {ad2 : Nat → Nat} {chp2 : Hp} {H1 : Heap} {g : Nat} (hs : Sub hp is chp) (hnd : va_nd is = true) (hcl : clH hp.length hp) (h2 : va_P D vwCl (wM ad cA hp) H) (h3 : va_D A (wM ad cA hp)) (hA : ∀ q, H.size ≤ q → A q)
    (hlen : chp2.length = chp.length + g) (hag : ∀ j, j < chp.length → ad2 j = ad (is.getD j 0)) (hP : va_P D vwCl (wM ad2 cA chp2) H1) (hD : va_D (va_A (wM (fun j => ad (is.getD j 0)) cA chp) H.size) (wM ad2 cA chp2))
    (hkeep : ∀ q : Nat, q < H.size → ¬ va_A (wM (fun j => ad (is.getD j 0)) cA chp) H.size q → H1[q]? = H[q]?) :
    va_P D vwCl (wM (ad3 ad ad2 hp.length is.length) cA (place hp is chp2)) H1 ∧ va_D A (wM (ad3 ad ad2 hp.length is.length) cA (place hp is chp2)) := by
  have hL := hs.len
  have hlt : ∀ i ∈ is, i < hp.length := by
    intro i hi
    obtain ⟨j, hj⟩ := List.getElem?_of_mem hi
    obtain ⟨e, -, he⟩ := hs.up hj
    exact (List.getElem?_eq_some_iff.mp he).1
  have hr := ad3_rho (ad := ad) (hp := hp) hlt (fun j hj => hag j (by omega))
  -- each cell of the new list: the callee's, or an old one
  have key : ∀ (k : Nat) (e : Ce), (place hp is chp2)[k]? = some e → (∃ (j : Nat) (e2 : Ce), chp2[j]? = some e2 ∧ (ad3 ad ad2 hp.length is.length k, eM (ad3 ad ad2 hp.length is.length) cA e) = (ad2 j, eM ad2 cA e2) ∧ (j < is.length → is[j]? = some k) ∧ (is.length ≤ j → k = hp.length + (j - is.length))) ∨ (k < hp.length ∧ k ∉ is ∧ hp[k]? = some e ∧ (ad3 ad ad2 hp.length is.length k, eM (ad3 ad ad2 hp.length is.length) cA e) = (ad k, eM ad cA e)) := by
    intro k e hk
    unfold place at hk
    rcases Nat.lt_or_ge k hp.length with hkl | hkl
    · rw [List.getElem?_append_left (by rw [putAll_len]; exact hkl)] at hk
      by_cases hki : k ∈ is
      · obtain ⟨j, hj⟩ := List.getElem?_of_mem hki
        rw [putAll_at is hp _ j hnd hj hkl (by rw [List.length_map]; omega), List.getElem?_map] at hk
        obtain ⟨e2, he2, rfl⟩ := Option.map_eq_some_iff.mp hk
        refine Or.inl ⟨j, e2, he2, ?_, fun _ => hj, fun h => by have := (List.getElem?_eq_some_iff.mp hj).1; omega⟩
        rw [eM_eH]
        have hjl : j < is.length := (List.getElem?_eq_some_iff.mp hj).1
        have e9 : rho is hp.length j = k := by unfold rho; rw [List.getD_eq_getElem?_getD, hj]; rfl
        have e8 := hr j
        rw [e9] at e8
        rw [e8, show (fun k => ad3 ad ad2 hp.length is.length (rho is hp.length k)) = ad2 from funext hr]
      · rw [putAll_off is _ _ hki] at hk
        refine Or.inr ⟨hkl, hki, hk, ?_⟩
        rw [eM_cong (clH_get hcl hk) (g := ad) (fun j hj => by simp [ad3, hj])]
        simp [ad3, hkl]
    · rw [List.getElem?_append_right (by rw [putAll_len]; exact hkl), putAll_len, List.getElem?_map, List.getElem?_drop] at hk
      obtain ⟨e2, he2, rfl⟩ := Option.map_eq_some_iff.mp hk
      refine Or.inl ⟨is.length + (k - hp.length), e2, he2, ?_, fun h => by omega, fun _ => by omega⟩
      rw [eM_eH, show (fun k => ad3 ad ad2 hp.length is.length (rho is hp.length k)) = ad2 from funext hr]
      congr 1
      simp only [ad3]
      rw [if_neg (by omega)]
  -- an old cell outside stays
  have apart : ∀ k, k < hp.length → k ∉ is → ∀ e, hp[k]? = some e → ad k < H.size ∧ ¬ va_A (wM (fun j => ad (is.getD j 0)) cA chp) H.size (ad k) := by
    intro k hkl hki e he
    have hl := (h2 k _ (wM_get he)).lt
    refine ⟨hl, ?_⟩
    rintro (⟨j, E, hj⟩ | h)
    · obtain ⟨e2, he2, hq⟩ := wM_of hj
      obtain ⟨i, hi, hh⟩ := hs.at he2
      have e9 : is.getD j 0 = i := by rw [List.getD_eq_getElem?_getD, hi]; rfl
      have e7 : ad k = ad i := by rw [← e9]; exact congrArg Prod.fst hq
      have := h3.1 k i _ _ (wM_get he) (wM_get hh) e7
      subst this
      exact hki (List.mem_of_getElem? hi)
    · exact absurd h (Nat.not_le.mpr hl)
  refine ⟨?_, ?_, ?_⟩
  · intro k q hq
    obtain ⟨e, he, rfl⟩ := wM_of hq
    rcases key k e he with ⟨j, e2, he2, e9, -, -⟩ | ⟨hkl, hki, he2, e9⟩
    · rw [e9]
      exact hP j _ (wM_get he2)
    · rw [e9]
      obtain ⟨a1, a2⟩ := apart k hkl hki e he2
      exact (h2 k _ (wM_get he2)).kept (hkeep _ a1 a2)
  · intro i j x y hx hy hxy
    obtain ⟨e, he, rfl⟩ := wM_of hx
    obtain ⟨e', he', rfl⟩ := wM_of hy
    rcases key i e he with ⟨a, e2, he2, e9, c1, c2⟩ | ⟨hkl, hki, he2, e9⟩ <;> rcases key j e' he' with ⟨b, e2', he2', e9', c1', c2'⟩ | ⟨hkl', hki', he2', e9'⟩
    · rw [e9, e9'] at hxy
      have hab := hD.1 a b _ _ (wM_get he2) (wM_get he2') hxy
      subst hab
      rcases Nat.lt_or_ge a is.length with z | z
      · have := (c1 z).symm.trans (c1' z)
        exact Option.some.inj this
      · rw [c2 z, c2' z]
    · rw [e9, e9'] at hxy
      have := hD.2 a _ (wM_get he2)
      dsimp only at hxy
      rw [hxy] at this
      exact absurd this (apart j hkl' hki' e' he2').2
    · rw [e9, e9'] at hxy
      have := hD.2 b _ (wM_get he2')
      dsimp only at hxy
      rw [← hxy] at this
      exact absurd this (apart i hkl hki e he2).2
    · rw [e9, e9'] at hxy
      exact h3.1 i j _ _ (wM_get he2) (wM_get he2') hxy
  · intro k q hq
    obtain ⟨e, he, rfl⟩ := wM_of hq
    rcases key k e he with ⟨j, e2, he2, e9, -, -⟩ | ⟨hkl, hki, he2, e9⟩
    · rw [e9]
      exact sub_A hs h3 hA _ (hD.2 j _ (wM_get he2))
    · rw [e9]
      exact h3.2 k _ (wM_get he2)
theorem place_len (hp : Hp) (is : List Nat) (chp : Hp) : (place hp is chp).length = hp.length + (chp.length - is.length) := by
  simp [place, putAll_len]
theorem rho_lt {m k : Nat} (hlt : ∀ i ∈ is, i < hp.length) (hm : hp.length ≤ m) (hN : chp.length - is.length + hp.length ≤ m) (h : k < chp.length) : rho is hp.length k < m := by
  unfold rho
  by_cases hk : k < is.length
  · have e1 : is[k]? = some is[k] := List.getElem?_eq_getElem hk
    rw [List.getD_eq_getElem?_getD, e1]
    exact Nat.lt_of_lt_of_le (hlt _ (List.getElem_mem hk)) hm
  · rw [List.getD_eq_getElem?_getD, List.getElem?_eq_none (by omega)]
    show hp.length + (k - is.length) < m
    omega
theorem clV_rho {m : Nat} {v : Value} (hlt : ∀ i ∈ is, i < hp.length) (hm : hp.length ≤ m) (hN : chp.length - is.length + hp.length ≤ m) (h : clV chp.length v) : clV m (vM (rho is hp.length) v) := by
  cases v <;> first | trivial | exact rho_lt hlt hm hN h
theorem clE_rho {m : Nat} {e : Ce} (hlt : ∀ i ∈ is, i < hp.length) (hm : hp.length ≤ m) (hN : chp.length - is.length + hp.length ≤ m) (h : clE chp.length e) : clE m (eH (rho is hp.length) e) := by
  rcases e with ⟨ty, z, a⟩ | ⟨c, fs⟩
  · rcases a with x | x | x | x | x <;> try trivial
    intro j k hj
    obtain ⟨k0, h0, rfl⟩ := Option.map_eq_some_iff.mp hj
    exact clV_rho (v := .ref k0) hlt hm hN (h j k0 h0)
  · intro v hv
    obtain ⟨w, hw, rfl⟩ := List.mem_map.mp hv
    exact clV_rho hlt hm hN (h w hw)
theorem place_cl {chp2 : Hp} (hlt : ∀ i ∈ is, i < hp.length) (hle : is.length ≤ chp2.length) (hcl : clH hp.length hp) (h : clH chp2.length chp2) : clH (place hp is chp2).length (place hp is chp2) := by
  rw [place_len]
  have hm : clH (hp.length + (chp2.length - is.length)) (chp2.map (eH (rho is hp.length))) := by
    intro e he
    obtain ⟨e0, h0, rfl⟩ := List.mem_map.mp he
    exact clE_rho hlt (by omega) (by omega) (h e0 h0)
  have hput : ∀ (is : List Nat) (hp es : Hp) (m : Nat), clH m hp → clH m es → clH m (putAll hp is es) := by
    intro is
    induction is with
    | nil => intro hp es m h1 _; cases es <;> exact h1
    | cons i is ih =>
      intro hp es m h1 h2
      cases es with
      | nil => exact h1
      | cons e es => exact ih _ _ _ (clH_set (h2 e List.mem_cons_self) h1) (fun x hx => h2 x (List.mem_cons_of_mem _ hx))
  intro e he
  rcases List.mem_append.mp he with he | he
  · exact hput is hp _ _ (fun x hx => clE_mono (hcl x hx) (by omega)) hm e he
  · obtain ⟨e0, h0, rfl⟩ := List.mem_map.mp he
    exact hm _ (List.mem_map.mpr ⟨e0, List.mem_of_mem_drop h0, rfl⟩)
end Heaps
/-- what every call comes to -/
theorem go_run {K : Cx} {own : String} {cc : ByteArray} {nL fr mc ms k n pc : Nat} {ls : List (Nat × Value)} {st rest : List Value} {hp : Hp} (F : Fx K own cc nL fr mc ms) {chp : Hp} {is : List Nat} {mc' ms' : Nat} {Qp : Option Value → Hp → Prop} (hs : Sub hp is chp) (hnd : va_nd is = true) (hrest : ∀ v ∈ rest, v ∈ st)
    (hrun : match K with
      | (p, l, e, R, s, m, args, below, meth, c, D, cA, A, _, nL', n0, ad0) => ∀ (ad : Nat → Nat) (H : Heap) (locs : List Loc) (LS : Array Slot), (∀ j, j < n0 → ad j = ad0 j) → va_P D vwCl (wM ad cA hp) H → va_D A (wM ad cA hp) → va_S A s.heap H locs → lv_has LS nL' (lM ad ls) →
        va_Run p l e R s m args below meth c H locs k n mc' ms' (F0 m pc LS (st.map (vM ad))) (rest.map (vM ad)) (CQ D cA (fun j => ad (is.getD j 0)) chp H.size Qp mc') (va_A (wM (fun j => ad (is.getD j 0)) cA chp) H.size))
    (kk : ∀ (v : Option Value) (hp2 : Hp), Qp v hp2 → hp2.length = chp.length + mc' → Go K (k + mc') (n + ms') (pc + 3) ls ((v.map (vM (rho is hp.length))).toList ++ rest) (place hp is hp2)) : Go K k n pc ls st hp := by
  obtain ⟨p, l, e, R, s, m, args, below, meth, c, D, cA, A, Q, nL', n0, ad0⟩ := K
  obtain ⟨hx, hb, hml, hnl, hown, hts, hK, hA, hfr, hlo, hmc, hms⟩ := F
  intro hcl h0 ad H locs LS h1 h2 h3 h4 h5 T hT X
  obtain ⟨v, st₀, t, T', L, g0, X', hL, e1, e2, ⟨⟨u, hp2, ad2, e3, q, hlen, hcv, hch, hag, hP, hD⟩, hz, hkeep⟩, go⟩ := hrun ad H locs LS h1 h2 h3 h4 h5 T hT X
  have hA' : ∀ q, H.size ≤ q → A q := fun q h => hA q (Nat.le_trans h4.1 h)
  rw [g0] at hz hkeep
  have hlt : ∀ i ∈ is, i < hp.length := by
    intro i hi
    obtain ⟨j, hj⟩ := List.getElem?_of_mem hi
    obtain ⟨e, -, he⟩ := hs.up hj
    exact (List.getElem?_eq_some_iff.mp he).1
  have hL' := hs.len
  obtain ⟨hP', hD'⟩ := place_back (A := A) (H1 := T'.heap) hs hnd hcl.2.2 h2 h3 hA' hlen hag (by rw [e1]; exact hP) hD (fun q a b => by rw [e1]; exact hkeep q a b)
  have hag3 : ∀ j, j < hp.length → ad3 ad ad2 hp.length is.length j = ad j := fun j hj => by simp [ad3, hj]
  have hr := ad3_rho (ad := ad) (hp := hp) (ad2 := ad2) hlt (fun j hj => hag j (by omega))
  have hS' : va_S A s.heap T'.heap (locs ++ L) := by
    refine ⟨Nat.le_trans h4.1 (by rw [e1]; exact hz), fun q a b => ?_, fun q hq => ?_⟩
    · rw [e1, hkeep q (Nat.lt_of_lt_of_le a h4.1) (fun z => b (sub_A hs h3 hA' q z))]
      exact h4.2.1 q a b
    · rcases List.mem_append.mp hq with h | h
      · exact h4.2.2 q h
      · exact sub_A hs h3 hA' _ (hL q h)
  have hcl' : clAll ls ((u.map (vM (rho is hp.length))).toList ++ rest) (place hp is hp2) := by
    have hl3 := place_len hp is hp2
    refine ⟨fun x hx => clV_mono (hcl.1 x hx) (by rw [hl3]; omega), fun x hx => ?_, place_cl hlt (by omega) hcl.2.2 hch⟩
    rcases List.mem_append.mp hx with hx | hx
    · cases u with
      | none => simp at hx
      | some w =>
        simp at hx
        subst hx
        exact clV_rho (chp := hp2) hlt (by rw [hl3]; omega) (by rw [hl3]; omega) (hcv w rfl)
    · exact clV_mono (hcl.2.1 x (hrest x hx)) (by rw [hl3]; omega)
  have hn0' : ∀ j, j < n0 → ad3 ad ad2 hp.length is.length j = ad0 j := fun j hj => (hag3 j (Nat.lt_of_lt_of_le hj h0)).trans (h1 j hj)
  have hls : lM (ad3 ad ad2 hp.length is.length) ls = lM ad ls := List.map_congr_left (fun x hx => by rw [vM_cong (hcl.1 x hx) hag3])
  have hst : ((u.map (vM (rho is hp.length))).toList ++ rest).map (vM (ad3 ad ad2 hp.length is.length)) = v.toList ++ rest.map (vM ad) := by
    rw [List.map_append]
    congr 1
    · have e4 : v = u.map (vM ad2) := by
        have := e3
        cases this
        rfl
      rw [e4]
      cases u with
      | none => rfl
      | some w =>
        show [vM _ (vM _ w)] = [vM ad2 w]
        rw [vM_vM, show (fun k => ad3 ad ad2 hp.length is.length (rho is hp.length k)) = ad2 from funext hr]
    · exact List.map_congr_left (fun x hx => vM_cong (hcl.2.1 x (hrest x hx)) hag3)
  have G := kk u hp2 q hlen hcl' (by rw [place_len]; omega) (ad3 ad ad2 hp.length is.length) T'.heap (locs ++ L) LS hn0' hP' hD' hS' (by rw [hls]; exact h5)
  rw [hst] at G
  obtain ⟨t2, a1, b1⟩ := G T' rfl X'
  exact ⟨t2, go t2 a1, b1⟩
/-! what the tables say of a callee -/
def Mi (y : MethodName) (cc : ByteArray) (nL : Nat) (ret : Option FieldType) (n : Nat) : Prop := Cond.code y cc nL ret ∈ TB ∧ Cond.initialized y.cls ∈ TB ∧ y.cls ≠ "java/lang/invoke/MethodHandle" ∧ y.cls ≠ "java/lang/invoke/VarHandle" ∧ (parseMethodDescriptor y.desc).map (fun d => d.parameters.length) = some n
def KS (own : String) (idx : Nat) (y : MethodName) : Prop := Cond.methodLink own idx y ∈ TB ∧ Cond.static y ∈ TB
def KV (own : String) (idx : Nat) (y : MethodName) : Prop := Cond.methodLink own idx y ∈ TB ∧ Cond.instanceMethod y ∈ TB ∧ Cond.selects y.cls y y ∈ TB
def KI (own : String) (idx : Nat) (y : MethodName) : Prop := Cond.methodLink own idx y ∈ TB ∧ Cond.instanceMethod y ∈ TB ∧ y.name = "<init>"
def KN (own : String) (idx : Nat) (y : MethodName) (host : String) : Prop := (own, idx, y, host) ∈ nest
theorem sum_cat (ad : Nat → Nat) (st : List Value) : ((st.map (vM ad)).map fun v => v.category).sum = (st.map fun v => v.category).sum := by
  rw [List.map_map]; congr 1; exact List.map_congr_left (fun v _ => vM_cat ad v)
theorem frameBlind (as : List Value) (D : va_G) (cA : FieldType → ClassId) (sz : Nat) (ws : va_W) : FrameBlind (va_Pc as (fun U => U.heap.size = sz ∧ va_P D vwCl ws U.heap ∧ KK D cA U ∧ va_D (fun _ => True) ws)) := fun a U g mk q => by
  obtain ⟨q0, q1, qP, qK, qD⟩ := q
  exact ⟨q0, q1, qP, ⟨va_K.moved (u := U) (U := U.calling g mk a) (Vm.Alike.refl U.vm) qK.1, fun z hz => va_Nw.same rfl rfl (qK.2.1 z hz), va_AO.moved (u := U) (U := U.calling g mk a) (Vm.Alike.refl U.vm) qK.2.2⟩, qD⟩
section CallRows
variable {K : Cx} {own : String} {cc : ByteArray} {nL fr mc ms k n pc : Nat} {ls : List (Nat × Value)} {st : List Value} {hp : Hp}
  {y : MethodName} {cc' : ByteArray} {nL' fr' mc' ms' idx : Nat} {ret' : Option FieldType} {cas : List Value} {chp : Hp} {Qp : Option Value → Hp → Prop}
theorem stack_eq {ad : Nat → Nat} {is : List Nat} {cas st rest : List Value} (h : st = (cas.map (vM (fun k => is.getD k 0))).reverse ++ rest) : st.map (vM ad) = (cas.map (vM (fun j => ad (is.getD j 0)))).reverse ++ rest.map (vM ad) := by
  rw [h, List.map_append, List.map_reverse, List.map_map]
  congr 2
  exact List.map_congr_left (fun v _ => vM_vM _ _ v)
theorem rest_in {is : List Nat} {cas st rest : List Value} (h : st = (cas.map (vM (fun k => is.getD k 0))).reverse ++ rest) : ∀ v ∈ rest, v ∈ st := fun v hv => by rw [h]; exact List.mem_append_right _ hv
theorem g_callS (F : Fx K own cc nL fr mc ms) (C : Ctr y cc' nL' ret' fr' mc' ms' cas chp Qp) (hi : Mi y cc' nL' ret' cas.length) (hk : KS own idx y) (d : decode cc pc = .ok (.invokestatic idx, 3)) (is : List Nat) (rest : List Value) (hfr : fr' < fr) (hl : nL' ≤ 21) (hs : Sub hp is chp) (hnd : va_nd is = true) (hst : st = (cas.map (vM (fun k => is.getD k 0))).reverse ++ rest) (hcat : (rest.map fun v => v.category).sum ≤ 8) (hkc : k + mc' ≤ mc) (hkn : n + ms' ≤ ms)
    (kk : ∀ (v : Option Value) (hp2 : Hp), Qp v hp2 → hp2.length = chp.length + mc' → Go K (k + mc') (n + ms') (pc + 3) ls ((v.map (vM (rho is hp.length))).toList ++ rest) (place hp is hp2)) : Go K k n pc ls st hp := by
  refine go_run F hs hnd (rest_in hst) ?_ kk
  obtain ⟨p, l, e, R, s, m, args, below, meth, c, D, cA, A, Q, nL', n0, ad0⟩ := K
  obtain ⟨hx, hb, hml, hnl, hown, hts, hK, hA, hfr2, hlo, hmc, hms⟩ := F
  intro ad H locs LS h1 h2 h3 h4 h5
  subst hnl
  refine va_runS (As := cas.map (vM (fun j => ad (is.getD j 0)))) (n := cas.length) ⟨hx, hb, hml, hown, hts⟩ (C.2 l D cA (fun j => ad (is.getD j 0)) H.size) ⟨callB_of cas.length hts (TB_good hi.1) rfl rfl rfl (hts _ hi.2.1) (hts _ hk.1) hi.2.2 ⟨by show fr' + 1 ≤ _; omega, by show _ + 40 * fr' ≤ _; omega⟩, hts _ hk.2⟩ ⟨frameBlind _ _ _ _ _, fun U hU hW => ⟨rfl, by rw [hU], by rw [hU]; exact sub_P hs h2, hK.moved hW, (sub_D hs hnd h3).weaken (fun _ _ _ _ => trivial)⟩⟩ rfl (List.length_map _) h5.1 (stack_eq hst) (lv_room (by rw [sum_cat]; exact hcat)) d ⟨by omega, by omega⟩
theorem g_callSN (F : Fx K own cc nL fr mc ms) (C : Ctr y cc' nL' ret' fr' mc' ms' cas chp Qp) (hi : Mi y cc' nL' ret' cas.length) {host : String} (hk : KN own idx y host) (hk2 : Cond.static y ∈ TB) (d : decode cc pc = .ok (.invokestatic idx, 3)) (is : List Nat) (rest : List Value) (hfr : fr' < fr) (hl : nL' ≤ 21) (hs : Sub hp is chp) (hnd : va_nd is = true) (hst : st = (cas.map (vM (fun k => is.getD k 0))).reverse ++ rest) (hcat : (rest.map fun v => v.category).sum ≤ 8) (hkc : k + mc' ≤ mc) (hkn : n + ms' ≤ ms)
    (kk : ∀ (v : Option Value) (hp2 : Hp), Qp v hp2 → hp2.length = chp.length + mc' → Go K (k + mc') (n + ms') (pc + 3) ls ((v.map (vM (rho is hp.length))).toList ++ rest) (place hp is hp2)) : Go K k n pc ls st hp := by
  refine go_run F hs hnd (rest_in hst) ?_ kk
  obtain ⟨p, l, e, R, s, m, args, below, meth, c, D, cA, A, Q, nL', n0, ad0⟩ := K
  obtain ⟨hx, hb, hml, hnl, hown, hts, hK, hA, hfr2, hlo, hmc, hms⟩ := F
  intro ad H locs LS h1 h2 h3 h4 h5
  subst hnl
  refine va_runSN (As := cas.map (vM (fun j => ad (is.getD j 0)))) (n := cas.length) ⟨hx, hb, hml, hown, hts⟩ (C.2 l D cA (fun j => ad (is.getD j 0)) H.size) ⟨va_cnB cas.length hts (TB_good hi.1) rfl rfl rfl (hK.2.1 _ hk) (hts _ hi.2.1) hi.2.2 ⟨by show fr' + 1 ≤ _; omega, by show _ + 40 * fr' ≤ _; omega⟩, hts _ hk2, trivial⟩ ⟨frameBlind _ _ _ _ _, fun U hU hW => ⟨rfl, by rw [hU], by rw [hU]; exact sub_P hs h2, hK.moved hW, (sub_D hs hnd h3).weaken (fun _ _ _ _ => trivial)⟩⟩ rfl (List.length_map _) h5.1 (stack_eq hst) (lv_room (by rw [sum_cat]; exact hcat)) d ⟨by omega, by omega⟩
/-- the receiver is the callee's cell r0, of class ci -/
theorem g_callV (F : Fx K own cc nL fr mc ms) {r0 ci : Nat} {fs : List Value} {T : u_T} {N : Nat} (C : Ctr y cc' nL' ret' fr' mc' ms' (.ref r0 :: cas) chp Qp) (hi : Mi y cc' nL' ret' cas.length) (hk : KV own idx y) (d : decode cc pc = .ok (.invokevirtual idx, 3)) (hr : chp[r0]? = some (.inr (ci, fs))) (hc : vwCl[ci]? = some (y.cls, T, N)) (is : List Nat) (rest : List Value) (hfr : fr' < fr) (hl : nL' ≤ 21) (hs : Sub hp is chp) (hnd : va_nd is = true) (hst : st = ((.ref r0 :: cas).map (vM (fun k => is.getD k 0))).reverse ++ rest) (hcat : (rest.map fun v => v.category).sum ≤ 8) (hkc : k + mc' ≤ mc) (hkn : n + ms' ≤ ms)
    (kk : ∀ (v : Option Value) (hp2 : Hp), Qp v hp2 → hp2.length = chp.length + mc' → Go K (k + mc') (n + ms') (pc + 3) ls ((v.map (vM (rho is hp.length))).toList ++ rest) (place hp is hp2)) : Go K k n pc ls st hp := by
  refine go_run F hs hnd (rest_in hst) ?_ kk
  obtain ⟨p, l, e, R, s, m, args, below, meth, c, D, cA, A, Q, nL', n0, ad0⟩ := K
  obtain ⟨hx, hb, hml, hnl, hown, hts, hK, hA, hfr2, hlo, hmc, hms⟩ := F
  intro ad H locs LS h1 h2 h3 h4 h5
  subst hnl
  have hst2 := stack_eq (ad := ad) hst
  rw [List.map_cons, List.reverse_cons, List.append_assoc] at hst2
  refine va_runV (C := y.cls) (As := cas.map (vM (fun j => ad (is.getD j 0)))) (n := cas.length) ⟨hx, hb, hml, hown, hts⟩ (C.2 l D cA (fun j => ad (is.getD j 0)) H.size) ⟨callB_of cas.length hts (TB_good hi.1) rfl rfl rfl (hts _ hi.2.1) (hts _ hk.1) hi.2.2 ⟨by show fr' + 1 ≤ _; omega, by show _ + 40 * fr' ≤ _; omega⟩, hts _ hk.2.1, hts _ hk.2.2⟩ ⟨frameBlind _ _ _ _ _, va_recv hK.1 (sub_P hs h2) hc (wM_get hr), fun U hU hW => ⟨rfl, by rw [hU], by rw [hU]; exact sub_P hs h2, hK.moved hW, (sub_D hs hnd h3).weaken (fun _ _ _ _ => trivial)⟩⟩ rfl (List.length_map _) h5.1 hst2 (lv_room (by rw [sum_cat]; exact hcat)) d ⟨by omega, by omega⟩
theorem g_callI (F : Fx K own cc nL fr mc ms) {r0 : Nat} (C : Ctr y cc' nL' none fr' mc' ms' (.ref r0 :: cas) chp Qp) (hi : Mi y cc' nL' none cas.length) (hk : KI own idx y) (d : decode cc pc = .ok (.invokespecial idx, 3)) (is : List Nat) (rest : List Value) (hfr : fr' < fr) (hl : nL' ≤ 21) (hs : Sub hp is chp) (hnd : va_nd is = true) (hst : st = ((.ref r0 :: cas).map (vM (fun k => is.getD k 0))).reverse ++ rest) (hcat : (rest.map fun v => v.category).sum ≤ 8) (hkc : k + mc' ≤ mc) (hkn : n + ms' ≤ ms)
    (kk : ∀ (v : Option Value) (hp2 : Hp), Qp v hp2 → hp2.length = chp.length + mc' → Go K (k + mc') (n + ms') (pc + 3) ls ((v.map (vM (rho is hp.length))).toList ++ rest) (place hp is hp2)) : Go K k n pc ls st hp := by
  refine go_run F hs hnd (rest_in hst) ?_ kk
  obtain ⟨p, l, e, R, s, m, args, below, meth, c, D, cA, A, Q, nL', n0, ad0⟩ := K
  obtain ⟨hx, hb, hml, hnl, hown, hts, hK, hA, hfr2, hlo, hmc, hms⟩ := F
  intro ad H locs LS h1 h2 h3 h4 h5
  subst hnl
  have hst2 := stack_eq (ad := ad) hst
  rw [List.map_cons, List.reverse_cons, List.append_assoc] at hst2
  refine va_runI (As := cas.map (vM (fun j => ad (is.getD j 0)))) (n := cas.length) ⟨hx, hb, hml, hown, hts⟩ (C.2 l D cA (fun j => ad (is.getD j 0)) H.size) ⟨callB_of cas.length hts (TB_good hi.1) rfl rfl rfl (hts _ hi.2.1) (hts _ hk.1) hi.2.2 ⟨by show fr' + 1 ≤ _; omega, by show _ + 40 * fr' ≤ _; omega⟩, hk.2.2, hts _ hk.2.1⟩ ⟨frameBlind _ _ _ _ _, fun U hU hW => ⟨rfl, by rw [hU], by rw [hU]; exact sub_P hs h2, hK.moved hW, (sub_D hs hnd h3).weaken (fun _ _ _ _ => trivial)⟩⟩ rfl (List.length_map _) h5.1 hst2 (lv_room (by rw [sum_cat]; exact hcat)) d ⟨by omega, by omega⟩
theorem g_callIN (F : Fx K own cc nL fr mc ms) {r0 : Nat} (C : Ctr y cc' nL' none fr' mc' ms' (.ref r0 :: cas) chp Qp) (hi : Mi y cc' nL' none cas.length) {host : String} (hk : KN own idx y host) (hk2 : Cond.instanceMethod y ∈ TB) (hk3 : y.name = "<init>") (d : decode cc pc = .ok (.invokespecial idx, 3)) (is : List Nat) (rest : List Value) (hfr : fr' < fr) (hl : nL' ≤ 21) (hs : Sub hp is chp) (hnd : va_nd is = true) (hst : st = ((.ref r0 :: cas).map (vM (fun k => is.getD k 0))).reverse ++ rest) (hcat : (rest.map fun v => v.category).sum ≤ 8) (hkc : k + mc' ≤ mc) (hkn : n + ms' ≤ ms)
    (kk : ∀ (v : Option Value) (hp2 : Hp), Qp v hp2 → hp2.length = chp.length + mc' → Go K (k + mc') (n + ms') (pc + 3) ls ((v.map (vM (rho is hp.length))).toList ++ rest) (place hp is hp2)) : Go K k n pc ls st hp := by
  refine go_run F hs hnd (rest_in hst) ?_ kk
  obtain ⟨p, l, e, R, s, m, args, below, meth, c, D, cA, A, Q, nL', n0, ad0⟩ := K
  obtain ⟨hx, hb, hml, hnl, hown, hts, hK, hA, hfr2, hlo, hmc, hms⟩ := F
  intro ad H locs LS h1 h2 h3 h4 h5
  subst hnl
  have hst2 := stack_eq (ad := ad) hst
  rw [List.map_cons, List.reverse_cons, List.append_assoc] at hst2
  refine va_runIN (As := cas.map (vM (fun j => ad (is.getD j 0)))) (n := cas.length) ⟨hx, hb, hml, hown, hts⟩ (C.2 l D cA (fun j => ad (is.getD j 0)) H.size) ⟨va_cnB cas.length hts (TB_good hi.1) rfl rfl rfl (hK.2.1 _ hk) (hts _ hi.2.1) hi.2.2 ⟨by show fr' + 1 ≤ _; omega, by show _ + 40 * fr' ≤ _; omega⟩, hk3, hts _ hk2⟩ ⟨frameBlind _ _ _ _ _, fun U hU hW => ⟨rfl, by rw [hU], by rw [hU]; exact sub_P hs h2, hK.moved hW, (sub_D hs hnd h3).weaken (fun _ _ _ _ => trivial)⟩⟩ rfl (List.length_map _) h5.1 hst2 (lv_room (by rw [sum_cat]; exact hcat)) d ⟨by omega, by omega⟩
end CallRows
/-! callees that only answer -/
def RCtr (y : MethodName) (cc : ByteArray) (nL : Nat) (ret : Option FieldType) (fr : Nat) (as : List Value) (hp : Hp) (r : Value) : Prop := Ctr y cc nL ret fr 0 0 as hp (fun v h => v = some r ∧ h = hp)
theorem place_same {hp : Hp} {is : List Nat} {chp : Hp} (hs : Sub hp is chp) (hcl : clH chp.length chp) (hnd : va_nd is = true) : place hp is chp = hp := by
  have hL := hs.len
  apply List.ext_getElem?
  intro k
  unfold place
  rw [List.drop_eq_nil_of_le (by omega), List.map_nil, List.append_nil]
  by_cases hki : k ∈ is
  · obtain ⟨j, hj⟩ := List.getElem?_of_mem hki
    obtain ⟨e, h1, h2⟩ := hs.up hj
    rw [putAll_at is hp _ j hnd hj (List.getElem?_eq_some_iff.mp h2).1 (by rw [List.length_map]; omega), List.getElem?_map, h1, h2]
    show some _ = some _
    have hc := clH_get hcl h1
    congr 1
    have key : ∀ v, clV chp.length v → vM (rho is hp.length) v = vM (fun k => is.getD k 0) v := by
      intro v hv
      refine vM_cong hv (fun k hk => ?_)
      unfold rho
      have e1 : is[k]? = some (is[k]'(by omega)) := List.getElem?_eq_getElem _
      rw [List.getD_eq_getElem?_getD, List.getD_eq_getElem?_getD, e1]
      rfl
    rcases e with ⟨ty, z, a⟩ | ⟨c, fs⟩
    · rcases a with x | x | x | x | x <;> try rfl
      have e9 : (fun i => (x i).map (rho is hp.length)) = fun i => (x i).map (fun k => is.getD k 0) := by
        funext i
        cases hi : x i with
        | none => rfl
        | some w =>
          have h7 := key (.ref w) (hc i w hi)
          have h8 : rho is hp.length w = is.getD w 0 := by
            simpa only [vM, Value.ref.injEq] using h7
          exact congrArg some h8
      simp only [eH, aM, e9]
    · simp only [eH]
      congr 2
      exact List.map_congr_left (fun v hv => key v (hc v hv))
  · rw [putAll_off is _ _ hki]
theorem rho_val {is : List Nat} {N : Nat} {v : Value} (h : clV is.length v) : vM (rho is N) v = vM (fun k => is.getD k 0) v := by
  refine vM_cong h (fun k hk => ?_)
  unfold rho
  have e1 : is[k]? = some (is[k]'hk) := List.getElem?_eq_getElem _
  rw [List.getD_eq_getElem?_getD, List.getD_eq_getElem?_getD, e1]
  rfl
section ReadRows
variable {K : Cx} {own : String} {cc : ByteArray} {nL fr mc ms k n pc : Nat} {ls : List (Nat × Value)} {st : List Value} {hp : Hp}
  {y : MethodName} {cc' : ByteArray} {nL' fr' idx : Nat} {ret' : Option FieldType} {cas : List Value} {chp : Hp} {r : Value}
theorem g_readS (F : Fx K own cc nL fr mc ms) (C : RCtr y cc' nL' ret' fr' cas chp r) (hi : Mi y cc' nL' ret' cas.length) (hk : KS own idx y) (d : decode cc pc = .ok (.invokestatic idx, 3)) (is : List Nat) (rest : List Value) (hfr : fr' < fr) (hl : nL' ≤ 21) (hs : Sub hp is chp) (hnd : va_nd is = true) (hst : st = (cas.map (vM (fun k => is.getD k 0))).reverse ++ rest) (hcat : (rest.map fun v => v.category).sum ≤ 8) (hv : clV is.length r) (hkc : k ≤ mc) (hkn : n ≤ ms) (kk : Go K k n (pc + 3) ls (vM (fun k => is.getD k 0) r :: rest) hp) : Go K k n pc ls st hp := by
  refine g_callS F C hi hk d is rest hfr hl hs hnd hst hcat hkc hkn ?_
  rintro v hp2 ⟨rfl, rfl⟩ -
  rw [place_same hs C.1.2 hnd]
  show Go K k n (pc + 3) ls (vM (rho is hp.length) r :: rest) hp
  rw [rho_val hv]
  exact kk
theorem g_readSN (F : Fx K own cc nL fr mc ms) (C : RCtr y cc' nL' ret' fr' cas chp r) (hi : Mi y cc' nL' ret' cas.length) {host : String} (hk : KN own idx y host) (hk2 : Cond.static y ∈ TB) (d : decode cc pc = .ok (.invokestatic idx, 3)) (is : List Nat) (rest : List Value) (hfr : fr' < fr) (hl : nL' ≤ 21) (hs : Sub hp is chp) (hnd : va_nd is = true) (hst : st = (cas.map (vM (fun k => is.getD k 0))).reverse ++ rest) (hcat : (rest.map fun v => v.category).sum ≤ 8) (hv : clV is.length r) (hkc : k ≤ mc) (hkn : n ≤ ms) (kk : Go K k n (pc + 3) ls (vM (fun k => is.getD k 0) r :: rest) hp) : Go K k n pc ls st hp := by
  refine g_callSN F C hi hk hk2 d is rest hfr hl hs hnd hst hcat hkc hkn ?_
  rintro v hp2 ⟨rfl, rfl⟩ -
  rw [place_same hs C.1.2 hnd]
  show Go K k n (pc + 3) ls (vM (rho is hp.length) r :: rest) hp
  rw [rho_val hv]
  exact kk
theorem g_readV (F : Fx K own cc nL fr mc ms) {r0 ci : Nat} {fs : List Value} {T : u_T} {N : Nat} (C : RCtr y cc' nL' ret' fr' (.ref r0 :: cas) chp r) (hi : Mi y cc' nL' ret' cas.length) (hk : KV own idx y) (d : decode cc pc = .ok (.invokevirtual idx, 3)) (hr : chp[r0]? = some (.inr (ci, fs))) (hc : vwCl[ci]? = some (y.cls, T, N)) (is : List Nat) (rest : List Value) (hfr : fr' < fr) (hl : nL' ≤ 21) (hs : Sub hp is chp) (hnd : va_nd is = true) (hst : st = ((.ref r0 :: cas).map (vM (fun k => is.getD k 0))).reverse ++ rest) (hcat : (rest.map fun v => v.category).sum ≤ 8) (hv : clV is.length r) (hkc : k ≤ mc) (hkn : n ≤ ms) (kk : Go K k n (pc + 3) ls (vM (fun k => is.getD k 0) r :: rest) hp) : Go K k n pc ls st hp := by
  refine g_callV F C hi hk d hr hc is rest hfr hl hs hnd hst hcat hkc hkn ?_
  rintro v hp2 ⟨rfl, rfl⟩ -
  rw [place_same hs C.1.2 hnd]
  show Go K k n (pc + 3) ls (vM (rho is hp.length) r :: rest) hp
  rw [rho_val hv]
  exact kk
end ReadRows
end
section
set_option maxRecDepth 100000 in
theorem fc_X0 : Fc 0 RX0 TX0 13 tyX0 := ⟨rfl, by
  have h : (u_ws RX0 TX0 13).all (fun w => decide (w ∈ lw_tbl) && goodWord w) = true := by decide +kernel
  intro w hw
  have h1 := List.all_eq_true.mp h w hw
  simp only [Bool.and_eq_true, decide_eq_true_eq] at h1
  exact TB_in h1.1 h1.2, tyX0_ok, nmX0⟩
set_option maxRecDepth 100000 in
theorem fc_X2 : Fc 1 RX2 TX2 6 tyX2 := ⟨rfl, by
  have h : (u_ws RX2 TX2 6).all (fun w => decide (w ∈ lw_tbl) && goodWord w) = true := by decide +kernel
  intro w hw
  have h1 := List.all_eq_true.mp h w hw
  simp only [Bool.and_eq_true, decide_eq_true_eq] at h1
  exact TB_in h1.1 h1.2, tyX2_ok, nmX2⟩
set_option maxRecDepth 100000 in
theorem fc_X4 : Fc 2 RX4 TX4 7 tyX4 := ⟨rfl, by
  have h : (u_ws RX4 TX4 7).all (fun w => decide (w ∈ lw_tbl) && goodWord w) = true := by decide +kernel
  intro w hw
  have h1 := List.all_eq_true.mp h w hw
  simp only [Bool.and_eq_true, decide_eq_true_eq] at h1
  exact TB_in h1.1 h1.2, tyX4_ok, nmX4⟩
set_option maxRecDepth 100000 in
theorem fc_X5 : Fc 3 RX5 TX5 17 tyX5 := ⟨rfl, by
  have h : (u_ws RX5 TX5 17).all (fun w => decide (w ∈ lw_tbl) && goodWord w) = true := by decide +kernel
  intro w hw
  have h1 := List.all_eq_true.mp h w hw
  simp only [Bool.and_eq_true, decide_eq_true_eq] at h1
  exact TB_in h1.1 h1.2, tyX5_ok, nmX5⟩
theorem fl_X0_9 : FL RX0 9 0 0 (.array .int) true := ⟨RX0, TX0, 13, tyX0, fc_X0, by decide, rfl, TB_i 62 (by decide +kernel) rfl, rfl, rfl⟩
theorem fl_X4_114 : FL RX4 114 0 0 (.array .int) true := ⟨RX0, TX0, 13, tyX0, fc_X0, by decide, rfl, TB_i 63 (by decide +kernel) rfl, rfl, rfl⟩
theorem fl_X0_15 : FL RX0 15 0 1 (.array .int) true := ⟨RX0, TX0, 13, tyX0, fc_X0, by decide, rfl, TB_i 64 (by decide +kernel) rfl, rfl, rfl⟩
theorem fl_X4_117 : FL RX4 117 0 1 (.array .int) true := ⟨RX0, TX0, 13, tyX0, fc_X0, by decide, rfl, TB_i 65 (by decide +kernel) rfl, rfl, rfl⟩
theorem fl_X0_18 : FL RX0 18 0 2 (.array .int) true := ⟨RX0, TX0, 13, tyX0, fc_X0, by decide, rfl, TB_i 66 (by decide +kernel) rfl, rfl, rfl⟩
theorem fl_X4_76 : FL RX4 76 0 2 (.array .int) true := ⟨RX0, TX0, 13, tyX0, fc_X0, by decide, rfl, TB_i 67 (by decide +kernel) rfl, rfl, rfl⟩
theorem fl_X0_21 : FL RX0 21 0 3 (.array .int) true := ⟨RX0, TX0, 13, tyX0, fc_X0, by decide, rfl, TB_i 68 (by decide +kernel) rfl, rfl, rfl⟩
theorem fl_X4_79 : FL RX4 79 0 3 (.array .int) true := ⟨RX0, TX0, 13, tyX0, fc_X0, by decide, rfl, TB_i 69 (by decide +kernel) rfl, rfl, rfl⟩
theorem fl_X0_24 : FL RX0 24 0 4 (.array .int) true := ⟨RX0, TX0, 13, tyX0, fc_X0, by decide, rfl, TB_i 70 (by decide +kernel) rfl, rfl, rfl⟩
theorem fl_X4_82 : FL RX4 82 0 4 (.array .int) true := ⟨RX0, TX0, 13, tyX0, fc_X0, by decide, rfl, TB_i 71 (by decide +kernel) rfl, rfl, rfl⟩
theorem fl_X0_27 : FL RX0 27 0 5 (.array .int) true := ⟨RX0, TX0, 13, tyX0, fc_X0, by decide, rfl, TB_i 72 (by decide +kernel) rfl, rfl, rfl⟩
theorem fl_X4_85 : FL RX4 85 0 5 (.array .int) true := ⟨RX0, TX0, 13, tyX0, fc_X0, by decide, rfl, TB_i 73 (by decide +kernel) rfl, rfl, rfl⟩
theorem fl_X0_30 : FL RX0 30 0 6 (.array .int) true := ⟨RX0, TX0, 13, tyX0, fc_X0, by decide, rfl, TB_i 74 (by decide +kernel) rfl, rfl, rfl⟩
theorem fl_X4_88 : FL RX4 88 0 6 (.array .int) true := ⟨RX0, TX0, 13, tyX0, fc_X0, by decide, rfl, TB_i 75 (by decide +kernel) rfl, rfl, rfl⟩
theorem fl_X0_33 : FL RX0 33 0 7 (.int) false := ⟨RX0, TX0, 13, tyX0, fc_X0, by decide, rfl, TB_i 76 (by decide +kernel) rfl, rfl, rfl⟩
theorem fl_X4_142 : FL RX4 142 0 7 (.int) false := ⟨RX0, TX0, 13, tyX0, fc_X0, by decide, rfl, TB_i 77 (by decide +kernel) rfl, rfl, rfl⟩
theorem fl_X3_73 : FL RX3 73 0 7 (.int) false := ⟨RX0, TX0, 13, tyX0, fc_X0, by decide, rfl, TB_i 78 (by decide +kernel) rfl, rfl, rfl⟩
theorem fl_X0_37 : FL RX0 37 0 8 (.int) false := ⟨RX0, TX0, 13, tyX0, fc_X0, by decide, rfl, TB_i 79 (by decide +kernel) rfl, rfl, rfl⟩
theorem fl_X4_91 : FL RX4 91 0 8 (.int) false := ⟨RX0, TX0, 13, tyX0, fc_X0, by decide, rfl, TB_i 80 (by decide +kernel) rfl, rfl, rfl⟩
theorem fl_X0_40 : FL RX0 40 0 9 (.int) false := ⟨RX0, TX0, 13, tyX0, fc_X0, by decide, rfl, TB_i 81 (by decide +kernel) rfl, rfl, rfl⟩
theorem fl_X4_291 : FL RX4 291 0 9 (.int) false := ⟨RX0, TX0, 13, tyX0, fc_X0, by decide, rfl, TB_i 82 (by decide +kernel) rfl, rfl, rfl⟩
theorem fl_X0_43 : FL RX0 43 0 10 (.int) false := ⟨RX0, TX0, 13, tyX0, fc_X0, by decide, rfl, TB_i 83 (by decide +kernel) rfl, rfl, rfl⟩
theorem fl_X3_52 : FL RX3 52 0 10 (.int) false := ⟨RX0, TX0, 13, tyX0, fc_X0, by decide, rfl, TB_i 84 (by decide +kernel) rfl, rfl, rfl⟩
theorem fl_X4_150 : FL RX4 150 0 10 (.int) false := ⟨RX0, TX0, 13, tyX0, fc_X0, by decide, rfl, TB_i 85 (by decide +kernel) rfl, rfl, rfl⟩
theorem fl_X0_46 : FL RX0 46 0 11 (.int) false := ⟨RX0, TX0, 13, tyX0, fc_X0, by decide, rfl, TB_i 86 (by decide +kernel) rfl, rfl, rfl⟩
theorem fl_X4_102 : FL RX4 102 0 11 (.int) false := ⟨RX0, TX0, 13, tyX0, fc_X0, by decide, rfl, TB_i 87 (by decide +kernel) rfl, rfl, rfl⟩
theorem fl_X3_84 : FL RX3 84 0 11 (.int) false := ⟨RX0, TX0, 13, tyX0, fc_X0, by decide, rfl, TB_i 88 (by decide +kernel) rfl, rfl, rfl⟩
theorem fl_X0_49 : FL RX0 49 0 12 (.int) false := ⟨RX0, TX0, 13, tyX0, fc_X0, by decide, rfl, TB_i 89 (by decide +kernel) rfl, rfl, rfl⟩
theorem fl_X4_196 : FL RX4 196 0 12 (.int) false := ⟨RX0, TX0, 13, tyX0, fc_X0, by decide, rfl, TB_i 90 (by decide +kernel) rfl, rfl, rfl⟩
theorem fl_X2_9 : FL RX2 9 1 0 (.array .int) true := ⟨RX2, TX2, 6, tyX2, fc_X2, by decide, rfl, TB_i 126 (by decide +kernel) rfl, rfl, rfl⟩
theorem fl_X3_93 : FL RX3 93 1 0 (.array .int) true := ⟨RX2, TX2, 6, tyX2, fc_X2, by decide, rfl, TB_i 127 (by decide +kernel) rfl, rfl, rfl⟩
theorem fl_X4_231 : FL RX4 231 1 0 (.array .int) true := ⟨RX2, TX2, 6, tyX2, fc_X2, by decide, rfl, TB_i 128 (by decide +kernel) rfl, rfl, rfl⟩
theorem fl_X2_15 : FL RX2 15 1 1 (.int) false := ⟨RX2, TX2, 6, tyX2, fc_X2, by decide, rfl, TB_i 129 (by decide +kernel) rfl, rfl, rfl⟩
theorem fl_X4_44 : FL RX4 44 1 1 (.int) false := ⟨RX2, TX2, 6, tyX2, fc_X2, by decide, rfl, TB_i 130 (by decide +kernel) rfl, rfl, rfl⟩
theorem fl_X2_19 : FL RX2 19 1 2 (.int) false := ⟨RX2, TX2, 6, tyX2, fc_X2, by decide, rfl, TB_i 131 (by decide +kernel) rfl, rfl, rfl⟩
theorem fl_X4_134 : FL RX4 134 1 2 (.int) false := ⟨RX2, TX2, 6, tyX2, fc_X2, by decide, rfl, TB_i 132 (by decide +kernel) rfl, rfl, rfl⟩
theorem fl_X2_22 : FL RX2 22 1 3 (.int) false := ⟨RX2, TX2, 6, tyX2, fc_X2, by decide, rfl, TB_i 133 (by decide +kernel) rfl, rfl, rfl⟩
theorem fl_X4_136 : FL RX4 136 1 3 (.int) false := ⟨RX2, TX2, 6, tyX2, fc_X2, by decide, rfl, TB_i 134 (by decide +kernel) rfl, rfl, rfl⟩
theorem fl_X2_25 : FL RX2 25 1 4 (.int) false := ⟨RX2, TX2, 6, tyX2, fc_X2, by decide, rfl, TB_i 135 (by decide +kernel) rfl, rfl, rfl⟩
theorem fl_X4_48 : FL RX4 48 1 4 (.int) false := ⟨RX2, TX2, 6, tyX2, fc_X2, by decide, rfl, TB_i 136 (by decide +kernel) rfl, rfl, rfl⟩
theorem fl_X2_28 : FL RX2 28 1 5 (.int) false := ⟨RX2, TX2, 6, tyX2, fc_X2, by decide, rfl, TB_i 137 (by decide +kernel) rfl, rfl, rfl⟩
theorem fl_X3_23 : FL RX3 23 1 5 (.int) false := ⟨RX2, TX2, 6, tyX2, fc_X2, by decide, rfl, TB_i 138 (by decide +kernel) rfl, rfl, rfl⟩
theorem fl_X4_61 : FL RX4 61 1 5 (.int) false := ⟨RX2, TX2, 6, tyX2, fc_X2, by decide, rfl, TB_i 139 (by decide +kernel) rfl, rfl, rfl⟩
theorem fl_X4_12 : FL RX4 12 2 0 (.object "DesertIsCounted$Desert") true := ⟨RX4, TX4, 7, tyX4, fc_X4, by decide, rfl, TB_i 153 (by decide +kernel) rfl, rfl, rfl⟩
theorem fl_X4_16 : FL RX4 16 2 1 (.object "DesertIsCounted$Desert") true := ⟨RX4, TX4, 7, tyX4, fc_X4, by decide, rfl, TB_i 154 (by decide +kernel) rfl, rfl, rfl⟩
theorem fl_X4_19 : FL RX4 19 2 2 (.object "DesertIsCounted$Desert") true := ⟨RX4, TX4, 7, tyX4, fc_X4, by decide, rfl, TB_i 155 (by decide +kernel) rfl, rfl, rfl⟩
theorem fl_X4_22 : FL RX4 22 2 3 (.boolean) false := ⟨RX4, TX4, 7, tyX4, fc_X4, by decide, rfl, TB_i 156 (by decide +kernel) rfl, rfl, rfl⟩
theorem fl_X4_28 : FL RX4 28 2 4 (.array (.object "DesertIsCounted$Shelf")) true := ⟨RX4, TX4, 7, tyX4, fc_X4, by decide, rfl, TB_i 157 (by decide +kernel) rfl, rfl, rfl⟩
theorem fl_X4_32 : FL RX4 32 2 5 (.array .int) true := ⟨RX4, TX4, 7, tyX4, fc_X4, by decide, rfl, TB_i 158 (by decide +kernel) rfl, rfl, rfl⟩
theorem fl_X4_36 : FL RX4 36 2 6 (.array .int) true := ⟨RX4, TX4, 7, tyX4, fc_X4, by decide, rfl, TB_i 159 (by decide +kernel) rfl, rfl, rfl⟩
theorem fl_X5_9 : FL RX5 9 3 0 (.array .int) true := ⟨RX5, TX5, 17, tyX5, fc_X5, by decide, rfl, TB_i 710 (by decide +kernel) rfl, rfl, rfl⟩
theorem fl_X5_13 : FL RX5 13 3 1 (.array .int) true := ⟨RX5, TX5, 17, tyX5, fc_X5, by decide, rfl, TB_i 711 (by decide +kernel) rfl, rfl, rfl⟩
theorem fl_X5_16 : FL RX5 16 3 2 (.array .int) true := ⟨RX5, TX5, 17, tyX5, fc_X5, by decide, rfl, TB_i 712 (by decide +kernel) rfl, rfl, rfl⟩
theorem fl_X5_19 : FL RX5 19 3 3 (.array .int) true := ⟨RX5, TX5, 17, tyX5, fc_X5, by decide, rfl, TB_i 713 (by decide +kernel) rfl, rfl, rfl⟩
theorem fl_X5_211 : FL RX5 211 3 4 (.boolean) false := ⟨RX5, TX5, 17, tyX5, fc_X5, by decide, rfl, TB_i 714 (by decide +kernel) rfl, rfl, rfl⟩
theorem fl_X5_99 : FL RX5 99 3 5 (.int) false := ⟨RX5, TX5, 17, tyX5, fc_X5, by decide, rfl, TB_i 715 (by decide +kernel) rfl, rfl, rfl⟩
theorem fl_X5_106 : FL RX5 106 3 6 (.int) false := ⟨RX5, TX5, 17, tyX5, fc_X5, by decide, rfl, TB_i 716 (by decide +kernel) rfl, rfl, rfl⟩
theorem fl_X5_103 : FL RX5 103 3 7 (.int) false := ⟨RX5, TX5, 17, tyX5, fc_X5, by decide, rfl, TB_i 717 (by decide +kernel) rfl, rfl, rfl⟩
theorem fl_X5_22 : FL RX5 22 3 8 (.array .int) true := ⟨RX5, TX5, 17, tyX5, fc_X5, by decide, rfl, TB_i 718 (by decide +kernel) rfl, rfl, rfl⟩
theorem fl_X5_202 : FL RX5 202 3 9 (.int) false := ⟨RX5, TX5, 17, tyX5, fc_X5, by decide, rfl, TB_i 719 (by decide +kernel) rfl, rfl, rfl⟩
theorem fl_X5_25 : FL RX5 25 3 10 (.array .int) true := ⟨RX5, TX5, 17, tyX5, fc_X5, by decide, rfl, TB_i 720 (by decide +kernel) rfl, rfl, rfl⟩
theorem fl_X5_28 : FL RX5 28 3 11 (.array .int) true := ⟨RX5, TX5, 17, tyX5, fc_X5, by decide, rfl, TB_i 721 (by decide +kernel) rfl, rfl, rfl⟩
theorem fl_X5_31 : FL RX5 31 3 12 (.array .int) true := ⟨RX5, TX5, 17, tyX5, fc_X5, by decide, rfl, TB_i 722 (by decide +kernel) rfl, rfl, rfl⟩
theorem fl_X5_34 : FL RX5 34 3 13 (.array .int) true := ⟨RX5, TX5, 17, tyX5, fc_X5, by decide, rfl, TB_i 723 (by decide +kernel) rfl, rfl, rfl⟩
theorem fl_X5_37 : FL RX5 37 3 14 (.array .int) true := ⟨RX5, TX5, 17, tyX5, fc_X5, by decide, rfl, TB_i 724 (by decide +kernel) rfl, rfl, rfl⟩
theorem fl_X5_40 : FL RX5 40 3 15 (.array .int) true := ⟨RX5, TX5, 17, tyX5, fc_X5, by decide, rfl, TB_i 725 (by decide +kernel) rfl, rfl, rfl⟩
theorem fl_X5_215 : FL RX5 215 3 16 (.int) false := ⟨RX5, TX5, 17, tyX5, fc_X5, by decide, rfl, TB_i 726 (by decide +kernel) rfl, rfl, rfl⟩
theorem mi_X4_init : Mi yX4_init cX4_init 2 none 0 := ⟨TB_i 49 (by decide +kernel) rfl, TB_i 30 (by decide +kernel) rfl, by decide +kernel⟩
theorem mi_X0_init : Mi yX0_init cX0_init 1 none 0 := ⟨TB_i 57 (by decide +kernel) rfl, TB_i 31 (by decide +kernel) rfl, by decide +kernel⟩
theorem mi_J7_fill_53178 : Mi yJ7_fill_53178 cJ7_fill_53178 4 none 2 := ⟨TB_i 61 (by decide +kernel) rfl, TB_i 32 (by decide +kernel) rfl, by decide +kernel⟩
theorem mi_X2_init : Mi yX2_init cX2_init 1 none 0 := ⟨TB_i 124 (by decide +kernel) rfl, TB_i 33 (by decide +kernel) rfl, by decide +kernel⟩
theorem mi_X4_desert : Mi yX4_desert cX4_desert 6 (some .int) 1 := ⟨TB_i 178 (by decide +kernel) rfl, TB_i 30 (by decide +kernel) rfl, by decide +kernel⟩
theorem mi_X4_shelfOrNull : Mi yX4_shelfOrNull cX4_shelfOrNull 2 (some (.object "DesertIsCounted$Shelf")) 1 := ⟨TB_i 182 (by decide +kernel) rfl, TB_i 30 (by decide +kernel) rfl, by decide +kernel⟩
theorem mi_X4_isWithin : Mi yX4_isWithin cX4_isWithin 3 (some .boolean) 3 := ⟨TB_i 185 (by decide +kernel) rfl, TB_i 30 (by decide +kernel) rfl, by decide +kernel⟩
theorem mi_X3_placeOfBadForm : Mi yX3_placeOfBadForm cX3_placeOfBadForm 5 (some .int) 1 := ⟨TB_i 188 (by decide +kernel) rfl, TB_i 35 (by decide +kernel) rfl, by decide +kernel⟩
theorem mi_X3_byteAt : Mi yX3_byteAt cX3_byteAt 2 (some .int) 2 := ⟨TB_i 191 (by decide +kernel) rfl, TB_i 35 (by decide +kernel) rfl, by decide +kernel⟩
theorem mi_X2_hasPlace : Mi yX2_hasPlace cX2_hasPlace 2 (some .boolean) 1 := ⟨TB_i 195 (by decide +kernel) rfl, TB_i 33 (by decide +kernel) rfl, by decide +kernel⟩
theorem mi_X3_digitsBehind : Mi yX3_digitsBehind cX3_digitsBehind 1 (some .int) 1 := ⟨TB_i 199 (by decide +kernel) rfl, TB_i 35 (by decide +kernel) rfl, by decide +kernel⟩
theorem mi_X3_isDigit : Mi yX3_isDigit cX3_isDigit 1 (some .boolean) 1 := ⟨TB_i 202 (by decide +kernel) rfl, TB_i 35 (by decide +kernel) rfl, by decide +kernel⟩
theorem mi_X0_becomes : Mi yX0_becomes cX0_becomes 2 none 1 := ⟨TB_i 207 (by decide +kernel) rfl, TB_i 31 (by decide +kernel) rfl, by decide +kernel⟩
theorem mi_X3_isDoneOn : Mi yX3_isDoneOn cX3_isDoneOn 4 (some .boolean) 3 := ⟨TB_i 213 (by decide +kernel) rfl, TB_i 35 (by decide +kernel) rfl, by decide +kernel⟩
theorem mi_X3_digitAt : Mi yX3_digitAt cX3_digitAt 3 (some .int) 2 := ⟨TB_i 216 (by decide +kernel) rfl, TB_i 35 (by decide +kernel) rfl, by decide +kernel⟩
theorem mi_X3_comesOn : Mi yX3_comesOn cX3_comesOn 5 (some .boolean) 4 := ⟨TB_i 219 (by decide +kernel) rfl, TB_i 35 (by decide +kernel) rfl, by decide +kernel⟩
theorem mi_X0_hasRoom : Mi yX0_hasRoom cX0_hasRoom 1 (some .boolean) 0 := ⟨TB_i 223 (by decide +kernel) rfl, TB_i 31 (by decide +kernel) rfl, by decide +kernel⟩
theorem mi_X0_takesIn : Mi yX0_takesIn cX0_takesIn 5 none 4 := ⟨TB_i 227 (by decide +kernel) rfl, TB_i 31 (by decide +kernel) rfl, by decide +kernel⟩
theorem mi_X3_numberAt : Mi yX3_numberAt cX3_numberAt 5 (some .int) 3 := ⟨TB_i 231 (by decide +kernel) rfl, TB_i 35 (by decide +kernel) rfl, by decide +kernel⟩
theorem mi_X0_refill : Mi yX0_refill cX0_refill 3 none 2 := ⟨TB_i 235 (by decide +kernel) rfl, TB_i 31 (by decide +kernel) rfl, by decide +kernel⟩
theorem mi_X3_restsOn : Mi yX3_restsOn cX3_restsOn 2 (some .boolean) 2 := ⟨TB_i 238 (by decide +kernel) rfl, TB_i 35 (by decide +kernel) rfl, by decide +kernel⟩
theorem mi_X0_turnRest : Mi yX0_turnRest cX0_turnRest 2 none 1 := ⟨TB_i 242 (by decide +kernel) rfl, TB_i 31 (by decide +kernel) rfl, by decide +kernel⟩
theorem mi_X0_setBack : Mi yX0_setBack cX0_setBack 1 none 0 := ⟨TB_i 246 (by decide +kernel) rfl, TB_i 31 (by decide +kernel) rfl, by decide +kernel⟩
theorem mi_X3_daysPassOn : Mi yX3_daysPassOn cX3_daysPassOn 2 (some .boolean) 2 := ⟨TB_i 249 (by decide +kernel) rfl, TB_i 35 (by decide +kernel) rfl, by decide +kernel⟩
theorem mi_X0_passDays : Mi yX0_passDays cX0_passDays 3 none 1 := ⟨TB_i 253 (by decide +kernel) rfl, TB_i 31 (by decide +kernel) rfl, by decide +kernel⟩
theorem mi_X0_passDay : Mi yX0_passDay cX0_passDay 2 none 0 := ⟨TB_i 257 (by decide +kernel) rfl, TB_i 31 (by decide +kernel) rfl, by decide +kernel⟩
theorem mi_X4_hasBit : Mi yX4_hasBit cX4_hasBit 2 (some .boolean) 2 := ⟨TB_i 260 (by decide +kernel) rfl, TB_i 30 (by decide +kernel) rfl, by decide +kernel⟩
theorem mi_X0_write : Mi yX0_write cX0_write 3 none 2 := ⟨TB_i 264 (by decide +kernel) rfl, TB_i 31 (by decide +kernel) rfl, by decide +kernel⟩
theorem mi_J9_min_7cf53 : Mi yJ9_min_7cf53 cJ9_min_7cf53 2 (some .int) 2 := ⟨TB_i 267 (by decide +kernel) rfl, TB_i 37 (by decide +kernel) rfl, by decide +kernel⟩
theorem mi_X0_work : Mi yX0_work cX0_work 5 none 1 := ⟨TB_i 271 (by decide +kernel) rfl, TB_i 31 (by decide +kernel) rfl, by decide +kernel⟩
theorem mi_X0_leftIn : Mi yX0_leftIn cX0_leftIn 2 (some .int) 1 := ⟨TB_i 275 (by decide +kernel) rfl, TB_i 31 (by decide +kernel) rfl, by decide +kernel⟩
theorem mi_X1_counts : Mi yX1_counts cX1_counts 9 (some .int) 4 := ⟨TB_i 278 (by decide +kernel) rfl, TB_i 38 (by decide +kernel) rfl, by decide +kernel⟩
theorem mi_J9_max_7cf53 : Mi yJ9_max_7cf53 cJ9_max_7cf53 2 (some .int) 2 := ⟨TB_i 281 (by decide +kernel) rfl, TB_i 37 (by decide +kernel) rfl, by decide +kernel⟩
theorem mi_X1_books : Mi yX1_books cX1_books 3 (some .int) 3 := ⟨TB_i 285 (by decide +kernel) rfl, TB_i 38 (by decide +kernel) rfl, by decide +kernel⟩
theorem mi_X0_isDone : Mi yX0_isDone cX0_isDone 2 (some .boolean) 1 := ⟨TB_i 289 (by decide +kernel) rfl, TB_i 31 (by decide +kernel) rfl, by decide +kernel⟩
theorem mi_X4_isDip : Mi yX4_isDip cX4_isDip 1 (some .boolean) 1 := ⟨TB_i 292 (by decide +kernel) rfl, TB_i 30 (by decide +kernel) rfl, by decide +kernel⟩
theorem mi_X0_isBarred : Mi yX0_isBarred cX0_isBarred 4 (some .boolean) 2 := ⟨TB_i 296 (by decide +kernel) rfl, TB_i 31 (by decide +kernel) rfl, by decide +kernel⟩
theorem mi_X0_give : Mi yX0_give cX0_give 6 none 3 := ⟨TB_i 300 (by decide +kernel) rfl, TB_i 31 (by decide +kernel) rfl, by decide +kernel⟩
theorem mi_X3_lengthOfStatement : Mi yX3_lengthOfStatement cX3_lengthOfStatement 2 (some .int) 2 := ⟨TB_i 304 (by decide +kernel) rfl, TB_i 35 (by decide +kernel) rfl, by decide +kernel⟩
theorem mi_X4_corporal : Mi yX4_corporal cX4_corporal 3 (some .int) 2 := ⟨TB_i 309 (by decide +kernel) rfl, TB_i 30 (by decide +kernel) rfl, by decide +kernel⟩
theorem mi_X4_isCorporal : Mi yX4_isCorporal cX4_isCorporal 2 (some .boolean) 1 := ⟨TB_i 313 (by decide +kernel) rfl, TB_i 30 (by decide +kernel) rfl, by decide +kernel⟩
theorem mi_X4_dip : Mi yX4_dip cX4_dip 3 (some .int) 2 := ⟨TB_i 320 (by decide +kernel) rfl, TB_i 30 (by decide +kernel) rfl, by decide +kernel⟩
theorem mi_X0_whoIsAt : Mi yX0_whoIsAt cX0_whoIsAt 4 (some .int) 1 := ⟨TB_i 325 (by decide +kernel) rfl, TB_i 31 (by decide +kernel) rfl, by decide +kernel⟩
theorem mi_X4_comes : Mi yX4_comes cX4_comes 6 (some .int) 3 := ⟨TB_i 329 (by decide +kernel) rfl, TB_i 30 (by decide +kernel) rfl, by decide +kernel⟩
theorem mi_X4_refusalUnless : Mi yX4_refusalUnless cX4_refusalUnless 2 (some .int) 2 := ⟨TB_i 332 (by decide +kernel) rfl, TB_i 30 (by decide +kernel) rfl, by decide +kernel⟩
theorem mi_X4_fills : Mi yX4_fills cX4_fills 4 (some .int) 2 := ⟨TB_i 338 (by decide +kernel) rfl, TB_i 30 (by decide +kernel) rfl, by decide +kernel⟩
theorem mi_X4_blows : Mi yX4_blows cX4_blows 3 (some .int) 1 := ⟨TB_i 343 (by decide +kernel) rfl, TB_i 30 (by decide +kernel) rfl, by decide +kernel⟩
theorem mi_X4_rests : Mi yX4_rests cX4_rests 2 (some .int) 1 := ⟨TB_i 348 (by decide +kernel) rfl, TB_i 30 (by decide +kernel) rfl, by decide +kernel⟩
theorem mi_X4_moves : Mi yX4_moves cX4_moves 4 (some .int) 2 := ⟨TB_i 353 (by decide +kernel) rfl, TB_i 30 (by decide +kernel) rfl, by decide +kernel⟩
theorem mi_X4_flood : Mi yX4_flood cX4_flood 2 (some .int) 0 := ⟨TB_i 357 (by decide +kernel) rfl, TB_i 30 (by decide +kernel) rfl, by decide +kernel⟩
theorem mi_X0_allBooks : Mi yX0_allBooks cX0_allBooks 3 (some .int) 0 := ⟨TB_i 361 (by decide +kernel) rfl, TB_i 31 (by decide +kernel) rfl, by decide +kernel⟩
theorem mi_X4_days : Mi yX4_days cX4_days 2 (some .int) 1 := ⟨TB_i 366 (by decide +kernel) rfl, TB_i 30 (by decide +kernel) rfl, by decide +kernel⟩
theorem mi_X4_corporalThen : Mi yX4_corporalThen cX4_corporalThen 4 (some .int) 3 := ⟨TB_i 371 (by decide +kernel) rfl, TB_i 30 (by decide +kernel) rfl, by decide +kernel⟩
theorem mi_X4_isDaysOn : Mi yX4_isDaysOn cX4_isDaysOn 1 (some .boolean) 1 := ⟨TB_i 374 (by decide +kernel) rfl, TB_i 30 (by decide +kernel) rfl, by decide +kernel⟩
theorem mi_X4_lookOn : Mi yX4_lookOn cX4_lookOn 2 none 1 := ⟨TB_i 378 (by decide +kernel) rfl, TB_i 30 (by decide +kernel) rfl, by decide +kernel⟩
theorem mi_X4_dipThen : Mi yX4_dipThen cX4_dipThen 4 (some .int) 3 := ⟨TB_i 382 (by decide +kernel) rfl, TB_i 30 (by decide +kernel) rfl, by decide +kernel⟩
theorem mi_X4_dipsDone : Mi yX4_dipsDone cX4_dipsDone 2 (some .int) 1 := ⟨TB_i 386 (by decide +kernel) rfl, TB_i 30 (by decide +kernel) rfl, by decide +kernel⟩
theorem mi_X0_doneDips : Mi yX0_doneDips cX0_doneDips 3 (some .int) 0 := ⟨TB_i 390 (by decide +kernel) rfl, TB_i 31 (by decide +kernel) rfl, by decide +kernel⟩
theorem mi_X4_ends : Mi yX4_ends cX4_ends 4 (some .int) 1 := ⟨TB_i 394 (by decide +kernel) rfl, TB_i 30 (by decide +kernel) rfl, by decide +kernel⟩
theorem mi_X4_meet : Mi yX4_meet cX4_meet 4 (some .int) 2 := ⟨TB_i 399 (by decide +kernel) rfl, TB_i 30 (by decide +kernel) rfl, by decide +kernel⟩
theorem mi_J9_abs_0f7a4 : Mi yJ9_abs_0f7a4 cJ9_abs_0f7a4 1 (some .int) 1 := ⟨TB_i 402 (by decide +kernel) rfl, TB_i 37 (by decide +kernel) rfl, by decide +kernel⟩
theorem mi_X4_line : Mi yX4_line cX4_line 5 (some .int) 1 := ⟨TB_i 406 (by decide +kernel) rfl, TB_i 30 (by decide +kernel) rfl, by decide +kernel⟩
theorem mi_X4_treaty : Mi yX4_treaty cX4_treaty 4 (some .int) 1 := ⟨TB_i 412 (by decide +kernel) rfl, TB_i 30 (by decide +kernel) rfl, by decide +kernel⟩
theorem mi_X4_bestWind : Mi yX4_bestWind cX4_bestWind 7 (some .int) 2 := ⟨TB_i 416 (by decide +kernel) rfl, TB_i 30 (by decide +kernel) rfl, by decide +kernel⟩
theorem mi_X4_send : Mi yX4_send cX4_send 8 (some .int) 3 := ⟨TB_i 420 (by decide +kernel) rfl, TB_i 30 (by decide +kernel) rfl, by decide +kernel⟩
theorem mi_J6_bitCount_0f7a4 : Mi yJ6_bitCount_0f7a4 cJ6_bitCount_0f7a4 1 (some .int) 1 := ⟨TB_i 423 (by decide +kernel) rfl, TB_i 39 (by decide +kernel) rfl, by decide +kernel⟩
theorem mi_X4_idle : Mi yX4_idle cX4_idle 4 (some .int) 1 := ⟨TB_i 430 (by decide +kernel) rfl, TB_i 30 (by decide +kernel) rfl, by decide +kernel⟩
theorem mi_X4_slowest : Mi yX4_slowest cX4_slowest 6 (some .int) 1 := ⟨TB_i 434 (by decide +kernel) rfl, TB_i 30 (by decide +kernel) rfl, by decide +kernel⟩
theorem mi_X4_lost : Mi yX4_lost cX4_lost 2 (some .int) 1 := ⟨TB_i 438 (by decide +kernel) rfl, TB_i 30 (by decide +kernel) rfl, by decide +kernel⟩
theorem mi_X4_heap : Mi yX4_heap cX4_heap 5 (some .int) 2 := ⟨TB_i 442 (by decide +kernel) rfl, TB_i 30 (by decide +kernel) rfl, by decide +kernel⟩
theorem mi_X4_begin : Mi yX4_begin cX4_begin 7 (some .int) 2 := ⟨TB_i 446 (by decide +kernel) rfl, TB_i 30 (by decide +kernel) rfl, by decide +kernel⟩
theorem mi_X4_pairs : Mi yX4_pairs cX4_pairs 6 (some .int) 0 := ⟨TB_i 450 (by decide +kernel) rfl, TB_i 30 (by decide +kernel) rfl, by decide +kernel⟩
theorem mi_X4_leastInReach : Mi yX4_leastInReach cX4_leastInReach 7 (some .int) 2 := ⟨TB_i 454 (by decide +kernel) rfl, TB_i 30 (by decide +kernel) rfl, by decide +kernel⟩
theorem mi_X4_even : Mi yX4_even cX4_even 8 (some .int) 1 := ⟨TB_i 458 (by decide +kernel) rfl, TB_i 30 (by decide +kernel) rfl, by decide +kernel⟩
theorem mi_X0_allGrains : Mi yX0_allGrains cX0_allGrains 3 (some .int) 0 := ⟨TB_i 462 (by decide +kernel) rfl, TB_i 31 (by decide +kernel) rfl, by decide +kernel⟩
theorem mi_X4_howMany : Mi yX4_howMany cX4_howMany 11 (some .int) 3 := ⟨TB_i 466 (by decide +kernel) rfl, TB_i 30 (by decide +kernel) rfl, by decide +kernel⟩
theorem mi_X2_behindLastTold : Mi yX2_behindLastTold cX2_behindLastTold 2 (some .int) 0 := ⟨TB_i 470 (by decide +kernel) rfl, TB_i 33 (by decide +kernel) rfl, by decide +kernel⟩
theorem mi_X2_isSkipped : Mi yX2_isSkipped cX2_isSkipped 2 (some .boolean) 1 := ⟨TB_i 474 (by decide +kernel) rfl, TB_i 33 (by decide +kernel) rfl, by decide +kernel⟩
theorem mi_X2_leastNumber : Mi yX2_leastNumber cX2_leastNumber 1 (some .int) 0 := ⟨TB_i 478 (by decide +kernel) rfl, TB_i 33 (by decide +kernel) rfl, by decide +kernel⟩
theorem mi_X4_isDoneAsTold : Mi yX4_isDoneAsTold cX4_isDoneAsTold 6 (some .boolean) 4 := ⟨TB_i 483 (by decide +kernel) rfl, TB_i 30 (by decide +kernel) rfl, by decide +kernel⟩
theorem mi_X2_allows : Mi yX2_allows cX2_allows 3 (some .boolean) 2 := ⟨TB_i 487 (by decide +kernel) rfl, TB_i 33 (by decide +kernel) rfl, by decide +kernel⟩
theorem mi_X4_whatIs : Mi yX4_whatIs cX4_whatIs 10 (some .int) 3 := ⟨TB_i 491 (by decide +kernel) rfl, TB_i 30 (by decide +kernel) rfl, by decide +kernel⟩
theorem mi_X4_isBookInMindAsTold : Mi yX4_isBookInMindAsTold cX4_isBookInMindAsTold 5 (some .boolean) 3 := ⟨TB_i 495 (by decide +kernel) rfl, TB_i 30 (by decide +kernel) rfl, by decide +kernel⟩
theorem mi_X4_two : Mi yX4_two cX4_two 6 (some .int) 2 := ⟨TB_i 499 (by decide +kernel) rfl, TB_i 30 (by decide +kernel) rfl, by decide +kernel⟩
theorem mi_X4_playTwo : Mi yX4_playTwo cX4_playTwo 8 none 3 := ⟨TB_i 503 (by decide +kernel) rfl, TB_i 30 (by decide +kernel) rfl, by decide +kernel⟩
theorem mi_X4_storm : Mi yX4_storm cX4_storm 12 (some .long) 4 := ⟨TB_i 507 (by decide +kernel) rfl, TB_i 30 (by decide +kernel) rfl, by decide +kernel⟩
theorem mi_X4_partInLeastTerms : Mi yX4_partInLeastTerms cX4_partInLeastTerms 12 (some .long) 3 := ⟨TB_i 512 (by decide +kernel) rfl, TB_i 30 (by decide +kernel) rfl, by decide +kernel⟩
theorem mi_X4_mean : Mi yX4_mean cX4_mean 2 (some .long) 1 := ⟨TB_i 516 (by decide +kernel) rfl, TB_i 30 (by decide +kernel) rfl, by decide +kernel⟩
theorem mi_X4_forged : Mi yX4_forged cX4_forged 5 (some .int) 1 := ⟨TB_i 521 (by decide +kernel) rfl, TB_i 30 (by decide +kernel) rfl, by decide +kernel⟩
theorem mi_X4_judge : Mi yX4_judge cX4_judge 5 (some .int) 1 := ⟨TB_i 525 (by decide +kernel) rfl, TB_i 30 (by decide +kernel) rfl, by decide +kernel⟩
theorem mi_X4_deserts : Mi yX4_deserts cX4_deserts 10 (some .int) 3 := ⟨TB_i 529 (by decide +kernel) rfl, TB_i 30 (by decide +kernel) rfl, by decide +kernel⟩
theorem mi_X4_nextSeed : Mi yX4_nextSeed cX4_nextSeed 1 (some .int) 1 := ⟨TB_i 532 (by decide +kernel) rfl, TB_i 30 (by decide +kernel) rfl, by decide +kernel⟩
theorem mi_X4_drawBelow : Mi yX4_drawBelow cX4_drawBelow 2 (some .int) 2 := ⟨TB_i 536 (by decide +kernel) rfl, TB_i 30 (by decide +kernel) rfl, by decide +kernel⟩
theorem mi_X4_image : Mi yX4_image cX4_image 1 (some .int) 0 := ⟨TB_i 542 (by decide +kernel) rfl, TB_i 30 (by decide +kernel) rfl, by decide +kernel⟩
theorem mi_X4_restore : Mi yX4_restore cX4_restore 1 (some .int) 0 := ⟨TB_i 546 (by decide +kernel) rfl, TB_i 30 (by decide +kernel) rfl, by decide +kernel⟩
theorem mi_X4_count : Mi yX4_count cX4_count 2 (some .int) 1 := ⟨TB_i 550 (by decide +kernel) rfl, TB_i 30 (by decide +kernel) rfl, by decide +kernel⟩
theorem mi_X0_allDone : Mi yX0_allDone cX0_allDone 3 (some .int) 0 := ⟨TB_i 554 (by decide +kernel) rfl, TB_i 31 (by decide +kernel) rfl, by decide +kernel⟩
theorem mi_X4_keep : Mi yX4_keep cX4_keep 6 (some .int) 4 := ⟨TB_i 558 (by decide +kernel) rfl, TB_i 30 (by decide +kernel) rfl, by decide +kernel⟩
theorem mi_X2_holdNothing : Mi yX2_holdNothing cX2_holdNothing 1 none 0 := ⟨TB_i 562 (by decide +kernel) rfl, TB_i 33 (by decide +kernel) rfl, by decide +kernel⟩
theorem mi_X2_holdKind : Mi yX2_holdKind cX2_holdKind 3 none 2 := ⟨TB_i 566 (by decide +kernel) rfl, TB_i 33 (by decide +kernel) rfl, by decide +kernel⟩
theorem mi_X4_row : Mi yX4_row cX4_row 5 (some .int) 3 := ⟨TB_i 570 (by decide +kernel) rfl, TB_i 30 (by decide +kernel) rfl, by decide +kernel⟩
theorem mi_X2_holdRow : Mi yX2_holdRow cX2_holdRow 3 none 2 := ⟨TB_i 574 (by decide +kernel) rfl, TB_i 33 (by decide +kernel) rfl, by decide +kernel⟩
theorem mi_X4_put : Mi yX4_put cX4_put 6 (some .int) 3 := ⟨TB_i 579 (by decide +kernel) rfl, TB_i 30 (by decide +kernel) rfl, by decide +kernel⟩
theorem mi_X2_set : Mi yX2_set cX2_set 3 none 2 := ⟨TB_i 584 (by decide +kernel) rfl, TB_i 33 (by decide +kernel) rfl, by decide +kernel⟩
theorem mi_X4_copy : Mi yX4_copy cX4_copy 8 (some .int) 5 := ⟨TB_i 588 (by decide +kernel) rfl, TB_i 30 (by decide +kernel) rfl, by decide +kernel⟩
theorem mi_X2_hasStretch : Mi yX2_hasStretch cX2_hasStretch 3 (some .boolean) 2 := ⟨TB_i 592 (by decide +kernel) rfl, TB_i 33 (by decide +kernel) rfl, by decide +kernel⟩
theorem mi_X4_cost : Mi yX4_cost cX4_cost 4 (some .int) 1 := ⟨TB_i 597 (by decide +kernel) rfl, TB_i 30 (by decide +kernel) rfl, by decide +kernel⟩
theorem mi_X1_costOf : Mi yX1_costOf cX1_costOf 5 (some .int) 2 := ⟨TB_i 600 (by decide +kernel) rfl, TB_i 38 (by decide +kernel) rfl, by decide +kernel⟩
theorem mi_X4_toss : Mi yX4_toss cX4_toss 4 (some .int) 1 := ⟨TB_i 604 (by decide +kernel) rfl, TB_i 30 (by decide +kernel) rfl, by decide +kernel⟩
theorem mi_X1_hasFailure : Mi yX1_hasFailure cX1_hasFailure 2 (some .boolean) 2 := ⟨TB_i 607 (by decide +kernel) rfl, TB_i 38 (by decide +kernel) rfl, by decide +kernel⟩
theorem mi_X1_failureOf : Mi yX1_failureOf cX1_failureOf 2 (some .int) 2 := ⟨TB_i 610 (by decide +kernel) rfl, TB_i 38 (by decide +kernel) rfl, by decide +kernel⟩
theorem mi_X4_element : Mi yX4_element cX4_element 4 (some .long) 2 := ⟨TB_i 620 (by decide +kernel) rfl, TB_i 30 (by decide +kernel) rfl, by decide +kernel⟩
theorem mi_X5_init : Mi yX5_init cX5_init 2 none 0 := ⟨TB_i 708 (by decide +kernel) rfl, TB_i 34 (by decide +kernel) rfl, by decide +kernel⟩
theorem mi_X5_desert : Mi yX5_desert cX5_desert 8 (some .int) 1 := ⟨TB_i 765 (by decide +kernel) rfl, TB_i 34 (by decide +kernel) rfl, by decide +kernel⟩
theorem mi_X5_wrongRow : Mi yX5_wrongRow cX5_wrongRow 3 (some .int) 2 := ⟨TB_i 769 (by decide +kernel) rfl, TB_i 34 (by decide +kernel) rfl, by decide +kernel⟩
theorem mi_X5_isShelf : Mi yX5_isShelf cX5_isShelf 1 (some .boolean) 1 := ⟨TB_i 772 (by decide +kernel) rfl, TB_i 34 (by decide +kernel) rfl, by decide +kernel⟩
theorem mi_X5_isIn : Mi yX5_isIn cX5_isIn 3 (some .boolean) 3 := ⟨TB_i 775 (by decide +kernel) rfl, TB_i 34 (by decide +kernel) rfl, by decide +kernel⟩
theorem mi_X5_readsStatement : Mi yX5_readsStatement cX5_readsStatement 3 (some .boolean) 0 := ⟨TB_i 779 (by decide +kernel) rfl, TB_i 34 (by decide +kernel) rfl, by decide +kernel⟩
theorem mi_X5_here : Mi yX5_here cX5_here 1 (some .int) 0 := ⟨TB_i 783 (by decide +kernel) rfl, TB_i 34 (by decide +kernel) rfl, by decide +kernel⟩
theorem mi_X5_readsNumber : Mi yX5_readsNumber cX5_readsNumber 4 (some .boolean) 2 := ⟨TB_i 787 (by decide +kernel) rfl, TB_i 34 (by decide +kernel) rfl, by decide +kernel⟩
theorem mi_X5_copies : Mi yX5_copies cX5_copies 3 none 2 := ⟨TB_i 790 (by decide +kernel) rfl, TB_i 34 (by decide +kernel) rfl, by decide +kernel⟩
theorem mi_X5_isDone : Mi yX5_isDone cX5_isDone 4 (some .boolean) 1 := ⟨TB_i 794 (by decide +kernel) rfl, TB_i 34 (by decide +kernel) rfl, by decide +kernel⟩
theorem mi_X5_adds : Mi yX5_adds cX5_adds 6 none 4 := ⟨TB_i 798 (by decide +kernel) rfl, TB_i 34 (by decide +kernel) rfl, by decide +kernel⟩
theorem mi_X5_of : Mi yX5_of cX5_of 2 (some .int) 2 := ⟨TB_i 801 (by decide +kernel) rfl, TB_i 34 (by decide +kernel) rfl, by decide +kernel⟩
theorem mi_X5_fillsIn : Mi yX5_fillsIn cX5_fillsIn 3 none 3 := ⟨TB_i 804 (by decide +kernel) rfl, TB_i 34 (by decide +kernel) rfl, by decide +kernel⟩
theorem mi_X5_isOne : Mi yX5_isOne cX5_isOne 2 (some .boolean) 1 := ⟨TB_i 808 (by decide +kernel) rfl, TB_i 34 (by decide +kernel) rfl, by decide +kernel⟩
theorem mi_X5_floods : Mi yX5_floods cX5_floods 2 none 1 := ⟨TB_i 811 (by decide +kernel) rfl, TB_i 34 (by decide +kernel) rfl, by decide +kernel⟩
theorem mi_X5_daysOn : Mi yX5_daysOn cX5_daysOn 3 none 2 := ⟨TB_i 814 (by decide +kernel) rfl, TB_i 34 (by decide +kernel) rfl, by decide +kernel⟩
theorem mi_X5_day : Mi yX5_day cX5_day 3 none 2 := ⟨TB_i 817 (by decide +kernel) rfl, TB_i 34 (by decide +kernel) rfl, by decide +kernel⟩
theorem mi_X5_worksOn : Mi yX5_worksOn cX5_worksOn 4 none 2 := ⟨TB_i 820 (by decide +kernel) rfl, TB_i 34 (by decide +kernel) rfl, by decide +kernel⟩
theorem mi_X5_has : Mi yX5_has cX5_has 2 (some .boolean) 2 := ⟨TB_i 823 (by decide +kernel) rfl, TB_i 34 (by decide +kernel) rfl, by decide +kernel⟩
theorem mi_X5_writes : Mi yX5_writes cX5_writes 3 none 3 := ⟨TB_i 826 (by decide +kernel) rfl, TB_i 34 (by decide +kernel) rfl, by decide +kernel⟩
theorem mi_X5_least : Mi yX5_least cX5_least 2 (some .int) 2 := ⟨TB_i 829 (by decide +kernel) rfl, TB_i 34 (by decide +kernel) rfl, by decide +kernel⟩
theorem mi_X5_counts : Mi yX5_counts cX5_counts 5 (some .int) 3 := ⟨TB_i 832 (by decide +kernel) rfl, TB_i 34 (by decide +kernel) rfl, by decide +kernel⟩
theorem mi_X5_left : Mi yX5_left cX5_left 2 (some .int) 2 := ⟨TB_i 835 (by decide +kernel) rfl, TB_i 34 (by decide +kernel) rfl, by decide +kernel⟩
theorem mi_X5_most : Mi yX5_most cX5_most 2 (some .int) 2 := ⟨TB_i 838 (by decide +kernel) rfl, TB_i 34 (by decide +kernel) rfl, by decide +kernel⟩
theorem mi_X5_books : Mi yX5_books cX5_books 3 (some .int) 3 := ⟨TB_i 841 (by decide +kernel) rfl, TB_i 34 (by decide +kernel) rfl, by decide +kernel⟩
theorem mi_X5_goes : Mi yX5_goes cX5_goes 3 none 2 := ⟨TB_i 844 (by decide +kernel) rfl, TB_i 34 (by decide +kernel) rfl, by decide +kernel⟩
theorem mi_X5_isDip : Mi yX5_isDip cX5_isDip 1 (some .boolean) 1 := ⟨TB_i 847 (by decide +kernel) rfl, TB_i 34 (by decide +kernel) rfl, by decide +kernel⟩
theorem mi_X5_isStood : Mi yX5_isStood cX5_isStood 4 (some .boolean) 3 := ⟨TB_i 850 (by decide +kernel) rfl, TB_i 34 (by decide +kernel) rfl, by decide +kernel⟩
theorem mi_X5_gives : Mi yX5_gives cX5_gives 6 none 4 := ⟨TB_i 853 (by decide +kernel) rfl, TB_i 34 (by decide +kernel) rfl, by decide +kernel⟩
theorem mi_X5_corporal : Mi yX5_corporal cX5_corporal 3 (some .int) 2 := ⟨TB_i 857 (by decide +kernel) rfl, TB_i 34 (by decide +kernel) rfl, by decide +kernel⟩
theorem mi_X5_dip : Mi yX5_dip cX5_dip 5 (some .int) 2 := ⟨TB_i 861 (by decide +kernel) rfl, TB_i 34 (by decide +kernel) rfl, by decide +kernel⟩
theorem mi_X5_comes : Mi yX5_comes cX5_comes 5 (some .int) 3 := ⟨TB_i 865 (by decide +kernel) rfl, TB_i 34 (by decide +kernel) rfl, by decide +kernel⟩
theorem mi_X5_wrongKept : Mi yX5_wrongKept cX5_wrongKept 2 (some .int) 1 := ⟨TB_i 869 (by decide +kernel) rfl, TB_i 34 (by decide +kernel) rfl, by decide +kernel⟩
theorem mi_X5_fills : Mi yX5_fills cX5_fills 4 (some .int) 2 := ⟨TB_i 873 (by decide +kernel) rfl, TB_i 34 (by decide +kernel) rfl, by decide +kernel⟩
theorem mi_X5_blows : Mi yX5_blows cX5_blows 3 (some .int) 1 := ⟨TB_i 877 (by decide +kernel) rfl, TB_i 34 (by decide +kernel) rfl, by decide +kernel⟩
theorem mi_X5_rests : Mi yX5_rests cX5_rests 2 (some .int) 1 := ⟨TB_i 882 (by decide +kernel) rfl, TB_i 34 (by decide +kernel) rfl, by decide +kernel⟩
theorem mi_X5_moves : Mi yX5_moves cX5_moves 4 (some .int) 2 := ⟨TB_i 886 (by decide +kernel) rfl, TB_i 34 (by decide +kernel) rfl, by decide +kernel⟩
theorem mi_X5_flood : Mi yX5_flood cX5_flood 2 (some .int) 0 := ⟨TB_i 890 (by decide +kernel) rfl, TB_i 34 (by decide +kernel) rfl, by decide +kernel⟩
theorem mi_X5_booksOf : Mi yX5_booksOf cX5_booksOf 4 (some .int) 2 := ⟨TB_i 893 (by decide +kernel) rfl, TB_i 34 (by decide +kernel) rfl, by decide +kernel⟩
theorem mi_X5_days : Mi yX5_days cX5_days 2 (some .int) 1 := ⟨TB_i 897 (by decide +kernel) rfl, TB_i 34 (by decide +kernel) rfl, by decide +kernel⟩
theorem mi_X5_corporalThen : Mi yX5_corporalThen cX5_corporalThen 4 (some .int) 3 := ⟨TB_i 901 (by decide +kernel) rfl, TB_i 34 (by decide +kernel) rfl, by decide +kernel⟩
theorem mi_X5_isLate : Mi yX5_isLate cX5_isLate 1 (some .boolean) 1 := ⟨TB_i 904 (by decide +kernel) rfl, TB_i 34 (by decide +kernel) rfl, by decide +kernel⟩
theorem mi_X5_takes : Mi yX5_takes cX5_takes 2 none 1 := ⟨TB_i 908 (by decide +kernel) rfl, TB_i 34 (by decide +kernel) rfl, by decide +kernel⟩
theorem mi_X5_dipThen : Mi yX5_dipThen cX5_dipThen 4 (some .int) 3 := ⟨TB_i 912 (by decide +kernel) rfl, TB_i 34 (by decide +kernel) rfl, by decide +kernel⟩
theorem mi_X5_dipsDone : Mi yX5_dipsDone cX5_dipsDone 2 (some .int) 1 := ⟨TB_i 916 (by decide +kernel) rfl, TB_i 34 (by decide +kernel) rfl, by decide +kernel⟩
theorem mi_X5_doneSet : Mi yX5_doneSet cX5_doneSet 3 (some .int) 1 := ⟨TB_i 919 (by decide +kernel) rfl, TB_i 34 (by decide +kernel) rfl, by decide +kernel⟩
theorem mi_X5_ends : Mi yX5_ends cX5_ends 4 (some .int) 1 := ⟨TB_i 923 (by decide +kernel) rfl, TB_i 34 (by decide +kernel) rfl, by decide +kernel⟩
theorem mi_X5_meet : Mi yX5_meet cX5_meet 4 (some .int) 2 := ⟨TB_i 927 (by decide +kernel) rfl, TB_i 34 (by decide +kernel) rfl, by decide +kernel⟩
theorem mi_X5_line : Mi yX5_line cX5_line 6 (some .int) 1 := ⟨TB_i 931 (by decide +kernel) rfl, TB_i 34 (by decide +kernel) rfl, by decide +kernel⟩
theorem mi_X5_treaty : Mi yX5_treaty cX5_treaty 2 (some .int) 1 := ⟨TB_i 935 (by decide +kernel) rfl, TB_i 34 (by decide +kernel) rfl, by decide +kernel⟩
theorem mi_X5_bestWind : Mi yX5_bestWind cX5_bestWind 6 (some .int) 2 := ⟨TB_i 939 (by decide +kernel) rfl, TB_i 34 (by decide +kernel) rfl, by decide +kernel⟩
theorem mi_X5_send : Mi yX5_send cX5_send 7 (some .int) 3 := ⟨TB_i 943 (by decide +kernel) rfl, TB_i 34 (by decide +kernel) rfl, by decide +kernel⟩
theorem mi_X5_bits : Mi yX5_bits cX5_bits 3 (some .int) 1 := ⟨TB_i 946 (by decide +kernel) rfl, TB_i 34 (by decide +kernel) rfl, by decide +kernel⟩
theorem mi_X5_idle : Mi yX5_idle cX5_idle 4 (some .int) 1 := ⟨TB_i 950 (by decide +kernel) rfl, TB_i 34 (by decide +kernel) rfl, by decide +kernel⟩
theorem mi_X5_slowest : Mi yX5_slowest cX5_slowest 6 (some .int) 1 := ⟨TB_i 954 (by decide +kernel) rfl, TB_i 34 (by decide +kernel) rfl, by decide +kernel⟩
theorem mi_X5_lost : Mi yX5_lost cX5_lost 2 (some .int) 1 := ⟨TB_i 959 (by decide +kernel) rfl, TB_i 34 (by decide +kernel) rfl, by decide +kernel⟩
theorem mi_X5_heap : Mi yX5_heap cX5_heap 5 (some .int) 2 := ⟨TB_i 963 (by decide +kernel) rfl, TB_i 34 (by decide +kernel) rfl, by decide +kernel⟩
theorem mi_X5_begin : Mi yX5_begin cX5_begin 6 (some .int) 2 := ⟨TB_i 967 (by decide +kernel) rfl, TB_i 34 (by decide +kernel) rfl, by decide +kernel⟩
theorem mi_X5_pairs : Mi yX5_pairs cX5_pairs 1 (some .int) 0 := ⟨TB_i 971 (by decide +kernel) rfl, TB_i 34 (by decide +kernel) rfl, by decide +kernel⟩
theorem mi_X5_pairsFrom : Mi yX5_pairsFrom cX5_pairsFrom 5 (some .int) 2 := ⟨TB_i 975 (by decide +kernel) rfl, TB_i 34 (by decide +kernel) rfl, by decide +kernel⟩
theorem mi_X5_even : Mi yX5_even cX5_even 4 (some .int) 1 := ⟨TB_i 979 (by decide +kernel) rfl, TB_i 34 (by decide +kernel) rfl, by decide +kernel⟩
theorem mi_X5_unevenAt : Mi yX5_unevenAt cX5_unevenAt 4 (some .int) 1 := ⟨TB_i 983 (by decide +kernel) rfl, TB_i 34 (by decide +kernel) rfl, by decide +kernel⟩
theorem mi_X5_howMany : Mi yX5_howMany cX5_howMany 9 (some .int) 3 := ⟨TB_i 987 (by decide +kernel) rfl, TB_i 34 (by decide +kernel) rfl, by decide +kernel⟩
theorem mi_X5_isTold : Mi yX5_isTold cX5_isTold 5 (some .boolean) 2 := ⟨TB_i 991 (by decide +kernel) rfl, TB_i 34 (by decide +kernel) rfl, by decide +kernel⟩
theorem mi_X5_leastOf : Mi yX5_leastOf cX5_leastOf 1 (some .int) 1 := ⟨TB_i 994 (by decide +kernel) rfl, TB_i 34 (by decide +kernel) rfl, by decide +kernel⟩
theorem mi_X5_whatIs : Mi yX5_whatIs cX5_whatIs 7 (some .int) 3 := ⟨TB_i 999 (by decide +kernel) rfl, TB_i 34 (by decide +kernel) rfl, by decide +kernel⟩
theorem mi_X5_two : Mi yX5_two cX5_two 6 (some .int) 2 := ⟨TB_i 1003 (by decide +kernel) rfl, TB_i 34 (by decide +kernel) rfl, by decide +kernel⟩
theorem mi_X5_hasBy : Mi yX5_hasBy cX5_hasBy 8 (some .int) 5 := ⟨TB_i 1007 (by decide +kernel) rfl, TB_i 34 (by decide +kernel) rfl, by decide +kernel⟩
theorem mi_X5_storm : Mi yX5_storm cX5_storm 13 (some .long) 4 := ⟨TB_i 1011 (by decide +kernel) rfl, TB_i 34 (by decide +kernel) rfl, by decide +kernel⟩
theorem mi_X5_partOf : Mi yX5_partOf cX5_partOf 5 (some .long) 3 := ⟨TB_i 1015 (by decide +kernel) rfl, TB_i 34 (by decide +kernel) rfl, by decide +kernel⟩
theorem mi_X5_gcd : Mi yX5_gcd cX5_gcd 10 (some .long) 2 := ⟨TB_i 1018 (by decide +kernel) rfl, TB_i 34 (by decide +kernel) rfl, by decide +kernel⟩
theorem mi_X5_mean : Mi yX5_mean cX5_mean 2 (some .long) 1 := ⟨TB_i 1022 (by decide +kernel) rfl, TB_i 34 (by decide +kernel) rfl, by decide +kernel⟩
theorem mi_X5_sumOf : Mi yX5_sumOf cX5_sumOf 4 (some .int) 1 := ⟨TB_i 1026 (by decide +kernel) rfl, TB_i 34 (by decide +kernel) rfl, by decide +kernel⟩
theorem mi_X5_forged : Mi yX5_forged cX5_forged 4 (some .int) 1 := ⟨TB_i 1031 (by decide +kernel) rfl, TB_i 34 (by decide +kernel) rfl, by decide +kernel⟩
theorem mi_X5_judge : Mi yX5_judge cX5_judge 5 (some .int) 1 := ⟨TB_i 1035 (by decide +kernel) rfl, TB_i 34 (by decide +kernel) rfl, by decide +kernel⟩
theorem mi_X5_deserts : Mi yX5_deserts cX5_deserts 7 (some .int) 3 := ⟨TB_i 1039 (by decide +kernel) rfl, TB_i 34 (by decide +kernel) rfl, by decide +kernel⟩
theorem mi_X5_drawn : Mi yX5_drawn cX5_drawn 2 (some .int) 1 := ⟨TB_i 1043 (by decide +kernel) rfl, TB_i 34 (by decide +kernel) rfl, by decide +kernel⟩
theorem mi_X5_image : Mi yX5_image cX5_image 1 (some .int) 0 := ⟨TB_i 1050 (by decide +kernel) rfl, TB_i 34 (by decide +kernel) rfl, by decide +kernel⟩
theorem mi_X5_restore : Mi yX5_restore cX5_restore 1 (some .int) 0 := ⟨TB_i 1054 (by decide +kernel) rfl, TB_i 34 (by decide +kernel) rfl, by decide +kernel⟩
theorem mi_X5_count : Mi yX5_count cX5_count 4 (some .int) 1 := ⟨TB_i 1058 (by decide +kernel) rfl, TB_i 34 (by decide +kernel) rfl, by decide +kernel⟩
theorem mi_X5_thrown : Mi yX5_thrown cX5_thrown 1 (some .int) 0 := ⟨TB_i 1062 (by decide +kernel) rfl, TB_i 34 (by decide +kernel) rfl, by decide +kernel⟩
theorem mi_X5_keep : Mi yX5_keep cX5_keep 5 (some .int) 4 := ⟨TB_i 1066 (by decide +kernel) rfl, TB_i 34 (by decide +kernel) rfl, by decide +kernel⟩
theorem mi_X5_row : Mi yX5_row cX5_row 5 (some .int) 3 := ⟨TB_i 1070 (by decide +kernel) rfl, TB_i 34 (by decide +kernel) rfl, by decide +kernel⟩
theorem mi_X5_put : Mi yX5_put cX5_put 5 (some .int) 3 := ⟨TB_i 1074 (by decide +kernel) rfl, TB_i 34 (by decide +kernel) rfl, by decide +kernel⟩
theorem mi_X5_element : Mi yX5_element cX5_element 3 (some .long) 2 := ⟨TB_i 1078 (by decide +kernel) rfl, TB_i 34 (by decide +kernel) rfl, by decide +kernel⟩
theorem mi_X5_copy : Mi yX5_copy cX5_copy 8 (some .int) 5 := ⟨TB_i 1082 (by decide +kernel) rfl, TB_i 34 (by decide +kernel) rfl, by decide +kernel⟩
theorem mi_X5_cost : Mi yX5_cost cX5_cost 3 (some .int) 1 := ⟨TB_i 1086 (by decide +kernel) rfl, TB_i 34 (by decide +kernel) rfl, by decide +kernel⟩
theorem mi_X5_costBy : Mi yX5_costBy cX5_costBy 2 (some .int) 2 := ⟨TB_i 1089 (by decide +kernel) rfl, TB_i 34 (by decide +kernel) rfl, by decide +kernel⟩
theorem mi_X5_toss : Mi yX5_toss cX5_toss 5 (some .int) 1 := ⟨TB_i 1093 (by decide +kernel) rfl, TB_i 34 (by decide +kernel) rfl, by decide +kernel⟩
theorem kcl_L_8 : Cond.classLink RL 8 RX4 ∈ TB := TB_i 45 (by decide +kernel) rfl
theorem kinst_X4 : Cond.instantiable RX4 7 ∈ TB := TB_i 46 (by decide +kernel) rfl
theorem ki_L_17 : KI RL 17 yX4_init := ⟨TB_i 47 (by decide +kernel) rfl, TB_i 48 (by decide +kernel) rfl, rfl⟩
theorem ko_X4_3 : Cond.methodLink RX4 3 objectInit ∈ TB := TB_i 50 (by decide +kernel) rfl
theorem kcl_X4_9 : Cond.classLink RX4 9 RX0 ∈ TB := TB_i 53 (by decide +kernel) rfl
theorem kinst_X0 : Cond.instantiable RX0 13 ∈ TB := TB_i 54 (by decide +kernel) rfl
theorem ki_X4_11 : KI RX4 11 yX0_init := ⟨TB_i 55 (by decide +kernel) rfl, TB_i 56 (by decide +kernel) rfl, rfl⟩
theorem ko_X0_3 : Cond.methodLink RX0 3 objectInit ∈ TB := TB_i 58 (by decide +kernel) rfl
theorem ks_X0_52 : KS RX0 52 yJ7_fill_53178 := ⟨TB_i 59 (by decide +kernel) rfl, TB_i 60 (by decide +kernel) rfl⟩
theorem karr_int : Cond.arrayClass .int ∈ TB := TB_i 118 (by decide +kernel) rfl
theorem kcl_X4_26 : Cond.classLink RX4 26 RX2 ∈ TB := TB_i 119 (by decide +kernel) rfl
theorem kinst_X2 : Cond.instantiable RX2 6 ∈ TB := TB_i 121 (by decide +kernel) rfl
theorem kn_X4_39 : KN RX4 39 yX2_init RX4 := List.mem_of_getElem? (i := 0) rfl
theorem kn2_X4_39 : Cond.instanceMethod yX2_init ∈ TB := TB_i 123 (by decide +kernel) rfl
theorem ko_X2_3 : Cond.methodLink RX2 3 objectInit ∈ TB := TB_i 125 (by decide +kernel) rfl
theorem kv_L_21 : KV RL 21 yX4_desert := ⟨TB_i 175 (by decide +kernel) rfl, TB_i 176 (by decide +kernel) rfl, TB_i 177 (by decide +kernel) rfl⟩
theorem kv_X4_40 : KV RX4 40 yX4_shelfOrNull := ⟨TB_i 179 (by decide +kernel) rfl, TB_i 181 (by decide +kernel) rfl, TB_i 0 (by decide +kernel) rfl⟩
theorem ks_X4_123 : KS RX4 123 yX4_isWithin := ⟨TB_i 183 (by decide +kernel) rfl, TB_i 184 (by decide +kernel) rfl⟩
theorem ks_X4_51 : KS RX4 51 yX3_placeOfBadForm := ⟨TB_i 186 (by decide +kernel) rfl, TB_i 187 (by decide +kernel) rfl⟩
theorem ks_X3_9 : KS RX3 9 yX3_byteAt := ⟨TB_i 189 (by decide +kernel) rfl, TB_i 190 (by decide +kernel) rfl⟩
theorem kv_X3_90 : KV RX3 90 yX2_hasPlace := ⟨TB_i 192 (by decide +kernel) rfl, TB_i 193 (by decide +kernel) rfl, TB_i 194 (by decide +kernel) rfl⟩
theorem kn_X2_37 : KN RX2 37 yX4_isWithin RX4 := List.mem_of_getElem? (i := 1) rfl
theorem kn2_X2_37 : Cond.static yX4_isWithin ∈ TB := TB_i 184 (by decide +kernel) rfl
theorem ks_X3_15 : KS RX3 15 yX3_digitsBehind := ⟨TB_i 197 (by decide +kernel) rfl, TB_i 198 (by decide +kernel) rfl⟩
theorem ks_X3_19 : KS RX3 19 yX3_isDigit := ⟨TB_i 200 (by decide +kernel) rfl, TB_i 201 (by decide +kernel) rfl⟩
theorem kn_X3_80 : KN RX3 80 yX4_isWithin RX4 := List.mem_of_getElem? (i := 2) rfl
theorem kn2_X3_80 : Cond.static yX4_isWithin ∈ TB := TB_i 184 (by decide +kernel) rfl
theorem kv_X4_57 : KV RX4 57 yX0_becomes := ⟨TB_i 204 (by decide +kernel) rfl, TB_i 205 (by decide +kernel) rfl, TB_i 206 (by decide +kernel) rfl⟩
theorem kcopy_X0_58 : Cond.methodLink RX0 58 arraycopyName ∈ TB := TB_i 208 (by decide +kernel) rfl
theorem ks_X4_64 : KS RX4 64 yX3_isDoneOn := ⟨TB_i 211 (by decide +kernel) rfl, TB_i 212 (by decide +kernel) rfl⟩
theorem ks_X3_35 : KS RX3 35 yX3_digitAt := ⟨TB_i 214 (by decide +kernel) rfl, TB_i 215 (by decide +kernel) rfl⟩
theorem ks_X3_38 : KS RX3 38 yX3_comesOn := ⟨TB_i 217 (by decide +kernel) rfl, TB_i 218 (by decide +kernel) rfl⟩
theorem kv_X3_65 : KV RX3 65 yX0_hasRoom := ⟨TB_i 220 (by decide +kernel) rfl, TB_i 221 (by decide +kernel) rfl, TB_i 222 (by decide +kernel) rfl⟩
theorem kv_X3_69 : KV RX3 69 yX0_takesIn := ⟨TB_i 224 (by decide +kernel) rfl, TB_i 225 (by decide +kernel) rfl, TB_i 226 (by decide +kernel) rfl⟩
theorem kv_X0_64 : KV RX0 64 yX0_hasRoom := ⟨TB_i 228 (by decide +kernel) rfl, TB_i 221 (by decide +kernel) rfl, TB_i 222 (by decide +kernel) rfl⟩
theorem ks_X3_42 : KS RX3 42 yX3_numberAt := ⟨TB_i 229 (by decide +kernel) rfl, TB_i 230 (by decide +kernel) rfl⟩
theorem kv_X3_46 : KV RX3 46 yX0_refill := ⟨TB_i 232 (by decide +kernel) rfl, TB_i 233 (by decide +kernel) rfl, TB_i 234 (by decide +kernel) rfl⟩
theorem ks_X3_55 : KS RX3 55 yX3_restsOn := ⟨TB_i 236 (by decide +kernel) rfl, TB_i 237 (by decide +kernel) rfl⟩
theorem kv_X3_76 : KV RX3 76 yX0_turnRest := ⟨TB_i 239 (by decide +kernel) rfl, TB_i 240 (by decide +kernel) rfl, TB_i 241 (by decide +kernel) rfl⟩
theorem kv_X3_59 : KV RX3 59 yX0_setBack := ⟨TB_i 243 (by decide +kernel) rfl, TB_i 244 (by decide +kernel) rfl, TB_i 245 (by decide +kernel) rfl⟩
theorem ks_X3_62 : KS RX3 62 yX3_daysPassOn := ⟨TB_i 247 (by decide +kernel) rfl, TB_i 248 (by decide +kernel) rfl⟩
theorem kv_X3_87 : KV RX3 87 yX0_passDays := ⟨TB_i 250 (by decide +kernel) rfl, TB_i 251 (by decide +kernel) rfl, TB_i 252 (by decide +kernel) rfl⟩
theorem kv_X0_72 : KV RX0 72 yX0_passDay := ⟨TB_i 254 (by decide +kernel) rfl, TB_i 255 (by decide +kernel) rfl, TB_i 256 (by decide +kernel) rfl⟩
theorem kn_X0_75 : KN RX0 75 yX4_hasBit RX4 := List.mem_of_getElem? (i := 3) rfl
theorem kn2_X0_75 : Cond.static yX4_hasBit ∈ TB := TB_i 259 (by decide +kernel) rfl
theorem kv_X0_79 : KV RX0 79 yX0_write := ⟨TB_i 261 (by decide +kernel) rfl, TB_i 263 (by decide +kernel) rfl, TB_i 1 (by decide +kernel) rfl⟩
theorem km_X0_111 : Cond.methodLink RX0 111 Lib.Math.min.name ∈ TB := TB_i 265 (by decide +kernel) rfl
theorem kv_X0_83 : KV RX0 83 yX0_work := ⟨TB_i 268 (by decide +kernel) rfl, TB_i 270 (by decide +kernel) rfl, TB_i 2 (by decide +kernel) rfl⟩
theorem kv_X0_91 : KV RX0 91 yX0_leftIn := ⟨TB_i 272 (by decide +kernel) rfl, TB_i 273 (by decide +kernel) rfl, TB_i 274 (by decide +kernel) rfl⟩
theorem ks_X0_95 : KS RX0 95 yX1_counts := ⟨TB_i 276 (by decide +kernel) rfl, TB_i 277 (by decide +kernel) rfl⟩
theorem km_X1_7 : Cond.methodLink RX1 7 Lib.Math.max.name ∈ TB := TB_i 279 (by decide +kernel) rfl
theorem km_X1_13 : Cond.methodLink RX1 13 Lib.Math.min.name ∈ TB := TB_i 282 (by decide +kernel) rfl
theorem ks_X0_101 : KS RX0 101 yX1_books := ⟨TB_i 283 (by decide +kernel) rfl, TB_i 284 (by decide +kernel) rfl⟩
theorem kv_X0_68 : KV RX0 68 yX0_isDone := ⟨TB_i 286 (by decide +kernel) rfl, TB_i 287 (by decide +kernel) rfl, TB_i 288 (by decide +kernel) rfl⟩
theorem kn_X0_105 : KN RX0 105 yX4_isDip RX4 := List.mem_of_getElem? (i := 4) rfl
theorem kn2_X0_105 : Cond.static yX4_isDip ∈ TB := TB_i 291 (by decide +kernel) rfl
theorem kv_X0_108 : KV RX0 108 yX0_isBarred := ⟨TB_i 293 (by decide +kernel) rfl, TB_i 295 (by decide +kernel) rfl, TB_i 3 (by decide +kernel) rfl⟩
theorem kv_X0_87 : KV RX0 87 yX0_give := ⟨TB_i 297 (by decide +kernel) rfl, TB_i 299 (by decide +kernel) rfl, TB_i 4 (by decide +kernel) rfl⟩
theorem km_X0_117 : Cond.methodLink RX0 117 Lib.Math.max.name ∈ TB := TB_i 301 (by decide +kernel) rfl
theorem ks_X4_68 : KS RX4 68 yX3_lengthOfStatement := ⟨TB_i 302 (by decide +kernel) rfl, TB_i 303 (by decide +kernel) rfl⟩
theorem km_X3_29 : Cond.methodLink RX3 29 Lib.Math.max.name ∈ TB := TB_i 305 (by decide +kernel) rfl
theorem kv_L_26 : KV RL 26 yX4_corporal := ⟨TB_i 306 (by decide +kernel) rfl, TB_i 307 (by decide +kernel) rfl, TB_i 308 (by decide +kernel) rfl⟩
theorem kv_X4_72 : KV RX4 72 yX4_isCorporal := ⟨TB_i 310 (by decide +kernel) rfl, TB_i 312 (by decide +kernel) rfl, TB_i 5 (by decide +kernel) rfl⟩
theorem ks_X4_94 : KS RX4 94 yX4_hasBit := ⟨TB_i 314 (by decide +kernel) rfl, TB_i 259 (by decide +kernel) rfl⟩
theorem kv_X4_98 : KV RX4 98 yX0_leftIn := ⟨TB_i 315 (by decide +kernel) rfl, TB_i 273 (by decide +kernel) rfl, TB_i 274 (by decide +kernel) rfl⟩
theorem ks_X4_105 : KS RX4 105 yX1_counts := ⟨TB_i 316 (by decide +kernel) rfl, TB_i 277 (by decide +kernel) rfl⟩
theorem kv_L_31 : KV RL 31 yX4_dip := ⟨TB_i 317 (by decide +kernel) rfl, TB_i 318 (by decide +kernel) rfl, TB_i 319 (by decide +kernel) rfl⟩
theorem ks_X4_111 : KS RX4 111 yX4_isDip := ⟨TB_i 321 (by decide +kernel) rfl, TB_i 291 (by decide +kernel) rfl⟩
theorem kv_X4_120 : KV RX4 120 yX0_whoIsAt := ⟨TB_i 322 (by decide +kernel) rfl, TB_i 323 (by decide +kernel) rfl, TB_i 324 (by decide +kernel) rfl⟩
theorem kv_L_35 : KV RL 35 yX4_comes := ⟨TB_i 326 (by decide +kernel) rfl, TB_i 327 (by decide +kernel) rfl, TB_i 328 (by decide +kernel) rfl⟩
theorem ks_X4_127 : KS RX4 127 yX4_refusalUnless := ⟨TB_i 330 (by decide +kernel) rfl, TB_i 331 (by decide +kernel) rfl⟩
theorem kv_X4_130 : KV RX4 130 yX0_hasRoom := ⟨TB_i 333 (by decide +kernel) rfl, TB_i 221 (by decide +kernel) rfl, TB_i 222 (by decide +kernel) rfl⟩
theorem kv_X4_138 : KV RX4 138 yX0_takesIn := ⟨TB_i 334 (by decide +kernel) rfl, TB_i 225 (by decide +kernel) rfl, TB_i 226 (by decide +kernel) rfl⟩
theorem kv_L_40 : KV RL 40 yX4_fills := ⟨TB_i 335 (by decide +kernel) rfl, TB_i 336 (by decide +kernel) rfl, TB_i 337 (by decide +kernel) rfl⟩
theorem kv_X4_145 : KV RX4 145 yX0_refill := ⟨TB_i 339 (by decide +kernel) rfl, TB_i 233 (by decide +kernel) rfl, TB_i 234 (by decide +kernel) rfl⟩
theorem kv_L_44 : KV RL 44 yX4_blows := ⟨TB_i 340 (by decide +kernel) rfl, TB_i 341 (by decide +kernel) rfl, TB_i 342 (by decide +kernel) rfl⟩
theorem kc_X4_149 : Cond.constant RX4 149 (1000000001) ∈ TB := TB_i 344 (by decide +kernel) rfl
theorem kv_L_48 : KV RL 48 yX4_rests := ⟨TB_i 345 (by decide +kernel) rfl, TB_i 346 (by decide +kernel) rfl, TB_i 347 (by decide +kernel) rfl⟩
theorem kv_X4_153 : KV RX4 153 yX0_turnRest := ⟨TB_i 349 (by decide +kernel) rfl, TB_i 240 (by decide +kernel) rfl, TB_i 241 (by decide +kernel) rfl⟩
theorem kv_L_52 : KV RL 52 yX4_moves := ⟨TB_i 350 (by decide +kernel) rfl, TB_i 351 (by decide +kernel) rfl, TB_i 352 (by decide +kernel) rfl⟩
theorem kv_L_56 : KV RL 56 yX4_flood := ⟨TB_i 354 (by decide +kernel) rfl, TB_i 355 (by decide +kernel) rfl, TB_i 356 (by decide +kernel) rfl⟩
theorem kv_X4_157 : KV RX4 157 yX0_allBooks := ⟨TB_i 358 (by decide +kernel) rfl, TB_i 359 (by decide +kernel) rfl, TB_i 360 (by decide +kernel) rfl⟩
theorem kv_X4_161 : KV RX4 161 yX0_setBack := ⟨TB_i 362 (by decide +kernel) rfl, TB_i 244 (by decide +kernel) rfl, TB_i 245 (by decide +kernel) rfl⟩
theorem kv_L_61 : KV RL 61 yX4_days := ⟨TB_i 363 (by decide +kernel) rfl, TB_i 364 (by decide +kernel) rfl, TB_i 365 (by decide +kernel) rfl⟩
theorem kv_X4_164 : KV RX4 164 yX0_passDays := ⟨TB_i 367 (by decide +kernel) rfl, TB_i 251 (by decide +kernel) rfl, TB_i 252 (by decide +kernel) rfl⟩
theorem kv_L_65 : KV RL 65 yX4_corporalThen := ⟨TB_i 368 (by decide +kernel) rfl, TB_i 369 (by decide +kernel) rfl, TB_i 370 (by decide +kernel) rfl⟩
theorem ks_X4_167 : KS RX4 167 yX4_isDaysOn := ⟨TB_i 372 (by decide +kernel) rfl, TB_i 373 (by decide +kernel) rfl⟩
theorem kv_X4_170 : KV RX4 170 yX4_lookOn := ⟨TB_i 375 (by decide +kernel) rfl, TB_i 377 (by decide +kernel) rfl, TB_i 6 (by decide +kernel) rfl⟩
theorem kv_L_69 : KV RL 69 yX4_dipThen := ⟨TB_i 379 (by decide +kernel) rfl, TB_i 380 (by decide +kernel) rfl, TB_i 381 (by decide +kernel) rfl⟩
theorem kv_L_73 : KV RL 73 yX4_dipsDone := ⟨TB_i 383 (by decide +kernel) rfl, TB_i 384 (by decide +kernel) rfl, TB_i 385 (by decide +kernel) rfl⟩
theorem kv_X4_173 : KV RX4 173 yX0_doneDips := ⟨TB_i 387 (by decide +kernel) rfl, TB_i 388 (by decide +kernel) rfl, TB_i 389 (by decide +kernel) rfl⟩
theorem kv_L_77 : KV RL 77 yX4_ends := ⟨TB_i 391 (by decide +kernel) rfl, TB_i 392 (by decide +kernel) rfl, TB_i 393 (by decide +kernel) rfl⟩
theorem kv_X4_176 : KV RX4 176 yX0_passDay := ⟨TB_i 395 (by decide +kernel) rfl, TB_i 255 (by decide +kernel) rfl, TB_i 256 (by decide +kernel) rfl⟩
theorem kv_L_81 : KV RL 81 yX4_meet := ⟨TB_i 396 (by decide +kernel) rfl, TB_i 397 (by decide +kernel) rfl, TB_i 398 (by decide +kernel) rfl⟩
theorem km_X4_179 : Cond.methodLink RX4 179 Lib.Math.abs.name ∈ TB := TB_i 400 (by decide +kernel) rfl
theorem kv_L_85 : KV RL 85 yX4_line := ⟨TB_i 403 (by decide +kernel) rfl, TB_i 404 (by decide +kernel) rfl, TB_i 405 (by decide +kernel) rfl⟩
theorem km_X4_184 : Cond.methodLink RX4 184 Lib.Math.max.name ∈ TB := TB_i 407 (by decide +kernel) rfl
theorem km_X4_188 : Cond.methodLink RX4 188 Lib.Math.min.name ∈ TB := TB_i 408 (by decide +kernel) rfl
theorem kv_L_89 : KV RL 89 yX4_treaty := ⟨TB_i 409 (by decide +kernel) rfl, TB_i 410 (by decide +kernel) rfl, TB_i 411 (by decide +kernel) rfl⟩
theorem kv_L_93 : KV RL 93 yX4_bestWind := ⟨TB_i 413 (by decide +kernel) rfl, TB_i 414 (by decide +kernel) rfl, TB_i 415 (by decide +kernel) rfl⟩
theorem kv_L_97 : KV RL 97 yX4_send := ⟨TB_i 417 (by decide +kernel) rfl, TB_i 418 (by decide +kernel) rfl, TB_i 419 (by decide +kernel) rfl⟩
theorem ks_X4_191 : KS RX4 191 yJ6_bitCount_0f7a4 := ⟨TB_i 421 (by decide +kernel) rfl, TB_i 422 (by decide +kernel) rfl⟩
theorem kc_J6_265 : Cond.constant RJ6 265 (1431655765) ∈ TB := TB_i 424 (by decide +kernel) rfl
theorem kc_J6_266 : Cond.constant RJ6 266 (858993459) ∈ TB := TB_i 425 (by decide +kernel) rfl
theorem kc_J6_267 : Cond.constant RJ6 267 (252645135) ∈ TB := TB_i 426 (by decide +kernel) rfl
theorem kv_L_101 : KV RL 101 yX4_idle := ⟨TB_i 427 (by decide +kernel) rfl, TB_i 428 (by decide +kernel) rfl, TB_i 429 (by decide +kernel) rfl⟩
theorem kv_L_105 : KV RL 105 yX4_slowest := ⟨TB_i 431 (by decide +kernel) rfl, TB_i 432 (by decide +kernel) rfl, TB_i 433 (by decide +kernel) rfl⟩
theorem kv_L_109 : KV RL 109 yX4_lost := ⟨TB_i 435 (by decide +kernel) rfl, TB_i 436 (by decide +kernel) rfl, TB_i 437 (by decide +kernel) rfl⟩
theorem kv_L_113 : KV RL 113 yX4_heap := ⟨TB_i 439 (by decide +kernel) rfl, TB_i 440 (by decide +kernel) rfl, TB_i 441 (by decide +kernel) rfl⟩
theorem kv_L_117 : KV RL 117 yX4_begin := ⟨TB_i 443 (by decide +kernel) rfl, TB_i 444 (by decide +kernel) rfl, TB_i 445 (by decide +kernel) rfl⟩
theorem kv_L_121 : KV RL 121 yX4_pairs := ⟨TB_i 447 (by decide +kernel) rfl, TB_i 448 (by decide +kernel) rfl, TB_i 449 (by decide +kernel) rfl⟩
theorem kv_X4_199 : KV RX4 199 yX4_leastInReach := ⟨TB_i 451 (by decide +kernel) rfl, TB_i 453 (by decide +kernel) rfl, TB_i 7 (by decide +kernel) rfl⟩
theorem kv_L_125 : KV RL 125 yX4_even := ⟨TB_i 455 (by decide +kernel) rfl, TB_i 456 (by decide +kernel) rfl, TB_i 457 (by decide +kernel) rfl⟩
theorem kv_X4_202 : KV RX4 202 yX0_allGrains := ⟨TB_i 459 (by decide +kernel) rfl, TB_i 460 (by decide +kernel) rfl, TB_i 461 (by decide +kernel) rfl⟩
theorem kv_L_129 : KV RL 129 yX4_howMany := ⟨TB_i 463 (by decide +kernel) rfl, TB_i 464 (by decide +kernel) rfl, TB_i 465 (by decide +kernel) rfl⟩
theorem kv_X4_205 : KV RX4 205 yX2_behindLastTold := ⟨TB_i 467 (by decide +kernel) rfl, TB_i 468 (by decide +kernel) rfl, TB_i 469 (by decide +kernel) rfl⟩
theorem kv_X2_46 : KV RX2 46 yX2_isSkipped := ⟨TB_i 471 (by decide +kernel) rfl, TB_i 473 (by decide +kernel) rfl, TB_i 8 (by decide +kernel) rfl⟩
theorem kv_X2_42 : KV RX2 42 yX2_leastNumber := ⟨TB_i 475 (by decide +kernel) rfl, TB_i 477 (by decide +kernel) rfl, TB_i 9 (by decide +kernel) rfl⟩
theorem kc_X2_41 : Cond.constant RX2 41 (-2147483648) ∈ TB := TB_i 479 (by decide +kernel) rfl
theorem kv_X4_208 : KV RX4 208 yX4_isDoneAsTold := ⟨TB_i 480 (by decide +kernel) rfl, TB_i 482 (by decide +kernel) rfl, TB_i 10 (by decide +kernel) rfl⟩
theorem kv_X4_234 : KV RX4 234 yX2_allows := ⟨TB_i 484 (by decide +kernel) rfl, TB_i 485 (by decide +kernel) rfl, TB_i 486 (by decide +kernel) rfl⟩
theorem kv_L_133 : KV RL 133 yX4_whatIs := ⟨TB_i 488 (by decide +kernel) rfl, TB_i 489 (by decide +kernel) rfl, TB_i 490 (by decide +kernel) rfl⟩
theorem kv_X4_212 : KV RX4 212 yX4_isBookInMindAsTold := ⟨TB_i 492 (by decide +kernel) rfl, TB_i 494 (by decide +kernel) rfl, TB_i 11 (by decide +kernel) rfl⟩
theorem kv_L_137 : KV RL 137 yX4_two := ⟨TB_i 496 (by decide +kernel) rfl, TB_i 497 (by decide +kernel) rfl, TB_i 498 (by decide +kernel) rfl⟩
theorem kv_X4_216 : KV RX4 216 yX4_playTwo := ⟨TB_i 500 (by decide +kernel) rfl, TB_i 502 (by decide +kernel) rfl, TB_i 12 (by decide +kernel) rfl⟩
theorem kv_L_141 : KV RL 141 yX4_storm := ⟨TB_i 504 (by decide +kernel) rfl, TB_i 505 (by decide +kernel) rfl, TB_i 506 (by decide +kernel) rfl⟩
theorem kl_X4_220 : Cond.constantLong RX4 220 (1000000001) ∈ TB := TB_i 508 (by decide +kernel) rfl
theorem kv_X4_222 : KV RX4 222 yX0_isDone := ⟨TB_i 509 (by decide +kernel) rfl, TB_i 287 (by decide +kernel) rfl, TB_i 288 (by decide +kernel) rfl⟩
theorem ks_X4_225 : KS RX4 225 yX4_partInLeastTerms := ⟨TB_i 510 (by decide +kernel) rfl, TB_i 511 (by decide +kernel) rfl⟩
theorem kv_L_146 : KV RL 146 yX4_mean := ⟨TB_i 513 (by decide +kernel) rfl, TB_i 514 (by decide +kernel) rfl, TB_i 515 (by decide +kernel) rfl⟩
theorem kl_X4_229 : Cond.constantLong RX4 229 (10) ∈ TB := TB_i 517 (by decide +kernel) rfl
theorem kv_L_151 : KV RL 151 yX4_forged := ⟨TB_i 518 (by decide +kernel) rfl, TB_i 519 (by decide +kernel) rfl, TB_i 520 (by decide +kernel) rfl⟩
theorem kv_L_155 : KV RL 155 yX4_judge := ⟨TB_i 522 (by decide +kernel) rfl, TB_i 523 (by decide +kernel) rfl, TB_i 524 (by decide +kernel) rfl⟩
theorem kv_L_159 : KV RL 159 yX4_deserts := ⟨TB_i 526 (by decide +kernel) rfl, TB_i 527 (by decide +kernel) rfl, TB_i 528 (by decide +kernel) rfl⟩
theorem ks_X4_237 : KS RX4 237 yX4_nextSeed := ⟨TB_i 530 (by decide +kernel) rfl, TB_i 531 (by decide +kernel) rfl⟩
theorem kc_X4_294 : Cond.constant RX4 294 (1103515245) ∈ TB := TB_i 533 (by decide +kernel) rfl
theorem ks_X4_240 : KS RX4 240 yX4_drawBelow := ⟨TB_i 534 (by decide +kernel) rfl, TB_i 535 (by decide +kernel) rfl⟩
theorem kc_X4_295 : Cond.constant RX4 295 (2147483647) ∈ TB := TB_i 537 (by decide +kernel) rfl
theorem kc_X4_296 : Cond.constant RX4 296 (65536) ∈ TB := TB_i 538 (by decide +kernel) rfl
theorem kv_L_163 : KV RL 163 yX4_image := ⟨TB_i 539 (by decide +kernel) rfl, TB_i 540 (by decide +kernel) rfl, TB_i 541 (by decide +kernel) rfl⟩
theorem kv_L_167 : KV RL 167 yX4_restore := ⟨TB_i 543 (by decide +kernel) rfl, TB_i 544 (by decide +kernel) rfl, TB_i 545 (by decide +kernel) rfl⟩
theorem kv_L_171 : KV RL 171 yX4_count := ⟨TB_i 547 (by decide +kernel) rfl, TB_i 548 (by decide +kernel) rfl, TB_i 549 (by decide +kernel) rfl⟩
theorem kv_X4_243 : KV RX4 243 yX0_allDone := ⟨TB_i 551 (by decide +kernel) rfl, TB_i 552 (by decide +kernel) rfl, TB_i 553 (by decide +kernel) rfl⟩
theorem kv_L_175 : KV RL 175 yX4_keep := ⟨TB_i 555 (by decide +kernel) rfl, TB_i 556 (by decide +kernel) rfl, TB_i 557 (by decide +kernel) rfl⟩
theorem kv_X4_246 : KV RX4 246 yX2_holdNothing := ⟨TB_i 559 (by decide +kernel) rfl, TB_i 560 (by decide +kernel) rfl, TB_i 561 (by decide +kernel) rfl⟩
theorem kv_X4_249 : KV RX4 249 yX2_holdKind := ⟨TB_i 563 (by decide +kernel) rfl, TB_i 564 (by decide +kernel) rfl, TB_i 565 (by decide +kernel) rfl⟩
theorem kv_L_180 : KV RL 180 yX4_row := ⟨TB_i 567 (by decide +kernel) rfl, TB_i 568 (by decide +kernel) rfl, TB_i 569 (by decide +kernel) rfl⟩
theorem kv_X4_252 : KV RX4 252 yX2_holdRow := ⟨TB_i 571 (by decide +kernel) rfl, TB_i 572 (by decide +kernel) rfl, TB_i 573 (by decide +kernel) rfl⟩
theorem ks_X2_31 : KS RX2 31 yJ7_fill_53178 := ⟨TB_i 575 (by decide +kernel) rfl, TB_i 60 (by decide +kernel) rfl⟩
theorem kv_L_184 : KV RL 184 yX4_put := ⟨TB_i 576 (by decide +kernel) rfl, TB_i 577 (by decide +kernel) rfl, TB_i 578 (by decide +kernel) rfl⟩
theorem kv_X4_255 : KV RX4 255 yX2_hasPlace := ⟨TB_i 580 (by decide +kernel) rfl, TB_i 193 (by decide +kernel) rfl, TB_i 194 (by decide +kernel) rfl⟩
theorem kv_X4_258 : KV RX4 258 yX2_set := ⟨TB_i 581 (by decide +kernel) rfl, TB_i 582 (by decide +kernel) rfl, TB_i 583 (by decide +kernel) rfl⟩
theorem kv_L_197 : KV RL 197 yX4_copy := ⟨TB_i 585 (by decide +kernel) rfl, TB_i 586 (by decide +kernel) rfl, TB_i 587 (by decide +kernel) rfl⟩
theorem kv_X4_273 : KV RX4 273 yX2_hasStretch := ⟨TB_i 589 (by decide +kernel) rfl, TB_i 590 (by decide +kernel) rfl, TB_i 591 (by decide +kernel) rfl⟩
theorem kcopy_X4_276 : Cond.methodLink RX4 276 arraycopyName ∈ TB := TB_i 593 (by decide +kernel) rfl
theorem kv_L_202 : KV RL 202 yX4_cost := ⟨TB_i 594 (by decide +kernel) rfl, TB_i 595 (by decide +kernel) rfl, TB_i 596 (by decide +kernel) rfl⟩
theorem ks_X4_282 : KS RX4 282 yX1_costOf := ⟨TB_i 598 (by decide +kernel) rfl, TB_i 599 (by decide +kernel) rfl⟩
theorem kv_L_206 : KV RL 206 yX4_toss := ⟨TB_i 601 (by decide +kernel) rfl, TB_i 602 (by decide +kernel) rfl, TB_i 603 (by decide +kernel) rfl⟩
theorem ks_X4_285 : KS RX4 285 yX1_hasFailure := ⟨TB_i 605 (by decide +kernel) rfl, TB_i 606 (by decide +kernel) rfl⟩
theorem ks_X4_288 : KS RX4 288 yX1_failureOf := ⟨TB_i 608 (by decide +kernel) rfl, TB_i 609 (by decide +kernel) rfl⟩
theorem ks_X1_18 : KS RX1 18 yX1_costOf := ⟨TB_i 611 (by decide +kernel) rfl, TB_i 599 (by decide +kernel) rfl⟩
theorem ks_L_188 : KS RL 188 yL_element := ⟨TB_i 612 (by decide +kernel) rfl, TB_i 613 (by decide +kernel) rfl⟩
theorem kv_L_7 : KV RL 7 yX4_element := ⟨TB_i 617 (by decide +kernel) rfl, TB_i 618 (by decide +kernel) rfl, TB_i 619 (by decide +kernel) rfl⟩
theorem karr_byte : Cond.arrayClass .byte ∈ TB := TB_i 687 (by decide +kernel) rfl
theorem kcl_L_18 : Cond.classLink RL 18 RX5 ∈ TB := TB_i 704 (by decide +kernel) rfl
theorem kinst_X5 : Cond.instantiable RX5 17 ∈ TB := TB_i 705 (by decide +kernel) rfl
theorem ki_L_20 : KI RL 20 yX5_init := ⟨TB_i 706 (by decide +kernel) rfl, TB_i 707 (by decide +kernel) rfl, rfl⟩
theorem ko_X5_1 : Cond.methodLink RX5 1 objectInit ∈ TB := TB_i 709 (by decide +kernel) rfl
theorem kv_L_25 : KV RL 25 yX5_desert := ⟨TB_i 762 (by decide +kernel) rfl, TB_i 763 (by decide +kernel) rfl, TB_i 764 (by decide +kernel) rfl⟩
theorem kv_X5_133 : KV RX5 133 yX5_wrongRow := ⟨TB_i 766 (by decide +kernel) rfl, TB_i 768 (by decide +kernel) rfl, TB_i 14 (by decide +kernel) rfl⟩
theorem ks_X5_218 : KS RX5 218 yX5_isShelf := ⟨TB_i 770 (by decide +kernel) rfl, TB_i 771 (by decide +kernel) rfl⟩
theorem ks_X5_43 : KS RX5 43 yX5_isIn := ⟨TB_i 773 (by decide +kernel) rfl, TB_i 774 (by decide +kernel) rfl⟩
theorem kv_X5_136 : KV RX5 136 yX5_readsStatement := ⟨TB_i 776 (by decide +kernel) rfl, TB_i 778 (by decide +kernel) rfl, TB_i 15 (by decide +kernel) rfl⟩
theorem kv_X5_109 : KV RX5 109 yX5_here := ⟨TB_i 780 (by decide +kernel) rfl, TB_i 782 (by decide +kernel) rfl, TB_i 16 (by decide +kernel) rfl⟩
theorem kv_X5_113 : KV RX5 113 yX5_readsNumber := ⟨TB_i 784 (by decide +kernel) rfl, TB_i 786 (by decide +kernel) rfl, TB_i 17 (by decide +kernel) rfl⟩
theorem ks_X5_140 : KS RX5 140 yX5_copies := ⟨TB_i 788 (by decide +kernel) rfl, TB_i 789 (by decide +kernel) rfl⟩
theorem kv_X5_144 : KV RX5 144 yX5_isDone := ⟨TB_i 791 (by decide +kernel) rfl, TB_i 793 (by decide +kernel) rfl, TB_i 18 (by decide +kernel) rfl⟩
theorem kv_X5_116 : KV RX5 116 yX5_adds := ⟨TB_i 795 (by decide +kernel) rfl, TB_i 797 (by decide +kernel) rfl, TB_i 19 (by decide +kernel) rfl⟩
theorem ks_X5_47 : KS RX5 47 yX5_of := ⟨TB_i 799 (by decide +kernel) rfl, TB_i 800 (by decide +kernel) rfl⟩
theorem ks_X5_120 : KS RX5 120 yX5_fillsIn := ⟨TB_i 802 (by decide +kernel) rfl, TB_i 803 (by decide +kernel) rfl⟩
theorem kv_X5_123 : KV RX5 123 yX5_isOne := ⟨TB_i 805 (by decide +kernel) rfl, TB_i 807 (by decide +kernel) rfl, TB_i 20 (by decide +kernel) rfl⟩
theorem ks_X5_126 : KS RX5 126 yX5_floods := ⟨TB_i 809 (by decide +kernel) rfl, TB_i 810 (by decide +kernel) rfl⟩
theorem ks_X5_130 : KS RX5 130 yX5_daysOn := ⟨TB_i 812 (by decide +kernel) rfl, TB_i 813 (by decide +kernel) rfl⟩
theorem ks_X5_96 : KS RX5 96 yX5_day := ⟨TB_i 815 (by decide +kernel) rfl, TB_i 816 (by decide +kernel) rfl⟩
theorem ks_X5_89 : KS RX5 89 yX5_worksOn := ⟨TB_i 818 (by decide +kernel) rfl, TB_i 819 (by decide +kernel) rfl⟩
theorem ks_X5_69 : KS RX5 69 yX5_has := ⟨TB_i 821 (by decide +kernel) rfl, TB_i 822 (by decide +kernel) rfl⟩
theorem ks_X5_73 : KS RX5 73 yX5_writes := ⟨TB_i 824 (by decide +kernel) rfl, TB_i 825 (by decide +kernel) rfl⟩
theorem ks_X5_55 : KS RX5 55 yX5_least := ⟨TB_i 827 (by decide +kernel) rfl, TB_i 828 (by decide +kernel) rfl⟩
theorem ks_X5_77 : KS RX5 77 yX5_counts := ⟨TB_i 830 (by decide +kernel) rfl, TB_i 831 (by decide +kernel) rfl⟩
theorem ks_X5_51 : KS RX5 51 yX5_left := ⟨TB_i 833 (by decide +kernel) rfl, TB_i 834 (by decide +kernel) rfl⟩
theorem ks_X5_58 : KS RX5 58 yX5_most := ⟨TB_i 836 (by decide +kernel) rfl, TB_i 837 (by decide +kernel) rfl⟩
theorem ks_X5_81 : KS RX5 81 yX5_books := ⟨TB_i 839 (by decide +kernel) rfl, TB_i 840 (by decide +kernel) rfl⟩
theorem ks_X5_85 : KS RX5 85 yX5_goes := ⟨TB_i 842 (by decide +kernel) rfl, TB_i 843 (by decide +kernel) rfl⟩
theorem ks_X5_61 : KS RX5 61 yX5_isDip := ⟨TB_i 845 (by decide +kernel) rfl, TB_i 846 (by decide +kernel) rfl⟩
theorem ks_X5_65 : KS RX5 65 yX5_isStood := ⟨TB_i 848 (by decide +kernel) rfl, TB_i 849 (by decide +kernel) rfl⟩
theorem ks_X5_92 : KS RX5 92 yX5_gives := ⟨TB_i 851 (by decide +kernel) rfl, TB_i 852 (by decide +kernel) rfl⟩
theorem kv_L_30 : KV RL 30 yX5_corporal := ⟨TB_i 854 (by decide +kernel) rfl, TB_i 855 (by decide +kernel) rfl, TB_i 856 (by decide +kernel) rfl⟩
theorem kv_L_34 : KV RL 34 yX5_dip := ⟨TB_i 858 (by decide +kernel) rfl, TB_i 859 (by decide +kernel) rfl, TB_i 860 (by decide +kernel) rfl⟩
theorem kv_L_39 : KV RL 39 yX5_comes := ⟨TB_i 862 (by decide +kernel) rfl, TB_i 863 (by decide +kernel) rfl, TB_i 864 (by decide +kernel) rfl⟩
theorem kv_X5_147 : KV RX5 147 yX5_wrongKept := ⟨TB_i 866 (by decide +kernel) rfl, TB_i 868 (by decide +kernel) rfl, TB_i 21 (by decide +kernel) rfl⟩
theorem kv_L_43 : KV RL 43 yX5_fills := ⟨TB_i 870 (by decide +kernel) rfl, TB_i 871 (by decide +kernel) rfl, TB_i 872 (by decide +kernel) rfl⟩
theorem kv_L_47 : KV RL 47 yX5_blows := ⟨TB_i 874 (by decide +kernel) rfl, TB_i 875 (by decide +kernel) rfl, TB_i 876 (by decide +kernel) rfl⟩
theorem kc_X5_151 : Cond.constant RX5 151 (1000000001) ∈ TB := TB_i 878 (by decide +kernel) rfl
theorem kv_L_51 : KV RL 51 yX5_rests := ⟨TB_i 879 (by decide +kernel) rfl, TB_i 880 (by decide +kernel) rfl, TB_i 881 (by decide +kernel) rfl⟩
theorem kv_L_55 : KV RL 55 yX5_moves := ⟨TB_i 883 (by decide +kernel) rfl, TB_i 884 (by decide +kernel) rfl, TB_i 885 (by decide +kernel) rfl⟩
theorem kv_L_60 : KV RL 60 yX5_flood := ⟨TB_i 887 (by decide +kernel) rfl, TB_i 888 (by decide +kernel) rfl, TB_i 889 (by decide +kernel) rfl⟩
theorem ks_X5_152 : KS RX5 152 yX5_booksOf := ⟨TB_i 891 (by decide +kernel) rfl, TB_i 892 (by decide +kernel) rfl⟩
theorem kv_L_64 : KV RL 64 yX5_days := ⟨TB_i 894 (by decide +kernel) rfl, TB_i 895 (by decide +kernel) rfl, TB_i 896 (by decide +kernel) rfl⟩
theorem kv_L_68 : KV RL 68 yX5_corporalThen := ⟨TB_i 898 (by decide +kernel) rfl, TB_i 899 (by decide +kernel) rfl, TB_i 900 (by decide +kernel) rfl⟩
theorem ks_X5_155 : KS RX5 155 yX5_isLate := ⟨TB_i 902 (by decide +kernel) rfl, TB_i 903 (by decide +kernel) rfl⟩
theorem kv_X5_158 : KV RX5 158 yX5_takes := ⟨TB_i 905 (by decide +kernel) rfl, TB_i 907 (by decide +kernel) rfl, TB_i 22 (by decide +kernel) rfl⟩
theorem kv_L_72 : KV RL 72 yX5_dipThen := ⟨TB_i 909 (by decide +kernel) rfl, TB_i 910 (by decide +kernel) rfl, TB_i 911 (by decide +kernel) rfl⟩
theorem kv_L_76 : KV RL 76 yX5_dipsDone := ⟨TB_i 913 (by decide +kernel) rfl, TB_i 914 (by decide +kernel) rfl, TB_i 915 (by decide +kernel) rfl⟩
theorem ks_X5_162 : KS RX5 162 yX5_doneSet := ⟨TB_i 917 (by decide +kernel) rfl, TB_i 918 (by decide +kernel) rfl⟩
theorem kv_L_80 : KV RL 80 yX5_ends := ⟨TB_i 920 (by decide +kernel) rfl, TB_i 921 (by decide +kernel) rfl, TB_i 922 (by decide +kernel) rfl⟩
theorem kv_L_84 : KV RL 84 yX5_meet := ⟨TB_i 924 (by decide +kernel) rfl, TB_i 925 (by decide +kernel) rfl, TB_i 926 (by decide +kernel) rfl⟩
theorem kv_L_88 : KV RL 88 yX5_line := ⟨TB_i 928 (by decide +kernel) rfl, TB_i 929 (by decide +kernel) rfl, TB_i 930 (by decide +kernel) rfl⟩
theorem kv_L_92 : KV RL 92 yX5_treaty := ⟨TB_i 932 (by decide +kernel) rfl, TB_i 933 (by decide +kernel) rfl, TB_i 934 (by decide +kernel) rfl⟩
theorem kv_L_96 : KV RL 96 yX5_bestWind := ⟨TB_i 936 (by decide +kernel) rfl, TB_i 937 (by decide +kernel) rfl, TB_i 938 (by decide +kernel) rfl⟩
theorem kv_L_100 : KV RL 100 yX5_send := ⟨TB_i 940 (by decide +kernel) rfl, TB_i 941 (by decide +kernel) rfl, TB_i 942 (by decide +kernel) rfl⟩
theorem ks_X5_166 : KS RX5 166 yX5_bits := ⟨TB_i 944 (by decide +kernel) rfl, TB_i 945 (by decide +kernel) rfl⟩
theorem kv_L_104 : KV RL 104 yX5_idle := ⟨TB_i 947 (by decide +kernel) rfl, TB_i 948 (by decide +kernel) rfl, TB_i 949 (by decide +kernel) rfl⟩
theorem kv_L_108 : KV RL 108 yX5_slowest := ⟨TB_i 951 (by decide +kernel) rfl, TB_i 952 (by decide +kernel) rfl, TB_i 953 (by decide +kernel) rfl⟩
theorem kc_X5_169 : Cond.constant RX5 169 (1000000000) ∈ TB := TB_i 955 (by decide +kernel) rfl
theorem kv_L_112 : KV RL 112 yX5_lost := ⟨TB_i 956 (by decide +kernel) rfl, TB_i 957 (by decide +kernel) rfl, TB_i 958 (by decide +kernel) rfl⟩
theorem kv_L_116 : KV RL 116 yX5_heap := ⟨TB_i 960 (by decide +kernel) rfl, TB_i 961 (by decide +kernel) rfl, TB_i 962 (by decide +kernel) rfl⟩
theorem kv_L_120 : KV RL 120 yX5_begin := ⟨TB_i 964 (by decide +kernel) rfl, TB_i 965 (by decide +kernel) rfl, TB_i 966 (by decide +kernel) rfl⟩
theorem kv_L_124 : KV RL 124 yX5_pairs := ⟨TB_i 968 (by decide +kernel) rfl, TB_i 969 (by decide +kernel) rfl, TB_i 970 (by decide +kernel) rfl⟩
theorem kv_X5_170 : KV RX5 170 yX5_pairsFrom := ⟨TB_i 972 (by decide +kernel) rfl, TB_i 974 (by decide +kernel) rfl, TB_i 23 (by decide +kernel) rfl⟩
theorem kv_L_128 : KV RL 128 yX5_even := ⟨TB_i 976 (by decide +kernel) rfl, TB_i 977 (by decide +kernel) rfl, TB_i 978 (by decide +kernel) rfl⟩
theorem kv_X5_173 : KV RX5 173 yX5_unevenAt := ⟨TB_i 980 (by decide +kernel) rfl, TB_i 982 (by decide +kernel) rfl, TB_i 24 (by decide +kernel) rfl⟩
theorem kv_L_132 : KV RL 132 yX5_howMany := ⟨TB_i 984 (by decide +kernel) rfl, TB_i 985 (by decide +kernel) rfl, TB_i 986 (by decide +kernel) rfl⟩
theorem kv_X5_180 : KV RX5 180 yX5_isTold := ⟨TB_i 988 (by decide +kernel) rfl, TB_i 990 (by decide +kernel) rfl, TB_i 25 (by decide +kernel) rfl⟩
theorem ks_X5_177 : KS RX5 177 yX5_leastOf := ⟨TB_i 992 (by decide +kernel) rfl, TB_i 993 (by decide +kernel) rfl⟩
theorem kc_X5_176 : Cond.constant RX5 176 (-2147483648) ∈ TB := TB_i 995 (by decide +kernel) rfl
theorem kv_L_136 : KV RL 136 yX5_whatIs := ⟨TB_i 996 (by decide +kernel) rfl, TB_i 997 (by decide +kernel) rfl, TB_i 998 (by decide +kernel) rfl⟩
theorem kv_L_140 : KV RL 140 yX5_two := ⟨TB_i 1000 (by decide +kernel) rfl, TB_i 1001 (by decide +kernel) rfl, TB_i 1002 (by decide +kernel) rfl⟩
theorem kv_X5_183 : KV RX5 183 yX5_hasBy := ⟨TB_i 1004 (by decide +kernel) rfl, TB_i 1006 (by decide +kernel) rfl, TB_i 26 (by decide +kernel) rfl⟩
theorem kv_L_145 : KV RL 145 yX5_storm := ⟨TB_i 1008 (by decide +kernel) rfl, TB_i 1009 (by decide +kernel) rfl, TB_i 1010 (by decide +kernel) rfl⟩
theorem kl_X5_191 : Cond.constantLong RX5 191 (1000000001) ∈ TB := TB_i 1012 (by decide +kernel) rfl
theorem ks_X5_193 : KS RX5 193 yX5_partOf := ⟨TB_i 1013 (by decide +kernel) rfl, TB_i 1014 (by decide +kernel) rfl⟩
theorem ks_X5_187 : KS RX5 187 yX5_gcd := ⟨TB_i 1016 (by decide +kernel) rfl, TB_i 1017 (by decide +kernel) rfl⟩
theorem kv_L_150 : KV RL 150 yX5_mean := ⟨TB_i 1019 (by decide +kernel) rfl, TB_i 1020 (by decide +kernel) rfl, TB_i 1021 (by decide +kernel) rfl⟩
theorem kv_X5_197 : KV RX5 197 yX5_sumOf := ⟨TB_i 1023 (by decide +kernel) rfl, TB_i 1025 (by decide +kernel) rfl, TB_i 27 (by decide +kernel) rfl⟩
theorem kl_X5_200 : Cond.constantLong RX5 200 (10) ∈ TB := TB_i 1027 (by decide +kernel) rfl
theorem kv_L_154 : KV RL 154 yX5_forged := ⟨TB_i 1028 (by decide +kernel) rfl, TB_i 1029 (by decide +kernel) rfl, TB_i 1030 (by decide +kernel) rfl⟩
theorem kv_L_158 : KV RL 158 yX5_judge := ⟨TB_i 1032 (by decide +kernel) rfl, TB_i 1033 (by decide +kernel) rfl, TB_i 1034 (by decide +kernel) rfl⟩
theorem kv_L_162 : KV RL 162 yX5_deserts := ⟨TB_i 1036 (by decide +kernel) rfl, TB_i 1037 (by decide +kernel) rfl, TB_i 1038 (by decide +kernel) rfl⟩
theorem kv_X5_208 : KV RX5 208 yX5_drawn := ⟨TB_i 1040 (by decide +kernel) rfl, TB_i 1042 (by decide +kernel) rfl, TB_i 28 (by decide +kernel) rfl⟩
theorem kc_X5_205 : Cond.constant RX5 205 (1103515245) ∈ TB := TB_i 1044 (by decide +kernel) rfl
theorem kc_X5_206 : Cond.constant RX5 206 (2147483647) ∈ TB := TB_i 1045 (by decide +kernel) rfl
theorem kc_X5_207 : Cond.constant RX5 207 (65536) ∈ TB := TB_i 1046 (by decide +kernel) rfl
theorem kv_L_166 : KV RL 166 yX5_image := ⟨TB_i 1047 (by decide +kernel) rfl, TB_i 1048 (by decide +kernel) rfl, TB_i 1049 (by decide +kernel) rfl⟩
theorem kv_L_170 : KV RL 170 yX5_restore := ⟨TB_i 1051 (by decide +kernel) rfl, TB_i 1052 (by decide +kernel) rfl, TB_i 1053 (by decide +kernel) rfl⟩
theorem kv_L_174 : KV RL 174 yX5_count := ⟨TB_i 1055 (by decide +kernel) rfl, TB_i 1056 (by decide +kernel) rfl, TB_i 1057 (by decide +kernel) rfl⟩
theorem kv_L_194 : KV RL 194 yX5_thrown := ⟨TB_i 1059 (by decide +kernel) rfl, TB_i 1060 (by decide +kernel) rfl, TB_i 1061 (by decide +kernel) rfl⟩
theorem kv_L_179 : KV RL 179 yX5_keep := ⟨TB_i 1063 (by decide +kernel) rfl, TB_i 1064 (by decide +kernel) rfl, TB_i 1065 (by decide +kernel) rfl⟩
theorem kv_L_183 : KV RL 183 yX5_row := ⟨TB_i 1067 (by decide +kernel) rfl, TB_i 1068 (by decide +kernel) rfl, TB_i 1069 (by decide +kernel) rfl⟩
theorem kv_L_187 : KV RL 187 yX5_put := ⟨TB_i 1071 (by decide +kernel) rfl, TB_i 1072 (by decide +kernel) rfl, TB_i 1073 (by decide +kernel) rfl⟩
theorem kv_L_193 : KV RL 193 yX5_element := ⟨TB_i 1075 (by decide +kernel) rfl, TB_i 1076 (by decide +kernel) rfl, TB_i 1077 (by decide +kernel) rfl⟩
theorem kv_L_201 : KV RL 201 yX5_copy := ⟨TB_i 1079 (by decide +kernel) rfl, TB_i 1080 (by decide +kernel) rfl, TB_i 1081 (by decide +kernel) rfl⟩
theorem kv_L_205 : KV RL 205 yX5_cost := ⟨TB_i 1083 (by decide +kernel) rfl, TB_i 1084 (by decide +kernel) rfl, TB_i 1085 (by decide +kernel) rfl⟩
theorem ks_X5_221 : KS RX5 221 yX5_costBy := ⟨TB_i 1087 (by decide +kernel) rfl, TB_i 1088 (by decide +kernel) rfl⟩
theorem kv_L_209 : KV RL 209 yX5_toss := ⟨TB_i 1090 (by decide +kernel) rfl, TB_i 1091 (by decide +kernel) rfl, TB_i 1092 (by decide +kernel) rfl⟩
theorem karr_long : Cond.arrayClass .long ∈ TB := TB_i 1094 (by decide +kernel) rfl
theorem kini_X0 : Cond.initialized RX0 ∈ TB := TB_i 31 (by decide +kernel) rfl
theorem kini_X1 : Cond.initialized RX1 ∈ TB := TB_i 38 (by decide +kernel) rfl
theorem kini_X2 : Cond.initialized RX2 ∈ TB := TB_i 33 (by decide +kernel) rfl
theorem kini_X3 : Cond.initialized RX3 ∈ TB := TB_i 35 (by decide +kernel) rfl
theorem kini_X4 : Cond.initialized RX4 ∈ TB := TB_i 30 (by decide +kernel) rfl
theorem kini_X5 : Cond.initialized RX5 ∈ TB := TB_i 34 (by decide +kernel) rfl
theorem kini_J6 : Cond.initialized RJ6 ∈ TB := TB_i 39 (by decide +kernel) rfl
theorem kini_J9 : Cond.initialized RJ9 ∈ TB := TB_i 37 (by decide +kernel) rfl
theorem kini_J10 : Cond.initialized RJ10 ∈ TB := TB_i 36 (by decide +kernel) rfl
theorem kini_J7 : Cond.initialized RJ7 ∈ TB := TB_i 32 (by decide +kernel) rfl
theorem kini_L : Cond.initialized RL ∈ TB := TB_i 29 (by decide +kernel) rfl
theorem kobj_i : Cond.instanceMethod objectInit ∈ TB := TB_i 51 (by decide +kernel) rfl
theorem kobj_c : Cond.code objectInit ⟨#[0xb1]⟩ 1 none ∈ TB := TB_i 52 (by decide +kernel) rfl
end
section
def bI (b : Bool) : Int32 := if b = true then nI 1 else nI 0
theorem bI_t : bI true = nI 1 := rfl
theorem bI_f : bI false = nI 0 := rfl
theorem bI_nar (b : Bool) : narrow .boolean (.int (bI b)) = .int (bI b) := by cases b <;> rfl
theorem bI_0 (b : Bool) : bI b = 0 ↔ b = false := by cases b <;> decide
theorem nI_lit (n : Nat) : (OfNat.ofNat n : Int32) = nI n := rfl
theorem g_iald2 {K : Cx} {own : String} {cc : ByteArray} {nL fr mc ms k n pc : Nat} {ls : List (Nat × Value)} {st : List Value} {hp : Hp} (F : Fx K own cc nL fr mc ms) {q a j : Nat} {f : Nat → Int32} {i : Int32} (d : decode cc pc = .ok (.iaload, 1)) (ha : hp[q]? = some (.inl (.int, a, .inl f))) (hi : i = nI j) (hj : j < a) (hb : a < 2 ^ 31) (kk : Go K k n (pc + 1) (ls) (.int (f j) :: st) (hp)) : Go K k n (pc) (ls) (.int i :: .ref q :: st) (hp) := by
  subst hi
  refine g_iald F d ha (vp_in_nI hj hb) ?_
  rw [nI_clamp (Nat.lt_trans hj hb)]
  exact kk
theorem g_iast2 {K : Cx} {own : String} {cc : ByteArray} {nL fr mc ms k n pc : Nat} {ls : List (Nat × Value)} {st : List Value} {hp : Hp} (F : Fx K own cc nL fr mc ms) {q a j : Nat} {f : Nat → Int32} {i x : Int32} (d : decode cc pc = .ok (.iastore, 1)) (ha : hp[q]? = some (.inl (.int, a, .inl f))) (hi : i = nI j) (hj : j < a) (hb : a < 2 ^ 31) (kk : Go K k n (pc + 1) (ls) (st) (hp.set q (.inl (.int, a, .inl (upd f j x))))) : Go K k n (pc) (ls) (.int x :: .int i :: .ref q :: st) (hp) := by
  subst hi
  refine g_iast F d ha (vp_in_nI hj hb) ?_
  rw [nI_clamp (Nat.lt_trans hj hb)]
  exact kk
theorem g_aald2 {K : Cx} {own : String} {cc : ByteArray} {nL fr mc ms k n pc : Nat} {ls : List (Nat × Value)} {st : List Value} {hp : Hp} (F : Fx K own cc nL fr mc ms) {q a j z : Nat} {f : Nat → Option Nat} {i : Int32} (d : decode cc pc = .ok (.aaload, 1)) (ha : hp[q]? = some (.inl (.object RX2, a, .inr (.inr (.inr (.inr f)))))) (hi : i = nI j) (hj : j < a) (hb : a < 2 ^ 31) (hv : f j = some z) (kk : Go K k n (pc + 1) (ls) (.ref z :: st) (hp)) : Go K k n (pc) (ls) (.int i :: .ref q :: st) (hp) := by
  subst hi
  exact g_aald F d ha (vp_in_nI hj hb) (by rw [nI_clamp (Nat.lt_trans hj hb)]; exact hv) kk
theorem g_iaddN {K : Cx} {own : String} {cc : ByteArray} {nL fr mc ms k n pc : Nat} {ls : List (Nat × Value)} {st : List Value} {hp : Hp} (F : Fx K own cc nL fr mc ms) {x y : Nat} (d : decode cc pc = .ok (.iadd, 1)) (kk : Go K k n (pc + 1) (ls) (.int (nI (x + y)) :: st) (hp)) : Go K k n (pc) (ls) (.int (nI y) :: .int (nI x) :: st) (hp) := g_iadd F d (by rw [nI_add]; exact kk)
theorem g_imulN {K : Cx} {own : String} {cc : ByteArray} {nL fr mc ms k n pc : Nat} {ls : List (Nat × Value)} {st : List Value} {hp : Hp} (F : Fx K own cc nL fr mc ms) {x y : Nat} (d : decode cc pc = .ok (.imul, 1)) (kk : Go K k n (pc + 1) (ls) (.int (nI (x * y)) :: st) (hp)) : Go K k n (pc) (ls) (.int (nI y) :: .int (nI x) :: st) (hp) := g_imul F d (by rw [pk_mul]; exact kk)
theorem g_isubN {K : Cx} {own : String} {cc : ByteArray} {nL fr mc ms k n pc : Nat} {ls : List (Nat × Value)} {st : List Value} {hp : Hp} (F : Fx K own cc nL fr mc ms) {x y : Nat} (d : decode cc pc = .ok (.isub, 1)) (hxy : y ≤ x) (kk : Go K k n (pc + 1) (ls) (.int (nI (x - y)) :: st) (hp)) : Go K k n (pc) (ls) (.int (nI y) :: .int (nI x) :: st) (hp) := g_isub F d (by rw [pk_sub hxy]; exact kk)
theorem g_idivN {K : Cx} {own : String} {cc : ByteArray} {nL fr mc ms k n pc : Nat} {ls : List (Nat × Value)} {st : List Value} {hp : Hp} (F : Fx K own cc nL fr mc ms) {x y : Nat} (d : decode cc pc = .ok (.idiv, 1)) (hx : x < 2 ^ 31) (hy : 0 < y) (hy2 : y < 2 ^ 31) (kk : Go K k n (pc + 1) (ls) (.int (nI (x / y)) :: st) (hp)) : Go K k n (pc) (ls) (.int (nI y) :: .int (nI x) :: st) (hp) := g_idiv F d (nI_ne0 hy hy2) (by rw [pk_div hx hy hy2]; exact kk)
theorem g_iremN {K : Cx} {own : String} {cc : ByteArray} {nL fr mc ms k n pc : Nat} {ls : List (Nat × Value)} {st : List Value} {hp : Hp} (F : Fx K own cc nL fr mc ms) {x y : Nat} (d : decode cc pc = .ok (.irem, 1)) (hx : x < 2 ^ 31) (hy : 0 < y) (hy2 : y < 2 ^ 31) (kk : Go K k n (pc + 1) (ls) (.int (nI (x % y)) :: st) (hp)) : Go K k n (pc) (ls) (.int (nI y) :: .int (nI x) :: st) (hp) := g_irem F d (nI_ne0 hy hy2) (by rw [pk_rem hx hy hy2]; exact kk)
theorem g_iincN {K : Cx} {own : String} {cc : ByteArray} {nL fr mc ms k n pc : Nat} {ls : List (Nat × Value)} {st : List Value} {hp : Hp} (F : Fx K own cc nL fr mc ms) {i a : Nat} (d : decode cc pc = .ok (.iinc i 1, 3)) (hv : look ls i = some (.int (nI a))) (hi : i < nL) (kk : Go K k n (pc + 3) (put1 ls i (.int (nI (a + 1)))) (st) (hp)) : Go K k n (pc) (ls) (st) (hp) := g_iinc F d hv (nI_1 a) hi kk
theorem g_iincD {K : Cx} {own : String} {cc : ByteArray} {nL fr mc ms k n pc : Nat} {ls : List (Nat × Value)} {st : List Value} {hp : Hp} (F : Fx K own cc nL fr mc ms) {i a : Nat} (d : decode cc pc = .ok (.iinc i (-1), 3)) (hv : look ls i = some (.int (nI (a + 1)))) (hi : i < nL) (kk : Go K k n (pc + 3) (put1 ls i (.int (nI a))) (st) (hp)) : Go K k n (pc) (ls) (st) (hp) := g_iinc F d hv (pk_m1 a) hi kk
theorem g_icN_eq {K : Cx} {own : String} {cc : ByteArray} {nL fr mc ms k n pc : Nat} {ls : List (Nat × Value)} {st : List Value} {hp : Hp} (F : Fx K own cc nL fr mc ms) {a b : Nat} {x y : Int32} {off : Int} {tgt : Nat} (d : decode cc pc = .ok (.if_icmp .eq off, 3)) (ht : (pc : Int) + off = (tgt : Int)) (hx : x = nI a) (hy : y = nI b) (ha : a < 2 ^ 31) (hb : b < 2 ^ 31) (kt : a = b → Go K k n tgt ls st hp) (kf : a ≠ b → Go K k n (pc + 3) ls st hp) : Go K k n pc ls (.int y :: .int x :: st) hp := by
  subst hx
  subst hy
  exact g_ic_eq F d ht (fun h => kt ((nI_eq ha hb).mp h)) (fun h => kf (fun z => h ((nI_eq ha hb).mpr z)))
theorem g_icN_ne {K : Cx} {own : String} {cc : ByteArray} {nL fr mc ms k n pc : Nat} {ls : List (Nat × Value)} {st : List Value} {hp : Hp} (F : Fx K own cc nL fr mc ms) {a b : Nat} {x y : Int32} {off : Int} {tgt : Nat} (d : decode cc pc = .ok (.if_icmp .ne off, 3)) (ht : (pc : Int) + off = (tgt : Int)) (hx : x = nI a) (hy : y = nI b) (ha : a < 2 ^ 31) (hb : b < 2 ^ 31) (kt : a ≠ b → Go K k n tgt ls st hp) (kf : a = b → Go K k n (pc + 3) ls st hp) : Go K k n pc ls (.int y :: .int x :: st) hp := by
  subst hx
  subst hy
  exact g_ic_ne F d ht (fun h => kt (fun z => h ((nI_eq ha hb).mpr z))) (fun h => kf ((nI_eq ha hb).mp h))
theorem g_icN_lt {K : Cx} {own : String} {cc : ByteArray} {nL fr mc ms k n pc : Nat} {ls : List (Nat × Value)} {st : List Value} {hp : Hp} (F : Fx K own cc nL fr mc ms) {a b : Nat} {x y : Int32} {off : Int} {tgt : Nat} (d : decode cc pc = .ok (.if_icmp .lt off, 3)) (ht : (pc : Int) + off = (tgt : Int)) (hx : x = nI a) (hy : y = nI b) (ha : a < 2 ^ 31) (hb : b < 2 ^ 31) (kt : a < b → Go K k n tgt ls st hp) (kf : b ≤ a → Go K k n (pc + 3) ls st hp) : Go K k n pc ls (.int y :: .int x :: st) hp := by
  subst hx
  subst hy
  exact g_ic_lt F d ht (fun h => kt ((nI_ltI ha hb).mp h)) (fun h => kf (Nat.not_lt.mp (fun z => h ((nI_ltI ha hb).mpr z))))
theorem g_icN_ge {K : Cx} {own : String} {cc : ByteArray} {nL fr mc ms k n pc : Nat} {ls : List (Nat × Value)} {st : List Value} {hp : Hp} (F : Fx K own cc nL fr mc ms) {a b : Nat} {x y : Int32} {off : Int} {tgt : Nat} (d : decode cc pc = .ok (.if_icmp .ge off, 3)) (ht : (pc : Int) + off = (tgt : Int)) (hx : x = nI a) (hy : y = nI b) (ha : a < 2 ^ 31) (hb : b < 2 ^ 31) (kt : b ≤ a → Go K k n tgt ls st hp) (kf : a < b → Go K k n (pc + 3) ls st hp) : Go K k n pc ls (.int y :: .int x :: st) hp := by
  subst hx
  subst hy
  exact g_ic_ge F d ht (fun h => kt ((nI_leI hb ha).mp h)) (fun h => kf (Nat.not_le.mp (fun z => h ((nI_leI hb ha).mpr z))))
theorem g_icN_gt {K : Cx} {own : String} {cc : ByteArray} {nL fr mc ms k n pc : Nat} {ls : List (Nat × Value)} {st : List Value} {hp : Hp} (F : Fx K own cc nL fr mc ms) {a b : Nat} {x y : Int32} {off : Int} {tgt : Nat} (d : decode cc pc = .ok (.if_icmp .gt off, 3)) (ht : (pc : Int) + off = (tgt : Int)) (hx : x = nI a) (hy : y = nI b) (ha : a < 2 ^ 31) (hb : b < 2 ^ 31) (kt : b < a → Go K k n tgt ls st hp) (kf : a ≤ b → Go K k n (pc + 3) ls st hp) : Go K k n pc ls (.int y :: .int x :: st) hp := by
  subst hx
  subst hy
  exact g_ic_gt F d ht (fun h => kt ((nI_ltI hb ha).mp h)) (fun h => kf (Nat.not_lt.mp (fun z => h ((nI_ltI hb ha).mpr z))))
theorem g_icN_le {K : Cx} {own : String} {cc : ByteArray} {nL fr mc ms k n pc : Nat} {ls : List (Nat × Value)} {st : List Value} {hp : Hp} (F : Fx K own cc nL fr mc ms) {a b : Nat} {x y : Int32} {off : Int} {tgt : Nat} (d : decode cc pc = .ok (.if_icmp .le off, 3)) (ht : (pc : Int) + off = (tgt : Int)) (hx : x = nI a) (hy : y = nI b) (ha : a < 2 ^ 31) (hb : b < 2 ^ 31) (kt : a ≤ b → Go K k n tgt ls st hp) (kf : b < a → Go K k n (pc + 3) ls st hp) : Go K k n pc ls (.int y :: .int x :: st) hp := by
  subst hx
  subst hy
  exact g_ic_le F d ht (fun h => kt ((nI_leI ha hb).mp h)) (fun h => kf (Nat.not_le.mp (fun z => h ((nI_leI ha hb).mpr z))))
theorem g_ifeq_b {K : Cx} {own : String} {cc : ByteArray} {nL fr mc ms k n pc : Nat} {ls : List (Nat × Value)} {st : List Value} {hp : Hp} (F : Fx K own cc nL fr mc ms) {b : Bool} {off : Int} {tgt : Nat} (d : decode cc pc = .ok (.ifCond .eq off, 3)) (ht : (pc : Int) + off = (tgt : Int)) (kt : b = false → Go K k n tgt ls st hp) (kf : b = true → Go K k n (pc + 3) ls st hp) : Go K k n pc ls (.int (bI b) :: st) hp :=
  g_if_eq F d ht (fun h => kt ((bI_0 b).mp h)) (fun h => kf (by cases b with | true => rfl | false => exact absurd rfl h))
theorem g_ifne_b {K : Cx} {own : String} {cc : ByteArray} {nL fr mc ms k n pc : Nat} {ls : List (Nat × Value)} {st : List Value} {hp : Hp} (F : Fx K own cc nL fr mc ms) {b : Bool} {off : Int} {tgt : Nat} (d : decode cc pc = .ok (.ifCond .ne off, 3)) (ht : (pc : Int) + off = (tgt : Int)) (kt : b = true → Go K k n tgt ls st hp) (kf : b = false → Go K k n (pc + 3) ls st hp) : Go K k n pc ls (.int (bI b) :: st) hp :=
  g_if_ne F d ht (fun h => kt (by cases b with | true => rfl | false => exact absurd rfl h)) (fun h => kf ((bI_0 b).mp h))
theorem g_ifeq_d {K : Cx} {own : String} {cc : ByteArray} {nL fr mc ms k n pc : Nat} {ls : List (Nat × Value)} {st : List Value} {hp : Hp} (F : Fx K own cc nL fr mc ms) {P : Prop} [Decidable P] {off : Int} {tgt : Nat} (d : decode cc pc = .ok (.ifCond .eq off, 3)) (ht : (pc : Int) + off = (tgt : Int)) (kt : ¬ P → Go K k n tgt ls st hp) (kf : P → Go K k n (pc + 3) ls st hp) : Go K k n pc ls (.int (bI (decide P)) :: st) hp :=
  g_ifeq_b F d ht (fun h => kt (of_decide_eq_false h)) (fun h => kf (of_decide_eq_true h))
theorem g_ifne_d {K : Cx} {own : String} {cc : ByteArray} {nL fr mc ms k n pc : Nat} {ls : List (Nat × Value)} {st : List Value} {hp : Hp} (F : Fx K own cc nL fr mc ms) {P : Prop} [Decidable P] {off : Int} {tgt : Nat} (d : decode cc pc = .ok (.ifCond .ne off, 3)) (ht : (pc : Int) + off = (tgt : Int)) (kt : P → Go K k n tgt ls st hp) (kf : ¬ P → Go K k n (pc + 3) ls st hp) : Go K k n pc ls (.int (bI (decide P)) :: st) hp :=
  g_ifne_b F d ht (fun h => kt (of_decide_eq_true h)) (fun h => kf (of_decide_eq_false h))
section Call2
variable {K : Cx} {own : String} {cc : ByteArray} {nL fr mc ms k n pc : Nat} {ls : List (Nat × Value)} {st : List Value} {hp : Hp}
  {y : MethodName} {cc' : ByteArray} {nL' fr' mc' ms' idx : Nat} {ret' : Option FieldType} {cas : List Value} {chp : Hp} {Qp : Option Value → Hp → Prop} {r : Value}
theorem h_callS (F : Fx K own cc nL fr mc ms) (C : Ctr y cc' nL' ret' fr' mc' ms' cas chp Qp) (hi : Mi y cc' nL' ret' cas.length) (hk : KS own idx y) (d : decode cc pc = .ok (.invokestatic idx, 3)) (is : List Nat) (hs : Sub hp is chp) (hfr : fr' < fr) (hl : nL' ≤ 21) (hnd : va_nd is = true) (hst : (cas.map (vM (fun k => is.getD k 0))).reverse ++ st.drop cas.length = st) (hcat : ((st.drop cas.length).map fun v => v.category).sum ≤ 8) (hkc : k + mc' ≤ mc) (hkn : n + ms' ≤ ms) (kk : ∀ (v : Option Value) (hp2 : Hp), Qp v hp2 → hp2.length = chp.length + mc' → Go K (k + mc') (n + ms') (pc + 3) ls ((v.map (vM (rho is hp.length))).toList ++ st.drop cas.length) (place hp is hp2)) : Go K k n pc ls st hp := g_callS F C hi hk d is _ hfr hl hs hnd hst.symm hcat hkc hkn kk
theorem h_readS (F : Fx K own cc nL fr mc ms) (C : RCtr y cc' nL' ret' fr' cas chp r) (hi : Mi y cc' nL' ret' cas.length) (hk : KS own idx y) (d : decode cc pc = .ok (.invokestatic idx, 3)) (is : List Nat) (hs : Sub hp is chp) (hfr : fr' < fr) (hl : nL' ≤ 21) (hnd : va_nd is = true) (hst : (cas.map (vM (fun k => is.getD k 0))).reverse ++ st.drop cas.length = st) (hcat : ((st.drop cas.length).map fun v => v.category).sum ≤ 8) (hv : clV is.length r) (hkc : k ≤ mc) (hkn : n ≤ ms) (kk : Go K k n (pc + 3) ls (vM (fun k => is.getD k 0) r :: st.drop cas.length) hp) : Go K k n pc ls st hp := g_readS F C hi hk d is _ hfr hl hs hnd hst.symm hcat hv hkc hkn kk
theorem h_callSN (F : Fx K own cc nL fr mc ms) (C : Ctr y cc' nL' ret' fr' mc' ms' cas chp Qp) (hi : Mi y cc' nL' ret' cas.length) {host : String} (hk : KN own idx y host) (hk2 : Cond.static y ∈ TB) (d : decode cc pc = .ok (.invokestatic idx, 3)) (is : List Nat) (hs : Sub hp is chp) (hfr : fr' < fr) (hl : nL' ≤ 21) (hnd : va_nd is = true) (hst : (cas.map (vM (fun k => is.getD k 0))).reverse ++ st.drop cas.length = st) (hcat : ((st.drop cas.length).map fun v => v.category).sum ≤ 8) (hkc : k + mc' ≤ mc) (hkn : n + ms' ≤ ms) (kk : ∀ (v : Option Value) (hp2 : Hp), Qp v hp2 → hp2.length = chp.length + mc' → Go K (k + mc') (n + ms') (pc + 3) ls ((v.map (vM (rho is hp.length))).toList ++ st.drop cas.length) (place hp is hp2)) : Go K k n pc ls st hp := g_callSN F C hi hk hk2 d is _ hfr hl hs hnd hst.symm hcat hkc hkn kk
theorem h_readSN (F : Fx K own cc nL fr mc ms) (C : RCtr y cc' nL' ret' fr' cas chp r) (hi : Mi y cc' nL' ret' cas.length) {host : String} (hk : KN own idx y host) (hk2 : Cond.static y ∈ TB) (d : decode cc pc = .ok (.invokestatic idx, 3)) (is : List Nat) (hs : Sub hp is chp) (hfr : fr' < fr) (hl : nL' ≤ 21) (hnd : va_nd is = true) (hst : (cas.map (vM (fun k => is.getD k 0))).reverse ++ st.drop cas.length = st) (hcat : ((st.drop cas.length).map fun v => v.category).sum ≤ 8) (hv : clV is.length r) (hkc : k ≤ mc) (hkn : n ≤ ms) (kk : Go K k n (pc + 3) ls (vM (fun k => is.getD k 0) r :: st.drop cas.length) hp) : Go K k n pc ls st hp := g_readSN F C hi hk hk2 d is _ hfr hl hs hnd hst.symm hcat hv hkc hkn kk
theorem h_callV (F : Fx K own cc nL fr mc ms) {r0 ci : Nat} {fs : List Value} {T : u_T} {N : Nat} (C : Ctr y cc' nL' ret' fr' mc' ms' (Value.ref r0 :: cas) chp Qp) (hi : Mi y cc' nL' ret' cas.length) (hk : KV own idx y) (hr : chp[r0]? = some (.inr (ci, fs))) (hc : vwCl[ci]? = some (y.cls, T, N)) (d : decode cc pc = .ok (.invokevirtual idx, 3)) (is : List Nat) (hs : Sub hp is chp) (hfr : fr' < fr) (hl : nL' ≤ 21) (hnd : va_nd is = true) (hst : ((Value.ref r0 :: cas).map (vM (fun k => is.getD k 0))).reverse ++ st.drop (cas.length + 1) = st) (hcat : ((st.drop (cas.length + 1)).map fun v => v.category).sum ≤ 8) (hkc : k + mc' ≤ mc) (hkn : n + ms' ≤ ms) (kk : ∀ (v : Option Value) (hp2 : Hp), Qp v hp2 → hp2.length = chp.length + mc' → Go K (k + mc') (n + ms') (pc + 3) ls ((v.map (vM (rho is hp.length))).toList ++ st.drop (cas.length + 1)) (place hp is hp2)) : Go K k n pc ls st hp := g_callV F C hi hk d hr hc is _ hfr hl hs hnd hst.symm hcat hkc hkn kk
theorem h_readV (F : Fx K own cc nL fr mc ms) {r0 ci : Nat} {fs : List Value} {T : u_T} {N : Nat} (C : RCtr y cc' nL' ret' fr' (Value.ref r0 :: cas) chp r) (hi : Mi y cc' nL' ret' cas.length) (hk : KV own idx y) (hr : chp[r0]? = some (.inr (ci, fs))) (hc : vwCl[ci]? = some (y.cls, T, N)) (d : decode cc pc = .ok (.invokevirtual idx, 3)) (is : List Nat) (hs : Sub hp is chp) (hfr : fr' < fr) (hl : nL' ≤ 21) (hnd : va_nd is = true) (hst : ((Value.ref r0 :: cas).map (vM (fun k => is.getD k 0))).reverse ++ st.drop (cas.length + 1) = st) (hcat : ((st.drop (cas.length + 1)).map fun v => v.category).sum ≤ 8) (hv : clV is.length r) (hkc : k ≤ mc) (hkn : n ≤ ms) (kk : Go K k n (pc + 3) ls (vM (fun k => is.getD k 0) r :: st.drop (cas.length + 1)) hp) : Go K k n pc ls st hp := g_readV F C hi hk d hr hc is _ hfr hl hs hnd hst.symm hcat hv hkc hkn kk
theorem h_callI (F : Fx K own cc nL fr mc ms) {r0 : Nat} (C : Ctr y cc' nL' none fr' mc' ms' (Value.ref r0 :: cas) chp Qp) (hi : Mi y cc' nL' none cas.length) (hk : KI own idx y) (d : decode cc pc = .ok (.invokespecial idx, 3)) (is : List Nat) (hs : Sub hp is chp) (hfr : fr' < fr) (hl : nL' ≤ 21) (hnd : va_nd is = true) (hst : ((Value.ref r0 :: cas).map (vM (fun k => is.getD k 0))).reverse ++ st.drop (cas.length + 1) = st) (hcat : ((st.drop (cas.length + 1)).map fun v => v.category).sum ≤ 8) (hkc : k + mc' ≤ mc) (hkn : n + ms' ≤ ms) (kk : ∀ (v : Option Value) (hp2 : Hp), Qp v hp2 → hp2.length = chp.length + mc' → Go K (k + mc') (n + ms') (pc + 3) ls ((v.map (vM (rho is hp.length))).toList ++ st.drop (cas.length + 1)) (place hp is hp2)) : Go K k n pc ls st hp := g_callI F C hi hk d is _ hfr hl hs hnd hst.symm hcat hkc hkn kk
theorem h_callIN (F : Fx K own cc nL fr mc ms) {r0 : Nat} (C : Ctr y cc' nL' none fr' mc' ms' (Value.ref r0 :: cas) chp Qp) (hi : Mi y cc' nL' none cas.length) {host : String} (hk : KN own idx y host) (hk2 : Cond.instanceMethod y ∈ TB) (hk3 : y.name = "<init>") (d : decode cc pc = .ok (.invokespecial idx, 3)) (is : List Nat) (hs : Sub hp is chp) (hfr : fr' < fr) (hl : nL' ≤ 21) (hnd : va_nd is = true) (hst : ((Value.ref r0 :: cas).map (vM (fun k => is.getD k 0))).reverse ++ st.drop (cas.length + 1) = st) (hcat : ((st.drop (cas.length + 1)).map fun v => v.category).sum ≤ 8) (hkc : k + mc' ≤ mc) (hkn : n + ms' ≤ ms) (kk : ∀ (v : Option Value) (hp2 : Hp), Qp v hp2 → hp2.length = chp.length + mc' → Go K (k + mc') (n + ms') (pc + 3) ls ((v.map (vM (rho is hp.length))).toList ++ st.drop (cas.length + 1)) (place hp is hp2)) : Go K k n pc ls st hp := g_callIN F C hi hk hk2 hk3 d is _ hfr hl hs hnd hst.symm hcat hkc hkn kk
end Call2
/-! closedness by program -/
def clVb (n : Nat) (v : Value) : Bool := match v with
  | .ref k => decide (k < n)
  | _ => true
def clEb (n : Nat) (e : Ce) : Bool := match e with
  | .inl (_, (_, .inr (.inr (.inr (.inr _))))) => false
  | .inl _ => true
  | .inr (_, fs) => fs.all (clVb n)
theorem clV_of {n : Nat} {v : Value} (h : clVb n v = true) : clV n v := by
  cases v with
  | ref k => exact (of_decide_eq_true h : k < n)
  | _ => trivial
theorem clS_of {n : Nat} {as : List Value} (h : as.all (clVb n) = true) : clS n as := fun v hv => clV_of (List.all_eq_true.mp h v hv)
theorem clE_of {n : Nat} {e : Ce} (h : clEb n e = true) : clE n e := by
  rcases e with ⟨ty, m, a⟩ | ⟨c, fs⟩
  · rcases a with x | x | x | x | x <;> first | trivial | cases h
  · exact fun v hv => clV_of (List.all_eq_true.mp h v hv)
theorem clH_of {n : Nat} {hp : Hp} (h : hp.all (clEb n) = true) : clH n hp := fun e he => clE_of (List.all_eq_true.mp h e he)
theorem clH_app {n : Nat} {a b : Hp} (h1 : clH n a) (h2 : clH n b) : clH n (a ++ b) := fun e he => (List.mem_append.mp he).elim (h1 e) (h2 e)
/-! counting upwards, downwards -/
theorem loop_up {P : Nat → Prop} {N : Nat} (h : ∀ i, i ≤ N → (i < N → P (i + 1)) → P i) : ∀ i, i ≤ N → P i := by
  have key : ∀ m i, i + m = N → P i := by
    intro m
    induction m with
    | zero => exact fun i hi => h i (by omega) (fun q => absurd q (by omega))
    | succ m ih => exact fun i hi => h i (by omega) (fun _ => ih (i + 1) (by omega))
  exact fun i hi => key (N - i) i (by omega)
def it {S : Type} (f : Nat → S → S) : Nat → S → S
  | 0, s => s
  | n + 1, s => f n (it f n s)
theorem it_succ {S : Type} (f : Nat → S → S) (n : Nat) (s : S) : it f (n + 1) s = f n (it f n s) := rfl
theorem it_inv {S : Type} {f : Nat → S → S} {I : S → Prop} {n : Nat} {s : S} (h0 : I s) (hs : ∀ i s, i < n → I s → I (f i s)) : ∀ i, i ≤ n → I (it f i s) := by
  intro i
  induction i with
  | zero => exact fun _ => h0
  | succ i ih => exact fun hi => hs i _ (by omega) (ih (by omega))
theorem it_cong {S : Type} {f g : Nat → S → S} {n : Nat} {s : S} (h : ∀ i s, i < n → f i s = g i s) : it f n s = it g n s := by
  induction n with
  | zero => rfl
  | succ n ih => rw [it_succ, it_succ, ih (fun i s hi => h i s (by omega)), h n _ (by omega)]
theorem g_objInit {K : Cx} {own : String} {cc : ByteArray} {nL fr mc ms k n pc : Nat} {ls : List (Nat × Value)} {st : List Value} {hp : Hp} (F : Fx K own cc nL fr mc ms) {q idx : Nat} (d : decode cc pc = .ok (.invokespecial idx, 3)) (hl : Cond.methodLink own idx objectInit ∈ TB) (hf : 1 ≤ fr) (hr : (st.map fun v => v.category).sum ≤ 8) (kk : Go K k n (pc + 3) ls st hp) : Go K k n pc ls (.ref q :: st) hp := by
  obtain ⟨p, l, e, R, s, m, args, below, meth, c, D, cA, A, Q, nL', n0, ad0⟩ := K
  obtain ⟨hx, hb, hml, hnl, hown, hts, hK, hA, hfr, hlo, hmc, hms⟩ := F
  intro hcl h0 ad H locs LS h1 h2 h3 h4 h5
  subst hnl
  refine W.objInit hx hb hown (hts _ hl) (hts _ kobj_i) (hts _ kobj_c) rfl (by rw [hml]; exact h5.1) rfl d (Nat.le_trans hf hfr) (Nat.le_trans (Nat.add_le_add_right (lv_room (by rw [sum_cat]; exact hr)) 12) (by omega)) ?_
  exact kk ⟨hcl.1, clS_tail hcl.2.1, hcl.2.2⟩ h0 ad H locs LS h1 h2 h3 h4 h5
theorem sw_cases (lo hi : Nat) (x : Int32) (h : hi < 2 ^ 31) : (∃ j : Nat, lo ≤ j ∧ j ≤ hi ∧ x = nI j) ∨ (x.toInt < lo ∨ (hi : Int) < x.toInt) := by
  by_cases h1 : x.toInt < lo
  · exact Or.inr (Or.inl h1)
  · by_cases h2 : (hi : Int) < x.toInt
    · exact Or.inr (Or.inr h2)
    · refine Or.inl ⟨x.toInt.toNat, by omega, by omega, ?_⟩
      have e : ((x.toInt.toNat : Nat) : Int) = x.toInt := Int.toNat_of_nonneg (by omega)
      rw [← Int32.toInt_inj, nI_toInt (by omega), e]
theorem sw_ne {lo hi j : Nat} {x : Int32} (h : x.toInt < lo ∨ (hi : Int) < x.toInt) (h1 : lo ≤ j) (h2 : j ≤ hi) (h3 : hi < 2 ^ 31) : ¬ x = nI j := by
  intro q
  rw [q, nI_toInt (by omega)] at h
  omega
theorem g_tableIn2 {K : Cx} {own : String} {cc : ByteArray} {nL fr mc ms k n pc : Nat} {ls : List (Nat × Value)} {st : List Value} {hp : Hp} (F : Fx K own cc nL fr mc ms) {dflt lo hi : Int} {offs : Array Int} {len j : Nat} {x : Int32} {off : Int} {tgt : Nat} (d : decode cc pc = .ok (.tableswitch dflt lo hi offs, len)) (hx : x = nI j) (h6 : ¬ (nI j).toInt < lo) (h7 : ¬ hi < (nI j).toInt) (ho : offs[((nI j).toInt - lo).toNat]? = some off) (ht : (pc : Int) + off = (tgt : Int)) (kk : Go K k n tgt ls st hp) : Go K k n pc ls (.int x :: st) hp := by
  subst hx
  exact g_tableIn F d h6 h7 ho ht kk
end
section
def mn (a b : Int32) : Int32 := if a < b then a else b
def mx (a b : Int32) : Int32 := if b < a then a else b
theorem mmin_eq (a b : Int32) : (if b < a then b else a) = mn a b := by
  unfold mn
  by_cases h : b < a
  · rw [if_pos h, if_neg (fun q => Int32.lt_irrefl (Int32.lt_trans h q))]
  · rw [if_neg h]
    by_cases h2 : a < b
    · rw [if_pos h2]
    · rw [if_neg h2]
      exact Int32.le_antisymm (Int32.not_lt.mp h) (Int32.not_lt.mp h2)
theorem mmax_eq (a b : Int32) : (if a < b then b else a) = mx a b := by
  unfold mx
  by_cases h : a < b
  · rw [if_pos h, if_neg (fun q => Int32.lt_irrefl (Int32.lt_trans h q))]
  · rw [if_neg h]
    by_cases h2 : b < a
    · rw [if_pos h2]
    · rw [if_neg h2]
      exact Int32.le_antisymm (Int32.not_lt.mp h2) (Int32.not_lt.mp h)
theorem g_mminM {K : Cx} {own : String} {cc : ByteArray} {nL fr mc ms k n pc : Nat} {ls : List (Nat × Value)} {st : List Value} {hp : Hp} (F : Fx K own cc nL fr mc ms) {idx : Nat} {x y : Int32} (d : decode cc pc = .ok (.invokestatic idx, 3)) (hl : Cond.methodLink own idx Lib.Math.min.name ∈ TB) (hf : 1 ≤ fr) (hr : (st.map fun v => v.category).sum ≤ 8) (hk : k ≤ mc) (hn : n ≤ ms) (kk : Go K k n (pc + 3) (ls) (.int (mn x y) :: st) (hp)) : Go K k n (pc) (ls) (.int y :: .int x :: st) (hp) := g_mmin F d hl hf hr hk hn (by rw [mmin_eq]; exact kk)
theorem g_mmaxM {K : Cx} {own : String} {cc : ByteArray} {nL fr mc ms k n pc : Nat} {ls : List (Nat × Value)} {st : List Value} {hp : Hp} (F : Fx K own cc nL fr mc ms) {idx : Nat} {x y : Int32} (d : decode cc pc = .ok (.invokestatic idx, 3)) (hl : Cond.methodLink own idx Lib.Math.max.name ∈ TB) (hf : 1 ≤ fr) (hr : (st.map fun v => v.category).sum ≤ 8) (hk : k ≤ mc) (hn : n ≤ ms) (kk : Go K k n (pc + 3) (ls) (.int (mx x y) :: st) (hp)) : Go K k n (pc) (ls) (.int y :: .int x :: st) (hp) := g_mmax F d hl hf hr hk hn (by rw [mmax_eq]; exact kk)
end
section
/-! small functions of both sides -/
theorem within_t {v a b : Int32} (h1 : ¬ v < a) (h2 : ¬ b < v) : nI 1 = bI (decide (a ≤ v ∧ v ≤ b)) := by
  rw [decide_eq_true ⟨Int32.not_lt.mp h1, Int32.not_lt.mp h2⟩]; rfl
theorem within_f1 {v a b : Int32} (h1 : v < a) : nI 0 = bI (decide (a ≤ v ∧ v ≤ b)) := by
  rw [decide_eq_false (fun h => absurd h1 (Int32.not_lt.mpr h.1))]; rfl
theorem within_f2 {v a b : Int32} (h1 : b < v) : nI 0 = bI (decide (a ≤ v ∧ v ≤ b)) := by
  rw [decide_eq_false (fun h => absurd h1 (Int32.not_lt.mpr h.2))]; rfl
abbrev ix (c w : Nat) : Nat := 25 + 6 * c + w
def hasb (s k : Int32) : Bool := decide ((s >>> (k &&& 31)) &&& nI 1 = nI 1)
set_option maxRecDepth 100000 in
set_option maxHeartbeats 4000000 in
theorem c_isWithin (v a b : Int32) : RCtr yX4_isWithin cX4_isWithin 3 (some .boolean) 0 [.int v, .int a, .int b] ([]) (.int (bI (decide (a ≤ v ∧ v ≤ b)))) := by
  refine Ctr.of rfl (Nat.le_of_ble_eq_true rfl) ⟨clS_of rfl, clH_of rfl⟩ (fun K F X => ?_)
  show Go K 0 0 0 [(0, .int v), (1, .int a), (2, .int b)] [] ([])
  refine g_iload_n (pc := 0) F dX4_isWithin_0 rfl ?_
  refine g_iload_n (pc := 1) F dX4_isWithin_1 rfl ?_
  refine g_ic_lt (pc := 2) F dX4_isWithin_2 (tgt := 14) rfl (fun c_2 => ?_) (fun c_2 => ?_)
  · refine g_iconst (pc := 14) F dX4_isWithin_14 (v := nI 0) rfl ?_
    exact g_zret (pc := 15) F X dX4_isWithin_15 (by first | exact bI_nar _ | rfl) (Nat.le_of_ble_eq_true rfl) (Nat.le_of_ble_eq_true rfl) rfl ⟨congrArg (fun z => some (Value.int z)) (by first | exact within_t c_2 c_7 | exact within_f1 c_2 | exact within_f2 c_7), rfl⟩
  · refine g_iload_n (pc := 5) F dX4_isWithin_5 rfl ?_
    refine g_iload_n (pc := 6) F dX4_isWithin_6 rfl ?_
    refine g_ic_gt (pc := 7) F dX4_isWithin_7 (tgt := 14) rfl (fun c_7 => ?_) (fun c_7 => ?_)
    · refine g_iconst (pc := 14) F dX4_isWithin_14 (v := nI 0) rfl ?_
      exact g_zret (pc := 15) F X dX4_isWithin_15 (by first | exact bI_nar _ | rfl) (Nat.le_of_ble_eq_true rfl) (Nat.le_of_ble_eq_true rfl) rfl ⟨congrArg (fun z => some (Value.int z)) (by first | exact within_t c_2 c_7 | exact within_f1 c_2 | exact within_f2 c_7), rfl⟩
    · refine g_iconst (pc := 10) F dX4_isWithin_10 (v := nI 1) rfl ?_
      refine g_goto (pc := 11) F dX4_isWithin_11 (tgt := 15) rfl ?_
      exact g_zret (pc := 15) F X dX4_isWithin_15 (by first | exact bI_nar _ | rfl) (Nat.le_of_ble_eq_true rfl) (Nat.le_of_ble_eq_true rfl) rfl ⟨congrArg (fun z => some (Value.int z)) (by first | exact within_t c_2 c_7 | exact within_f1 c_2 | exact within_f2 c_7), rfl⟩

set_option maxRecDepth 100000 in
set_option maxHeartbeats 4000000 in
theorem c_isIn (v a b : Int32) : RCtr yX5_isIn cX5_isIn 3 (some .boolean) 0 [.int v, .int a, .int b] ([]) (.int (bI (decide (a ≤ v ∧ v ≤ b)))) := by
  refine Ctr.of rfl (Nat.le_of_ble_eq_true rfl) ⟨clS_of rfl, clH_of rfl⟩ (fun K F X => ?_)
  show Go K 0 0 0 [(0, .int v), (1, .int a), (2, .int b)] [] ([])
  refine g_iload_n (pc := 0) F dX5_isIn_0 rfl ?_
  refine g_iload_n (pc := 1) F dX5_isIn_1 rfl ?_
  refine g_ic_lt (pc := 2) F dX5_isIn_2 (tgt := 14) rfl (fun c_2 => ?_) (fun c_2 => ?_)
  · refine g_iconst (pc := 14) F dX5_isIn_14 (v := nI 0) rfl ?_
    exact g_zret (pc := 15) F X dX5_isIn_15 (by first | exact bI_nar _ | rfl) (Nat.le_of_ble_eq_true rfl) (Nat.le_of_ble_eq_true rfl) rfl ⟨congrArg (fun z => some (Value.int z)) (by first | exact within_t c_2 c_7 | exact within_f1 c_2 | exact within_f2 c_7), rfl⟩
  · refine g_iload_n (pc := 5) F dX5_isIn_5 rfl ?_
    refine g_iload_n (pc := 6) F dX5_isIn_6 rfl ?_
    refine g_ic_gt (pc := 7) F dX5_isIn_7 (tgt := 14) rfl (fun c_7 => ?_) (fun c_7 => ?_)
    · refine g_iconst (pc := 14) F dX5_isIn_14 (v := nI 0) rfl ?_
      exact g_zret (pc := 15) F X dX5_isIn_15 (by first | exact bI_nar _ | rfl) (Nat.le_of_ble_eq_true rfl) (Nat.le_of_ble_eq_true rfl) rfl ⟨congrArg (fun z => some (Value.int z)) (by first | exact within_t c_2 c_7 | exact within_f1 c_2 | exact within_f2 c_7), rfl⟩
    · refine g_iconst (pc := 10) F dX5_isIn_10 (v := nI 1) rfl ?_
      refine g_goto (pc := 11) F dX5_isIn_11 (tgt := 15) rfl ?_
      exact g_zret (pc := 15) F X dX5_isIn_15 (by first | exact bI_nar _ | rfl) (Nat.le_of_ble_eq_true rfl) (Nat.le_of_ble_eq_true rfl) rfl ⟨congrArg (fun z => some (Value.int z)) (by first | exact within_t c_2 c_7 | exact within_f1 c_2 | exact within_f2 c_7), rfl⟩

set_option maxRecDepth 100000 in
set_option maxHeartbeats 4000000 in
theorem c_least (a b : Int32) : RCtr yX5_least cX5_least 2 (some .int) 0 [.int a, .int b] ([]) (.int (mn a b)) := by
  refine Ctr.of rfl (Nat.le_of_ble_eq_true rfl) ⟨clS_of rfl, clH_of rfl⟩ (fun K F X => ?_)
  show Go K 0 0 0 [(0, .int a), (1, .int b)] [] ([])
  refine g_iload_n (pc := 0) F dX5_least_0 rfl ?_
  refine g_iload_n (pc := 1) F dX5_least_1 rfl ?_
  refine g_ic_ge (pc := 2) F dX5_least_2 (tgt := 9) rfl (fun c_2 => ?_) (fun c_2 => ?_)
  · refine g_iload_n (pc := 9) F dX5_least_9 rfl ?_
    exact g_iret (pc := 10) F X dX5_least_10 (Nat.le_of_ble_eq_true rfl) (Nat.le_of_ble_eq_true rfl) rfl ⟨congrArg (fun z => some (Value.int z)) (by unfold mn; first | rw [if_pos (by first | exact c_2 | exact Int32.not_le.mp c_2)] | rw [if_neg (by first | exact Int32.not_lt.mpr c_2 | exact c_2)]), rfl⟩
  · refine g_iload_n (pc := 5) F dX5_least_5 rfl ?_
    refine g_goto (pc := 6) F dX5_least_6 (tgt := 10) rfl ?_
    exact g_iret (pc := 10) F X dX5_least_10 (Nat.le_of_ble_eq_true rfl) (Nat.le_of_ble_eq_true rfl) rfl ⟨congrArg (fun z => some (Value.int z)) (by unfold mn; first | rw [if_pos (by first | exact c_2 | exact Int32.not_le.mp c_2)] | rw [if_neg (by first | exact Int32.not_lt.mpr c_2 | exact c_2)]), rfl⟩

set_option maxRecDepth 100000 in
set_option maxHeartbeats 4000000 in
theorem c_most (a b : Int32) : RCtr yX5_most cX5_most 2 (some .int) 0 [.int a, .int b] ([]) (.int (mx a b)) := by
  refine Ctr.of rfl (Nat.le_of_ble_eq_true rfl) ⟨clS_of rfl, clH_of rfl⟩ (fun K F X => ?_)
  show Go K 0 0 0 [(0, .int a), (1, .int b)] [] ([])
  refine g_iload_n (pc := 0) F dX5_most_0 rfl ?_
  refine g_iload_n (pc := 1) F dX5_most_1 rfl ?_
  refine g_ic_le (pc := 2) F dX5_most_2 (tgt := 9) rfl (fun c_2 => ?_) (fun c_2 => ?_)
  · refine g_iload_n (pc := 9) F dX5_most_9 rfl ?_
    exact g_iret (pc := 10) F X dX5_most_10 (Nat.le_of_ble_eq_true rfl) (Nat.le_of_ble_eq_true rfl) rfl ⟨congrArg (fun z => some (Value.int z)) (by unfold mx; first | rw [if_pos (by first | exact c_2 | exact Int32.not_le.mp c_2)] | rw [if_neg (by first | exact Int32.not_lt.mpr c_2 | exact c_2)]), rfl⟩
  · refine g_iload_n (pc := 5) F dX5_most_5 rfl ?_
    refine g_goto (pc := 6) F dX5_most_6 (tgt := 10) rfl ?_
    exact g_iret (pc := 10) F X dX5_most_10 (Nat.le_of_ble_eq_true rfl) (Nat.le_of_ble_eq_true rfl) rfl ⟨congrArg (fun z => some (Value.int z)) (by unfold mx; first | rw [if_pos (by first | exact c_2 | exact Int32.not_le.mp c_2)] | rw [if_neg (by first | exact Int32.not_lt.mpr c_2 | exact c_2)]), rfl⟩

set_option maxRecDepth 100000 in
set_option maxHeartbeats 4000000 in
theorem c_of (c w : Nat) : RCtr yX5_of cX5_of 2 (some .int) 0 [.int (nI c), .int (nI w)] ([]) (.int (nI (ix c w))) := by
  refine Ctr.of rfl (Nat.le_of_ble_eq_true rfl) ⟨clS_of rfl, clH_of rfl⟩ (fun K F X => ?_)
  show Go K 0 0 0 [(0, .int (nI c)), (1, .int (nI w))] [] ([])
  refine g_bipush (pc := 0) F dX5_of_0 (v := nI 25) rfl ?_
  refine g_bipush (pc := 2) F dX5_of_2 (v := nI 6) rfl ?_
  refine g_iload_n (pc := 4) F dX5_of_4 rfl ?_
  refine g_imulN (pc := 5) F dX5_of_5 ?_
  refine g_iaddN (pc := 6) F dX5_of_6 ?_
  refine g_iload_n (pc := 7) F dX5_of_7 rfl ?_
  refine g_iaddN (pc := 8) F dX5_of_8 ?_
  exact g_iret (pc := 9) F X dX5_of_9 (Nat.le_of_ble_eq_true rfl) (Nat.le_of_ble_eq_true rfl) rfl ⟨rfl, rfl⟩

set_option maxRecDepth 100000 in
set_option maxHeartbeats 4000000 in
theorem c_isDip (v : Int32) : RCtr yX4_isDip cX4_isDip 1 (some .boolean) 1 [.int v] ([]) (.int (bI (decide (nI 0 ≤ v ∧ v ≤ nI 9)))) := by
  refine Ctr.of rfl (Nat.le_of_ble_eq_true rfl) ⟨clS_of rfl, clH_of rfl⟩ (fun K F X => ?_)
  show Go K 0 0 0 [(0, .int v)] [] ([])
  refine g_iload_n (pc := 0) F dX4_isDip_0 rfl ?_
  refine g_iconst (pc := 1) F dX4_isDip_1 (v := nI 0) rfl ?_
  refine g_bipush (pc := 2) F dX4_isDip_2 (v := nI 9) rfl ?_
  refine h_readS (pc := 4) F (c_isWithin _ _ _) mi_X4_isWithin ks_X4_123 dX4_isDip_4 [] rfl (by decide) (by decide) rfl rfl (Nat.le_of_ble_eq_true rfl) trivial (by decide) (by decide) ?_
  exact g_zret (pc := 7) F X dX4_isDip_7 (by first | exact bI_nar _ | rfl) (Nat.le_of_ble_eq_true rfl) (Nat.le_of_ble_eq_true rfl) rfl ⟨rfl, rfl⟩

set_option maxRecDepth 100000 in
set_option maxHeartbeats 4000000 in
theorem c_isDaysOn (v : Int32) : RCtr yX4_isDaysOn cX4_isDaysOn 1 (some .boolean) 1 [.int v] ([]) (.int (bI (decide (nI 0 ≤ v ∧ v ≤ nI 60)))) := by
  refine Ctr.of rfl (Nat.le_of_ble_eq_true rfl) ⟨clS_of rfl, clH_of rfl⟩ (fun K F X => ?_)
  show Go K 0 0 0 [(0, .int v)] [] ([])
  refine g_iload_n (pc := 0) F dX4_isDaysOn_0 rfl ?_
  refine g_iconst (pc := 1) F dX4_isDaysOn_1 (v := nI 0) rfl ?_
  refine g_bipush (pc := 2) F dX4_isDaysOn_2 (v := nI 60) rfl ?_
  refine h_readS (pc := 4) F (c_isWithin _ _ _) mi_X4_isWithin ks_X4_123 dX4_isDaysOn_4 [] rfl (by decide) (by decide) rfl rfl (Nat.le_of_ble_eq_true rfl) trivial (by decide) (by decide) ?_
  exact g_zret (pc := 7) F X dX4_isDaysOn_7 (by first | exact bI_nar _ | rfl) (Nat.le_of_ble_eq_true rfl) (Nat.le_of_ble_eq_true rfl) rfl ⟨rfl, rfl⟩

set_option maxRecDepth 100000 in
set_option maxHeartbeats 4000000 in
theorem c_mDip (v : Int32) : RCtr yX5_isDip cX5_isDip 1 (some .boolean) 1 [.int v] ([]) (.int (bI (decide (nI 0 ≤ v ∧ v ≤ nI 9)))) := by
  refine Ctr.of rfl (Nat.le_of_ble_eq_true rfl) ⟨clS_of rfl, clH_of rfl⟩ (fun K F X => ?_)
  show Go K 0 0 0 [(0, .int v)] [] ([])
  refine g_iload_n (pc := 0) F dX5_isDip_0 rfl ?_
  refine g_iconst (pc := 1) F dX5_isDip_1 (v := nI 0) rfl ?_
  refine g_bipush (pc := 2) F dX5_isDip_2 (v := nI 9) rfl ?_
  refine h_readS (pc := 4) F (c_isIn _ _ _) mi_X5_isIn ks_X5_43 dX5_isDip_4 [] rfl (by decide) (by decide) rfl rfl (Nat.le_of_ble_eq_true rfl) trivial (by decide) (by decide) ?_
  exact g_zret (pc := 7) F X dX5_isDip_7 (by first | exact bI_nar _ | rfl) (Nat.le_of_ble_eq_true rfl) (Nat.le_of_ble_eq_true rfl) rfl ⟨rfl, rfl⟩

set_option maxRecDepth 100000 in
set_option maxHeartbeats 4000000 in
theorem c_mLate (v : Int32) : RCtr yX5_isLate cX5_isLate 1 (some .boolean) 1 [.int v] ([]) (.int (bI (decide (nI 0 ≤ v ∧ v ≤ nI 60)))) := by
  refine Ctr.of rfl (Nat.le_of_ble_eq_true rfl) ⟨clS_of rfl, clH_of rfl⟩ (fun K F X => ?_)
  show Go K 0 0 0 [(0, .int v)] [] ([])
  refine g_iload_n (pc := 0) F dX5_isLate_0 rfl ?_
  refine g_iconst (pc := 1) F dX5_isLate_1 (v := nI 0) rfl ?_
  refine g_bipush (pc := 2) F dX5_isLate_2 (v := nI 60) rfl ?_
  refine h_readS (pc := 4) F (c_isIn _ _ _) mi_X5_isIn ks_X5_43 dX5_isLate_4 [] rfl (by decide) (by decide) rfl rfl (Nat.le_of_ble_eq_true rfl) trivial (by decide) (by decide) ?_
  exact g_zret (pc := 7) F X dX5_isLate_7 (by first | exact bI_nar _ | rfl) (Nat.le_of_ble_eq_true rfl) (Nat.le_of_ble_eq_true rfl) rfl ⟨rfl, rfl⟩

set_option maxRecDepth 100000 in
set_option maxHeartbeats 4000000 in
theorem c_mShelf (v : Int32) : RCtr yX5_isShelf cX5_isShelf 1 (some .boolean) 1 [.int v] ([]) (.int (bI (decide (nI 0 ≤ v ∧ v ≤ nI 7)))) := by
  refine Ctr.of rfl (Nat.le_of_ble_eq_true rfl) ⟨clS_of rfl, clH_of rfl⟩ (fun K F X => ?_)
  show Go K 0 0 0 [(0, .int v)] [] ([])
  refine g_iload_n (pc := 0) F dX5_isShelf_0 rfl ?_
  refine g_iconst (pc := 1) F dX5_isShelf_1 (v := nI 0) rfl ?_
  refine g_bipush (pc := 2) F dX5_isShelf_2 (v := nI 7) rfl ?_
  refine h_readS (pc := 4) F (c_isIn _ _ _) mi_X5_isIn ks_X5_43 dX5_isShelf_4 [] rfl (by decide) (by decide) rfl rfl (Nat.le_of_ble_eq_true rfl) trivial (by decide) (by decide) ?_
  exact g_zret (pc := 7) F X dX5_isShelf_7 (by first | exact bI_nar _ | rfl) (Nat.le_of_ble_eq_true rfl) (Nat.le_of_ble_eq_true rfl) rfl ⟨rfl, rfl⟩

set_option maxRecDepth 100000 in
set_option maxHeartbeats 4000000 in
theorem c_hasBit (s k : Int32) : RCtr yX4_hasBit cX4_hasBit 2 (some .boolean) 0 [.int s, .int k] ([]) (.int (bI (hasb s k))) := by
  refine Ctr.of rfl (Nat.le_of_ble_eq_true rfl) ⟨clS_of rfl, clH_of rfl⟩ (fun K F X => ?_)
  show Go K 0 0 0 [(0, .int s), (1, .int k)] [] ([])
  refine g_iload_n (pc := 0) F dX4_hasBit_0 rfl ?_
  refine g_iload_n (pc := 1) F dX4_hasBit_1 rfl ?_
  refine g_ishr (pc := 2) F dX4_hasBit_2 ?_
  refine g_iconst (pc := 3) F dX4_hasBit_3 (v := nI 1) rfl ?_
  refine g_iand (pc := 4) F dX4_hasBit_4 ?_
  refine g_iconst (pc := 5) F dX4_hasBit_5 (v := nI 1) rfl ?_
  refine g_ic_ne (pc := 6) F dX4_hasBit_6 (tgt := 13) rfl (fun c_6 => ?_) (fun c_6 => ?_)
  · refine g_iconst (pc := 13) F dX4_hasBit_13 (v := nI 0) rfl ?_
    exact g_zret (pc := 14) F X dX4_hasBit_14 (by first | exact bI_nar _ | rfl) (Nat.le_of_ble_eq_true rfl) (Nat.le_of_ble_eq_true rfl) rfl ⟨congrArg (fun z => some (Value.int z)) (by unfold hasb; first | rw [decide_eq_true c_6]; rfl | rw [decide_eq_false c_6]; rfl), rfl⟩
  · refine g_iconst (pc := 9) F dX4_hasBit_9 (v := nI 1) rfl ?_
    refine g_goto (pc := 10) F dX4_hasBit_10 (tgt := 14) rfl ?_
    exact g_zret (pc := 14) F X dX4_hasBit_14 (by first | exact bI_nar _ | rfl) (Nat.le_of_ble_eq_true rfl) (Nat.le_of_ble_eq_true rfl) rfl ⟨congrArg (fun z => some (Value.int z)) (by unfold hasb; first | rw [decide_eq_true c_6]; rfl | rw [decide_eq_false c_6]; rfl), rfl⟩

set_option maxRecDepth 100000 in
set_option maxHeartbeats 4000000 in
theorem c_has (s k : Int32) : RCtr yX5_has cX5_has 2 (some .boolean) 0 [.int s, .int k] ([]) (.int (bI (hasb s k))) := by
  refine Ctr.of rfl (Nat.le_of_ble_eq_true rfl) ⟨clS_of rfl, clH_of rfl⟩ (fun K F X => ?_)
  show Go K 0 0 0 [(0, .int s), (1, .int k)] [] ([])
  refine g_iload_n (pc := 0) F dX5_has_0 rfl ?_
  refine g_iload_n (pc := 1) F dX5_has_1 rfl ?_
  refine g_ishr (pc := 2) F dX5_has_2 ?_
  refine g_iconst (pc := 3) F dX5_has_3 (v := nI 1) rfl ?_
  refine g_iand (pc := 4) F dX5_has_4 ?_
  refine g_iconst (pc := 5) F dX5_has_5 (v := nI 1) rfl ?_
  refine g_ic_ne (pc := 6) F dX5_has_6 (tgt := 13) rfl (fun c_6 => ?_) (fun c_6 => ?_)
  · refine g_iconst (pc := 13) F dX5_has_13 (v := nI 0) rfl ?_
    exact g_zret (pc := 14) F X dX5_has_14 (by first | exact bI_nar _ | rfl) (Nat.le_of_ble_eq_true rfl) (Nat.le_of_ble_eq_true rfl) rfl ⟨congrArg (fun z => some (Value.int z)) (by unfold hasb; first | rw [decide_eq_true c_6]; rfl | rw [decide_eq_false c_6]; rfl), rfl⟩
  · refine g_iconst (pc := 9) F dX5_has_9 (v := nI 1) rfl ?_
    refine g_goto (pc := 10) F dX5_has_10 (tgt := 14) rfl ?_
    exact g_zret (pc := 14) F X dX5_has_14 (by first | exact bI_nar _ | rfl) (Nat.le_of_ble_eq_true rfl) (Nat.le_of_ble_eq_true rfl) rfl ⟨congrArg (fun z => some (Value.int z)) (by unfold hasb; first | rw [decide_eq_true c_6]; rfl | rw [decide_eq_false c_6]; rfl), rfl⟩
end
section
/-! WHAT THE REFERENCE'S ROW SAYS, as plain functions of a row r of 61 ints -/
def lf (r : Nat → Int32) (d : Nat) : Int32 := r (5 + d) - r (15 + d)
def many (r : Nat → Int32) : Nat := (r 0).toNatClampNeg
def atN (r : Nat → Int32) (c : Nat) : Nat := (r (ix c 2)).toNatClampNeg
def cnt (k f u on : Int32) : Int32 :=
  if k = nI 1 then mn u (nI 9 + f) else if k = nI 2 then (u + nI 1) / nI 2 else if k = nI 3 then mn u ((nI 10 + f) / nI 2)
  else if k = nI 4 then mn u ((nI 9 + f) / nI 2 + nI 1) else if k = nI 5 then mn u (mx (nI 20) ((u + nI 1) / nI 2))
  else if k = nI 6 then (if on - on / nI 2 * nI 2 = 0 then mn u ((nI 10 + f) / nI 2) else nI 0)
  else if k = nI 7 then mn u (f + nI 1) else mn u (nI 10 + f)
theorem cnt_0 {k : Int32} (f u on : Int32) (h : k.toInt < 1 ∨ (7 : Int) < k.toInt) : cnt k f u on = mn u (nI 10 + f) := by
  have n : ∀ j, 1 ≤ j → j ≤ 7 → ¬ k = nI j := fun j h1 h2 => sw_ne (lo := 1) (hi := 7) h h1 h2 (by decide)
  unfold cnt
  rw [if_neg (n 1 (by decide) (by decide)), if_neg (n 2 (by decide) (by decide)), if_neg (n 3 (by decide) (by decide)), if_neg (n 4 (by decide) (by decide)), if_neg (n 5 (by decide) (by decide)), if_neg (n 6 (by decide) (by decide)), if_neg (n 7 (by decide) (by decide))]
def bks (k f c : Int32) : Int32 :=
  if k = nI 2 then (if 0 < c then c + f else nI 0) else if k = nI 5 then nI 2 * c else if k = nI 6 then (if 0 < c then c - nI 1 else nI 0) else c
def cntR (r : Nat → Int32) (c : Nat) (on : Int32) : Int32 := cnt (r (ix c 0)) (r (ix c 1)) (lf r (atN r c)) on
def wrR (r : Nat → Int32) (c : Nat) (v : Int32) : Nat → Int32 := upd r (ix c 4) (mn (nI 9999) (r (ix c 4) + v))
def anyN (p : Nat → Bool) : Nat → Bool
  | 0 => false
  | n + 1 => anyN p n || p n
theorem anyN_t {p : Nat → Bool} {n i : Nat} (hi : i < n) (h : p i = true) : anyN p n = true := by
  induction n with
  | zero => omega
  | succ n ih =>
    unfold anyN
    rcases Nat.lt_or_ge i n with q | q
    · rw [ih q, Bool.true_or]
    · have : i = n := by omega
      rw [← this, h, Bool.or_true]
theorem anyN_f {p : Nat → Bool} {n : Nat} (h : ∀ i, i < n → p i = false) : anyN p n = false := by
  induction n with
  | zero => rfl
  | succ n ih =>
    unfold anyN
    rw [ih (fun i hi => h i (by omega)), h n (by omega)]
    rfl
theorem anyN_cong {p q : Nat → Bool} {n : Nat} (h : ∀ i, i < n → p i = q i) : anyN p n = anyN q n := by
  induction n with
  | zero => rfl
  | succ n ih =>
    unfold anyN
    rw [ih (fun i hi => h i (by omega)), h n (by omega)]
def stoodR (r : Nat → Int32) (d way : Int32) : Bool := anyN (fun c => decide (r (ix c 2) = d ∧ r (ix c 3) = way)) (many r)
def toR (r : Nat → Int32) (c : Nat) : Int32 := r (ix c 2) + nI 1 - nI 2 * r (ix c 3)
def goesR (r : Nat → Int32) (c : Nat) : Nat → Int32 := if (nI 0 ≤ toR r c ∧ toR r c ≤ nI 9) ∧ stoodR r (toR r c) (nI 1 - r (ix c 3)) = false then upd r (ix c 2) (toR r c) else r
def workB (r : Nat → Int32) (c d : Nat) (v : Int32) : Nat → Int32 := wrR (upd r (15 + d) (r (15 + d) + v)) c (bks (upd r (15 + d) (r (15 + d) + v) (ix c 0)) (upd r (15 + d) (r (15 + d) + v) (ix c 1)) v)
def worksR (r : Nat → Int32) (c : Nat) : Nat → Int32 :=
  if r (ix c 5) = nI 1 then r else if hasb (r 4) (nI c) = true then wrR r c (nI 15)
  else if lf (workB r c (atN r c) (cntR r c (r 1))) (atN r c) = 0 then goesR (workB r c (atN r c) (cntR r c (r 1))) c else workB r c (atN r c) (cntR r c (r 1))
def gvV (r : Nat → Int32) (d to : Nat) (w : Int32) : Int32 := mn w (mn (r (5 + d)) (nI 999 - r (5 + to)))
def gvL (r : Nat → Int32) (d to : Nat) (w : Int32) : Int32 := mx (nI 0) (gvV r d to w - lf r d)
def gv1 (r : Nat → Int32) (d to : Nat) (w : Int32) : Nat → Int32 := upd r (5 + d) (r (5 + d) - gvV r d to w)
def gv2 (r : Nat → Int32) (d to : Nat) (w : Int32) : Nat → Int32 := upd (gv1 r d to w) (15 + d) (gv1 r d to w (15 + d) - gvL r d to w)
def gv3 (r : Nat → Int32) (d to : Nat) (w : Int32) : Nat → Int32 := upd (gv2 r d to w) 3 (gv2 r d to w 3 + gvL r d to w)
def givesR (r : Nat → Int32) (d to : Nat) (w : Int32) : Nat → Int32 := upd (gv3 r d to w) (5 + to) (gv3 r d to w (5 + to) + gvV r d to w)
def allWork (r : Nat → Int32) : Nat → Int32 := it (fun c r => worksR r c) (many r) r
def blowUp (r : Nat → Int32) (w : Int32) : Nat → Int32 := it (fun j r => givesR r (8 - j) (8 - j + 1) w) 9 r
def blowDn (r : Nat → Int32) (w : Int32) : Nat → Int32 := it (fun j r => givesR r (j + 1) j (-w)) 9 r
def blowR (r : Nat → Int32) (w : Int32) : Nat → Int32 := if 0 < w then blowUp r w else if w < 0 then blowDn r w else r
def dayR (r : Nat → Int32) (w : Int32) : Nat → Int32 := blowR (allWork (upd r 1 (r 1 + nI 1))) w
def daysR (r : Nat → Int32) (n : Nat) : Nat → Int32 := it (fun _ r => dayR r (r 2)) n r
def booksR (r : Nat → Int32) (way : Int32) : Int32 := it (fun c v => v + (if way < 0 ∨ r (ix c 3) = way then r (ix c 4) else nI 0)) (many r) (nI 0)
def doneR (r : Nat → Int32) : Int32 := it (fun d s => s ||| (if lf r d = 0 then nI 1 <<< (nI d &&& 31) else nI 0)) 10 (nI 0)
def fillR (r : Nat → Int32) (d : Nat) (v : Int32) : Nat → Int32 := upd (upd r (5 + d) v) (15 + d) (nI 0)
def floodR (r : Nat → Int32) : Nat → Int32 := it (fun c r => upd r (ix c 4) (nI 0)) (many r) (it (fun d r => upd r (15 + d) (nI 0)) 10 r)
def bitsR (s : Int32) : Int32 := it (fun k n => n + (s >>> (nI k &&& 31) &&& nI 1)) 10 (nI 0)
/-! WHAT IS ALWAYS SO of the row -/
def Iv (r : Nat → Int32) : Prop :=
  (r 0 = nI (many r) ∧ many r ≤ 6) ∧
  (∀ d, d < 10 → 0 ≤ (r (15 + d)).toInt ∧ (r (15 + d)).toInt ≤ (r (5 + d)).toInt ∧ (r (5 + d)).toInt ≤ 999) ∧
  (∀ c, c < many r → (∃ k, k < 8 ∧ r (ix c 0) = nI k) ∧ (∃ f, f < 10 ∧ r (ix c 1) = nI f) ∧ (r (ix c 2) = nI (atN r c) ∧ atN r c < 10) ∧ (r (ix c 3) = nI 0 ∨ r (ix c 3) = nI 1) ∧ (0 ≤ (r (ix c 4)).toInt ∧ (r (ix c 4)).toInt ≤ 9999) ∧ (r (ix c 5) = nI 0 ∨ r (ix c 5) = nI 1)) ∧
  (-9 ≤ (r 2).toInt ∧ (r 2).toInt ≤ 9)
theorem upd_at (f : Nat → Int32) (k : Nat) (x : Int32) : upd f k x k = x := if_pos rfl
theorem upd_ne {f : Nat → Int32} {k j : Nat} (x : Int32) (h : j ≠ k) : upd f k x j = f j := if_neg h
/-- what may be written at place j -/
def okv (r : Nat → Int32) (j : Nat) (v : Int32) : Prop :=
  j ≠ 0 ∧ (j = 2 → -9 ≤ v.toInt ∧ v.toInt ≤ 9) ∧
  (∀ d, d < 10 → j = 5 + d → (r (15 + d)).toInt ≤ v.toInt ∧ v.toInt ≤ 999) ∧
  (∀ d, d < 10 → j = 15 + d → 0 ≤ v.toInt ∧ v.toInt ≤ (r (5 + d)).toInt) ∧
  (∀ c, c < many r → (j = 25 + 6 * c + 0 → ∃ k, k < 8 ∧ v = nI k) ∧ (j = 25 + 6 * c + 1 → ∃ f, f < 10 ∧ v = nI f) ∧ (j = 25 + 6 * c + 2 → ∃ a, a < 10 ∧ v = nI a) ∧ (j = 25 + 6 * c + 3 → v = nI 0 ∨ v = nI 1) ∧ (j = 25 + 6 * c + 4 → 0 ≤ v.toInt ∧ v.toInt ≤ 9999) ∧ (j = 25 + 6 * c + 5 → v = nI 0 ∨ v = nI 1))
theorem upd_all {P : Int32 → Prop} {r : Nat → Int32} {j i : Nat} {v : Int32} (h : P (r i)) (hv : j = i → P v) : P (upd r j v i) := by
  by_cases q : i = j
  · rw [q, upd_at]; exact hv q.symm
  · rw [upd_ne v q]; exact h
theorem Iv_upd {r : Nat → Int32} {j : Nat} {v : Int32} (h : Iv r) (ok : okv r j v) : Iv (upd r j v) := by
  obtain ⟨⟨h1, h2⟩, h3, h4, h5⟩ := h
  obtain ⟨o1, o2, o3, o4, o5⟩ := ok
  have em : many (upd r j v) = many r := by
    unfold many
    rw [upd_ne v (fun q => o1 q.symm)]
  refine ⟨⟨?_, ?_⟩, ?_, ?_, ?_⟩
  · rw [em, upd_ne v (fun q => o1 q.symm)]; exact h1
  · rw [em]; exact h2
  · intro d hd
    obtain ⟨a1, a2, a3⟩ := h3 d hd
    by_cases q : 15 + d = j
    · have q2 : ¬ 5 + d = j := by omega
      rw [q, upd_at, upd_ne v q2]
      exact ⟨(o4 d hd q.symm).1, (o4 d hd q.symm).2, a3⟩
    · rw [upd_ne v q]
      by_cases q2 : 5 + d = j
      · rw [q2, upd_at]
        exact ⟨a1, (o3 d hd q2.symm).1, (o3 d hd q2.symm).2⟩
      · rw [upd_ne v q2]
        exact ⟨a1, a2, a3⟩
  · intro c hc
    rw [em] at hc
    obtain ⟨b0, b1, b2, b3, b4, b5⟩ := h4 c hc
    obtain ⟨p0, p1, p2, p3, p4, p5⟩ := o5 c hc
    refine ⟨?_, ?_, ?_, ?_, ?_, ?_⟩
    · exact upd_all (P := fun x => ∃ k, k < 8 ∧ x = nI k) b0 p0
    · exact upd_all (P := fun x => ∃ k, k < 10 ∧ x = nI k) b1 p1
    · refine upd_all (P := fun x => x = nI x.toNatClampNeg ∧ x.toNatClampNeg < 10) b2 (fun q => ?_)
      obtain ⟨a, ha, rfl⟩ := p2 q
      rw [nI_clamp (by omega)]
      exact ⟨rfl, ha⟩
    · exact upd_all (P := fun x => x = nI 0 ∨ x = nI 1) b3 p3
    · exact upd_all (P := fun x => 0 ≤ x.toInt ∧ x.toInt ≤ 9999) b4 p4
    · exact upd_all (P := fun x => x = nI 0 ∨ x = nI 1) b5 p5
  · exact upd_all (P := fun x => -9 ≤ x.toInt ∧ x.toInt ≤ 9) h5 o2
theorem Iv_done {r : Nat → Int32} {d : Nat} {v : Int32} (h : Iv r) (hd : d < 10) (h1 : 0 ≤ v.toInt) (h2 : v.toInt ≤ (r (5 + d)).toInt) : Iv (upd r (15 + d) v) :=
  Iv_upd h ⟨by omega, fun q => by omega, fun e he q => by omega, fun e he q => by
    have : e = d := by omega
    subst this
    exact ⟨h1, h2⟩, fun c hc => ⟨fun q => by omega, fun q => by omega, fun q => by omega, fun q => by omega, fun q => by omega, fun q => by omega⟩⟩
theorem Iv_grain {r : Nat → Int32} {d : Nat} {v : Int32} (h : Iv r) (hd : d < 10) (h1 : (r (15 + d)).toInt ≤ v.toInt) (h2 : v.toInt ≤ 999) : Iv (upd r (5 + d) v) :=
  Iv_upd h ⟨by omega, fun q => by omega, fun e he q => by
    have : e = d := by omega
    subst this
    exact ⟨h1, h2⟩, fun e he q => by omega, fun c hc => ⟨fun q => by omega, fun q => by omega, fun q => by omega, fun q => by omega, fun q => by omega, fun q => by omega⟩⟩
theorem Iv_free {r : Nat → Int32} {j : Nat} {v : Int32} (h : Iv r) (hj : j = 1 ∨ j = 3 ∨ j = 4) : Iv (upd r j v) :=
  Iv_upd h ⟨by omega, fun q => by omega, fun e he q => by omega, fun e he q => by omega, fun c hc => ⟨fun q => by omega, fun q => by omega, fun q => by omega, fun q => by omega, fun q => by omega, fun q => by omega⟩⟩
theorem Iv_wind {r : Nat → Int32} {v : Int32} (h : Iv r) (h1 : -9 ≤ v.toInt) (h2 : v.toInt ≤ 9) : Iv (upd r 2 v) :=
  Iv_upd h ⟨by omega, fun q => ⟨h1, h2⟩, fun e he q => by omega, fun e he q => by omega, fun c hc => ⟨fun q => by omega, fun q => by omega, fun q => by omega, fun q => by omega, fun q => by omega, fun q => by omega⟩⟩
theorem Iv_kind {r : Nat → Int32} {c k : Nat} (h : Iv r) (hk : k < 8) : Iv (upd r (ix c 0) (nI k)) :=
  Iv_upd h ⟨by simp only [ix]; omega, fun q => by simp only [ix] at q; omega, fun e he q => by simp only [ix] at q; omega, fun e he q => by simp only [ix] at q; omega, fun c hc => ⟨fun q => ⟨k, hk, rfl⟩, fun q => by simp only [ix] at q; omega, fun q => by simp only [ix] at q; omega, fun q => by simp only [ix] at q; omega, fun q => by simp only [ix] at q; omega, fun q => by simp only [ix] at q; omega⟩⟩
theorem Iv_fig {r : Nat → Int32} {c f : Nat} (h : Iv r) (hf : f < 10) : Iv (upd r (ix c 1) (nI f)) :=
  Iv_upd h ⟨by simp only [ix]; omega, fun q => by simp only [ix] at q; omega, fun e he q => by simp only [ix] at q; omega, fun e he q => by simp only [ix] at q; omega, fun c hc => ⟨fun q => by simp only [ix] at q; omega, fun q => ⟨f, hf, rfl⟩, fun q => by simp only [ix] at q; omega, fun q => by simp only [ix] at q; omega, fun q => by simp only [ix] at q; omega, fun q => by simp only [ix] at q; omega⟩⟩
theorem Iv_at {r : Nat → Int32} {c a : Nat} (h : Iv r) (ha : a < 10) : Iv (upd r (ix c 2) (nI a)) :=
  Iv_upd h ⟨by simp only [ix]; omega, fun q => by simp only [ix] at q; omega, fun e he q => by simp only [ix] at q; omega, fun e he q => by simp only [ix] at q; omega, fun c hc => ⟨fun q => by simp only [ix] at q; omega, fun q => by simp only [ix] at q; omega, fun q => ⟨a, ha, rfl⟩, fun q => by simp only [ix] at q; omega, fun q => by simp only [ix] at q; omega, fun q => by simp only [ix] at q; omega⟩⟩
theorem Iv_way {r : Nat → Int32} {c : Nat} {v : Int32} (h : Iv r) (hv : v = nI 0 ∨ v = nI 1) : Iv (upd r (ix c 3) v) :=
  Iv_upd h ⟨by simp only [ix]; omega, fun q => by simp only [ix] at q; omega, fun e he q => by simp only [ix] at q; omega, fun e he q => by simp only [ix] at q; omega, fun c hc => ⟨fun q => by simp only [ix] at q; omega, fun q => by simp only [ix] at q; omega, fun q => by simp only [ix] at q; omega, fun q => hv, fun q => by simp only [ix] at q; omega, fun q => by simp only [ix] at q; omega⟩⟩
theorem Iv_book {r : Nat → Int32} {c : Nat} {v : Int32} (h : Iv r) (h1 : 0 ≤ v.toInt) (h2 : v.toInt ≤ 9999) : Iv (upd r (ix c 4) v) :=
  Iv_upd h ⟨by simp only [ix]; omega, fun q => by simp only [ix] at q; omega, fun e he q => by simp only [ix] at q; omega, fun e he q => by simp only [ix] at q; omega, fun c hc => ⟨fun q => by simp only [ix] at q; omega, fun q => by simp only [ix] at q; omega, fun q => by simp only [ix] at q; omega, fun q => by simp only [ix] at q; omega, fun q => ⟨h1, h2⟩, fun q => by simp only [ix] at q; omega⟩⟩
theorem Iv_rests {r : Nat → Int32} {c : Nat} {v : Int32} (h : Iv r) (hv : v = nI 0 ∨ v = nI 1) : Iv (upd r (ix c 5) v) :=
  Iv_upd h ⟨by simp only [ix]; omega, fun q => by simp only [ix] at q; omega, fun e he q => by simp only [ix] at q; omega, fun e he q => by simp only [ix] at q; omega, fun c hc => ⟨fun q => by simp only [ix] at q; omega, fun q => by simp only [ix] at q; omega, fun q => by simp only [ix] at q; omega, fun q => by simp only [ix] at q; omega, fun q => by simp only [ix] at q; omega, fun q => hv⟩⟩
/-! whole numbers out of ints -/
theorem ti_add {a b : Int32} (h1 : -2147483648 ≤ a.toInt + b.toInt) (h2 : a.toInt + b.toInt < 2147483648) : (a + b).toInt = a.toInt + b.toInt := by
  rw [Int32.toInt_add]
  exact Int.bmod_eq_of_le (by omega) (by omega)
theorem ti_sub {a b : Int32} (h1 : -2147483648 ≤ a.toInt - b.toInt) (h2 : a.toInt - b.toInt < 2147483648) : (a - b).toInt = a.toInt - b.toInt := by
  rw [Int32.toInt_sub]
  exact Int.bmod_eq_of_le (by omega) (by omega)
theorem ti_lt (a b : Int32) : a < b ↔ a.toInt < b.toInt := Int32.lt_iff_toInt_lt
theorem ti_le (a b : Int32) : a ≤ b ↔ a.toInt ≤ b.toInt := Int32.le_iff_toInt_le
theorem ti_eq (a b : Int32) : a = b ↔ a.toInt = b.toInt := Int32.toInt_inj.symm
theorem ti_n (n : Nat) (h : n < 2147483648) : (nI n).toInt = (n : Int) := nI_toInt (by omega)
theorem ti_mn (a b : Int32) : (mn a b).toInt = if a.toInt < b.toInt then a.toInt else b.toInt := by
  unfold mn
  by_cases h : a < b
  · rw [if_pos h, if_pos ((ti_lt a b).mp h)]
  · rw [if_neg h, if_neg (fun q => h ((ti_lt a b).mpr q))]
theorem ti_mx (a b : Int32) : (mx a b).toInt = if b.toInt < a.toInt then a.toInt else b.toInt := by
  unfold mx
  by_cases h : b < a
  · rw [if_pos h, if_pos ((ti_lt b a).mp h)]
  · rw [if_neg h, if_neg (fun q => h ((ti_lt b a).mpr q))]
theorem ti_lo (a : Int32) : -2147483648 ≤ a.toInt := a.minValue_le_toInt
theorem ti_hi (a : Int32) : a.toInt < 2147483648 := a.toInt_lt
theorem givesR_is {r : Nat → Int32} {d to : Nat} {w : Int32} (hd : d < 10) (ht : to < 10) (hne : to ≠ d) : givesR r d to w = upd (upd (upd (upd r 3 (r 3 + gvL r d to w)) (15 + d) (r (15 + d) - gvL r d to w)) (5 + d) (r (5 + d) - gvV r d to w)) (5 + to) (r (5 + to) + gvV r d to w) := by
  funext i
  simp only [givesR, gv3, gv2, gv1]
  have e1 : ¬ 15 + d = 5 + d := by omega
  have e2 : ¬ 3 = 15 + d := by omega
  have e3 : ¬ 3 = 5 + d := by omega
  have e4 : ¬ 5 + to = 3 := by omega
  have e5 : ¬ 5 + to = 15 + d := by omega
  have e6 : ¬ 5 + to = 5 + d := by omega
  rw [upd_ne _ e1, upd_ne _ e2, upd_ne _ e3, upd_ne _ e4, upd_ne _ e5, upd_ne _ e6]
  by_cases q1 : i = 5 + to
  · rw [q1, upd_at, upd_at]
  · rw [upd_ne _ q1, upd_ne _ q1]
    by_cases q2 : i = 5 + d
    · rw [q2, upd_at, upd_ne _ (by omega : ¬ 5 + d = 3), upd_ne _ (by omega : ¬ 5 + d = 15 + d), upd_at]
    · rw [upd_ne _ q2]
      by_cases q3 : i = 15 + d
      · rw [q3, upd_at, upd_ne _ (by omega : ¬ 15 + d = 3), upd_at]
      · rw [upd_ne _ q3]
        by_cases q4 : i = 3
        · rw [q4, upd_at, upd_at]
        · rw [upd_ne _ q4, upd_ne _ q4, upd_ne _ q3, upd_ne _ q2]
theorem Iv_gives {r : Nat → Int32} {d to : Nat} {w : Int32} (h : Iv r) (hd : d < 10) (ht : to < 10) (hne : to ≠ d) (hw : 0 ≤ w.toInt) : Iv (givesR r d to w) := by
  obtain ⟨a1, a2, a3⟩ := h.2.1 d hd
  obtain ⟨b1, b2, b3⟩ := h.2.1 to ht
  have e999 : (nI 999).toInt = 999 := ti_n 999 (by decide)
  have e0 : (nI 0).toInt = 0 := ti_n 0 (by decide)
  have hs : (nI 999 - r (5 + to)).toInt = 999 - (r (5 + to)).toInt := by rw [ti_sub (by omega) (by omega), e999]
  have hv : 0 ≤ (gvV r d to w).toInt ∧ (gvV r d to w).toInt ≤ (r (5 + d)).toInt ∧ (gvV r d to w).toInt ≤ 999 - (r (5 + to)).toInt := by
    unfold gvV
    rw [ti_mn, ti_mn, hs]
    repeat' split
    all_goals omega
  have hf : (lf r d).toInt = (r (5 + d)).toInt - (r (15 + d)).toInt := by unfold lf; rw [ti_sub (by omega) (by omega)]
  have hl : 0 ≤ (gvL r d to w).toInt ∧ (gvL r d to w).toInt ≤ (r (15 + d)).toInt ∧ (r (15 + d)).toInt - (gvL r d to w).toInt ≤ (r (5 + d)).toInt - (gvV r d to w).toInt := by
    unfold gvL
    rw [ti_mx, ti_sub (by omega) (by omega), hf, e0]
    split <;> omega
  rw [givesR_is hd ht hne]
  have s1 := Iv_free (v := r 3 + gvL r d to w) h (Or.inr (Or.inl rfl) : (3 = 1 ∨ 3 = 3 ∨ 3 = 4))
  have k1 : ∀ j, 5 ≤ j → upd r 3 (r 3 + gvL r d to w) j = r j := fun j hj => upd_ne _ (by omega)
  have t1 : (r (15 + d) - gvL r d to w).toInt = (r (15 + d)).toInt - (gvL r d to w).toInt := ti_sub (by omega) (by omega)
  have s2 := Iv_done (v := r (15 + d) - gvL r d to w) s1 hd (by omega) (by rw [k1 _ (by omega)]; omega)
  have t2 : (r (5 + d) - gvV r d to w).toInt = (r (5 + d)).toInt - (gvV r d to w).toInt := ti_sub (by omega) (by omega)
  have s3 := Iv_grain (v := r (5 + d) - gvV r d to w) s2 hd (by rw [upd_at]; omega) (by omega)
  have t3 : (r (5 + to) + gvV r d to w).toInt = (r (5 + to)).toInt + (gvV r d to w).toInt := ti_add (by omega) (by omega)
  exact Iv_grain s3 ht (by rw [upd_ne _ (by omega), upd_ne _ (by omega), k1 _ (by omega)]; omega) (by omega)
end
section
/-! the row's functions keep what is always so -/
theorem nI_of_ti {x : Int32} (h : 0 ≤ x.toInt) : x = nI x.toInt.toNat := by
  have e : ((x.toInt.toNat : Nat) : Int) = x.toInt := Int.toNat_of_nonneg h
  have := ti_hi x
  rw [ti_eq, nI_toInt (by omega), e]
theorem mn_nI {a b : Nat} (ha : a < 2 ^ 31) (hb : b < 2 ^ 31) : mn (nI a) (nI b) = nI (min a b) := by
  unfold mn
  by_cases h : a < b
  · rw [if_pos ((nI_ltI ha hb).mpr h), Nat.min_eq_left (Nat.le_of_lt h)]
  · rw [if_neg (fun q => h ((nI_ltI ha hb).mp q)), Nat.min_eq_right (Nat.not_lt.mp h)]
theorem mx_nI {a b : Nat} (ha : a < 2 ^ 31) (hb : b < 2 ^ 31) : mx (nI a) (nI b) = nI (max a b) := by
  unfold mx
  by_cases h : b < a
  · rw [if_pos ((nI_ltI hb ha).mpr h), Nat.max_eq_left (Nat.le_of_lt h)]
  · rw [if_neg (fun q => h ((nI_ltI hb ha).mp q)), Nat.max_eq_right (Nat.not_lt.mp h)]
theorem min_ex {a b : Nat} : ∃ v, v ≤ a ∧ min a b = v := ⟨_, Nat.min_le_left _ _, rfl⟩
/-- how many a corporal counts, as a natural number -/
def cntN (k f u on : Nat) : Nat :=
  if k = 1 then min u (9 + f) else if k = 2 then (u + 1) / 2 else if k = 3 then min u ((10 + f) / 2) else if k = 4 then min u ((9 + f) / 2 + 1)
  else if k = 5 then min u (max 20 ((u + 1) / 2)) else if k = 6 then (if on = 0 then min u ((10 + f) / 2) else 0) else if k = 7 then min u (f + 1) else min u (10 + f)
theorem cntN_le {k f u on : Nat} : cntN k f u on ≤ u := by
  unfold cntN
  repeat' split
  all_goals omega
theorem cnt_nI {k f u : Nat} (on : Int32) (hk : k < 8) (hf : f < 10) (hu : u ≤ 999) : cnt (nI k) (nI f) (nI u) on = nI (cntN k f u (if on - on / nI 2 * nI 2 = 0 then 0 else 1)) := by
  have d2 : ∀ x, x < 2 ^ 31 → nI x / nI 2 = nI (x / 2) := fun x hx => pk_div hx (by decide) (by decide)
  have e1 := nI_eq (a := k) (b := 1) (by omega) (by decide)
  have e2 := nI_eq (a := k) (b := 2) (by omega) (by decide)
  have e3 := nI_eq (a := k) (b := 3) (by omega) (by decide)
  have e4 := nI_eq (a := k) (b := 4) (by omega) (by decide)
  have e5 := nI_eq (a := k) (b := 5) (by omega) (by decide)
  have e6 := nI_eq (a := k) (b := 6) (by omega) (by decide)
  have e7 := nI_eq (a := k) (b := 7) (by omega) (by decide)
  unfold cnt cntN
  simp only [e1, e2, e3, e4, e5, e6, e7, nI_add]
  rw [d2 _ (by omega), d2 _ (by omega), d2 _ (by omega)]
  simp only [nI_add]
  rw [mn_nI (by omega) (by omega), mn_nI (by omega) (by omega), mn_nI (by omega) (by omega), mx_nI (by omega) (by omega), mn_nI (by omega) (by omega), mn_nI (by omega) (by omega), mn_nI (by omega) (by omega)]
  by_cases h : on - on / nI 2 * nI 2 = 0
  · rw [if_pos h, if_pos h]
    repeat' split
    all_goals first | rfl | omega
  · rw [if_neg h, if_neg h]
    repeat' split
    all_goals first | rfl | omega
def bksN (k f c : Nat) : Nat := if k = 2 then (if 0 < c then c + f else 0) else if k = 5 then 2 * c else if k = 6 then (if 0 < c then c - 1 else 0) else c
theorem bksN_le {k f c : Nat} (hf : f < 10) (hc : c ≤ 999) : bksN k f c ≤ 1998 := by
  unfold bksN
  repeat' split
  all_goals omega
theorem nI_gt0 {c : Nat} (hc : c < 2 ^ 31) : (0 : Int32) < nI c ↔ 0 < c := nI_ltI (a := 0) (by decide) hc
theorem bks_nI {k f c : Nat} (hk : k < 8) (hf : f < 10) (hc : c ≤ 999) : bks (nI k) (nI f) (nI c) = nI (bksN k f c) := by
  have h9 := nI_gt0 (c := c) (by omega)
  have e2 := nI_eq (a := k) (b := 2) (by omega) (by decide)
  have e5 := nI_eq (a := k) (b := 5) (by omega) (by decide)
  have e6 := nI_eq (a := k) (b := 6) (by omega) (by decide)
  unfold bks bksN
  simp only [e2, e5, e6, h9, nI_add, pk_mul]
  by_cases h : 0 < c
  · rw [if_pos h, if_pos h, if_pos h, if_pos h, pk_sub h]
    repeat' split
    all_goals rfl
  · rw [if_neg h, if_neg h, if_neg h, if_neg h]
    repeat' split
    all_goals rfl
theorem Iv_wr {r : Nat → Int32} {c : Nat} {v : Int32} (h : Iv r) (hc : c < many r) (h1 : 0 ≤ v.toInt) (h2 : v.toInt ≤ 100000) : Iv (wrR r c v) := by
  obtain ⟨-, -, -, -, ⟨b1, b2⟩, -⟩ := h.2.2.1 c hc
  have e : (r (ix c 4) + v).toInt = (r (ix c 4)).toInt + v.toInt := ti_add (by omega) (by omega)
  have e9 : (nI 9999).toInt = 9999 := ti_n 9999 (by decide)
  refine Iv_book h ?_ ?_
  · rw [ti_mn, e, e9]; split <;> omega
  · rw [ti_mn, e, e9]; split <;> omega
theorem wrR_ne {r : Nat → Int32} {c j : Nat} (v : Int32) (h : j ≠ 25 + 6 * c + 4) : wrR r c v j = r j := upd_ne _ h
theorem many_upd {r : Nat → Int32} {j : Nat} {v : Int32} (h : j ≠ 0) : many (upd r j v) = many r := by
  unfold many
  rw [upd_ne v (fun q => h q.symm)]
theorem workB_ne {r : Nat → Int32} {c d j : Nat} (v : Int32) (h : j ≠ 25 + 6 * c + 4) (h2 : j ≠ 15 + d) : workB r c d v j = r j := by
  unfold workB
  rw [wrR_ne _ h, upd_ne _ h2]
theorem Iv_lf {r : Nat → Int32} {d : Nat} (h : Iv r) (hd : d < 10) : lf r d = nI ((r (5 + d)).toInt - (r (15 + d)).toInt).toNat ∧ ((r (5 + d)).toInt - (r (15 + d)).toInt).toNat ≤ 999 ∧ (lf r d).toInt = (r (5 + d)).toInt - (r (15 + d)).toInt := by
  obtain ⟨a1, a2, a3⟩ := h.2.1 d hd
  have e : (lf r d).toInt = (r (5 + d)).toInt - (r (15 + d)).toInt := by unfold lf; rw [ti_sub (by omega) (by omega)]
  refine ⟨?_, by omega, e⟩
  rw [← e]
  exact nI_of_ti (by omega)
/-- what a corporal counts now: 0 .. what is left -/
theorem cntR_ok {r : Nat → Int32} {c : Nat} (on : Int32) (h : Iv r) (hc : c < many r) : ∃ v, v ≤ 999 ∧ cntR r c on = nI v ∧ (v : Int) ≤ (r (5 + atN r c)).toInt - (r (15 + atN r c)).toInt := by
  obtain ⟨⟨k, hk, ek⟩, ⟨f, hf, ef⟩, ⟨ea, ha⟩, -⟩ := h.2.2.1 c hc
  obtain ⟨e1, e2, e3⟩ := Iv_lf h ha
  obtain ⟨a1, a2, a3⟩ := h.2.1 _ ha
  unfold cntR
  rw [ek, ef, e1, cnt_nI on hk hf e2]
  refine ⟨_, ?_, rfl, ?_⟩
  · exact Nat.le_trans cntN_le e2
  · have := cntN_le (k := k) (f := f) (u := ((r (5 + atN r c)).toInt - (r (15 + atN r c)).toInt).toNat) (on := if on - on / nI 2 * nI 2 = 0 then 0 else 1)
    omega
theorem Iv_workB {r : Nat → Int32} {c : Nat} (on : Int32) (h : Iv r) (hc : c < many r) : Iv (workB r c (atN r c) (cntR r c on)) := by
  obtain ⟨v, h1, h2, h3⟩ := cntR_ok on h hc
  obtain ⟨⟨k, hk, ek⟩, ⟨f, hf, ef⟩, ⟨ea, ha⟩, -⟩ := h.2.2.1 c hc
  obtain ⟨a1, a2, a3⟩ := h.2.1 _ ha
  rw [h2]
  unfold workB
  rw [upd_ne _ (by simp only [ix]; omega : ix c 0 ≠ 15 + atN r c), upd_ne _ (by simp only [ix]; omega : ix c 1 ≠ 15 + atN r c), ek, ef, bks_nI hk hf h1]
  have hb := bksN_le (k := k) hf h1
  have tv : (nI v).toInt = v := ti_n v (by omega)
  have ts : (r (15 + atN r c) + nI v).toInt = (r (15 + atN r c)).toInt + v := by rw [ti_add (by omega) (by omega), tv]
  refine Iv_wr (Iv_done h ha (by omega) (by omega)) (by rw [many_upd (by omega)]; exact hc) ?_ ?_
  · rw [ti_n _ (by omega)]; omega
  · rw [ti_n _ (by omega)]; omega
theorem toR_ok {r : Nat → Int32} {c : Nat} (h : nI 0 ≤ toR r c ∧ toR r c ≤ nI 9) : ∃ a, a < 10 ∧ toR r c = nI a := by
  have h1 := (ti_le _ _).mp h.1
  have h2 := (ti_le _ _).mp h.2
  rw [ti_n _ (by decide)] at h1 h2
  exact ⟨_, by omega, nI_of_ti (by omega)⟩
theorem Iv_goes {r : Nat → Int32} {c : Nat} (h : Iv r) : Iv (goesR r c) := by
  unfold goesR
  split
  · rename_i q
    obtain ⟨a, ha, e⟩ := toR_ok q.1
    rw [e]
    exact Iv_at h ha
  · exact h
theorem Iv_works {r : Nat → Int32} {c : Nat} (h : Iv r) (hc : c < many r) : Iv (worksR r c) := by
  unfold worksR
  split
  · exact h
  · split
    · exact Iv_wr h hc (by decide) (by decide)
    · split
      · exact Iv_goes (Iv_workB _ h hc)
      · exact Iv_workB _ h hc
theorem goesR_ne {r : Nat → Int32} {c j : Nat} (h : j ≠ 25 + 6 * c + 2) : goesR r c j = r j := by
  unfold goesR
  split
  · exact upd_ne _ h
  · rfl
theorem worksR_ne {r : Nat → Int32} {c j : Nat} (hc : c < many r) (hr : Iv r) (h : j < 15 ∨ (25 ≤ j ∧ j ≠ 25 + 6 * c + 2 ∧ j ≠ 25 + 6 * c + 4)) : worksR r c j = r j := by
  have ha := (hr.2.2.1 c hc).2.2.1.2
  unfold worksR
  split
  · rfl
  · split
    · exact wrR_ne _ (by omega)
    · split
      · rw [goesR_ne (by omega), workB_ne _ (by omega) (by omega)]
      · rw [workB_ne _ (by omega) (by omega)]
theorem many_of {r s : Nat → Int32} (h : s 0 = r 0) : many s = many r := by unfold many; rw [h]
theorem allWork_ok {r : Nat → Int32} (h : Iv r) : ∀ i, i ≤ many r → Iv (it (fun c r => worksR r c) i r) ∧ ∀ j, j < 15 → it (fun c r => worksR r c) i r j = r j := by
  intro i
  induction i with
  | zero => exact fun _ => ⟨h, fun _ _ => rfl⟩
  | succ i ih =>
    intro hi
    obtain ⟨g1, g2⟩ := ih (by omega)
    have hm : i < many (it (fun c r => worksR r c) i r) := by rw [many_of (g2 0 (by omega))]; omega
    exact ⟨Iv_works g1 hm, fun j hj => by rw [it_succ, worksR_ne hm g1 (Or.inl hj)]; exact g2 j hj⟩
theorem givesR_ne {r : Nat → Int32} {d to j : Nat} {w : Int32} (hd : d < 10) (ht : to < 10) (h : j < 3 ∨ j = 4 ∨ 25 ≤ j) : givesR r d to w j = r j := by
  unfold givesR gv3 gv2 gv1
  rw [upd_ne _ (by omega), upd_ne _ (by omega), upd_ne _ (by omega), upd_ne _ (by omega)]
theorem blowUp_ok {r : Nat → Int32} {w : Int32} (h : Iv r) (hw : 0 ≤ w.toInt) : ∀ i, i ≤ 9 → Iv (it (fun j r => givesR r (8 - j) (8 - j + 1) w) i r) ∧ ∀ j, (j < 3 ∨ j = 4 ∨ 25 ≤ j) → it (fun j r => givesR r (8 - j) (8 - j + 1) w) i r j = r j := by
  intro i
  induction i with
  | zero => exact fun _ => ⟨h, fun _ _ => rfl⟩
  | succ i ih =>
    intro hi
    obtain ⟨g1, g2⟩ := ih (by omega)
    exact ⟨Iv_gives g1 (by omega) (by omega) (by omega) hw, fun j hj => by rw [it_succ, givesR_ne (by omega) (by omega) hj]; exact g2 j hj⟩
theorem blowDn_ok {r : Nat → Int32} {w : Int32} (h : Iv r) (hw : 0 ≤ (-w).toInt) : ∀ i, i ≤ 9 → Iv (it (fun j r => givesR r (j + 1) j (-w)) i r) ∧ ∀ j, (j < 3 ∨ j = 4 ∨ 25 ≤ j) → it (fun j r => givesR r (j + 1) j (-w)) i r j = r j := by
  intro i
  induction i with
  | zero => exact fun _ => ⟨h, fun _ _ => rfl⟩
  | succ i ih =>
    intro hi
    obtain ⟨g1, g2⟩ := ih (by omega)
    exact ⟨Iv_gives g1 (by omega) (by omega) (by omega) hw, fun j hj => by rw [it_succ, givesR_ne (by omega) (by omega) hj]; exact g2 j hj⟩
theorem neg_ti {w : Int32} (h : -9 ≤ w.toInt) (h2 : w.toInt ≤ 9) : (-w).toInt = -w.toInt := by
  rw [Int32.toInt_neg]
  exact Int.bmod_eq_of_le (by omega) (by omega)
theorem blowR_ok {r : Nat → Int32} {w : Int32} (h : Iv r) (h1 : -9 ≤ w.toInt) (h2 : w.toInt ≤ 9) : Iv (blowR r w) ∧ ∀ j, (j < 3 ∨ j = 4 ∨ 25 ≤ j) → blowR r w j = r j := by
  unfold blowR
  split
  · rename_i q
    have q := (ti_lt _ _).mp q
    exact blowUp_ok h (by simp at q; omega) 9 (by omega)
  · split
    · rename_i q
      have q := (ti_lt _ _).mp q
      exact blowDn_ok h (by rw [neg_ti h1 h2]; simp at q; omega) 9 (by omega)
    · exact ⟨h, fun _ _ => rfl⟩
theorem dayR_ok {r : Nat → Int32} {w : Int32} (h : Iv r) (h1 : -9 ≤ w.toInt) (h2 : w.toInt ≤ 9) : Iv (dayR r w) ∧ dayR r w 0 = r 0 ∧ dayR r w 1 = r 1 + nI 1 ∧ dayR r w 2 = r 2 ∧ dayR r w 4 = r 4 := by
  have hm : many (upd r 1 (r 1 + nI 1)) = many r := many_upd (by decide)
  obtain ⟨g1, g2⟩ := allWork_ok (Iv_free (j := 1) (v := r 1 + nI 1) h (Or.inl rfl)) _ (Nat.le_refl _)
  obtain ⟨k1, k2⟩ := blowR_ok (w := w) g1 h1 h2
  refine ⟨k1, ?_, ?_, ?_, ?_⟩
  · exact (k2 0 (by omega)).trans ((g2 0 (by omega)).trans (upd_ne _ (by decide)))
  · exact (k2 1 (by omega)).trans ((g2 1 (by omega)).trans (upd_at _ _ _))
  · exact (k2 2 (by omega)).trans ((g2 2 (by omega)).trans (upd_ne _ (by decide)))
  · exact (k2 4 (by omega)).trans ((g2 4 (by omega)).trans (upd_ne _ (by decide)))
theorem daysR_ok {r : Nat → Int32} (h : Iv r) : ∀ n, Iv (daysR r n) ∧ daysR r n 0 = r 0 ∧ daysR r n 2 = r 2 ∧ daysR r n 4 = r 4 := by
  intro n
  induction n with
  | zero => exact ⟨h, rfl, rfl, rfl⟩
  | succ n ih =>
    obtain ⟨g1, g2, g3, g4⟩ := ih
    have hw := g1.2.2.2
    obtain ⟨k1, k2, k3, k4, k5⟩ := dayR_ok g1 hw.1 hw.2
    exact ⟨k1, k2.trans g2, k4.trans g3, k5.trans g4⟩
theorem Iv_fill {r : Nat → Int32} {d v : Nat} (h : Iv r) (hd : d < 10) (hv : v ≤ 999) : Iv (fillR r d (nI v)) := by
  have hb := ti_n v (by omega)
  have e0 : (nI 0).toInt = 0 := ti_n 0 (by decide)
  have e : fillR r d (nI v) = upd (upd r (15 + d) (nI 0)) (5 + d) (nI v) := by
    funext i
    unfold fillR
    by_cases q : i = 15 + d
    · rw [q, upd_at, upd_ne _ (by omega), upd_at]
    · rw [upd_ne _ q]
      by_cases q2 : i = 5 + d
      · rw [q2, upd_at, upd_at]
      · rw [upd_ne _ q2, upd_ne _ q2, upd_ne _ q]
  obtain ⟨a1, a2, a3⟩ := h.2.1 d hd
  rw [e]
  refine Iv_grain (Iv_done h hd (by omega) (by omega)) hd ?_ (by omega)
  rw [upd_at]
  omega
theorem flood1_ok {r : Nat → Int32} (h : Iv r) : ∀ i, i ≤ 10 → Iv (it (fun d r => upd r (15 + d) (nI 0)) i r) ∧ ∀ j, (j < 15 ∨ 25 ≤ j) → it (fun d r => upd r (15 + d) (nI 0)) i r j = r j := by
  have e0 : (nI 0).toInt = 0 := ti_n 0 (by decide)
  intro i
  induction i with
  | zero => exact fun _ => ⟨h, fun _ _ => rfl⟩
  | succ i ih =>
    intro hi
    obtain ⟨g1, g2⟩ := ih (by omega)
    obtain ⟨a1, a2, a3⟩ := g1.2.1 i (by omega)
    exact ⟨Iv_done g1 (by omega) (by omega) (by omega), fun j hj => by rw [it_succ, upd_ne _ (by omega)]; exact g2 j hj⟩
theorem flood2_ok {r : Nat → Int32} (h : Iv r) : ∀ i, Iv (it (fun c r => upd r (ix c 4) (nI 0)) i r) ∧ ∀ j, j < 25 → it (fun c r => upd r (ix c 4) (nI 0)) i r j = r j := by
  intro i
  induction i with
  | zero => exact ⟨h, fun _ _ => rfl⟩
  | succ i ih =>
    exact ⟨Iv_book ih.1 (by decide) (by decide), fun j hj => by rw [it_succ, upd_ne _ (by simp only [ix]; omega)]; exact ih.2 j hj⟩
theorem Iv_flood {r : Nat → Int32} (h : Iv r) : Iv (floodR r) := (flood2_ok (flood1_ok h 10 (by omega)).1 _).1
end
section
/-! the reference's static methods on one row -/
abbrev A1 (r : Nat → Int32) : Hp := [.inl (.int, 61, .inl r)]
theorem cnt_1 (f u on : Int32) : cnt (nI 1) f u on = mn u (nI 9 + f) := if_pos rfl
theorem cnt_2 (f u on : Int32) : cnt (nI 2) f u on = (u + nI 1) / nI 2 := by unfold cnt; rw [if_neg (by decide), if_pos rfl]
theorem cnt_3 (f u on : Int32) : cnt (nI 3) f u on = mn u ((nI 10 + f) / nI 2) := by unfold cnt; rw [if_neg (by decide), if_neg (by decide), if_pos rfl]
theorem cnt_4 (f u on : Int32) : cnt (nI 4) f u on = mn u ((nI 9 + f) / nI 2 + nI 1) := by unfold cnt; rw [if_neg (by decide), if_neg (by decide), if_neg (by decide), if_pos rfl]
theorem cnt_5 (f u on : Int32) : cnt (nI 5) f u on = mn u (mx (nI 20) ((u + nI 1) / nI 2)) := by unfold cnt; rw [if_neg (by decide), if_neg (by decide), if_neg (by decide), if_neg (by decide), if_pos rfl]
theorem cnt_6 (f u on : Int32) : cnt (nI 6) f u on = (if on - on / nI 2 * nI 2 = 0 then mn u ((nI 10 + f) / nI 2) else nI 0) := by unfold cnt; rw [if_neg (by decide), if_neg (by decide), if_neg (by decide), if_neg (by decide), if_neg (by decide), if_pos rfl]
theorem cnt_7 (f u on : Int32) : cnt (nI 7) f u on = mn u (f + nI 1) := by unfold cnt; rw [if_neg (by decide), if_neg (by decide), if_neg (by decide), if_neg (by decide), if_neg (by decide), if_neg (by decide), if_pos rfl]
theorem bks_2 (f c : Int32) : bks (nI 2) f c = (if 0 < c then c + f else nI 0) := if_pos rfl
theorem bks_5 (f c : Int32) : bks (nI 5) f c = nI 2 * c := by unfold bks; rw [if_neg (by decide), if_pos rfl]
theorem bks_6 (f c : Int32) : bks (nI 6) f c = (if 0 < c then c - nI 1 else nI 0) := by unfold bks; rw [if_neg (by decide), if_neg (by decide), if_pos rfl]
theorem bks_o {k : Int32} (f c : Int32) (h2 : ¬ k = nI 2) (h5 : ¬ k = nI 5) (h6 : ¬ k = nI 6) : bks k f c = c := by unfold bks; rw [if_neg h2, if_neg h5, if_neg h6]
def dnI : Nat → Int32
  | 0 => -1
  | m + 1 => nI m
theorem dnI_dec (m : Nat) : nI m + Int32.ofInt (-1) = dnI m := by
  cases m with
  | zero => decide
  | succ m => exact pk_m1 m
set_option maxRecDepth 100000 in
set_option maxHeartbeats 4000000 in
theorem c_left (r : Nat → Int32) (x : Int32) (d : Nat) (hx : x = nI d) (hd : d < 10) : RCtr yX5_left cX5_left 2 (some .int) 0 [.ref 0, .int x] (A1 r) (.int (lf r d)) := by
  subst hx
  refine Ctr.of rfl (Nat.le_of_ble_eq_true rfl) ⟨clS_of rfl, clH_of rfl⟩ (fun K F X => ?_)
  show Go K 0 0 0 [(0, .ref 0), (1, .int (nI d))] [] (A1 r)
  refine g_aload_n (pc := 0) F dX5_left_0 rfl ?_
  refine g_iconst (pc := 1) F dX5_left_1 (v := nI 5) rfl ?_
  refine g_iload_n (pc := 2) F dX5_left_2 rfl ?_
  refine g_iaddN (pc := 3) F dX5_left_3 ?_
  refine g_iald2 (pc := 4) F dX5_left_4 rfl rfl (by first | omega | (simp only [ix]; omega)) (by decide) ?_
  refine g_aload_n (pc := 5) F dX5_left_5 rfl ?_
  refine g_bipush (pc := 6) F dX5_left_6 (v := nI 15) rfl ?_
  refine g_iload_n (pc := 8) F dX5_left_8 rfl ?_
  refine g_iaddN (pc := 9) F dX5_left_9 ?_
  refine g_iald2 (pc := 10) F dX5_left_10 rfl rfl (by first | omega | (simp only [ix]; omega)) (by decide) ?_
  refine g_isub (pc := 11) F dX5_left_11 ?_
  exact g_iret (pc := 12) F X dX5_left_12 (Nat.le_of_ble_eq_true rfl) (Nat.le_of_ble_eq_true rfl) rfl ⟨rfl, rfl⟩

set_option maxRecDepth 100000 in
set_option maxHeartbeats 4000000 in
theorem c_counts (r : Nat → Int32) (c : Nat) (on : Int32) (hI : Iv r) (hc : c < many r) : RCtr yX5_counts cX5_counts 5 (some .int) 1 [.ref 0, .int (nI c), .int on] (A1 r) (.int (cntR r c on)) := by
  have hc6 : c < 6 := by have := hI.1.2; omega
  obtain ⟨-, -, ⟨ea, ha⟩, -⟩ := hI.2.2.1 c hc
  refine Ctr.of rfl (Nat.le_of_ble_eq_true rfl) ⟨clS_of rfl, clH_of rfl⟩ (fun K F X => ?_)
  show Go K 0 0 0 [(0, .ref 0), (1, .int (nI c)), (2, .int on)] [] (A1 r)
  refine g_aload_n (pc := 0) F dX5_counts_0 rfl ?_
  refine g_iload_n (pc := 1) F dX5_counts_1 rfl ?_
  refine g_iconst (pc := 2) F dX5_counts_2 (v := nI 1) rfl ?_
  refine h_readS (pc := 3) F (c_of _ _) mi_X5_of ks_X5_47 dX5_counts_3 [] rfl (by decide) (by decide) rfl rfl (Nat.le_of_ble_eq_true rfl) trivial (by decide) (by decide) ?_
  refine g_iald2 (pc := 6) F dX5_counts_6 rfl rfl (by first | omega | (simp only [ix]; omega)) (by decide) ?_
  refine g_istore_n (pc := 7) F dX5_counts_7 (by decide) ?_
  refine g_aload_n (pc := 8) F dX5_counts_8 rfl ?_
  refine g_aload_n (pc := 9) F dX5_counts_9 rfl ?_
  refine g_iload_n (pc := 10) F dX5_counts_10 rfl ?_
  refine g_iconst (pc := 11) F dX5_counts_11 (v := nI 2) rfl ?_
  refine h_readS (pc := 12) F (c_of _ _) mi_X5_of ks_X5_47 dX5_counts_12 [] rfl (by decide) (by decide) rfl rfl (Nat.le_of_ble_eq_true rfl) trivial (by decide) (by decide) ?_
  refine g_iald2 (pc := 15) F dX5_counts_15 rfl rfl (by first | omega | (simp only [ix]; omega)) (by decide) ?_
  refine h_readS (pc := 16) F (c_left r _ (atN r c) ea ha) mi_X5_left ks_X5_51 dX5_counts_16 [0] rfl (by decide) (by decide) rfl rfl (Nat.le_of_ble_eq_true rfl) trivial (by decide) (by decide) ?_
  refine g_istore (pc := 19) F dX5_counts_19 (by decide) ?_
  refine g_aload_n (pc := 21) F dX5_counts_21 rfl ?_
  refine g_iload_n (pc := 22) F dX5_counts_22 rfl ?_
  refine g_iconst (pc := 23) F dX5_counts_23 (v := nI 0) rfl ?_
  refine h_readS (pc := 24) F (c_of _ _) mi_X5_of ks_X5_47 dX5_counts_24 [] rfl (by decide) (by decide) rfl rfl (Nat.le_of_ble_eq_true rfl) trivial (by decide) (by decide) ?_
  refine g_iald2 (pc := 27) F dX5_counts_27 rfl rfl (by first | omega | (simp only [ix]; omega)) (by decide) ?_
  rcases sw_cases 1 7 (r (ix c 0)) (by decide) with ⟨j_28, j1_28, j2_28, hx_28⟩ | ho_28
  · rcases (show j_28 = 1 ∨ j_28 = 2 ∨ j_28 = 3 ∨ j_28 = 4 ∨ j_28 = 5 ∨ j_28 = 6 ∨ j_28 = 7 by omega) with rfl | rfl | rfl | rfl | rfl | rfl | rfl
    · refine g_tableIn2 (pc := 28) F dX5_counts_28 hx_28 (by decide) (by decide) (tgt := 72) rfl rfl ?_
      refine g_iload (pc := 72) F dX5_counts_72 rfl ?_
      refine g_bipush (pc := 74) F dX5_counts_74 (v := nI 9) rfl ?_
      refine g_iload_n (pc := 76) F dX5_counts_76 rfl ?_
      refine g_iadd (pc := 77) F dX5_counts_77 ?_
      refine h_readS (pc := 78) F (c_least _ _) mi_X5_least ks_X5_55 dX5_counts_78 [] rfl (by decide) (by decide) rfl rfl (Nat.le_of_ble_eq_true rfl) trivial (by decide) (by decide) ?_
      exact g_iret (pc := 81) F X dX5_counts_81 (Nat.le_of_ble_eq_true rfl) (Nat.le_of_ble_eq_true rfl) rfl ⟨congrArg (fun z => some (Value.int z)) (by unfold cntR; first | rw [cnt_0 _ _ _ ho_28] | (rw [hx_28]; first | rw [cnt_1] | rw [cnt_2] | rw [cnt_3] | rw [cnt_4] | rw [cnt_5] | (rw [cnt_6]; first | rw [if_pos c_135] | rw [if_neg c_135]) | rw [cnt_7])), rfl⟩
    · refine g_tableIn2 (pc := 28) F dX5_counts_28 hx_28 (by decide) (by decide) (tgt := 82) rfl rfl ?_
      refine g_iload (pc := 82) F dX5_counts_82 rfl ?_
      refine g_iconst (pc := 84) F dX5_counts_84 (v := nI 1) rfl ?_
      refine g_iadd (pc := 85) F dX5_counts_85 ?_
      refine g_iconst (pc := 86) F dX5_counts_86 (v := nI 2) rfl ?_
      refine g_idiv (pc := 87) F dX5_counts_87 (by decide) ?_
      exact g_iret (pc := 88) F X dX5_counts_88 (Nat.le_of_ble_eq_true rfl) (Nat.le_of_ble_eq_true rfl) rfl ⟨congrArg (fun z => some (Value.int z)) (by unfold cntR; first | rw [cnt_0 _ _ _ ho_28] | (rw [hx_28]; first | rw [cnt_1] | rw [cnt_2] | rw [cnt_3] | rw [cnt_4] | rw [cnt_5] | (rw [cnt_6]; first | rw [if_pos c_135] | rw [if_neg c_135]) | rw [cnt_7])), rfl⟩
    · refine g_tableIn2 (pc := 28) F dX5_counts_28 hx_28 (by decide) (by decide) (tgt := 89) rfl rfl ?_
      refine g_iload (pc := 89) F dX5_counts_89 rfl ?_
      refine g_bipush (pc := 91) F dX5_counts_91 (v := nI 10) rfl ?_
      refine g_iload_n (pc := 93) F dX5_counts_93 rfl ?_
      refine g_iadd (pc := 94) F dX5_counts_94 ?_
      refine g_iconst (pc := 95) F dX5_counts_95 (v := nI 2) rfl ?_
      refine g_idiv (pc := 96) F dX5_counts_96 (by decide) ?_
      refine h_readS (pc := 97) F (c_least _ _) mi_X5_least ks_X5_55 dX5_counts_97 [] rfl (by decide) (by decide) rfl rfl (Nat.le_of_ble_eq_true rfl) trivial (by decide) (by decide) ?_
      exact g_iret (pc := 100) F X dX5_counts_100 (Nat.le_of_ble_eq_true rfl) (Nat.le_of_ble_eq_true rfl) rfl ⟨congrArg (fun z => some (Value.int z)) (by unfold cntR; first | rw [cnt_0 _ _ _ ho_28] | (rw [hx_28]; first | rw [cnt_1] | rw [cnt_2] | rw [cnt_3] | rw [cnt_4] | rw [cnt_5] | (rw [cnt_6]; first | rw [if_pos c_135] | rw [if_neg c_135]) | rw [cnt_7])), rfl⟩
    · refine g_tableIn2 (pc := 28) F dX5_counts_28 hx_28 (by decide) (by decide) (tgt := 101) rfl rfl ?_
      refine g_iload (pc := 101) F dX5_counts_101 rfl ?_
      refine g_bipush (pc := 103) F dX5_counts_103 (v := nI 9) rfl ?_
      refine g_iload_n (pc := 105) F dX5_counts_105 rfl ?_
      refine g_iadd (pc := 106) F dX5_counts_106 ?_
      refine g_iconst (pc := 107) F dX5_counts_107 (v := nI 2) rfl ?_
      refine g_idiv (pc := 108) F dX5_counts_108 (by decide) ?_
      refine g_iconst (pc := 109) F dX5_counts_109 (v := nI 1) rfl ?_
      refine g_iadd (pc := 110) F dX5_counts_110 ?_
      refine h_readS (pc := 111) F (c_least _ _) mi_X5_least ks_X5_55 dX5_counts_111 [] rfl (by decide) (by decide) rfl rfl (Nat.le_of_ble_eq_true rfl) trivial (by decide) (by decide) ?_
      exact g_iret (pc := 114) F X dX5_counts_114 (Nat.le_of_ble_eq_true rfl) (Nat.le_of_ble_eq_true rfl) rfl ⟨congrArg (fun z => some (Value.int z)) (by unfold cntR; first | rw [cnt_0 _ _ _ ho_28] | (rw [hx_28]; first | rw [cnt_1] | rw [cnt_2] | rw [cnt_3] | rw [cnt_4] | rw [cnt_5] | (rw [cnt_6]; first | rw [if_pos c_135] | rw [if_neg c_135]) | rw [cnt_7])), rfl⟩
    · refine g_tableIn2 (pc := 28) F dX5_counts_28 hx_28 (by decide) (by decide) (tgt := 115) rfl rfl ?_
      refine g_iload (pc := 115) F dX5_counts_115 rfl ?_
      refine g_bipush (pc := 117) F dX5_counts_117 (v := nI 20) rfl ?_
      refine g_iload (pc := 119) F dX5_counts_119 rfl ?_
      refine g_iconst (pc := 121) F dX5_counts_121 (v := nI 1) rfl ?_
      refine g_iadd (pc := 122) F dX5_counts_122 ?_
      refine g_iconst (pc := 123) F dX5_counts_123 (v := nI 2) rfl ?_
      refine g_idiv (pc := 124) F dX5_counts_124 (by decide) ?_
      refine h_readS (pc := 125) F (c_most _ _) mi_X5_most ks_X5_58 dX5_counts_125 [] rfl (by decide) (by decide) rfl rfl (Nat.le_of_ble_eq_true rfl) trivial (by decide) (by decide) ?_
      refine h_readS (pc := 128) F (c_least _ _) mi_X5_least ks_X5_55 dX5_counts_128 [] rfl (by decide) (by decide) rfl rfl (Nat.le_of_ble_eq_true rfl) trivial (by decide) (by decide) ?_
      exact g_iret (pc := 131) F X dX5_counts_131 (Nat.le_of_ble_eq_true rfl) (Nat.le_of_ble_eq_true rfl) rfl ⟨congrArg (fun z => some (Value.int z)) (by unfold cntR; first | rw [cnt_0 _ _ _ ho_28] | (rw [hx_28]; first | rw [cnt_1] | rw [cnt_2] | rw [cnt_3] | rw [cnt_4] | rw [cnt_5] | (rw [cnt_6]; first | rw [if_pos c_135] | rw [if_neg c_135]) | rw [cnt_7])), rfl⟩
    · refine g_tableIn2 (pc := 28) F dX5_counts_28 hx_28 (by decide) (by decide) (tgt := 132) rfl rfl ?_
      refine g_iload_n (pc := 132) F dX5_counts_132 rfl ?_
      refine g_iconst (pc := 133) F dX5_counts_133 (v := nI 2) rfl ?_
      refine g_irem (pc := 134) F dX5_counts_134 (by decide) ?_
      refine g_if_ne (pc := 135) F dX5_counts_135 (tgt := 152) rfl (fun c_135 => ?_) (fun c_135 => ?_)
      · refine g_iconst (pc := 152) F dX5_counts_152 (v := nI 0) rfl ?_
        exact g_iret (pc := 153) F X dX5_counts_153 (Nat.le_of_ble_eq_true rfl) (Nat.le_of_ble_eq_true rfl) rfl ⟨congrArg (fun z => some (Value.int z)) (by unfold cntR; first | rw [cnt_0 _ _ _ ho_28] | (rw [hx_28]; first | rw [cnt_1] | rw [cnt_2] | rw [cnt_3] | rw [cnt_4] | rw [cnt_5] | (rw [cnt_6]; first | rw [if_pos c_135] | rw [if_neg c_135]) | rw [cnt_7])), rfl⟩
      · refine g_iload (pc := 138) F dX5_counts_138 rfl ?_
        refine g_bipush (pc := 140) F dX5_counts_140 (v := nI 10) rfl ?_
        refine g_iload_n (pc := 142) F dX5_counts_142 rfl ?_
        refine g_iadd (pc := 143) F dX5_counts_143 ?_
        refine g_iconst (pc := 144) F dX5_counts_144 (v := nI 2) rfl ?_
        refine g_idiv (pc := 145) F dX5_counts_145 (by decide) ?_
        refine h_readS (pc := 146) F (c_least _ _) mi_X5_least ks_X5_55 dX5_counts_146 [] rfl (by decide) (by decide) rfl rfl (Nat.le_of_ble_eq_true rfl) trivial (by decide) (by decide) ?_
        refine g_goto (pc := 149) F dX5_counts_149 (tgt := 153) rfl ?_
        exact g_iret (pc := 153) F X dX5_counts_153 (Nat.le_of_ble_eq_true rfl) (Nat.le_of_ble_eq_true rfl) rfl ⟨congrArg (fun z => some (Value.int z)) (by unfold cntR; first | rw [cnt_0 _ _ _ ho_28] | (rw [hx_28]; first | rw [cnt_1] | rw [cnt_2] | rw [cnt_3] | rw [cnt_4] | rw [cnt_5] | (rw [cnt_6]; first | rw [if_pos c_135] | rw [if_neg c_135]) | rw [cnt_7])), rfl⟩
    · refine g_tableIn2 (pc := 28) F dX5_counts_28 hx_28 (by decide) (by decide) (tgt := 154) rfl rfl ?_
      refine g_iload (pc := 154) F dX5_counts_154 rfl ?_
      refine g_iload_n (pc := 156) F dX5_counts_156 rfl ?_
      refine g_iconst (pc := 157) F dX5_counts_157 (v := nI 1) rfl ?_
      refine g_iadd (pc := 158) F dX5_counts_158 ?_
      refine h_readS (pc := 159) F (c_least _ _) mi_X5_least ks_X5_55 dX5_counts_159 [] rfl (by decide) (by decide) rfl rfl (Nat.le_of_ble_eq_true rfl) trivial (by decide) (by decide) ?_
      exact g_iret (pc := 162) F X dX5_counts_162 (Nat.le_of_ble_eq_true rfl) (Nat.le_of_ble_eq_true rfl) rfl ⟨congrArg (fun z => some (Value.int z)) (by unfold cntR; first | rw [cnt_0 _ _ _ ho_28] | (rw [hx_28]; first | rw [cnt_1] | rw [cnt_2] | rw [cnt_3] | rw [cnt_4] | rw [cnt_5] | (rw [cnt_6]; first | rw [if_pos c_135] | rw [if_neg c_135]) | rw [cnt_7])), rfl⟩
  · refine g_tableOut (pc := 28) F dX5_counts_28 ho_28 (tgt := 163) rfl ?_
    refine g_iload (pc := 163) F dX5_counts_163 rfl ?_
    refine g_bipush (pc := 165) F dX5_counts_165 (v := nI 10) rfl ?_
    refine g_iload_n (pc := 167) F dX5_counts_167 rfl ?_
    refine g_iadd (pc := 168) F dX5_counts_168 ?_
    refine h_readS (pc := 169) F (c_least _ _) mi_X5_least ks_X5_55 dX5_counts_169 [] rfl (by decide) (by decide) rfl rfl (Nat.le_of_ble_eq_true rfl) trivial (by decide) (by decide) ?_
    exact g_iret (pc := 172) F X dX5_counts_172 (Nat.le_of_ble_eq_true rfl) (Nat.le_of_ble_eq_true rfl) rfl ⟨congrArg (fun z => some (Value.int z)) (by unfold cntR; first | rw [cnt_0 _ _ _ ho_28] | (rw [hx_28]; first | rw [cnt_1] | rw [cnt_2] | rw [cnt_3] | rw [cnt_4] | rw [cnt_5] | (rw [cnt_6]; first | rw [if_pos c_135] | rw [if_neg c_135]) | rw [cnt_7])), rfl⟩

set_option maxRecDepth 100000 in
set_option maxHeartbeats 4000000 in
theorem c_books (k f c : Int32) : RCtr yX5_books cX5_books 3 (some .int) 0 [.int k, .int f, .int c] ([]) (.int (bks k f c)) := by
  refine Ctr.of rfl (Nat.le_of_ble_eq_true rfl) ⟨clS_of rfl, clH_of rfl⟩ (fun K F X => ?_)
  show Go K 0 0 0 [(0, .int k), (1, .int f), (2, .int c)] [] ([])
  refine g_iload_n (pc := 0) F dX5_books_0 rfl ?_
  rcases sw_cases 2 6 k (by decide) with ⟨j_1, j1_1, j2_1, hx_1⟩ | ho_1
  · rcases (show j_1 = 2 ∨ j_1 = 3 ∨ j_1 = 4 ∨ j_1 = 5 ∨ j_1 = 6 by omega) with rfl | rfl | rfl | rfl | rfl
    · refine g_tableIn2 (pc := 1) F dX5_books_1 hx_1 (by decide) (by decide) (tgt := 36) rfl rfl ?_
      refine g_iload_n (pc := 36) F dX5_books_36 rfl ?_
      refine g_if_le (pc := 37) F dX5_books_37 (tgt := 46) rfl (fun c_37 => ?_) (fun c_37 => ?_)
      · refine g_iconst (pc := 46) F dX5_books_46 (v := nI 0) rfl ?_
        exact g_iret (pc := 47) F X dX5_books_47 (Nat.le_of_ble_eq_true rfl) (Nat.le_of_ble_eq_true rfl) rfl ⟨congrArg (fun z => some (Value.int z)) (by first | rw [bks_o _ _ (sw_ne ho_1 (by decide) (by decide) (by decide)) (sw_ne ho_1 (by decide) (by decide) (by decide)) (sw_ne ho_1 (by decide) (by decide) (by decide))] | (rw [hx_1]; first | (rw [bks_2]; first | rw [if_pos (Int32.not_le.mp c_37)] | rw [if_neg (Int32.not_lt.mpr c_37)]) | rw [bks_5] | (rw [bks_6]; first | rw [if_pos (Int32.not_le.mp c_53)] | rw [if_neg (Int32.not_lt.mpr c_53)]) | rw [bks_o _ _ (by decide) (by decide) (by decide)])), rfl⟩
      · refine g_iload_n (pc := 40) F dX5_books_40 rfl ?_
        refine g_iload_n (pc := 41) F dX5_books_41 rfl ?_
        refine g_iadd (pc := 42) F dX5_books_42 ?_
        refine g_goto (pc := 43) F dX5_books_43 (tgt := 47) rfl ?_
        exact g_iret (pc := 47) F X dX5_books_47 (Nat.le_of_ble_eq_true rfl) (Nat.le_of_ble_eq_true rfl) rfl ⟨congrArg (fun z => some (Value.int z)) (by first | rw [bks_o _ _ (sw_ne ho_1 (by decide) (by decide) (by decide)) (sw_ne ho_1 (by decide) (by decide) (by decide)) (sw_ne ho_1 (by decide) (by decide) (by decide))] | (rw [hx_1]; first | (rw [bks_2]; first | rw [if_pos (Int32.not_le.mp c_37)] | rw [if_neg (Int32.not_lt.mpr c_37)]) | rw [bks_5] | (rw [bks_6]; first | rw [if_pos (Int32.not_le.mp c_53)] | rw [if_neg (Int32.not_lt.mpr c_53)]) | rw [bks_o _ _ (by decide) (by decide) (by decide)])), rfl⟩
    · refine g_tableIn2 (pc := 1) F dX5_books_1 hx_1 (by decide) (by decide) (tgt := 64) rfl rfl ?_
      refine g_iload_n (pc := 64) F dX5_books_64 rfl ?_
      exact g_iret (pc := 65) F X dX5_books_65 (Nat.le_of_ble_eq_true rfl) (Nat.le_of_ble_eq_true rfl) rfl ⟨congrArg (fun z => some (Value.int z)) (by first | rw [bks_o _ _ (sw_ne ho_1 (by decide) (by decide) (by decide)) (sw_ne ho_1 (by decide) (by decide) (by decide)) (sw_ne ho_1 (by decide) (by decide) (by decide))] | (rw [hx_1]; first | (rw [bks_2]; first | rw [if_pos (Int32.not_le.mp c_37)] | rw [if_neg (Int32.not_lt.mpr c_37)]) | rw [bks_5] | (rw [bks_6]; first | rw [if_pos (Int32.not_le.mp c_53)] | rw [if_neg (Int32.not_lt.mpr c_53)]) | rw [bks_o _ _ (by decide) (by decide) (by decide)])), rfl⟩
    · refine g_tableIn2 (pc := 1) F dX5_books_1 hx_1 (by decide) (by decide) (tgt := 64) rfl rfl ?_
      refine g_iload_n (pc := 64) F dX5_books_64 rfl ?_
      exact g_iret (pc := 65) F X dX5_books_65 (Nat.le_of_ble_eq_true rfl) (Nat.le_of_ble_eq_true rfl) rfl ⟨congrArg (fun z => some (Value.int z)) (by first | rw [bks_o _ _ (sw_ne ho_1 (by decide) (by decide) (by decide)) (sw_ne ho_1 (by decide) (by decide) (by decide)) (sw_ne ho_1 (by decide) (by decide) (by decide))] | (rw [hx_1]; first | (rw [bks_2]; first | rw [if_pos (Int32.not_le.mp c_37)] | rw [if_neg (Int32.not_lt.mpr c_37)]) | rw [bks_5] | (rw [bks_6]; first | rw [if_pos (Int32.not_le.mp c_53)] | rw [if_neg (Int32.not_lt.mpr c_53)]) | rw [bks_o _ _ (by decide) (by decide) (by decide)])), rfl⟩
    · refine g_tableIn2 (pc := 1) F dX5_books_1 hx_1 (by decide) (by decide) (tgt := 48) rfl rfl ?_
      refine g_iconst (pc := 48) F dX5_books_48 (v := nI 2) rfl ?_
      refine g_iload_n (pc := 49) F dX5_books_49 rfl ?_
      refine g_imul (pc := 50) F dX5_books_50 ?_
      exact g_iret (pc := 51) F X dX5_books_51 (Nat.le_of_ble_eq_true rfl) (Nat.le_of_ble_eq_true rfl) rfl ⟨congrArg (fun z => some (Value.int z)) (by first | rw [bks_o _ _ (sw_ne ho_1 (by decide) (by decide) (by decide)) (sw_ne ho_1 (by decide) (by decide) (by decide)) (sw_ne ho_1 (by decide) (by decide) (by decide))] | (rw [hx_1]; first | (rw [bks_2]; first | rw [if_pos (Int32.not_le.mp c_37)] | rw [if_neg (Int32.not_lt.mpr c_37)]) | rw [bks_5] | (rw [bks_6]; first | rw [if_pos (Int32.not_le.mp c_53)] | rw [if_neg (Int32.not_lt.mpr c_53)]) | rw [bks_o _ _ (by decide) (by decide) (by decide)])), rfl⟩
    · refine g_tableIn2 (pc := 1) F dX5_books_1 hx_1 (by decide) (by decide) (tgt := 52) rfl rfl ?_
      refine g_iload_n (pc := 52) F dX5_books_52 rfl ?_
      refine g_if_le (pc := 53) F dX5_books_53 (tgt := 62) rfl (fun c_53 => ?_) (fun c_53 => ?_)
      · refine g_iconst (pc := 62) F dX5_books_62 (v := nI 0) rfl ?_
        exact g_iret (pc := 63) F X dX5_books_63 (Nat.le_of_ble_eq_true rfl) (Nat.le_of_ble_eq_true rfl) rfl ⟨congrArg (fun z => some (Value.int z)) (by first | rw [bks_o _ _ (sw_ne ho_1 (by decide) (by decide) (by decide)) (sw_ne ho_1 (by decide) (by decide) (by decide)) (sw_ne ho_1 (by decide) (by decide) (by decide))] | (rw [hx_1]; first | (rw [bks_2]; first | rw [if_pos (Int32.not_le.mp c_37)] | rw [if_neg (Int32.not_lt.mpr c_37)]) | rw [bks_5] | (rw [bks_6]; first | rw [if_pos (Int32.not_le.mp c_53)] | rw [if_neg (Int32.not_lt.mpr c_53)]) | rw [bks_o _ _ (by decide) (by decide) (by decide)])), rfl⟩
      · refine g_iload_n (pc := 56) F dX5_books_56 rfl ?_
        refine g_iconst (pc := 57) F dX5_books_57 (v := nI 1) rfl ?_
        refine g_isub (pc := 58) F dX5_books_58 ?_
        refine g_goto (pc := 59) F dX5_books_59 (tgt := 63) rfl ?_
        exact g_iret (pc := 63) F X dX5_books_63 (Nat.le_of_ble_eq_true rfl) (Nat.le_of_ble_eq_true rfl) rfl ⟨congrArg (fun z => some (Value.int z)) (by first | rw [bks_o _ _ (sw_ne ho_1 (by decide) (by decide) (by decide)) (sw_ne ho_1 (by decide) (by decide) (by decide)) (sw_ne ho_1 (by decide) (by decide) (by decide))] | (rw [hx_1]; first | (rw [bks_2]; first | rw [if_pos (Int32.not_le.mp c_37)] | rw [if_neg (Int32.not_lt.mpr c_37)]) | rw [bks_5] | (rw [bks_6]; first | rw [if_pos (Int32.not_le.mp c_53)] | rw [if_neg (Int32.not_lt.mpr c_53)]) | rw [bks_o _ _ (by decide) (by decide) (by decide)])), rfl⟩
  · refine g_tableOut (pc := 1) F dX5_books_1 ho_1 (tgt := 64) rfl ?_
    refine g_iload_n (pc := 64) F dX5_books_64 rfl ?_
    exact g_iret (pc := 65) F X dX5_books_65 (Nat.le_of_ble_eq_true rfl) (Nat.le_of_ble_eq_true rfl) rfl ⟨congrArg (fun z => some (Value.int z)) (by first | rw [bks_o _ _ (sw_ne ho_1 (by decide) (by decide) (by decide)) (sw_ne ho_1 (by decide) (by decide) (by decide)) (sw_ne ho_1 (by decide) (by decide) (by decide))] | (rw [hx_1]; first | (rw [bks_2]; first | rw [if_pos (Int32.not_le.mp c_37)] | rw [if_neg (Int32.not_lt.mpr c_37)]) | rw [bks_5] | (rw [bks_6]; first | rw [if_pos (Int32.not_le.mp c_53)] | rw [if_neg (Int32.not_lt.mpr c_53)]) | rw [bks_o _ _ (by decide) (by decide) (by decide)])), rfl⟩

set_option maxRecDepth 100000 in
set_option maxHeartbeats 4000000 in
theorem c_writes (r : Nat → Int32) (c : Nat) (v : Int32) (hc : c < 6) : Ctr yX5_writes cX5_writes 3 none 1 0 0 [.ref 0, .int (nI c), .int v] (A1 r) (fun v2 h => v2 = none ∧ h = A1 (wrR r c v)) := by
  refine Ctr.of rfl (Nat.le_of_ble_eq_true rfl) ⟨clS_of rfl, clH_of rfl⟩ (fun K F X => ?_)
  show Go K 0 0 0 [(0, .ref 0), (1, .int (nI c)), (2, .int v)] [] (A1 r)
  refine g_aload_n (pc := 0) F dX5_writes_0 rfl ?_
  refine g_iload_n (pc := 1) F dX5_writes_1 rfl ?_
  refine g_iconst (pc := 2) F dX5_writes_2 (v := nI 4) rfl ?_
  refine h_readS (pc := 3) F (c_of _ _) mi_X5_of ks_X5_47 dX5_writes_3 [] rfl (by decide) (by decide) rfl rfl (Nat.le_of_ble_eq_true rfl) trivial (by decide) (by decide) ?_
  refine g_sipush (pc := 6) F dX5_writes_6 (v := nI 9999) rfl ?_
  refine g_aload_n (pc := 9) F dX5_writes_9 rfl ?_
  refine g_iload_n (pc := 10) F dX5_writes_10 rfl ?_
  refine g_iconst (pc := 11) F dX5_writes_11 (v := nI 4) rfl ?_
  refine h_readS (pc := 12) F (c_of _ _) mi_X5_of ks_X5_47 dX5_writes_12 [] rfl (by decide) (by decide) rfl rfl (Nat.le_of_ble_eq_true rfl) trivial (by decide) (by decide) ?_
  refine g_iald2 (pc := 15) F dX5_writes_15 rfl rfl (by first | omega | (simp only [ix]; omega)) (by decide) ?_
  refine g_iload_n (pc := 16) F dX5_writes_16 rfl ?_
  refine g_iadd (pc := 17) F dX5_writes_17 ?_
  refine h_readS (pc := 18) F (c_least _ _) mi_X5_least ks_X5_55 dX5_writes_18 [] rfl (by decide) (by decide) rfl rfl (Nat.le_of_ble_eq_true rfl) trivial (by decide) (by decide) ?_
  refine g_iast2 (pc := 21) F dX5_writes_21 rfl rfl (by first | omega | (simp only [ix]; omega)) (by decide) ?_
  exact g_vret (pc := 22) F X dX5_writes_22 (Nat.le_of_ble_eq_true rfl) (Nat.le_of_ble_eq_true rfl) rfl ⟨rfl, rfl⟩

set_option maxRecDepth 100000 in
set_option maxHeartbeats 4000000 in
theorem c_isStood (r : Nat → Int32) (d way : Int32) (hI : Iv r) : RCtr yX5_isStood cX5_isStood 4 (some .boolean) 1 [.ref 0, .int d, .int way] (A1 r) (.int (bI (stoodR r d way))) := by
  refine Ctr.of rfl (Nat.le_of_ble_eq_true rfl) ⟨clS_of rfl, clH_of rfl⟩ (fun K F X => ?_)
  have hm6 := hI.1.2
  have L : ∀ i, i ≤ many r → (∀ j, j < i → decide (r (ix j 2) = d ∧ r (ix j 3) = way) = false) → Go K 0 0 2 [(0, .ref 0), (1, .int d), (2, .int way), (3, .int (nI i))] [] (A1 r) := loop_up (P := fun i => (∀ j, j < i → decide (r (ix j 2) = d ∧ r (ix j 3) = way) = false) → Go K 0 0 2 [(0, .ref 0), (1, .int d), (2, .int way), (3, .int (nI i))] [] (A1 r)) (fun i hi ih => by
    intro hno
    refine g_iload_n (pc := 2) F dX5_isStood_2 rfl ?_
    refine g_aload_n (pc := 3) F dX5_isStood_3 rfl ?_
    refine g_iconst (pc := 4) F dX5_isStood_4 (v := nI 0) rfl ?_
    refine g_iald2 (pc := 5) F dX5_isStood_5 rfl rfl (by first | omega | (simp only [ix]; omega)) (by decide) ?_
    refine g_icN_ge (pc := 6) F dX5_isStood_6 (tgt := 39) rfl rfl hI.1.1 (by omega) (by omega) (fun c_6 => ?_) (fun c_6 => ?_)
    · have hi9 : i = many r := by omega
      subst hi9
      refine g_iconst (pc := 39) F dX5_isStood_39 (v := nI 0) rfl ?_
      exact g_zret (pc := 40) F X dX5_isStood_40 (by first | exact bI_nar _ | rfl) (Nat.le_of_ble_eq_true rfl) (Nat.le_of_ble_eq_true rfl) rfl ⟨congrArg (fun z => some (Value.int z)) (by unfold stoodR; first | rw [anyN_f hno]; rfl | rw [anyN_t c_6 (decide_eq_true ⟨c_17, c_28⟩)]; rfl), rfl⟩
    · refine g_aload_n (pc := 9) F dX5_isStood_9 rfl ?_
      refine g_iload_n (pc := 10) F dX5_isStood_10 rfl ?_
      refine g_iconst (pc := 11) F dX5_isStood_11 (v := nI 2) rfl ?_
      refine h_readS (pc := 12) F (c_of _ _) mi_X5_of ks_X5_47 dX5_isStood_12 [] rfl (by decide) (by decide) rfl rfl (Nat.le_of_ble_eq_true rfl) trivial (by decide) (by decide) ?_
      refine g_iald2 (pc := 15) F dX5_isStood_15 rfl rfl (by first | omega | (simp only [ix]; omega)) (by decide) ?_
      refine g_iload_n (pc := 16) F dX5_isStood_16 rfl ?_
      refine g_ic_ne (pc := 17) F dX5_isStood_17 (tgt := 33) rfl (fun c_17 => ?_) (fun c_17 => ?_)
      · refine g_iincN (pc := 33) F dX5_isStood_33 rfl (by decide) ?_
        refine (fun z => ?_) ()
        refine g_goto (pc := 36) F dX5_isStood_36 (tgt := 2) rfl ?_
        exact ih c_6 (fun j hj => (Nat.lt_succ_iff_lt_or_eq.mp hj).elim (hno j) (fun e => by subst e; exact decide_eq_false (fun h => by first | exact c_17 h.1 | exact c_28 h.2)))
      · refine g_aload_n (pc := 20) F dX5_isStood_20 rfl ?_
        refine g_iload_n (pc := 21) F dX5_isStood_21 rfl ?_
        refine g_iconst (pc := 22) F dX5_isStood_22 (v := nI 3) rfl ?_
        refine h_readS (pc := 23) F (c_of _ _) mi_X5_of ks_X5_47 dX5_isStood_23 [] rfl (by decide) (by decide) rfl rfl (Nat.le_of_ble_eq_true rfl) trivial (by decide) (by decide) ?_
        refine g_iald2 (pc := 26) F dX5_isStood_26 rfl rfl (by first | omega | (simp only [ix]; omega)) (by decide) ?_
        refine g_iload_n (pc := 27) F dX5_isStood_27 rfl ?_
        refine g_ic_ne (pc := 28) F dX5_isStood_28 (tgt := 33) rfl (fun c_28 => ?_) (fun c_28 => ?_)
        · refine g_iincN (pc := 33) F dX5_isStood_33 rfl (by decide) ?_
          refine (fun z => ?_) ()
          refine g_goto (pc := 36) F dX5_isStood_36 (tgt := 2) rfl ?_
          exact ih c_6 (fun j hj => (Nat.lt_succ_iff_lt_or_eq.mp hj).elim (hno j) (fun e => by subst e; exact decide_eq_false (fun h => by first | exact c_17 h.1 | exact c_28 h.2)))
        · refine g_iconst (pc := 31) F dX5_isStood_31 (v := nI 1) rfl ?_
          exact g_zret (pc := 32) F X dX5_isStood_32 (by first | exact bI_nar _ | rfl) (Nat.le_of_ble_eq_true rfl) (Nat.le_of_ble_eq_true rfl) rfl ⟨congrArg (fun z => some (Value.int z)) (by unfold stoodR; first | rw [anyN_f hno]; rfl | rw [anyN_t c_6 (decide_eq_true ⟨c_17, c_28⟩)]; rfl), rfl⟩)
  show Go K 0 0 0 [(0, .ref 0), (1, .int d), (2, .int way)] [] (A1 r)
  refine g_iconst (pc := 0) F dX5_isStood_0 (v := nI 0) rfl ?_
  refine g_istore_n (pc := 1) F dX5_isStood_1 (by decide) ?_
  exact L 0 (Nat.zero_le _) (fun j hj => absurd hj (Nat.not_lt_zero j))

set_option maxRecDepth 100000 in
set_option maxHeartbeats 4000000 in
theorem c_goes (r : Nat → Int32) (c : Nat) (hI : Iv r) (hc : c < many r) : Ctr yX5_goes cX5_goes 3 none 2 0 0 [.ref 0, .int (nI c)] (A1 r) (fun v h => v = none ∧ h = A1 (goesR r c)) := by
  have hc6 : c < 6 := by have := hI.1.2; omega
  refine Ctr.of rfl (Nat.le_of_ble_eq_true rfl) ⟨clS_of rfl, clH_of rfl⟩ (fun K F X => ?_)
  show Go K 0 0 0 [(0, .ref 0), (1, .int (nI c))] [] (A1 r)
  refine g_aload_n (pc := 0) F dX5_goes_0 rfl ?_
  refine g_iload_n (pc := 1) F dX5_goes_1 rfl ?_
  refine g_iconst (pc := 2) F dX5_goes_2 (v := nI 2) rfl ?_
  refine h_readS (pc := 3) F (c_of _ _) mi_X5_of ks_X5_47 dX5_goes_3 [] rfl (by decide) (by decide) rfl rfl (Nat.le_of_ble_eq_true rfl) trivial (by decide) (by decide) ?_
  refine g_iald2 (pc := 6) F dX5_goes_6 rfl rfl (by first | omega | (simp only [ix]; omega)) (by decide) ?_
  refine g_iconst (pc := 7) F dX5_goes_7 (v := nI 1) rfl ?_
  refine g_iadd (pc := 8) F dX5_goes_8 ?_
  refine g_iconst (pc := 9) F dX5_goes_9 (v := nI 2) rfl ?_
  refine g_aload_n (pc := 10) F dX5_goes_10 rfl ?_
  refine g_iload_n (pc := 11) F dX5_goes_11 rfl ?_
  refine g_iconst (pc := 12) F dX5_goes_12 (v := nI 3) rfl ?_
  refine h_readS (pc := 13) F (c_of _ _) mi_X5_of ks_X5_47 dX5_goes_13 [] rfl (by decide) (by decide) rfl rfl (Nat.le_of_ble_eq_true rfl) trivial (by decide) (by decide) ?_
  refine g_iald2 (pc := 16) F dX5_goes_16 rfl rfl (by first | omega | (simp only [ix]; omega)) (by decide) ?_
  refine g_imul (pc := 17) F dX5_goes_17 ?_
  refine g_isub (pc := 18) F dX5_goes_18 ?_
  refine g_istore_n (pc := 19) F dX5_goes_19 (by decide) ?_
  refine g_iload_n (pc := 20) F dX5_goes_20 rfl ?_
  refine h_readS (pc := 21) F (c_mDip _) mi_X5_isDip ks_X5_61 dX5_goes_21 [] rfl (by decide) (by decide) rfl rfl (Nat.le_of_ble_eq_true rfl) trivial (by decide) (by decide) ?_
  refine g_ifeq_d (pc := 24) F dX5_goes_24 (tgt := 52) rfl (fun c_24 => ?_) (fun c_24 => ?_)
  · exact g_vret (pc := 52) F X dX5_goes_52 (Nat.le_of_ble_eq_true rfl) (Nat.le_of_ble_eq_true rfl) rfl ⟨rfl, congrArg A1 (by unfold goesR; first | exact (if_pos ⟨c_24, c_41⟩).symm | exact (if_neg (fun h => c_24 h.1)).symm | exact (if_neg (fun h => Bool.noConfusion (c_41.symm.trans h.2))).symm)⟩
  · refine g_aload_n (pc := 27) F dX5_goes_27 rfl ?_
    refine g_iload_n (pc := 28) F dX5_goes_28 rfl ?_
    refine g_iconst (pc := 29) F dX5_goes_29 (v := nI 1) rfl ?_
    refine g_aload_n (pc := 30) F dX5_goes_30 rfl ?_
    refine g_iload_n (pc := 31) F dX5_goes_31 rfl ?_
    refine g_iconst (pc := 32) F dX5_goes_32 (v := nI 3) rfl ?_
    refine h_readS (pc := 33) F (c_of _ _) mi_X5_of ks_X5_47 dX5_goes_33 [] rfl (by decide) (by decide) rfl rfl (Nat.le_of_ble_eq_true rfl) trivial (by decide) (by decide) ?_
    refine g_iald2 (pc := 36) F dX5_goes_36 rfl rfl (by first | omega | (simp only [ix]; omega)) (by decide) ?_
    refine g_isub (pc := 37) F dX5_goes_37 ?_
    refine h_readS (pc := 38) F (c_isStood r _ _ hI) mi_X5_isStood ks_X5_65 dX5_goes_38 [0] rfl (by decide) (by decide) rfl rfl (Nat.le_of_ble_eq_true rfl) trivial (by decide) (by decide) ?_
    refine g_ifne_b (pc := 41) F dX5_goes_41 (tgt := 52) rfl (fun c_41 => ?_) (fun c_41 => ?_)
    · exact g_vret (pc := 52) F X dX5_goes_52 (Nat.le_of_ble_eq_true rfl) (Nat.le_of_ble_eq_true rfl) rfl ⟨rfl, congrArg A1 (by unfold goesR; first | exact (if_pos ⟨c_24, c_41⟩).symm | exact (if_neg (fun h => c_24 h.1)).symm | exact (if_neg (fun h => Bool.noConfusion (c_41.symm.trans h.2))).symm)⟩
    · refine g_aload_n (pc := 44) F dX5_goes_44 rfl ?_
      refine g_iload_n (pc := 45) F dX5_goes_45 rfl ?_
      refine g_iconst (pc := 46) F dX5_goes_46 (v := nI 2) rfl ?_
      refine h_readS (pc := 47) F (c_of _ _) mi_X5_of ks_X5_47 dX5_goes_47 [] rfl (by decide) (by decide) rfl rfl (Nat.le_of_ble_eq_true rfl) trivial (by decide) (by decide) ?_
      refine g_iload_n (pc := 50) F dX5_goes_50 rfl ?_
      refine g_iast2 (pc := 51) F dX5_goes_51 rfl rfl (by first | omega | (simp only [ix]; omega)) (by decide) ?_
      exact g_vret (pc := 52) F X dX5_goes_52 (Nat.le_of_ble_eq_true rfl) (Nat.le_of_ble_eq_true rfl) rfl ⟨rfl, congrArg A1 (by unfold goesR; first | exact (if_pos ⟨c_24, c_41⟩).symm | exact (if_neg (fun h => c_24 h.1)).symm | exact (if_neg (fun h => Bool.noConfusion (c_41.symm.trans h.2))).symm)⟩

set_option maxRecDepth 100000 in
set_option maxHeartbeats 4000000 in
theorem c_worksOn (r : Nat → Int32) (c : Nat) (hI : Iv r) (hc : c < many r) : Ctr yX5_worksOn cX5_worksOn 4 none 3 0 0 [.ref 0, .int (nI c)] (A1 r) (fun v h => v = none ∧ h = A1 (worksR r c)) := by
  have hc6 : c < 6 := by have := hI.1.2; omega
  obtain ⟨-, -, ⟨ea, ha⟩, -⟩ := hI.2.2.1 c hc
  have hI2 := Iv_workB (r 1) hI hc
  have hc2 : c < many (workB r c (atN r c) (cntR r c (r 1))) := by rw [many_of (workB_ne _ (by omega) (by omega) : (workB r c (atN r c) (cntR r c (r 1))) 0 = r 0)]; exact hc
  refine Ctr.of rfl (Nat.le_of_ble_eq_true rfl) ⟨clS_of rfl, clH_of rfl⟩ (fun K F X => ?_)
  show Go K 0 0 0 [(0, .ref 0), (1, .int (nI c))] [] (A1 r)
  refine g_aload_n (pc := 0) F dX5_worksOn_0 rfl ?_
  refine g_iload_n (pc := 1) F dX5_worksOn_1 rfl ?_
  refine g_iconst (pc := 2) F dX5_worksOn_2 (v := nI 5) rfl ?_
  refine h_readS (pc := 3) F (c_of _ _) mi_X5_of ks_X5_47 dX5_worksOn_3 [] rfl (by decide) (by decide) rfl rfl (Nat.le_of_ble_eq_true rfl) trivial (by decide) (by decide) ?_
  refine g_iald2 (pc := 6) F dX5_worksOn_6 rfl rfl (by first | omega | (simp only [ix]; omega)) (by decide) ?_
  refine g_iconst (pc := 7) F dX5_worksOn_7 (v := nI 1) rfl ?_
  refine g_ic_ne (pc := 8) F dX5_worksOn_8 (tgt := 12) rfl (fun c_8 => ?_) (fun c_8 => ?_)
  · refine g_aload_n (pc := 12) F dX5_worksOn_12 rfl ?_
    refine g_iconst (pc := 13) F dX5_worksOn_13 (v := nI 4) rfl ?_
    refine g_iald2 (pc := 14) F dX5_worksOn_14 rfl rfl (by first | omega | (simp only [ix]; omega)) (by decide) ?_
    refine g_iload_n (pc := 15) F dX5_worksOn_15 rfl ?_
    refine h_readS (pc := 16) F (c_has _ _) mi_X5_has ks_X5_69 dX5_worksOn_16 [] rfl (by decide) (by decide) rfl rfl (Nat.le_of_ble_eq_true rfl) trivial (by decide) (by decide) ?_
    refine g_ifeq_b (pc := 19) F dX5_worksOn_19 (tgt := 30) rfl (fun c_19 => ?_) (fun c_19 => ?_)
    · refine g_aload_n (pc := 30) F dX5_worksOn_30 rfl ?_
      refine g_iload_n (pc := 31) F dX5_worksOn_31 rfl ?_
      refine g_iconst (pc := 32) F dX5_worksOn_32 (v := nI 2) rfl ?_
      refine h_readS (pc := 33) F (c_of _ _) mi_X5_of ks_X5_47 dX5_worksOn_33 [] rfl (by decide) (by decide) rfl rfl (Nat.le_of_ble_eq_true rfl) trivial (by decide) (by decide) ?_
      refine g_iald2 (pc := 36) F dX5_worksOn_36 rfl rfl (by first | omega | (simp only [ix]; omega)) (by decide) ?_
      rw [ea]
      refine g_istore_n (pc := 37) F dX5_worksOn_37 (by decide) ?_
      refine g_aload_n (pc := 38) F dX5_worksOn_38 rfl ?_
      refine g_iload_n (pc := 39) F dX5_worksOn_39 rfl ?_
      refine g_aload_n (pc := 40) F dX5_worksOn_40 rfl ?_
      refine g_iconst (pc := 41) F dX5_worksOn_41 (v := nI 1) rfl ?_
      refine g_iald2 (pc := 42) F dX5_worksOn_42 rfl rfl (by first | omega | (simp only [ix]; omega)) (by decide) ?_
      refine h_readS (pc := 43) F (c_counts r c _ hI hc) mi_X5_counts ks_X5_77 dX5_worksOn_43 [0] rfl (by decide) (by decide) rfl rfl (Nat.le_of_ble_eq_true rfl) trivial (by decide) (by decide) ?_
      refine g_istore_n (pc := 46) F dX5_worksOn_46 (by decide) ?_
      refine g_aload_n (pc := 47) F dX5_worksOn_47 rfl ?_
      refine g_bipush (pc := 48) F dX5_worksOn_48 (v := nI 15) rfl ?_
      refine g_iload_n (pc := 50) F dX5_worksOn_50 rfl ?_
      refine g_iaddN (pc := 51) F dX5_worksOn_51 ?_
      refine g_dup2 (pc := 52) F dX5_worksOn_52 rfl rfl ?_
      refine g_iald2 (pc := 53) F dX5_worksOn_53 rfl rfl (by first | omega | (simp only [ix]; omega)) (by decide) ?_
      refine g_iload_n (pc := 54) F dX5_worksOn_54 rfl ?_
      refine g_iadd (pc := 55) F dX5_worksOn_55 ?_
      refine g_iast2 (pc := 56) F dX5_worksOn_56 rfl rfl (by first | omega | (simp only [ix]; omega)) (by decide) ?_
      refine g_aload_n (pc := 57) F dX5_worksOn_57 rfl ?_
      refine g_iload_n (pc := 58) F dX5_worksOn_58 rfl ?_
      refine g_aload_n (pc := 59) F dX5_worksOn_59 rfl ?_
      refine g_iload_n (pc := 60) F dX5_worksOn_60 rfl ?_
      refine g_iconst (pc := 61) F dX5_worksOn_61 (v := nI 0) rfl ?_
      refine h_readS (pc := 62) F (c_of _ _) mi_X5_of ks_X5_47 dX5_worksOn_62 [] rfl (by decide) (by decide) rfl rfl (Nat.le_of_ble_eq_true rfl) trivial (by decide) (by decide) ?_
      refine g_iald2 (pc := 65) F dX5_worksOn_65 rfl rfl (by first | omega | (simp only [ix]; omega)) (by decide) ?_
      refine g_aload_n (pc := 66) F dX5_worksOn_66 rfl ?_
      refine g_iload_n (pc := 67) F dX5_worksOn_67 rfl ?_
      refine g_iconst (pc := 68) F dX5_worksOn_68 (v := nI 1) rfl ?_
      refine h_readS (pc := 69) F (c_of _ _) mi_X5_of ks_X5_47 dX5_worksOn_69 [] rfl (by decide) (by decide) rfl rfl (Nat.le_of_ble_eq_true rfl) trivial (by decide) (by decide) ?_
      refine g_iald2 (pc := 72) F dX5_worksOn_72 rfl rfl (by first | omega | (simp only [ix]; omega)) (by decide) ?_
      refine g_iload_n (pc := 73) F dX5_worksOn_73 rfl ?_
      refine h_readS (pc := 74) F (c_books _ _ _) mi_X5_books ks_X5_81 dX5_worksOn_74 [] rfl (by decide) (by decide) rfl rfl (Nat.le_of_ble_eq_true rfl) trivial (by decide) (by decide) ?_
      refine h_callS (pc := 77) F (c_writes (upd r (15 + atN r c) (r (15 + atN r c) + cntR r c (r 1))) c _ hc6) mi_X5_writes ks_X5_73 dX5_worksOn_77 [0] rfl (by decide) (by decide) rfl rfl (Nat.le_of_ble_eq_true rfl) (by decide) (by decide) ?_
      rintro _ _ ⟨rfl, rfl⟩ -
      refine g_aload_n (pc := 80) F dX5_worksOn_80 rfl ?_
      refine g_iload_n (pc := 81) F dX5_worksOn_81 rfl ?_
      refine h_readS (pc := 82) F (c_left (workB r c (atN r c) (cntR r c (r 1))) _ (atN r c) rfl ha) mi_X5_left ks_X5_51 dX5_worksOn_82 [0] rfl (by decide) (by decide) rfl rfl (Nat.le_of_ble_eq_true rfl) trivial (by decide) (by decide) ?_
      refine g_if_ne (pc := 85) F dX5_worksOn_85 (tgt := 93) rfl (fun c_85 => ?_) (fun c_85 => ?_)
      · exact g_vret (pc := 93) F X dX5_worksOn_93 (Nat.le_of_ble_eq_true rfl) (Nat.le_of_ble_eq_true rfl) rfl ⟨rfl, congrArg A1 (by unfold worksR; first | (rw [if_pos c_8]; try rfl) | (rw [if_neg c_8]; first | (rw [if_pos c_19]; try rfl) | (rw [if_neg (by rw [c_19]; decide)]; first | (rw [if_pos c_85]; try rfl) | (rw [if_neg c_85]; try rfl))))⟩
      · refine g_aload_n (pc := 88) F dX5_worksOn_88 rfl ?_
        refine g_iload_n (pc := 89) F dX5_worksOn_89 rfl ?_
        refine h_callS (pc := 90) F (c_goes (workB r c (atN r c) (cntR r c (r 1))) c hI2 hc2) mi_X5_goes ks_X5_85 dX5_worksOn_90 [0] rfl (by decide) (by decide) rfl rfl (Nat.le_of_ble_eq_true rfl) (by decide) (by decide) ?_
        rintro _ _ ⟨rfl, rfl⟩ -
        exact g_vret (pc := 93) F X dX5_worksOn_93 (Nat.le_of_ble_eq_true rfl) (Nat.le_of_ble_eq_true rfl) rfl ⟨rfl, congrArg A1 (by unfold worksR; first | (rw [if_pos c_8]; try rfl) | (rw [if_neg c_8]; first | (rw [if_pos c_19]; try rfl) | (rw [if_neg (by rw [c_19]; decide)]; first | (rw [if_pos c_85]; try rfl) | (rw [if_neg c_85]; try rfl))))⟩
    · refine g_aload_n (pc := 22) F dX5_worksOn_22 rfl ?_
      refine g_iload_n (pc := 23) F dX5_worksOn_23 rfl ?_
      refine g_bipush (pc := 24) F dX5_worksOn_24 (v := nI 15) rfl ?_
      refine h_callS (pc := 26) F (c_writes r c _ hc6) mi_X5_writes ks_X5_73 dX5_worksOn_26 [0] rfl (by decide) (by decide) rfl rfl (Nat.le_of_ble_eq_true rfl) (by decide) (by decide) ?_
      rintro _ _ ⟨rfl, rfl⟩ -
      exact g_vret (pc := 29) F X dX5_worksOn_29 (Nat.le_of_ble_eq_true rfl) (Nat.le_of_ble_eq_true rfl) rfl ⟨rfl, congrArg A1 (by unfold worksR; first | (rw [if_pos c_8]; try rfl) | (rw [if_neg c_8]; first | (rw [if_pos c_19]; try rfl) | (rw [if_neg (by rw [c_19]; decide)]; first | (rw [if_pos c_85]; try rfl) | (rw [if_neg c_85]; try rfl))))⟩
  · exact g_vret (pc := 11) F X dX5_worksOn_11 (Nat.le_of_ble_eq_true rfl) (Nat.le_of_ble_eq_true rfl) rfl ⟨rfl, congrArg A1 (by unfold worksR; first | (rw [if_pos c_8]; try rfl) | (rw [if_neg c_8]; first | (rw [if_pos c_19]; try rfl) | (rw [if_neg (by rw [c_19]; decide)]; first | (rw [if_pos c_85]; try rfl) | (rw [if_neg c_85]; try rfl))))⟩

set_option maxRecDepth 100000 in
set_option maxHeartbeats 4000000 in
theorem c_gives (r : Nat → Int32) (x y w : Int32) (d to : Nat) (hx : x = nI d) (hy : y = nI to) (hd : d < 10) (ht : to < 10) : Ctr yX5_gives cX5_gives 6 none 1 0 0 [.ref 0, .int x, .int y, .int w] (A1 r) (fun v h => v = none ∧ h = A1 (givesR r d to w)) := by
  subst hx
  subst hy
  refine Ctr.of rfl (Nat.le_of_ble_eq_true rfl) ⟨clS_of rfl, clH_of rfl⟩ (fun K F X => ?_)
  show Go K 0 0 0 [(0, .ref 0), (1, .int (nI d)), (2, .int (nI to)), (3, .int w)] [] (A1 r)
  refine g_iload_n (pc := 0) F dX5_gives_0 rfl ?_
  refine g_aload_n (pc := 1) F dX5_gives_1 rfl ?_
  refine g_iconst (pc := 2) F dX5_gives_2 (v := nI 5) rfl ?_
  refine g_iload_n (pc := 3) F dX5_gives_3 rfl ?_
  refine g_iaddN (pc := 4) F dX5_gives_4 ?_
  refine g_iald2 (pc := 5) F dX5_gives_5 rfl rfl (by first | omega | (simp only [ix]; omega)) (by decide) ?_
  refine g_sipush (pc := 6) F dX5_gives_6 (v := nI 999) rfl ?_
  refine g_aload_n (pc := 9) F dX5_gives_9 rfl ?_
  refine g_iconst (pc := 10) F dX5_gives_10 (v := nI 5) rfl ?_
  refine g_iload_n (pc := 11) F dX5_gives_11 rfl ?_
  refine g_iaddN (pc := 12) F dX5_gives_12 ?_
  refine g_iald2 (pc := 13) F dX5_gives_13 rfl rfl (by first | omega | (simp only [ix]; omega)) (by decide) ?_
  refine g_isub (pc := 14) F dX5_gives_14 ?_
  refine h_readS (pc := 15) F (c_least _ _) mi_X5_least ks_X5_55 dX5_gives_15 [] rfl (by decide) (by decide) rfl rfl (Nat.le_of_ble_eq_true rfl) trivial (by decide) (by decide) ?_
  refine h_readS (pc := 18) F (c_least _ _) mi_X5_least ks_X5_55 dX5_gives_18 [] rfl (by decide) (by decide) rfl rfl (Nat.le_of_ble_eq_true rfl) trivial (by decide) (by decide) ?_
  refine g_istore (pc := 21) F dX5_gives_21 (by decide) ?_
  refine g_iconst (pc := 23) F dX5_gives_23 (v := nI 0) rfl ?_
  refine g_iload (pc := 24) F dX5_gives_24 rfl ?_
  refine g_aload_n (pc := 26) F dX5_gives_26 rfl ?_
  refine g_iload_n (pc := 27) F dX5_gives_27 rfl ?_
  refine h_readS (pc := 28) F (c_left r _ d rfl hd) mi_X5_left ks_X5_51 dX5_gives_28 [0] rfl (by decide) (by decide) rfl rfl (Nat.le_of_ble_eq_true rfl) trivial (by decide) (by decide) ?_
  refine g_isub (pc := 31) F dX5_gives_31 ?_
  refine h_readS (pc := 32) F (c_most _ _) mi_X5_most ks_X5_58 dX5_gives_32 [] rfl (by decide) (by decide) rfl rfl (Nat.le_of_ble_eq_true rfl) trivial (by decide) (by decide) ?_
  refine g_istore (pc := 35) F dX5_gives_35 (by decide) ?_
  refine g_aload_n (pc := 37) F dX5_gives_37 rfl ?_
  refine g_iconst (pc := 38) F dX5_gives_38 (v := nI 5) rfl ?_
  refine g_iload_n (pc := 39) F dX5_gives_39 rfl ?_
  refine g_iaddN (pc := 40) F dX5_gives_40 ?_
  refine g_dup2 (pc := 41) F dX5_gives_41 rfl rfl ?_
  refine g_iald2 (pc := 42) F dX5_gives_42 rfl rfl (by first | omega | (simp only [ix]; omega)) (by decide) ?_
  refine g_iload (pc := 43) F dX5_gives_43 rfl ?_
  refine g_isub (pc := 45) F dX5_gives_45 ?_
  refine g_iast2 (pc := 46) F dX5_gives_46 rfl rfl (by first | omega | (simp only [ix]; omega)) (by decide) ?_
  refine g_aload_n (pc := 47) F dX5_gives_47 rfl ?_
  refine g_bipush (pc := 48) F dX5_gives_48 (v := nI 15) rfl ?_
  refine g_iload_n (pc := 50) F dX5_gives_50 rfl ?_
  refine g_iaddN (pc := 51) F dX5_gives_51 ?_
  refine g_dup2 (pc := 52) F dX5_gives_52 rfl rfl ?_
  refine g_iald2 (pc := 53) F dX5_gives_53 rfl rfl (by first | omega | (simp only [ix]; omega)) (by decide) ?_
  refine g_iload (pc := 54) F dX5_gives_54 rfl ?_
  refine g_isub (pc := 56) F dX5_gives_56 ?_
  refine g_iast2 (pc := 57) F dX5_gives_57 rfl rfl (by first | omega | (simp only [ix]; omega)) (by decide) ?_
  refine g_aload_n (pc := 58) F dX5_gives_58 rfl ?_
  refine g_iconst (pc := 59) F dX5_gives_59 (v := nI 3) rfl ?_
  refine g_dup2 (pc := 60) F dX5_gives_60 rfl rfl ?_
  refine g_iald2 (pc := 61) F dX5_gives_61 rfl rfl (by first | omega | (simp only [ix]; omega)) (by decide) ?_
  refine g_iload (pc := 62) F dX5_gives_62 rfl ?_
  refine g_iadd (pc := 64) F dX5_gives_64 ?_
  refine g_iast2 (pc := 65) F dX5_gives_65 rfl rfl (by first | omega | (simp only [ix]; omega)) (by decide) ?_
  refine g_aload_n (pc := 66) F dX5_gives_66 rfl ?_
  refine g_iconst (pc := 67) F dX5_gives_67 (v := nI 5) rfl ?_
  refine g_iload_n (pc := 68) F dX5_gives_68 rfl ?_
  refine g_iaddN (pc := 69) F dX5_gives_69 ?_
  refine g_dup2 (pc := 70) F dX5_gives_70 rfl rfl ?_
  refine g_iald2 (pc := 71) F dX5_gives_71 rfl rfl (by first | omega | (simp only [ix]; omega)) (by decide) ?_
  refine g_iload (pc := 72) F dX5_gives_72 rfl ?_
  refine g_iadd (pc := 74) F dX5_gives_74 ?_
  refine g_iast2 (pc := 75) F dX5_gives_75 rfl rfl (by first | omega | (simp only [ix]; omega)) (by decide) ?_
  exact g_vret (pc := 76) F X dX5_gives_76 (Nat.le_of_ble_eq_true rfl) (Nat.le_of_ble_eq_true rfl) rfl ⟨rfl, rfl⟩
end
section
/-! the reference's days, sums, fillings -/
abbrev A2 (r s : Nat → Int32) : Hp := [.inl (.int, 61, .inl r), .inl (.int, 61, .inl s)]
def cpy (r s : Nat → Int32) (i : Nat) : Nat → Int32 := fun j => if j < i then r j else s j
theorem cpy_0 (r s : Nat → Int32) : cpy r s 0 = s := funext fun j => if_neg (Nat.not_lt_zero j)
theorem cpy_s (r s : Nat → Int32) (i : Nat) : upd (cpy r s i) i (r i) = cpy r s (i + 1) := by
  funext j
  unfold upd cpy
  by_cases q : j = i
  · rw [if_pos q, if_pos (by omega), q]
  · rw [if_neg q]
    by_cases q2 : j < i
    · rw [if_pos q2, if_pos (by omega)]
    · rw [if_neg q2, if_neg (by omega)]
set_option maxRecDepth 100000 in
set_option maxHeartbeats 4000000 in
theorem c_copies (r s : Nat → Int32) : Ctr yX5_copies cX5_copies 3 none 0 0 0 [.ref 0, .ref 1] (A2 r s) (fun v h => v = none ∧ h = A2 r (cpy r s 61)) := by
  refine Ctr.of rfl (Nat.le_of_ble_eq_true rfl) ⟨clS_of rfl, clH_of rfl⟩ (fun K F X => ?_)
  have L : ∀ i, i ≤ 61 → Go K 0 0 2 [(0, .ref 0), (1, .ref 1), (2, .int (nI i))] [] (A2 r (cpy r s i)) := loop_up (P := fun i => Go K 0 0 2 [(0, .ref 0), (1, .ref 1), (2, .int (nI i))] [] (A2 r (cpy r s i))) (fun i hi ih => by
    refine g_iload_n (pc := 2) F dX5_copies_2 rfl ?_
    refine g_bipush (pc := 3) F dX5_copies_3 (v := nI 61) rfl ?_
    refine g_icN_ge (pc := 5) F dX5_copies_5 (tgt := 20) rfl rfl rfl (by omega) (by omega) (fun c_5 => ?_) (fun c_5 => ?_)
    · have hi9 : i = 61 := by omega
      subst hi9
      exact g_vret (pc := 20) F X dX5_copies_20 (Nat.le_of_ble_eq_true rfl) (Nat.le_of_ble_eq_true rfl) rfl ⟨rfl, rfl⟩
    · refine g_aload_n (pc := 8) F dX5_copies_8 rfl ?_
      refine g_iload_n (pc := 9) F dX5_copies_9 rfl ?_
      refine g_aload_n (pc := 10) F dX5_copies_10 rfl ?_
      refine g_iload_n (pc := 11) F dX5_copies_11 rfl ?_
      refine g_iald2 (pc := 12) F dX5_copies_12 rfl rfl (by first | omega | (simp only [ix]; omega)) (by decide) ?_
      refine g_iast2 (pc := 13) F dX5_copies_13 rfl rfl (by first | omega | (simp only [ix]; omega)) (by decide) ?_
      refine g_iincN (pc := 14) F dX5_copies_14 rfl (by decide) ?_
      refine g_goto (pc := 17) F dX5_copies_17 (tgt := 2) rfl ?_
      exact (congrArg (fun z => Go K 0 0 2 [(0, .ref 0), (1, .ref 1), (2, .int (nI (i + 1)))] [] (A2 r z)) ((cpy_s r s i).symm)).mp (ih c_5))
  show Go K 0 0 0 [(0, .ref 0), (1, .ref 1)] [] (A2 r s)
  refine g_iconst (pc := 0) F dX5_copies_0 (v := nI 0) rfl ?_
  refine g_istore_n (pc := 1) F dX5_copies_1 (by decide) ?_
  exact (congrArg (fun z => Go K 0 0 2 [(0, .ref 0), (1, .ref 1), (2, .int (nI 0))] [] (A2 r z)) (cpy_0 r s)).mp (L 0 (Nat.zero_le _))

set_option maxRecDepth 100000 in
set_option maxHeartbeats 4000000 in
theorem c_fillsIn (r : Nat → Int32) (x : Int32) (d : Nat) (v : Int32) (hx : x = nI d) (hd : d < 10) : Ctr yX5_fillsIn cX5_fillsIn 3 none 0 0 0 [.ref 0, .int x, .int v] (A1 r) (fun v2 h => v2 = none ∧ h = A1 (fillR r d v)) := by
  subst hx
  refine Ctr.of rfl (Nat.le_of_ble_eq_true rfl) ⟨clS_of rfl, clH_of rfl⟩ (fun K F X => ?_)
  show Go K 0 0 0 [(0, .ref 0), (1, .int (nI d)), (2, .int v)] [] (A1 r)
  refine g_aload_n (pc := 0) F dX5_fillsIn_0 rfl ?_
  refine g_iconst (pc := 1) F dX5_fillsIn_1 (v := nI 5) rfl ?_
  refine g_iload_n (pc := 2) F dX5_fillsIn_2 rfl ?_
  refine g_iaddN (pc := 3) F dX5_fillsIn_3 ?_
  refine g_iload_n (pc := 4) F dX5_fillsIn_4 rfl ?_
  refine g_iast2 (pc := 5) F dX5_fillsIn_5 rfl rfl (by first | omega | (simp only [ix]; omega)) (by decide) ?_
  refine g_aload_n (pc := 6) F dX5_fillsIn_6 rfl ?_
  refine g_bipush (pc := 7) F dX5_fillsIn_7 (v := nI 15) rfl ?_
  refine g_iload_n (pc := 9) F dX5_fillsIn_9 rfl ?_
  refine g_iaddN (pc := 10) F dX5_fillsIn_10 ?_
  refine g_iconst (pc := 11) F dX5_fillsIn_11 (v := nI 0) rfl ?_
  refine g_iast2 (pc := 12) F dX5_fillsIn_12 rfl rfl (by first | omega | (simp only [ix]; omega)) (by decide) ?_
  exact g_vret (pc := 13) F X dX5_fillsIn_13 (Nat.le_of_ble_eq_true rfl) (Nat.le_of_ble_eq_true rfl) rfl ⟨rfl, rfl⟩

set_option maxRecDepth 100000 in
set_option maxHeartbeats 4000000 in
theorem c_bits (s : Int32) : RCtr yX5_bits cX5_bits 3 (some .int) 0 [.int s] ([]) (.int (bitsR s)) := by
  refine Ctr.of rfl (Nat.le_of_ble_eq_true rfl) ⟨clS_of rfl, clH_of rfl⟩ (fun K F X => ?_)
  have L : ∀ i, i ≤ 10 → Go K 0 0 4 [(0, .int s), (1, .int (it (fun k n => n + (s >>> (nI k &&& 31) &&& nI 1)) i (nI 0))), (2, .int (nI i))] [] [] := loop_up (P := fun i => Go K 0 0 4 [(0, .int s), (1, .int (it (fun k n => n + (s >>> (nI k &&& 31) &&& nI 1)) i (nI 0))), (2, .int (nI i))] [] []) (fun i hi ih => by
    refine g_iload_n (pc := 4) F dX5_bits_4 rfl ?_
    refine g_bipush (pc := 5) F dX5_bits_5 (v := nI 10) rfl ?_
    refine g_icN_ge (pc := 7) F dX5_bits_7 (tgt := 24) rfl rfl rfl (by omega) (by omega) (fun c_7 => ?_) (fun c_7 => ?_)
    · have hi9 : i = 10 := by omega
      subst hi9
      refine g_iload_n (pc := 24) F dX5_bits_24 rfl ?_
      exact g_iret (pc := 25) F X dX5_bits_25 (Nat.le_of_ble_eq_true rfl) (Nat.le_of_ble_eq_true rfl) rfl ⟨rfl, rfl⟩
    · refine g_iload_n (pc := 10) F dX5_bits_10 rfl ?_
      refine g_iload_n (pc := 11) F dX5_bits_11 rfl ?_
      refine g_iload_n (pc := 12) F dX5_bits_12 rfl ?_
      refine g_ishr (pc := 13) F dX5_bits_13 ?_
      refine g_iconst (pc := 14) F dX5_bits_14 (v := nI 1) rfl ?_
      refine g_iand (pc := 15) F dX5_bits_15 ?_
      refine g_iadd (pc := 16) F dX5_bits_16 ?_
      refine g_istore_n (pc := 17) F dX5_bits_17 (by decide) ?_
      refine g_iincN (pc := 18) F dX5_bits_18 rfl (by decide) ?_
      refine g_goto (pc := 21) F dX5_bits_21 (tgt := 4) rfl ?_
      exact (congrArg (fun z => Go K 0 0 4 [(0, .int s), (1, .int z), (2, .int (nI (i + 1)))] [] []) (it_succ (fun k n => n + (s >>> (nI k &&& 31) &&& nI 1)) i (nI 0))).mp (ih c_7))
  show Go K 0 0 0 [(0, .int s)] [] ([])
  refine g_iconst (pc := 0) F dX5_bits_0 (v := nI 0) rfl ?_
  refine g_istore_n (pc := 1) F dX5_bits_1 (by decide) ?_
  refine g_iconst (pc := 2) F dX5_bits_2 (v := nI 0) rfl ?_
  refine g_istore_n (pc := 3) F dX5_bits_3 (by decide) ?_
  exact L 0 (Nat.zero_le _)

set_option maxRecDepth 100000 in
set_option maxHeartbeats 4000000 in
theorem c_doneSet (r : Nat → Int32) : RCtr yX5_doneSet cX5_doneSet 3 (some .int) 1 [.ref 0] (A1 r) (.int (doneR r)) := by
  refine Ctr.of rfl (Nat.le_of_ble_eq_true rfl) ⟨clS_of rfl, clH_of rfl⟩ (fun K F X => ?_)
  have L : ∀ i, i ≤ 10 → Go K 0 0 4 [(0, .ref 0), (1, .int (it (fun d s => s ||| (if lf r d = 0 then nI 1 <<< (nI d &&& 31) else nI 0)) i (nI 0))), (2, .int (nI (i)))] [] (A1 r) := loop_up (P := fun i => Go K 0 0 4 [(0, .ref 0), (1, .int (it (fun d s => s ||| (if lf r d = 0 then nI 1 <<< (nI d &&& 31) else nI 0)) i (nI 0))), (2, .int (nI (i)))] [] (A1 r)) (fun i hi ih => by
    refine g_iload_n (pc := 4) F dX5_doneSet_4 rfl ?_
    refine g_bipush (pc := 5) F dX5_doneSet_5 (v := nI 10) rfl ?_
    refine g_icN_ge (pc := 7) F dX5_doneSet_7 (tgt := 34) rfl rfl rfl (by omega) (by omega) (fun c_7 => ?_) (fun c_7 => ?_)
    · have hi9 : i = 10 := by omega
      subst hi9
      refine g_iload_n (pc := 34) F dX5_doneSet_34 rfl ?_
      exact g_iret (pc := 35) F X dX5_doneSet_35 (Nat.le_of_ble_eq_true rfl) (Nat.le_of_ble_eq_true rfl) rfl ⟨rfl, rfl⟩
    · refine g_iload_n (pc := 10) F dX5_doneSet_10 rfl ?_
      refine g_aload_n (pc := 11) F dX5_doneSet_11 rfl ?_
      refine g_iload_n (pc := 12) F dX5_doneSet_12 rfl ?_
      refine h_readS (pc := 13) F (c_left r _ i rfl (by omega)) mi_X5_left ks_X5_51 dX5_doneSet_13 [0] rfl (by decide) (by decide) rfl rfl (Nat.le_of_ble_eq_true rfl) trivial (by decide) (by decide) ?_
      refine g_if_ne (pc := 16) F dX5_doneSet_16 (tgt := 25) rfl (fun c_16 => ?_) (fun c_16 => ?_)
      · refine g_iconst (pc := 25) F dX5_doneSet_25 (v := nI 0) rfl ?_
        refine g_ior (pc := 26) F dX5_doneSet_26 ?_
        refine g_istore_n (pc := 27) F dX5_doneSet_27 (by decide) ?_
        refine g_iincN (pc := 28) F dX5_doneSet_28 rfl (by decide) ?_
        refine g_goto (pc := 31) F dX5_doneSet_31 (tgt := 4) rfl ?_
        first
          | exact (congrArg (fun z => Go K 0 0 4 [(0, .ref 0), (1, .int (z)), (2, .int (nI (i + 1)))] [] (A1 r)) ((it_succ (fun d s => s ||| (if lf r d = 0 then nI 1 <<< (nI d &&& 31) else nI 0)) i (nI 0)).trans (congrArg (fun z => it (fun d s => s ||| (if lf r d = 0 then nI 1 <<< (nI d &&& 31) else nI 0)) i (nI 0) ||| z) (if_pos c_16)))).mp (ih c_7)
          | exact (congrArg (fun z => Go K 0 0 4 [(0, .ref 0), (1, .int (z)), (2, .int (nI (i + 1)))] [] (A1 r)) ((it_succ (fun d s => s ||| (if lf r d = 0 then nI 1 <<< (nI d &&& 31) else nI 0)) i (nI 0)).trans (congrArg (fun z => it (fun d s => s ||| (if lf r d = 0 then nI 1 <<< (nI d &&& 31) else nI 0)) i (nI 0) ||| z) (if_neg c_16)))).mp (ih c_7)
      · refine g_iconst (pc := 19) F dX5_doneSet_19 (v := nI 1) rfl ?_
        refine g_iload_n (pc := 20) F dX5_doneSet_20 rfl ?_
        refine g_ishl (pc := 21) F dX5_doneSet_21 ?_
        refine g_goto (pc := 22) F dX5_doneSet_22 (tgt := 26) rfl ?_
        refine g_ior (pc := 26) F dX5_doneSet_26 ?_
        refine g_istore_n (pc := 27) F dX5_doneSet_27 (by decide) ?_
        refine g_iincN (pc := 28) F dX5_doneSet_28 rfl (by decide) ?_
        refine g_goto (pc := 31) F dX5_doneSet_31 (tgt := 4) rfl ?_
        first
          | exact (congrArg (fun z => Go K 0 0 4 [(0, .ref 0), (1, .int (z)), (2, .int (nI (i + 1)))] [] (A1 r)) ((it_succ (fun d s => s ||| (if lf r d = 0 then nI 1 <<< (nI d &&& 31) else nI 0)) i (nI 0)).trans (congrArg (fun z => it (fun d s => s ||| (if lf r d = 0 then nI 1 <<< (nI d &&& 31) else nI 0)) i (nI 0) ||| z) (if_pos c_16)))).mp (ih c_7)
          | exact (congrArg (fun z => Go K 0 0 4 [(0, .ref 0), (1, .int (z)), (2, .int (nI (i + 1)))] [] (A1 r)) ((it_succ (fun d s => s ||| (if lf r d = 0 then nI 1 <<< (nI d &&& 31) else nI 0)) i (nI 0)).trans (congrArg (fun z => it (fun d s => s ||| (if lf r d = 0 then nI 1 <<< (nI d &&& 31) else nI 0)) i (nI 0) ||| z) (if_neg c_16)))).mp (ih c_7))
  show Go K 0 0 0 [(0, .ref 0)] [] (A1 r)
  refine g_iconst (pc := 0) F dX5_doneSet_0 (v := nI 0) rfl ?_
  refine g_istore_n (pc := 1) F dX5_doneSet_1 (by decide) ?_
  refine g_iconst (pc := 2) F dX5_doneSet_2 (v := nI 0) rfl ?_
  refine g_istore_n (pc := 3) F dX5_doneSet_3 (by decide) ?_
  exact L 0 (Nat.zero_le _)

set_option maxRecDepth 100000 in
set_option maxHeartbeats 4000000 in
theorem c_booksOf (r : Nat → Int32) (way : Int32) (hI : Iv r) : RCtr yX5_booksOf cX5_booksOf 4 (some .int) 1 [.ref 0, .int way] (A1 r) (.int (booksR r way)) := by
  have hm6 := hI.1.2
  refine Ctr.of rfl (Nat.le_of_ble_eq_true rfl) ⟨clS_of rfl, clH_of rfl⟩ (fun K F X => ?_)
  have L : ∀ i, i ≤ many r → Go K 0 0 4 [(0, .ref 0), (1, .int way), (2, .int (it (fun c v => v + (if way < 0 ∨ r (ix c 3) = way then r (ix c 4) else nI 0)) i (nI 0))), (3, .int (nI (i)))] [] (A1 r) := loop_up (P := fun i => Go K 0 0 4 [(0, .ref 0), (1, .int way), (2, .int (it (fun c v => v + (if way < 0 ∨ r (ix c 3) = way then r (ix c 4) else nI 0)) i (nI 0))), (3, .int (nI (i)))] [] (A1 r)) (fun i hi ih => by
    refine g_iload_n (pc := 4) F dX5_booksOf_4 rfl ?_
    refine g_aload_n (pc := 5) F dX5_booksOf_5 rfl ?_
    refine g_iconst (pc := 6) F dX5_booksOf_6 (v := nI 0) rfl ?_
    refine g_iald2 (pc := 7) F dX5_booksOf_7 rfl rfl (by first | omega | (simp only [ix]; omega)) (by decide) ?_
    refine g_icN_ge (pc := 8) F dX5_booksOf_8 (tgt := 46) rfl rfl hI.1.1 (by omega) (by omega) (fun c_8 => ?_) (fun c_8 => ?_)
    · have hi9 : i = many r := by omega
      subst hi9
      refine g_iload_n (pc := 46) F dX5_booksOf_46 rfl ?_
      exact g_iret (pc := 47) F X dX5_booksOf_47 (Nat.le_of_ble_eq_true rfl) (Nat.le_of_ble_eq_true rfl) rfl ⟨rfl, rfl⟩
    · refine g_iload_n (pc := 11) F dX5_booksOf_11 rfl ?_
      refine g_iload_n (pc := 12) F dX5_booksOf_12 rfl ?_
      refine g_if_lt (pc := 13) F dX5_booksOf_13 (tgt := 27) rfl (fun c_13 => ?_) (fun c_13 => ?_)
      · refine g_aload_n (pc := 27) F dX5_booksOf_27 rfl ?_
        refine g_iload_n (pc := 28) F dX5_booksOf_28 rfl ?_
        refine g_iconst (pc := 29) F dX5_booksOf_29 (v := nI 4) rfl ?_
        refine h_readS (pc := 30) F (c_of _ _) mi_X5_of ks_X5_47 dX5_booksOf_30 [] rfl (by decide) (by decide) rfl rfl (Nat.le_of_ble_eq_true rfl) trivial (by decide) (by decide) ?_
        refine g_iald2 (pc := 33) F dX5_booksOf_33 rfl rfl (by first | omega | (simp only [ix]; omega)) (by decide) ?_
        refine g_goto (pc := 34) F dX5_booksOf_34 (tgt := 38) rfl ?_
        refine g_iadd (pc := 38) F dX5_booksOf_38 ?_
        refine g_istore_n (pc := 39) F dX5_booksOf_39 (by decide) ?_
        refine g_iincN (pc := 40) F dX5_booksOf_40 rfl (by decide) ?_
        refine g_goto (pc := 43) F dX5_booksOf_43 (tgt := 4) rfl ?_
        first
          | exact (congrArg (fun z => Go K 0 0 4 [(0, .ref 0), (1, .int way), (2, .int (z)), (3, .int (nI (i + 1)))] [] (A1 r)) ((it_succ (fun c v => v + (if way < 0 ∨ r (ix c 3) = way then r (ix c 4) else nI 0)) i (nI 0)).trans (congrArg (fun z => it (fun c v => v + (if way < 0 ∨ r (ix c 3) = way then r (ix c 4) else nI 0)) i (nI 0) + z) (if_pos (Or.inl c_13))))).mp (ih c_8)
          | exact (congrArg (fun z => Go K 0 0 4 [(0, .ref 0), (1, .int way), (2, .int (z)), (3, .int (nI (i + 1)))] [] (A1 r)) ((it_succ (fun c v => v + (if way < 0 ∨ r (ix c 3) = way then r (ix c 4) else nI 0)) i (nI 0)).trans (congrArg (fun z => it (fun c v => v + (if way < 0 ∨ r (ix c 3) = way then r (ix c 4) else nI 0)) i (nI 0) + z) (if_pos (Or.inr c_24))))).mp (ih c_8)
          | exact (congrArg (fun z => Go K 0 0 4 [(0, .ref 0), (1, .int way), (2, .int (z)), (3, .int (nI (i + 1)))] [] (A1 r)) ((it_succ (fun c v => v + (if way < 0 ∨ r (ix c 3) = way then r (ix c 4) else nI 0)) i (nI 0)).trans (congrArg (fun z => it (fun c v => v + (if way < 0 ∨ r (ix c 3) = way then r (ix c 4) else nI 0)) i (nI 0) + z) (if_neg (fun h => h.elim c_13 c_24))))).mp (ih c_8)
      · refine g_aload_n (pc := 16) F dX5_booksOf_16 rfl ?_
        refine g_iload_n (pc := 17) F dX5_booksOf_17 rfl ?_
        refine g_iconst (pc := 18) F dX5_booksOf_18 (v := nI 3) rfl ?_
        refine h_readS (pc := 19) F (c_of _ _) mi_X5_of ks_X5_47 dX5_booksOf_19 [] rfl (by decide) (by decide) rfl rfl (Nat.le_of_ble_eq_true rfl) trivial (by decide) (by decide) ?_
        refine g_iald2 (pc := 22) F dX5_booksOf_22 rfl rfl (by first | omega | (simp only [ix]; omega)) (by decide) ?_
        refine g_iload_n (pc := 23) F dX5_booksOf_23 rfl ?_
        refine g_ic_ne (pc := 24) F dX5_booksOf_24 (tgt := 37) rfl (fun c_24 => ?_) (fun c_24 => ?_)
        · refine g_iconst (pc := 37) F dX5_booksOf_37 (v := nI 0) rfl ?_
          refine g_iadd (pc := 38) F dX5_booksOf_38 ?_
          refine g_istore_n (pc := 39) F dX5_booksOf_39 (by decide) ?_
          refine g_iincN (pc := 40) F dX5_booksOf_40 rfl (by decide) ?_
          refine g_goto (pc := 43) F dX5_booksOf_43 (tgt := 4) rfl ?_
          first
            | exact (congrArg (fun z => Go K 0 0 4 [(0, .ref 0), (1, .int way), (2, .int (z)), (3, .int (nI (i + 1)))] [] (A1 r)) ((it_succ (fun c v => v + (if way < 0 ∨ r (ix c 3) = way then r (ix c 4) else nI 0)) i (nI 0)).trans (congrArg (fun z => it (fun c v => v + (if way < 0 ∨ r (ix c 3) = way then r (ix c 4) else nI 0)) i (nI 0) + z) (if_pos (Or.inl c_13))))).mp (ih c_8)
            | exact (congrArg (fun z => Go K 0 0 4 [(0, .ref 0), (1, .int way), (2, .int (z)), (3, .int (nI (i + 1)))] [] (A1 r)) ((it_succ (fun c v => v + (if way < 0 ∨ r (ix c 3) = way then r (ix c 4) else nI 0)) i (nI 0)).trans (congrArg (fun z => it (fun c v => v + (if way < 0 ∨ r (ix c 3) = way then r (ix c 4) else nI 0)) i (nI 0) + z) (if_pos (Or.inr c_24))))).mp (ih c_8)
            | exact (congrArg (fun z => Go K 0 0 4 [(0, .ref 0), (1, .int way), (2, .int (z)), (3, .int (nI (i + 1)))] [] (A1 r)) ((it_succ (fun c v => v + (if way < 0 ∨ r (ix c 3) = way then r (ix c 4) else nI 0)) i (nI 0)).trans (congrArg (fun z => it (fun c v => v + (if way < 0 ∨ r (ix c 3) = way then r (ix c 4) else nI 0)) i (nI 0) + z) (if_neg (fun h => h.elim c_13 c_24))))).mp (ih c_8)
        · refine g_aload_n (pc := 27) F dX5_booksOf_27 rfl ?_
          refine g_iload_n (pc := 28) F dX5_booksOf_28 rfl ?_
          refine g_iconst (pc := 29) F dX5_booksOf_29 (v := nI 4) rfl ?_
          refine h_readS (pc := 30) F (c_of _ _) mi_X5_of ks_X5_47 dX5_booksOf_30 [] rfl (by decide) (by decide) rfl rfl (Nat.le_of_ble_eq_true rfl) trivial (by decide) (by decide) ?_
          refine g_iald2 (pc := 33) F dX5_booksOf_33 rfl rfl (by first | omega | (simp only [ix]; omega)) (by decide) ?_
          refine g_goto (pc := 34) F dX5_booksOf_34 (tgt := 38) rfl ?_
          refine g_iadd (pc := 38) F dX5_booksOf_38 ?_
          refine g_istore_n (pc := 39) F dX5_booksOf_39 (by decide) ?_
          refine g_iincN (pc := 40) F dX5_booksOf_40 rfl (by decide) ?_
          refine g_goto (pc := 43) F dX5_booksOf_43 (tgt := 4) rfl ?_
          first
            | exact (congrArg (fun z => Go K 0 0 4 [(0, .ref 0), (1, .int way), (2, .int (z)), (3, .int (nI (i + 1)))] [] (A1 r)) ((it_succ (fun c v => v + (if way < 0 ∨ r (ix c 3) = way then r (ix c 4) else nI 0)) i (nI 0)).trans (congrArg (fun z => it (fun c v => v + (if way < 0 ∨ r (ix c 3) = way then r (ix c 4) else nI 0)) i (nI 0) + z) (if_pos (Or.inl c_13))))).mp (ih c_8)
            | exact (congrArg (fun z => Go K 0 0 4 [(0, .ref 0), (1, .int way), (2, .int (z)), (3, .int (nI (i + 1)))] [] (A1 r)) ((it_succ (fun c v => v + (if way < 0 ∨ r (ix c 3) = way then r (ix c 4) else nI 0)) i (nI 0)).trans (congrArg (fun z => it (fun c v => v + (if way < 0 ∨ r (ix c 3) = way then r (ix c 4) else nI 0)) i (nI 0) + z) (if_pos (Or.inr c_24))))).mp (ih c_8)
            | exact (congrArg (fun z => Go K 0 0 4 [(0, .ref 0), (1, .int way), (2, .int (z)), (3, .int (nI (i + 1)))] [] (A1 r)) ((it_succ (fun c v => v + (if way < 0 ∨ r (ix c 3) = way then r (ix c 4) else nI 0)) i (nI 0)).trans (congrArg (fun z => it (fun c v => v + (if way < 0 ∨ r (ix c 3) = way then r (ix c 4) else nI 0)) i (nI 0) + z) (if_neg (fun h => h.elim c_13 c_24))))).mp (ih c_8))
  show Go K 0 0 0 [(0, .ref 0), (1, .int way)] [] (A1 r)
  refine g_iconst (pc := 0) F dX5_booksOf_0 (v := nI 0) rfl ?_
  refine g_istore_n (pc := 1) F dX5_booksOf_1 (by decide) ?_
  refine g_iconst (pc := 2) F dX5_booksOf_2 (v := nI 0) rfl ?_
  refine g_istore_n (pc := 3) F dX5_booksOf_3 (by decide) ?_
  exact L 0 (Nat.zero_le _)

set_option maxRecDepth 100000 in
set_option maxHeartbeats 4000000 in
theorem c_floods (r : Nat → Int32) (hI : Iv r) : Ctr yX5_floods cX5_floods 2 none 1 0 0 [.ref 0] (A1 r) (fun v h => v = none ∧ h = A1 (floodR r)) := by
  have hm6 := hI.1.2
  refine Ctr.of rfl (Nat.le_of_ble_eq_true rfl) ⟨clS_of rfl, clH_of rfl⟩ (fun K F X => ?_)
  have L2 : ∀ i, i ≤ many r → Go K 0 0 23 [(0, .ref 0), (1, .int (nI i))] [] (A1 (it (fun c r => upd r (ix c 4) (nI 0)) i (it (fun d r => upd r (15 + d) (nI 0)) 10 r))) := loop_up (P := fun i => Go K 0 0 23 [(0, .ref 0), (1, .int (nI i))] [] (A1 (it (fun c r => upd r (ix c 4) (nI 0)) i (it (fun d r => upd r (15 + d) (nI 0)) 10 r)))) (fun i hi ih => by
    have ei : it (fun c r => upd r (ix c 4) (nI 0)) i (it (fun d r => upd r (15 + d) (nI 0)) 10 r) 0 = nI (many r) := ((flood2_ok (flood1_ok hI 10 (by omega)).1 i).2 0 (by omega)).trans (((flood1_ok hI 10 (by omega)).2 0 (by omega)).trans hI.1.1)
    refine g_iload_n (pc := 23) F dX5_floods_23 rfl ?_
    refine g_aload_n (pc := 24) F dX5_floods_24 rfl ?_
    refine g_iconst (pc := 25) F dX5_floods_25 (v := nI 0) rfl ?_
    refine g_iald2 (pc := 26) F dX5_floods_26 rfl rfl (by first | omega | (simp only [ix]; omega)) (by decide) ?_
    refine g_icN_ge (pc := 27) F dX5_floods_27 (tgt := 44) rfl rfl ei (by omega) (by omega) (fun c_27 => ?_) (fun c_27 => ?_)
    · have hi9 : i = many r := by omega
      subst hi9
      exact g_vret (pc := 44) F X dX5_floods_44 (Nat.le_of_ble_eq_true rfl) (Nat.le_of_ble_eq_true rfl) rfl ⟨rfl, rfl⟩
    · refine g_aload_n (pc := 30) F dX5_floods_30 rfl ?_
      refine g_iload_n (pc := 31) F dX5_floods_31 rfl ?_
      refine g_iconst (pc := 32) F dX5_floods_32 (v := nI 4) rfl ?_
      refine h_readS (pc := 33) F (c_of _ _) mi_X5_of ks_X5_47 dX5_floods_33 [] rfl (by decide) (by decide) rfl rfl (Nat.le_of_ble_eq_true rfl) trivial (by decide) (by decide) ?_
      refine g_iconst (pc := 36) F dX5_floods_36 (v := nI 0) rfl ?_
      refine g_iast2 (pc := 37) F dX5_floods_37 rfl rfl (by first | omega | (simp only [ix]; omega)) (by decide) ?_
      refine g_iincN (pc := 38) F dX5_floods_38 rfl (by decide) ?_
      refine g_goto (pc := 41) F dX5_floods_41 (tgt := 23) rfl ?_
      exact ih c_27)
  have L1 : ∀ i, i ≤ 10 → Go K 0 0 2 [(0, .ref 0), (1, .int (nI i))] [] (A1 (it (fun d r => upd r (15 + d) (nI 0)) i r)) := loop_up (P := fun i => Go K 0 0 2 [(0, .ref 0), (1, .int (nI i))] [] (A1 (it (fun d r => upd r (15 + d) (nI 0)) i r))) (fun i hi ih => by
    refine g_iload_n (pc := 2) F dX5_floods_2 rfl ?_
    refine g_bipush (pc := 3) F dX5_floods_3 (v := nI 10) rfl ?_
    refine g_icN_ge (pc := 5) F dX5_floods_5 (tgt := 21) rfl rfl rfl (by omega) (by omega) (fun c_5 => ?_) (fun c_5 => ?_)
    · have hi9 : i = 10 := by omega
      subst hi9
      refine g_iconst (pc := 21) F dX5_floods_21 (v := nI 0) rfl ?_
      refine g_istore_n (pc := 22) F dX5_floods_22 (by decide) ?_
      exact L2 0 (Nat.zero_le _)
    · refine g_aload_n (pc := 8) F dX5_floods_8 rfl ?_
      refine g_bipush (pc := 9) F dX5_floods_9 (v := nI 15) rfl ?_
      refine g_iload_n (pc := 11) F dX5_floods_11 rfl ?_
      refine g_iaddN (pc := 12) F dX5_floods_12 ?_
      refine g_iconst (pc := 13) F dX5_floods_13 (v := nI 0) rfl ?_
      refine g_iast2 (pc := 14) F dX5_floods_14 rfl rfl (by first | omega | (simp only [ix]; omega)) (by decide) ?_
      refine g_iincN (pc := 15) F dX5_floods_15 rfl (by decide) ?_
      refine g_goto (pc := 18) F dX5_floods_18 (tgt := 2) rfl ?_
      exact ih c_5)
  show Go K 0 0 0 [(0, .ref 0)] [] (A1 r)
  refine g_iconst (pc := 0) F dX5_floods_0 (v := nI 0) rfl ?_
  refine g_istore_n (pc := 1) F dX5_floods_1 (by decide) ?_
  exact L1 0 (Nat.zero_le _)
end
section
set_option maxRecDepth 100000 in
set_option maxHeartbeats 4000000 in
theorem c_day (r : Nat → Int32) (w : Int32) (hI : Iv r) : Ctr yX5_day cX5_day 3 none 4 0 0 [.ref 0, .int w] (A1 r) (fun v h => v = none ∧ h = A1 (dayR r w)) := by
  have hm : many (upd r 1 (r 1 + nI 1)) = many r := many_upd (by decide)
  have hI0 : Iv (upd r 1 (r 1 + nI 1)) := Iv_free hI (Or.inl rfl)
  have hm6 := hI.1.2
  have hI1 : Iv (allWork (upd r 1 (r 1 + nI 1))) := (allWork_ok hI0 _ (Nat.le_refl _)).1
  refine Ctr.of rfl (Nat.le_of_ble_eq_true rfl) ⟨clS_of rfl, clH_of rfl⟩ (fun K F X => ?_)
  have E53 : ∀ (q z : Int32), ¬ w < 0 → q = z → ∀ s, s = dayR r w → Go K 0 0 53 [(0, .ref 0), (1, .int w), (2, .int z)] [] (A1 s) := fun q z hw _ s hs => by
    refine g_iconst (pc := 53) F dX5_day_53 (v := nI 1) rfl ?_
    refine g_istore_n (pc := 54) F dX5_day_54 (by decide) ?_
    refine g_iload_n (pc := 55) F dX5_day_55 rfl ?_
    refine g_bipush (pc := 56) F dX5_day_56 (v := nI 10) rfl ?_
    refine g_icN_ge (pc := 58) F dX5_day_58 (tgt := 81) rfl rfl rfl (by omega) (by omega) (fun c_58 => absurd c_58 (by omega)) (fun c_58 => ?_)
    refine g_iload_n (pc := 61) F dX5_day_61 rfl ?_
    refine g_if_ge (pc := 62) F dX5_day_62 (tgt := 81) rfl (fun c_62 => ?_) (fun c_62 => absurd (Int32.not_lt.mp hw) c_62)
    exact g_vret (pc := 81) F X dX5_day_81 (Nat.le_of_ble_eq_true rfl) (Nat.le_of_ble_eq_true rfl) rfl ⟨rfl, congrArg A1 hs⟩
  have L3 : w < 0 → ∀ i, i ≤ 9 → Go K 0 0 55 [(0, .ref 0), (1, .int w), (2, .int (nI (i + 1)))] [] (A1 (it (fun j r => givesR r (j + 1) j (-w)) i (allWork (upd r 1 (r 1 + nI 1))))) := fun hw => loop_up (P := fun i => Go K 0 0 55 [(0, .ref 0), (1, .int w), (2, .int (nI (i + 1)))] [] (A1 (it (fun j r => givesR r (j + 1) j (-w)) i (allWork (upd r 1 (r 1 + nI 1)))))) (fun i hi ih => by
    refine g_iload_n (pc := 55) F dX5_day_55 rfl ?_
    refine g_bipush (pc := 56) F dX5_day_56 (v := nI 10) rfl ?_
    refine g_icN_ge (pc := 58) F dX5_day_58 (tgt := 81) rfl rfl rfl (by omega) (by omega) (fun c_58 => ?_) (fun c_58 => ?_)
    · exact g_vret (pc := 81) F X dX5_day_81 (Nat.le_of_ble_eq_true rfl) (Nat.le_of_ble_eq_true rfl) rfl ⟨rfl, congrArg A1 (by obtain rfl : i = 9 := (by omega); unfold dayR blowR; rw [if_neg (fun h => Int32.lt_irrefl (Int32.lt_trans h hw)), if_pos hw]; rfl)⟩
    · refine g_iload_n (pc := 61) F dX5_day_61 rfl ?_
      refine g_if_ge (pc := 62) F dX5_day_62 (tgt := 81) rfl (fun c_62 => absurd hw (Int32.not_lt.mpr c_62)) (fun c_62 => ?_)
      refine g_aload_n (pc := 65) F dX5_day_65 rfl ?_
      refine g_iload_n (pc := 66) F dX5_day_66 rfl ?_
      refine g_iload_n (pc := 67) F dX5_day_67 rfl ?_
      refine g_iconst (pc := 68) F dX5_day_68 (v := nI 1) rfl ?_
      refine g_isubN (pc := 69) F dX5_day_69 (by omega) ?_
      refine g_iload_n (pc := 70) F dX5_day_70 rfl ?_
      refine g_ineg (pc := 71) F dX5_day_71 ?_
      refine h_callS (pc := 72) F (c_gives _ _ _ _ (i + 1) i rfl rfl (by omega) (by omega)) mi_X5_gives ks_X5_92 dX5_day_72 [0] rfl (by decide) (by decide) rfl rfl (Nat.le_of_ble_eq_true rfl) (by decide) (by decide) ?_
      rintro _ _ ⟨rfl, rfl⟩ -
      refine g_iincN (pc := 75) F dX5_day_75 rfl (by decide) ?_
      refine g_goto (pc := 78) F dX5_day_78 (tgt := 55) rfl ?_
      exact ih (by omega))
  have L2 : 0 < w → ∀ m, m ≤ 9 → Go K 0 0 30 [(0, .ref 0), (1, .int w), (2, .int (dnI m))] [] (A1 (it (fun j r => givesR r (8 - j) (8 - j + 1) w) (9 - m) (allWork (upd r 1 (r 1 + nI 1))))) := by
    intro hw m
    induction m with
    | zero =>
      intro _
      show Go K 0 0 30 [(0, .ref 0), (1, .int w), (2, .int (-1))] [] (A1 (it (fun j r => givesR r (8 - j) (8 - j + 1) w) 9 (allWork (upd r 1 (r 1 + nI 1)))))
      refine g_iload_n (pc := 30) F dX5_day_30 rfl ?_
      refine g_if_lt (pc := 31) F dX5_day_31 (tgt := 53) rfl (fun c_31 => ?_) (fun c_31 => absurd (by decide) c_31)
      exact E53 _ _ (fun h => Int32.lt_irrefl (Int32.lt_trans h hw)) rfl _ (by unfold dayR blowR; rw [if_pos hw]; rfl)
    | succ m ih =>
      intro hm9
      show Go K 0 0 30 [(0, .ref 0), (1, .int w), (2, .int (nI m))] [] (A1 (it (fun j r => givesR r (8 - j) (8 - j + 1) w) (9 - (m + 1)) (allWork (upd r 1 (r 1 + nI 1)))))
      refine g_iload_n (pc := 30) F dX5_day_30 rfl ?_
      refine g_if_lt (pc := 31) F dX5_day_31 (tgt := 53) rfl (fun c_31 => absurd c_31 (nI_pos (by omega))) (fun c_31 => ?_)
      refine g_iload_n (pc := 34) F dX5_day_34 rfl ?_
      refine g_if_le (pc := 35) F dX5_day_35 (tgt := 53) rfl (fun c_35 => absurd hw (Int32.not_lt.mpr c_35)) (fun c_35 => ?_)
      refine g_aload_n (pc := 38) F dX5_day_38 rfl ?_
      refine g_iload_n (pc := 39) F dX5_day_39 rfl ?_
      refine g_iload_n (pc := 40) F dX5_day_40 rfl ?_
      refine g_iconst (pc := 41) F dX5_day_41 (v := nI 1) rfl ?_
      refine g_iaddN (pc := 42) F dX5_day_42 ?_
      refine g_iload_n (pc := 43) F dX5_day_43 rfl ?_
      refine h_callS (pc := 44) F (c_gives _ _ _ _ m (m + 1) rfl rfl (by omega) (by omega)) mi_X5_gives ks_X5_92 dX5_day_44 [0] rfl (by decide) (by decide) rfl rfl (Nat.le_of_ble_eq_true rfl) (by decide) (by decide) ?_
      rintro _ _ ⟨rfl, rfl⟩ -
      refine g_iinc (pc := 47) F dX5_day_47 rfl (dnI_dec m) (by decide) ?_
      refine g_goto (pc := 50) F dX5_day_50 (tgt := 30) rfl ?_
      have e1 : 9 - m = 9 - (m + 1) + 1 := by omega
      have e2 : 8 - (9 - (m + 1)) = m := by omega
      have g := ih (by omega)
      rw [e1, it_succ, e2] at g
      exact g
  have L1 : ∀ i, i ≤ many r → Go K 0 0 9 [(0, .ref 0), (1, .int w), (2, .int (nI i))] [] (A1 (it (fun c r => worksR r c) i (upd r 1 (r 1 + nI 1)))) := loop_up (P := fun i => Go K 0 0 9 [(0, .ref 0), (1, .int w), (2, .int (nI i))] [] (A1 (it (fun c r => worksR r c) i (upd r 1 (r 1 + nI 1))))) (fun i hi ih => by
    obtain ⟨g1, g2⟩ := allWork_ok hI0 i (by rw [hm]; exact hi)
    have ei : it (fun c r => worksR r c) i (upd r 1 (r 1 + nI 1)) 0 = nI (many r) := (g2 0 (by omega)).trans ((upd_ne _ (by decide)).trans hI.1.1)
    have em : many (it (fun c r => worksR r c) i (upd r 1 (r 1 + nI 1))) = many r := (many_of (g2 0 (by omega))).trans hm
    refine g_iload_n (pc := 9) F dX5_day_9 rfl ?_
    refine g_aload_n (pc := 10) F dX5_day_10 rfl ?_
    refine g_iconst (pc := 11) F dX5_day_11 (v := nI 0) rfl ?_
    refine g_iald2 (pc := 12) F dX5_day_12 rfl rfl (by first | omega | (simp only [ix]; omega)) (by decide) ?_
    refine g_icN_ge (pc := 13) F dX5_day_13 (tgt := 27) rfl rfl ei (by omega) (by omega) (fun c_13 => ?_) (fun c_13 => ?_)
    · have hi9 : i = many r := by omega
      subst hi9
      rw [show it (fun c r => worksR r c) (many r) (upd r 1 (r 1 + nI 1)) = allWork (upd r 1 (r 1 + nI 1)) from by unfold allWork; rw [hm]]
      refine g_bipush (pc := 27) F dX5_day_27 (v := nI 8) rfl ?_
      refine g_istore_n (pc := 29) F dX5_day_29 (by decide) ?_
      by_cases hw : 0 < w
      · exact L2 hw 9 (Nat.le_refl _)
      · refine g_iload_n (pc := 30) F dX5_day_30 rfl ?_
        refine g_if_lt (pc := 31) F dX5_day_31 (tgt := 53) rfl (fun c_31 => absurd c_31 (by decide)) (fun _ => ?_)
        refine g_iload_n (pc := 34) F dX5_day_34 rfl ?_
        refine g_if_le (pc := 35) F dX5_day_35 (tgt := 53) rfl (fun _ => ?_) (fun c_35 => absurd (Int32.not_le.mp c_35) hw)
        by_cases hw2 : w < 0
        · refine g_iconst (pc := 53) F dX5_day_53 (v := nI 1) rfl ?_
          refine g_istore_n (pc := 54) F dX5_day_54 (by decide) ?_
          exact L3 hw2 0 (Nat.zero_le _)
        · exact E53 _ _ hw2 rfl _ (by unfold dayR blowR; rw [if_neg hw, if_neg hw2])
    · refine g_aload_n (pc := 16) F dX5_day_16 rfl ?_
      refine g_iload_n (pc := 17) F dX5_day_17 rfl ?_
      refine h_callS (pc := 18) F (c_worksOn _ i g1 (by omega)) mi_X5_worksOn ks_X5_89 dX5_day_18 [0] rfl (by decide) (by decide) rfl rfl (Nat.le_of_ble_eq_true rfl) (by decide) (by decide) ?_
      rintro _ _ ⟨rfl, rfl⟩ -
      refine g_iincN (pc := 21) F dX5_day_21 rfl (by decide) ?_
      refine g_goto (pc := 24) F dX5_day_24 (tgt := 9) rfl ?_
      exact ih (by omega))
  show Go K 0 0 0 [(0, .ref 0), (1, .int w)] [] (A1 r)
  refine g_aload_n (pc := 0) F dX5_day_0 rfl ?_
  refine g_iconst (pc := 1) F dX5_day_1 (v := nI 1) rfl ?_
  refine g_dup2 (pc := 2) F dX5_day_2 rfl rfl ?_
  refine g_iald2 (pc := 3) F dX5_day_3 rfl rfl (by first | omega | (simp only [ix]; omega)) (by decide) ?_
  refine g_iconst (pc := 4) F dX5_day_4 (v := nI 1) rfl ?_
  refine g_iadd (pc := 5) F dX5_day_5 ?_
  refine g_iast2 (pc := 6) F dX5_day_6 rfl rfl (by first | omega | (simp only [ix]; omega)) (by decide) ?_
  refine g_iconst (pc := 7) F dX5_day_7 (v := nI 0) rfl ?_
  refine g_istore_n (pc := 8) F dX5_day_8 (by decide) ?_
  exact L1 0 (Nat.zero_le _)

set_option maxRecDepth 100000 in
set_option maxHeartbeats 4000000 in
theorem c_daysOn (r : Nat → Int32) (x : Int32) (m : Nat) (hI : Iv r) (hx : x = nI m) (hm : m < 1000) : Ctr yX5_daysOn cX5_daysOn 3 none 5 0 0 [.ref 0, .int x] (A1 r) (fun v h => v = none ∧ h = A1 (daysR r m)) := by
  subst hx
  refine Ctr.of rfl (Nat.le_of_ble_eq_true rfl) ⟨clS_of rfl, clH_of rfl⟩ (fun K F X => ?_)
  have L : ∀ i, i ≤ m → Go K 0 0 2 [(0, .ref 0), (1, .int (nI m)), (2, .int (nI i))] [] (A1 (daysR r i)) := loop_up (P := fun i => Go K 0 0 2 [(0, .ref 0), (1, .int (nI m)), (2, .int (nI i))] [] (A1 (daysR r i))) (fun i hi ih => by
    refine g_iload_n (pc := 2) F dX5_daysOn_2 rfl ?_
    refine g_iload_n (pc := 3) F dX5_daysOn_3 rfl ?_
    refine g_icN_ge (pc := 4) F dX5_daysOn_4 (tgt := 20) rfl rfl rfl (by omega) (by omega) (fun c_4 => ?_) (fun c_4 => ?_)
    · have hi9 : i = m := by omega
      subst hi9
      exact g_vret (pc := 20) F X dX5_daysOn_20 (Nat.le_of_ble_eq_true rfl) (Nat.le_of_ble_eq_true rfl) rfl ⟨rfl, rfl⟩
    · refine g_aload_n (pc := 7) F dX5_daysOn_7 rfl ?_
      refine g_aload_n (pc := 8) F dX5_daysOn_8 rfl ?_
      refine g_iconst (pc := 9) F dX5_daysOn_9 (v := nI 2) rfl ?_
      refine g_iald2 (pc := 10) F dX5_daysOn_10 rfl rfl (by first | omega | (simp only [ix]; omega)) (by decide) ?_
      refine h_callS (pc := 11) F (c_day _ _ (daysR_ok hI i).1) mi_X5_day ks_X5_96 dX5_daysOn_11 [0] rfl (by decide) (by decide) rfl rfl (Nat.le_of_ble_eq_true rfl) (by decide) (by decide) ?_
      rintro _ _ ⟨rfl, rfl⟩ -
      refine g_iincN (pc := 14) F dX5_daysOn_14 rfl (by decide) ?_
      refine g_goto (pc := 17) F dX5_daysOn_17 (tgt := 2) rfl ?_
      exact ih c_4)
  show Go K 0 0 0 [(0, .ref 0), (1, .int (nI m))] [] (A1 r)
  refine g_iconst (pc := 0) F dX5_daysOn_0 (v := nI 0) rfl ?_
  refine g_istore_n (pc := 1) F dX5_daysOn_1 (by decide) ?_
  exact L 0 (Nat.zero_le _)
end
section
/-! A DESERT OF THE CLASS: its cells, and how it stands to the reference's row -/
abbrev DX : Type := (Nat → Int32) × (Nat → Int32) × (Nat → Int32) × (Nat → Int32) × (Nat → Int32) × (Nat → Int32) × (Nat → Int32) × Int32 × Int32 × Int32 × Int32 × Int32 × Int32
abbrev dG (X : DX) : Nat → Int32 := X.1
abbrev dD (X : DX) : Nat → Int32 := X.2.1
abbrev dK (X : DX) : Nat → Int32 := X.2.2.1
abbrev dF (X : DX) : Nat → Int32 := X.2.2.2.1
abbrev dA (X : DX) : Nat → Int32 := X.2.2.2.2.1
abbrev dY (X : DX) : Nat → Int32 := X.2.2.2.2.2.1
abbrev dB (X : DX) : Nat → Int32 := X.2.2.2.2.2.2.1
abbrev dN (X : DX) : Int32 := X.2.2.2.2.2.2.2.1
abbrev dR (X : DX) : Int32 := X.2.2.2.2.2.2.2.2.1
abbrev dWr (X : DX) : Int32 := X.2.2.2.2.2.2.2.2.2.1
abbrev dWi (X : DX) : Int32 := X.2.2.2.2.2.2.2.2.2.2.1
abbrev dDy (X : DX) : Int32 := X.2.2.2.2.2.2.2.2.2.2.2.1
abbrev dBl (X : DX) : Int32 := X.2.2.2.2.2.2.2.2.2.2.2.2
abbrev sG (X : DX) (z : Nat → Int32) : DX := (z, X.2)
abbrev sD (X : DX) (z : Nat → Int32) : DX := (X.1, z, X.2.2)
abbrev sK (X : DX) (z : Nat → Int32) : DX := (X.1, X.2.1, z, X.2.2.2)
abbrev sF (X : DX) (z : Nat → Int32) : DX := (X.1, X.2.1, X.2.2.1, z, X.2.2.2.2)
abbrev sA (X : DX) (z : Nat → Int32) : DX := (X.1, X.2.1, X.2.2.1, X.2.2.2.1, z, X.2.2.2.2.2)
abbrev sY (X : DX) (z : Nat → Int32) : DX := (X.1, X.2.1, X.2.2.1, X.2.2.2.1, X.2.2.2.2.1, z, X.2.2.2.2.2.2)
abbrev sB (X : DX) (z : Nat → Int32) : DX := (X.1, X.2.1, X.2.2.1, X.2.2.2.1, X.2.2.2.2.1, X.2.2.2.2.2.1, z, X.2.2.2.2.2.2.2)
abbrev sN (X : DX) (z : Int32) : DX := (X.1, X.2.1, X.2.2.1, X.2.2.2.1, X.2.2.2.2.1, X.2.2.2.2.2.1, X.2.2.2.2.2.2.1, z, X.2.2.2.2.2.2.2.2)
abbrev sR (X : DX) (z : Int32) : DX := (X.1, X.2.1, X.2.2.1, X.2.2.2.1, X.2.2.2.2.1, X.2.2.2.2.2.1, X.2.2.2.2.2.2.1, X.2.2.2.2.2.2.2.1, z, X.2.2.2.2.2.2.2.2.2)
abbrev sWr (X : DX) (z : Int32) : DX := (X.1, X.2.1, X.2.2.1, X.2.2.2.1, X.2.2.2.2.1, X.2.2.2.2.2.1, X.2.2.2.2.2.2.1, X.2.2.2.2.2.2.2.1, X.2.2.2.2.2.2.2.2.1, z, X.2.2.2.2.2.2.2.2.2.2)
abbrev sWi (X : DX) (z : Int32) : DX := (X.1, X.2.1, X.2.2.1, X.2.2.2.1, X.2.2.2.2.1, X.2.2.2.2.2.1, X.2.2.2.2.2.2.1, X.2.2.2.2.2.2.2.1, X.2.2.2.2.2.2.2.2.1, X.2.2.2.2.2.2.2.2.2.1, z, X.2.2.2.2.2.2.2.2.2.2.2)
abbrev sDy (X : DX) (z : Int32) : DX := (X.1, X.2.1, X.2.2.1, X.2.2.2.1, X.2.2.2.2.1, X.2.2.2.2.2.1, X.2.2.2.2.2.2.1, X.2.2.2.2.2.2.2.1, X.2.2.2.2.2.2.2.2.1, X.2.2.2.2.2.2.2.2.2.1, X.2.2.2.2.2.2.2.2.2.2.1, z, X.2.2.2.2.2.2.2.2.2.2.2.2)
abbrev sBl (X : DX) (z : Int32) : DX := (X.1, X.2.1, X.2.2.1, X.2.2.2.1, X.2.2.2.2.1, X.2.2.2.2.2.1, X.2.2.2.2.2.2.1, X.2.2.2.2.2.2.2.1, X.2.2.2.2.2.2.2.2.1, X.2.2.2.2.2.2.2.2.2.1, X.2.2.2.2.2.2.2.2.2.2.1, X.2.2.2.2.2.2.2.2.2.2.2.1, z)
def dW (b : Nat) (X : DX) : Hp := [.inr (0, [.ref (b + 1), .ref (b + 2), .ref (b + 3), .ref (b + 4), .ref (b + 5), .ref (b + 6), .ref (b + 7), .int (dN X), .int (dR X), .int (dWr X), .int (dWi X), .int (dDy X), .int (dBl X)]),
  .inl (.int, 10, .inl (dG X)), .inl (.int, 10, .inl (dD X)), .inl (.int, 6, .inl (dK X)), .inl (.int, 6, .inl (dF X)), .inl (.int, 6, .inl (dA X)), .inl (.int, 6, .inl (dY X)), .inl (.int, 6, .inl (dB X))]
/-- who rests, as bits -/
def restF (r : Nat → Int32) (c : Nat) (s : Int32) : Int32 := s ||| (r (ix c 5) <<< (nI c &&& 31))
def restR (r : Nat → Int32) : Int32 := it (restF r) (many r) (nI 0)
/-- nobody who writes rests -/
def NW (r : Nat → Int32) : Prop := ∀ c, c < many r → hasb (r 4) (nI c) = true → ¬ r (ix c 5) = nI 1
/-- the desert X stands to the row r; b: how much more the one has blown on than the other -/
def Rel (b : Int32) (X : DX) (r : Nat → Int32) : Prop :=
  (dN X = r 0 ∧ dDy X = r 1 ∧ dWi X = r 2 ∧ dWr X = r 4 ∧ dBl X = r 3 + b ∧ dR X = restR r) ∧ NW r ∧
  (∀ d, d < 10 → dG X d = r (5 + d) ∧ dD X d = r (15 + d)) ∧
  (∀ c, c < many r → dK X c = r (ix c 0) ∧ dF X c = r (ix c 1) ∧ dA X c = r (ix c 2) ∧ dY X c = r (ix c 3) ∧ dB X c = r (ix c 4))
theorem restR_cong {r s : Nat → Int32} (h0 : s 0 = r 0) (h : ∀ c, c < many r → s (ix c 5) = r (ix c 5)) : restR s = restR r := by
  unfold restR
  rw [many_of h0]
  exact it_cong (fun i z hi => by unfold restF; rw [h i hi])
theorem NW_cong {r s : Nat → Int32} (hn : NW r) (h0 : s 0 = r 0) (h4 : s 4 = r 4) (h : ∀ c, c < many r → s (ix c 5) = r (ix c 5)) : NW s := by
  intro c hc hw
  rw [many_of h0] at hc
  rw [h4] at hw
  rw [h c hc]
  exact hn c hc hw
/-- one place changes that neither the count nor resting nor writing reads -/
theorem Rel_of {b : Int32} {X X' : DX} {r : Nat → Int32} {j : Nat} {v : Int32} (h : Rel b X r) (hj : j ≠ 0 ∧ j ≠ 4 ∧ ∀ c, j ≠ 25 + 6 * c + 5)
    (h1 : dN X' = dN X ∧ dDy X' = upd r j v 1 ∧ dWi X' = upd r j v 2 ∧ dWr X' = dWr X ∧ dBl X' = upd r j v 3 + b ∧ dR X' = dR X)
    (h2 : ∀ d, d < 10 → dG X' d = upd r j v (5 + d) ∧ dD X' d = upd r j v (15 + d))
    (h3 : ∀ c, c < many r → dK X' c = upd r j v (ix c 0) ∧ dF X' c = upd r j v (ix c 1) ∧ dA X' c = upd r j v (ix c 2) ∧ dY X' c = upd r j v (ix c 3) ∧ dB X' c = upd r j v (ix c 4)) : Rel b X' (upd r j v) := by
  obtain ⟨⟨a1, a2, a3, a4, a5, a6⟩, a7, a8, a9⟩ := h
  obtain ⟨b1, b2, b3, b4, b5, b6⟩ := h1
  have e0 : upd r j v 0 = r 0 := upd_ne v (fun q => hj.1 q.symm)
  have e4 : upd r j v 4 = r 4 := upd_ne v (fun q => hj.2.1 q.symm)
  have e5 : ∀ c, c < many r → upd r j v (ix c 5) = r (ix c 5) := fun c _ => upd_ne v (fun q => hj.2.2 c q.symm)
  refine ⟨⟨b1.trans (a1.trans e0.symm), b2, b3, b4.trans (a4.trans e4.symm), b5, b6.trans (a6.trans (restR_cong e0 e5).symm)⟩, NW_cong a7 e0 e4 e5, h2, ?_⟩
  rw [many_of e0]
  exact h3
section RelRows
variable {b : Int32} {X : DX} {r : Nat → Int32}
theorem Rel_done {d : Nat} {v : Int32} (h : Rel b X r) (hd : d < 10) : Rel b (sD X (upd (dD X) d v)) (upd r (15 + d) v) := by
  obtain ⟨⟨a1, a2, a3, a4, a5, a6⟩, a7, a8, a9⟩ := id h
  refine Rel_of h ⟨by omega, by omega, fun c => by omega⟩ ⟨rfl, ?_, ?_, rfl, ?_, rfl⟩ (fun e he => ⟨?_, ?_⟩) (fun c hc => ?_)
  · rw [upd_ne _ (by omega)]; exact a2
  · rw [upd_ne _ (by omega)]; exact a3
  · rw [upd_ne _ (by omega)]; exact a5
  · rw [upd_ne _ (by omega)]; exact (a8 e he).1
  · show upd (dD X) d v e = _
    by_cases q : e = d
    · rw [q, upd_at, upd_at]
    · rw [upd_ne _ q, upd_ne _ (by omega)]; exact (a8 e he).2
  · simp only [ix]
    rw [upd_ne _ (by omega), upd_ne _ (by omega), upd_ne _ (by omega), upd_ne _ (by omega), upd_ne _ (by omega)]
    exact a9 c hc
theorem Rel_grain {d : Nat} {v : Int32} (h : Rel b X r) (hd : d < 10) : Rel b (sG X (upd (dG X) d v)) (upd r (5 + d) v) := by
  obtain ⟨⟨a1, a2, a3, a4, a5, a6⟩, a7, a8, a9⟩ := id h
  refine Rel_of h ⟨by omega, by omega, fun c => by omega⟩ ⟨rfl, ?_, ?_, rfl, ?_, rfl⟩ (fun e he => ⟨?_, ?_⟩) (fun c hc => ?_)
  · rw [upd_ne _ (by omega)]; exact a2
  · rw [upd_ne _ (by omega)]; exact a3
  · rw [upd_ne _ (by omega)]; exact a5
  · show upd (dG X) d v e = _
    by_cases q : e = d
    · rw [q, upd_at, upd_at]
    · rw [upd_ne _ q, upd_ne _ (by omega)]; exact (a8 e he).1
  · rw [upd_ne _ (by omega)]; exact (a8 e he).2
  · simp only [ix]
    rw [upd_ne _ (by omega), upd_ne _ (by omega), upd_ne _ (by omega), upd_ne _ (by omega), upd_ne _ (by omega)]
    exact a9 c hc
theorem Rel_lost {v : Int32} (h : Rel b X r) : Rel b (sBl X (v + b)) (upd r 3 v) := by
  obtain ⟨⟨a1, a2, a3, a4, a5, a6⟩, a7, a8, a9⟩ := id h
  refine Rel_of h ⟨by omega, by omega, fun c => by omega⟩ ⟨rfl, ?_, ?_, rfl, ?_, rfl⟩ (fun e he => ⟨?_, ?_⟩) (fun c hc => ?_)
  · rw [upd_ne _ (by omega)]; exact a2
  · rw [upd_ne _ (by omega)]; exact a3
  · rw [upd_at]
  · rw [upd_ne _ (by omega)]; exact (a8 e he).1
  · rw [upd_ne _ (by omega)]; exact (a8 e he).2
  · simp only [ix]
    rw [upd_ne _ (by omega), upd_ne _ (by omega), upd_ne _ (by omega), upd_ne _ (by omega), upd_ne _ (by omega)]
    exact a9 c hc
theorem Rel_wind {v : Int32} (h : Rel b X r) : Rel b (sWi X v) (upd r 2 v) := by
  obtain ⟨⟨a1, a2, a3, a4, a5, a6⟩, a7, a8, a9⟩ := id h
  refine Rel_of h ⟨by omega, by omega, fun c => by omega⟩ ⟨rfl, ?_, ?_, rfl, ?_, rfl⟩ (fun e he => ⟨?_, ?_⟩) (fun c hc => ?_)
  · rw [upd_ne _ (by omega)]; exact a2
  · rw [upd_at]
  · rw [upd_ne _ (by omega)]; exact a5
  · rw [upd_ne _ (by omega)]; exact (a8 e he).1
  · rw [upd_ne _ (by omega)]; exact (a8 e he).2
  · simp only [ix]
    rw [upd_ne _ (by omega), upd_ne _ (by omega), upd_ne _ (by omega), upd_ne _ (by omega), upd_ne _ (by omega)]
    exact a9 c hc
theorem Rel_day {v : Int32} (h : Rel b X r) : Rel b (sDy X v) (upd r 1 v) := by
  obtain ⟨⟨a1, a2, a3, a4, a5, a6⟩, a7, a8, a9⟩ := id h
  refine Rel_of h ⟨by omega, by omega, fun c => by omega⟩ ⟨rfl, ?_, ?_, rfl, ?_, rfl⟩ (fun e he => ⟨?_, ?_⟩) (fun c hc => ?_)
  · rw [upd_at]
  · rw [upd_ne _ (by omega)]; exact a3
  · rw [upd_ne _ (by omega)]; exact a5
  · rw [upd_ne _ (by omega)]; exact (a8 e he).1
  · rw [upd_ne _ (by omega)]; exact (a8 e he).2
  · simp only [ix]
    rw [upd_ne _ (by omega), upd_ne _ (by omega), upd_ne _ (by omega), upd_ne _ (by omega), upd_ne _ (by omega)]
    exact a9 c hc
/-- one corporal's kind (0), figure (1), place (2), way (3) or book (4) -/
theorem Rel_one {c w : Nat} {v : Int32} {X' : DX} (h : Rel b X r) (hw : w < 5) (h1 : dG X' = dG X ∧ dD X' = dD X ∧ X'.2.2.2.2.2.2.2 = X.2.2.2.2.2.2.2)
    (h2 : ∀ e, (e = c ∧ w = 0 → dK X' e = v) ∧ (¬ (e = c ∧ w = 0) → dK X' e = dK X e) ∧ (e = c ∧ w = 1 → dF X' e = v) ∧ (¬ (e = c ∧ w = 1) → dF X' e = dF X e) ∧ (e = c ∧ w = 2 → dA X' e = v) ∧ (¬ (e = c ∧ w = 2) → dA X' e = dA X e) ∧ (e = c ∧ w = 3 → dY X' e = v) ∧ (¬ (e = c ∧ w = 3) → dY X' e = dY X e) ∧ (e = c ∧ w = 4 → dB X' e = v) ∧ (¬ (e = c ∧ w = 4) → dB X' e = dB X e)) : Rel b X' (upd r (ix c w) v) := by
  obtain ⟨⟨a1, a2, a3, a4, a5, a6⟩, a7, a8, a9⟩ := id h
  obtain ⟨g1, g2, g3⟩ := h1
  have key : ∀ (e k : Nat) (z z' : Int32), k < 5 → (e = c ∧ w = k → z' = v) → (¬ (e = c ∧ w = k) → z' = z) → z = r (ix e k) → z' = upd r (ix c w) v (ix e k) := by
    intro e k z z' hk p q hz
    by_cases y : e = c ∧ w = k
    · obtain ⟨y1, y2⟩ := y
      subst y1
      subst y2
      rw [upd_at]; exact p ⟨rfl, rfl⟩
    · rw [upd_ne _ (by simp only [ix]; omega), ← hz]; exact q y
  refine Rel_of h ⟨by simp only [ix]; omega, by simp only [ix]; omega, fun c => by simp only [ix]; omega⟩ ⟨?_, ?_, ?_, ?_, ?_, ?_⟩ (fun e he => ⟨?_, ?_⟩) (fun e he => ⟨?_, ?_, ?_, ?_, ?_⟩)
  · exact congrArg (fun z => z.1) g3
  · rw [upd_ne _ (by simp only [ix]; omega)]; exact (congrArg (fun z => z.2.2.2.2.1) g3).trans a2
  · rw [upd_ne _ (by simp only [ix]; omega)]; exact (congrArg (fun z => z.2.2.2.1) g3).trans a3
  · exact congrArg (fun z => z.2.2.1) g3
  · rw [upd_ne _ (by simp only [ix]; omega)]; exact (congrArg (fun z => z.2.2.2.2.2) g3).trans a5
  · exact congrArg (fun z => z.2.1) g3
  · rw [upd_ne _ (by simp only [ix]; omega), g1]; exact (a8 e he).1
  · rw [upd_ne _ (by simp only [ix]; omega), g2]; exact (a8 e he).2
  · exact key e 0 _ _ (by omega) (h2 e).1 (h2 e).2.1 (a9 e he).1
  · exact key e 1 _ _ (by omega) (h2 e).2.2.1 (h2 e).2.2.2.1 (a9 e he).2.1
  · exact key e 2 _ _ (by omega) (h2 e).2.2.2.2.1 (h2 e).2.2.2.2.2.1 (a9 e he).2.2.1
  · exact key e 3 _ _ (by omega) (h2 e).2.2.2.2.2.2.1 (h2 e).2.2.2.2.2.2.2.1 (a9 e he).2.2.2.1
  · exact key e 4 _ _ (by omega) (h2 e).2.2.2.2.2.2.2.2.1 (h2 e).2.2.2.2.2.2.2.2.2 (a9 e he).2.2.2.2
theorem Rel_book {c : Nat} {v : Int32} (h : Rel b X r) : Rel b (sB X (upd (dB X) c v)) (upd r (ix c 4) v) :=
  Rel_one h (by decide) ⟨rfl, rfl, rfl⟩ (fun e => ⟨fun q => absurd q.2 (by decide), fun _ => rfl, fun q => absurd q.2 (by decide), fun _ => rfl, fun q => absurd q.2 (by decide), fun _ => rfl, fun q => absurd q.2 (by decide), fun _ => rfl, fun q => by rw [q.1]; exact upd_at _ _ _, fun q => upd_ne _ (fun z => q ⟨z, rfl⟩)⟩)
theorem Rel_at {c : Nat} {v : Int32} (h : Rel b X r) : Rel b (sA X (upd (dA X) c v)) (upd r (ix c 2) v) :=
  Rel_one h (by decide) ⟨rfl, rfl, rfl⟩ (fun e => ⟨fun q => absurd q.2 (by decide), fun _ => rfl, fun q => absurd q.2 (by decide), fun _ => rfl, fun q => by rw [q.1]; exact upd_at _ _ _, fun q => upd_ne _ (fun z => q ⟨z, rfl⟩), fun q => absurd q.2 (by decide), fun _ => rfl, fun q => absurd q.2 (by decide), fun _ => rfl⟩)
theorem Rel_way {c : Nat} {v : Int32} (h : Rel b X r) : Rel b (sY X (upd (dY X) c v)) (upd r (ix c 3) v) :=
  Rel_one h (by decide) ⟨rfl, rfl, rfl⟩ (fun e => ⟨fun q => absurd q.2 (by decide), fun _ => rfl, fun q => absurd q.2 (by decide), fun _ => rfl, fun q => absurd q.2 (by decide), fun _ => rfl, fun q => by rw [q.1]; exact upd_at _ _ _, fun q => upd_ne _ (fun z => q ⟨z, rfl⟩), fun q => absurd q.2 (by decide), fun _ => rfl⟩)
theorem Rel_kind {c : Nat} {v : Int32} (h : Rel b X r) : Rel b (sK X (upd (dK X) c v)) (upd r (ix c 0) v) :=
  Rel_one h (by decide) ⟨rfl, rfl, rfl⟩ (fun e => ⟨fun q => by rw [q.1]; exact upd_at _ _ _, fun q => upd_ne _ (fun z => q ⟨z, rfl⟩), fun q => absurd q.2 (by decide), fun _ => rfl, fun q => absurd q.2 (by decide), fun _ => rfl, fun q => absurd q.2 (by decide), fun _ => rfl, fun q => absurd q.2 (by decide), fun _ => rfl⟩)
theorem Rel_fig {c : Nat} {v : Int32} (h : Rel b X r) : Rel b (sF X (upd (dF X) c v)) (upd r (ix c 1) v) :=
  Rel_one h (by decide) ⟨rfl, rfl, rfl⟩ (fun e => ⟨fun q => absurd q.2 (by decide), fun _ => rfl, fun q => by rw [q.1]; exact upd_at _ _ _, fun q => upd_ne _ (fun z => q ⟨z, rfl⟩), fun q => absurd q.2 (by decide), fun _ => rfl, fun q => absurd q.2 (by decide), fun _ => rfl, fun q => absurd q.2 (by decide), fun _ => rfl⟩)
end RelRows
end
