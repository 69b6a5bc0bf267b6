section
-- ===== PART A: goes FIRST, ahead of the names: the tables' words, and 'selects' of the private methods out of them =====
/-- a private method of a class that the tables say can be made, by its rows of tables_1 -/
def lw_okq (q : MethodName × Nat) : Prop := (q.1.cls ≠ "java/lang/invoke/MethodHandle" ∧ q.1.cls ≠ "java/lang/invoke/VarHandle") ∧ Cond.instantiable q.1.cls q.2 ∈ tables_1 ∧ Cond.privateMethod q.1 ∈ tables_1 ∧ Cond.instanceMethod q.1 ∈ tables_1
theorem lw_p0 : lw_okq (⟨"BorrowedTears$LandText", "letterAt", "(I)I"⟩, 3) := ⟨⟨by decide +kernel, by decide +kernel⟩, List.mem_of_getElem? (i := 19) (by decide +kernel), List.mem_of_getElem? (i := 175) (by decide +kernel), List.mem_of_getElem? (i := 176) (by decide +kernel)⟩
theorem lw_p1 : lw_okq (⟨"BorrowedTears$LandText", "readPerson", "(I)I"⟩, 3) := ⟨⟨by decide +kernel, by decide +kernel⟩, List.mem_of_getElem? (i := 19) (by decide +kernel), List.mem_of_getElem? (i := 179) (by decide +kernel), List.mem_of_getElem? (i := 180) (by decide +kernel)⟩
theorem lw_p2 : lw_okq (⟨"BorrowedTears$LandText", "digitAt", "(I)I"⟩, 3) := ⟨⟨by decide +kernel, by decide +kernel⟩, List.mem_of_getElem? (i := 19) (by decide +kernel), List.mem_of_getElem? (i := 183) (by decide +kernel), List.mem_of_getElem? (i := 184) (by decide +kernel)⟩
theorem lw_p3 : lw_okq (⟨"BorrowedTears$LandText", "readKin", "(I)I"⟩, 3) := ⟨⟨by decide +kernel, by decide +kernel⟩, List.mem_of_getElem? (i := 19) (by decide +kernel), List.mem_of_getElem? (i := 191) (by decide +kernel), List.mem_of_getElem? (i := 192) (by decide +kernel)⟩
theorem lw_p4 : lw_okq (⟨"BorrowedTears$LandText", "isPairLeft", "()Z"⟩, 3) := ⟨⟨by decide +kernel, by decide +kernel⟩, List.mem_of_getElem? (i := 19) (by decide +kernel), List.mem_of_getElem? (i := 195) (by decide +kernel), List.mem_of_getElem? (i := 196) (by decide +kernel)⟩
theorem lw_p5 : lw_okq (⟨"BorrowedTears$People", "settle", "(II)V"⟩, 9) := ⟨⟨by decide +kernel, by decide +kernel⟩, List.mem_of_getElem? (i := 25) (by decide +kernel), List.mem_of_getElem? (i := 309) (by decide +kernel), List.mem_of_getElem? (i := 310) (by decide +kernel)⟩
theorem lw_p6 : lw_okq (⟨"BorrowedTears$Service", "compare", "(III)V"⟩, 4) := ⟨⟨by decide +kernel, by decide +kernel⟩, List.mem_of_getElem? (i := 103) (by decide +kernel), List.mem_of_getElem? (i := 364) (by decide +kernel), List.mem_of_getElem? (i := 365) (by decide +kernel)⟩
theorem lw_p7 : lw_okq (⟨"BorrowedTears$People", "creditors", "(I)I"⟩, 9) := ⟨⟨by decide +kernel, by decide +kernel⟩, List.mem_of_getElem? (i := 25) (by decide +kernel), List.mem_of_getElem? (i := 400) (by decide +kernel), List.mem_of_getElem? (i := 401) (by decide +kernel)⟩
theorem lw_p8 : lw_okq (⟨"BorrowedTears", "gain", "(II)I"⟩, 8) := ⟨⟨by decide +kernel, by decide +kernel⟩, List.mem_of_getElem? (i := 11) (by decide +kernel), List.mem_of_getElem? (i := 417) (by decide +kernel), List.mem_of_getElem? (i := 418) (by decide +kernel)⟩
theorem lw_p9 : lw_okq (⟨"BorrowedTears", "weight", "(II)I"⟩, 8) := ⟨⟨by decide +kernel, by decide +kernel⟩, List.mem_of_getElem? (i := 11) (by decide +kernel), List.mem_of_getElem? (i := 426) (by decide +kernel), List.mem_of_getElem? (i := 427) (by decide +kernel)⟩
theorem lw_p10 : lw_okq (⟨"BorrowedTears", "allServed", "(I)Z"⟩, 8) := ⟨⟨by decide +kernel, by decide +kernel⟩, List.mem_of_getElem? (i := 11) (by decide +kernel), List.mem_of_getElem? (i := 458) (by decide +kernel), List.mem_of_getElem? (i := 459) (by decide +kernel)⟩
theorem lw_p11 : lw_okq (⟨"BorrowedTearsModel", "readLand", "()I"⟩, 22) := ⟨⟨by decide +kernel, by decide +kernel⟩, List.mem_of_getElem? (i := 484) (by decide +kernel), List.mem_of_getElem? (i := 573) (by decide +kernel), List.mem_of_getElem? (i := 574) (by decide +kernel)⟩
theorem lw_p12 : lw_okq (⟨"BorrowedTearsModel", "readPart", "()Z"⟩, 22) := ⟨⟨by decide +kernel, by decide +kernel⟩, List.mem_of_getElem? (i := 484) (by decide +kernel), List.mem_of_getElem? (i := 577) (by decide +kernel), List.mem_of_getElem? (i := 578) (by decide +kernel)⟩
theorem lw_p13 : lw_okq (⟨"BorrowedTearsModel", "readPerson", "()Z"⟩, 22) := ⟨⟨by decide +kernel, by decide +kernel⟩, List.mem_of_getElem? (i := 484) (by decide +kernel), List.mem_of_getElem? (i := 581) (by decide +kernel), List.mem_of_getElem? (i := 582) (by decide +kernel)⟩
theorem lw_p14 : lw_okq (⟨"BorrowedTearsModel", "figure", "(II)I"⟩, 22) := ⟨⟨by decide +kernel, by decide +kernel⟩, List.mem_of_getElem? (i := 484) (by decide +kernel), List.mem_of_getElem? (i := 585) (by decide +kernel), List.mem_of_getElem? (i := 586) (by decide +kernel)⟩
theorem lw_p15 : lw_okq (⟨"BorrowedTearsModel", "arePairs", "()Z"⟩, 22) := ⟨⟨by decide +kernel, by decide +kernel⟩, List.mem_of_getElem? (i := 484) (by decide +kernel), List.mem_of_getElem? (i := 589) (by decide +kernel), List.mem_of_getElem? (i := 590) (by decide +kernel)⟩
def lw_privs_1 : List (MethodName × Nat) := [(⟨"BorrowedTears$LandText", "letterAt", "(I)I"⟩, 3), (⟨"BorrowedTears$LandText", "readPerson", "(I)I"⟩, 3), (⟨"BorrowedTears$LandText", "digitAt", "(I)I"⟩, 3), (⟨"BorrowedTears$LandText", "readKin", "(I)I"⟩, 3), (⟨"BorrowedTears$LandText", "isPairLeft", "()Z"⟩, 3), (⟨"BorrowedTears$People", "settle", "(II)V"⟩, 9), (⟨"BorrowedTears$Service", "compare", "(III)V"⟩, 4), (⟨"BorrowedTears$People", "creditors", "(I)I"⟩, 9), (⟨"BorrowedTears", "gain", "(II)I"⟩, 8), (⟨"BorrowedTears", "weight", "(II)I"⟩, 8), (⟨"BorrowedTears", "allServed", "(I)Z"⟩, 8), (⟨"BorrowedTearsModel", "readLand", "()I"⟩, 22), (⟨"BorrowedTearsModel", "readPart", "()Z"⟩, 22), (⟨"BorrowedTearsModel", "readPerson", "()Z"⟩, 22), (⟨"BorrowedTearsModel", "figure", "(II)I"⟩, 22), (⟨"BorrowedTearsModel", "arePairs", "()Z"⟩, 22)]
theorem lw_r1 : ∀ q ∈ lw_privs_1, lw_okq q := List.forall_mem_cons.mpr ⟨lw_p0, List.forall_mem_cons.mpr ⟨lw_p1, List.forall_mem_cons.mpr ⟨lw_p2, List.forall_mem_cons.mpr ⟨lw_p3, List.forall_mem_cons.mpr ⟨lw_p4, List.forall_mem_cons.mpr ⟨lw_p5, List.forall_mem_cons.mpr ⟨lw_p6, List.forall_mem_cons.mpr ⟨lw_p7, List.forall_mem_cons.mpr ⟨lw_p8, List.forall_mem_cons.mpr ⟨lw_p9, List.forall_mem_cons.mpr ⟨lw_p10, List.forall_mem_cons.mpr ⟨lw_p11, List.forall_mem_cons.mpr ⟨lw_p12, List.forall_mem_cons.mpr ⟨lw_p13, List.forall_mem_cons.mpr ⟨lw_p14, List.forall_mem_cons.mpr ⟨lw_p15, fun _ h => absurd h List.not_mem_nil⟩⟩⟩⟩⟩⟩⟩⟩⟩⟩⟩⟩⟩⟩⟩⟩
theorem lw_p16 : lw_okq (⟨"BorrowedTearsModel", "pairsOf", "(I)I"⟩, 22) := ⟨⟨by decide +kernel, by decide +kernel⟩, List.mem_of_getElem? (i := 484) (by decide +kernel), List.mem_of_getElem? (i := 593) (by decide +kernel), List.mem_of_getElem? (i := 594) (by decide +kernel)⟩
theorem lw_p17 : lw_okq (⟨"BorrowedTearsModel", "readKin", "()Z"⟩, 22) := ⟨⟨by decide +kernel, by decide +kernel⟩, List.mem_of_getElem? (i := 484) (by decide +kernel), List.mem_of_getElem? (i := 600) (by decide +kernel), List.mem_of_getElem? (i := 601) (by decide +kernel)⟩
theorem lw_p18 : lw_okq (⟨"BorrowedTearsModel", "noPerson", "(I)Z"⟩, 22) := ⟨⟨by decide +kernel, by decide +kernel⟩, List.mem_of_getElem? (i := 484) (by decide +kernel), List.mem_of_getElem? (i := 616) (by decide +kernel), List.mem_of_getElem? (i := 617) (by decide +kernel)⟩
theorem lw_p19 : lw_okq (⟨"BorrowedTearsModel", "ouncesOf", "([II)I"⟩, 22) := ⟨⟨by decide +kernel, by decide +kernel⟩, List.mem_of_getElem? (i := 484) (by decide +kernel), List.mem_of_getElem? (i := 620) (by decide +kernel), List.mem_of_getElem? (i := 621) (by decide +kernel)⟩
theorem lw_p20 : lw_okq (⟨"BorrowedTearsModel", "mayFor", "(I)I"⟩, 22) := ⟨⟨by decide +kernel, by decide +kernel⟩, List.mem_of_getElem? (i := 484) (by decide +kernel), List.mem_of_getElem? (i := 624) (by decide +kernel), List.mem_of_getElem? (i := 625) (by decide +kernel)⟩
theorem lw_p21 : lw_okq (⟨"BorrowedTearsModel", "mayWeep", "([III)Z"⟩, 22) := ⟨⟨by decide +kernel, by decide +kernel⟩, List.mem_of_getElem? (i := 484) (by decide +kernel), List.mem_of_getElem? (i := 628) (by decide +kernel), List.mem_of_getElem? (i := 629) (by decide +kernel)⟩
theorem lw_p22 : lw_okq (⟨"BorrowedTearsModel", "isFree", "([III)Z"⟩, 22) := ⟨⟨by decide +kernel, by decide +kernel⟩, List.mem_of_getElem? (i := 484) (by decide +kernel), List.mem_of_getElem? (i := 632) (by decide +kernel), List.mem_of_getElem? (i := 633) (by decide +kernel)⟩
theorem lw_p23 : lw_okq (⟨"BorrowedTearsModel", "note", "()V"⟩, 22) := ⟨⟨by decide +kernel, by decide +kernel⟩, List.mem_of_getElem? (i := 484) (by decide +kernel), List.mem_of_getElem? (i := 644) (by decide +kernel), List.mem_of_getElem? (i := 645) (by decide +kernel)⟩
theorem lw_p24 : lw_okq (⟨"BorrowedTearsModel", "open", "([II)V"⟩, 22) := ⟨⟨by decide +kernel, by decide +kernel⟩, List.mem_of_getElem? (i := 484) (by decide +kernel), List.mem_of_getElem? (i := 648) (by decide +kernel), List.mem_of_getElem? (i := 649) (by decide +kernel)⟩
theorem lw_p25 : lw_okq (⟨"BorrowedTearsModel", "goWeep", "([III)I"⟩, 22) := ⟨⟨by decide +kernel, by decide +kernel⟩, List.mem_of_getElem? (i := 484) (by decide +kernel), List.mem_of_getElem? (i := 659) (by decide +kernel), List.mem_of_getElem? (i := 660) (by decide +kernel)⟩
theorem lw_p26 : lw_okq (⟨"BorrowedTearsModel", "close", "([III)V"⟩, 22) := ⟨⟨by decide +kernel, by decide +kernel⟩, List.mem_of_getElem? (i := 484) (by decide +kernel), List.mem_of_getElem? (i := 663) (by decide +kernel), List.mem_of_getElem? (i := 664) (by decide +kernel)⟩
theorem lw_p27 : lw_okq (⟨"BorrowedTearsModel", "goWeek", "([I)V"⟩, 22) := ⟨⟨by decide +kernel, by decide +kernel⟩, List.mem_of_getElem? (i := 484) (by decide +kernel), List.mem_of_getElem? (i := 675) (by decide +kernel), List.mem_of_getElem? (i := 676) (by decide +kernel)⟩
theorem lw_p28 : lw_okq (⟨"BorrowedTearsModel", "everyone", "()I"⟩, 22) := ⟨⟨by decide +kernel, by decide +kernel⟩, List.mem_of_getElem? (i := 484) (by decide +kernel), List.mem_of_getElem? (i := 688) (by decide +kernel), List.mem_of_getElem? (i := 689) (by decide +kernel)⟩
theorem lw_p29 : lw_okq (⟨"BorrowedTearsModel", "findServed", "([II)V"⟩, 22) := ⟨⟨by decide +kernel, by decide +kernel⟩, List.mem_of_getElem? (i := 484) (by decide +kernel), List.mem_of_getElem? (i := 692) (by decide +kernel), List.mem_of_getElem? (i := 693) (by decide +kernel)⟩
theorem lw_p30 : lw_okq (⟨"BorrowedTearsModel", "begin", "()V"⟩, 22) := ⟨⟨by decide +kernel, by decide +kernel⟩, List.mem_of_getElem? (i := 484) (by decide +kernel), List.mem_of_getElem? (i := 707) (by decide +kernel), List.mem_of_getElem? (i := 708) (by decide +kernel)⟩
theorem lw_p31 : lw_okq (⟨"BorrowedTearsModel", "findRests", "(III)V"⟩, 22) := ⟨⟨by decide +kernel, by decide +kernel⟩, List.mem_of_getElem? (i := 484) (by decide +kernel), List.mem_of_getElem? (i := 746) (by decide +kernel), List.mem_of_getElem? (i := 747) (by decide +kernel)⟩
def lw_privs_2 : List (MethodName × Nat) := [(⟨"BorrowedTearsModel", "pairsOf", "(I)I"⟩, 22), (⟨"BorrowedTearsModel", "readKin", "()Z"⟩, 22), (⟨"BorrowedTearsModel", "noPerson", "(I)Z"⟩, 22), (⟨"BorrowedTearsModel", "ouncesOf", "([II)I"⟩, 22), (⟨"BorrowedTearsModel", "mayFor", "(I)I"⟩, 22), (⟨"BorrowedTearsModel", "mayWeep", "([III)Z"⟩, 22), (⟨"BorrowedTearsModel", "isFree", "([III)Z"⟩, 22), (⟨"BorrowedTearsModel", "note", "()V"⟩, 22), (⟨"BorrowedTearsModel", "open", "([II)V"⟩, 22), (⟨"BorrowedTearsModel", "goWeep", "([III)I"⟩, 22), (⟨"BorrowedTearsModel", "close", "([III)V"⟩, 22), (⟨"BorrowedTearsModel", "goWeek", "([I)V"⟩, 22), (⟨"BorrowedTearsModel", "everyone", "()I"⟩, 22), (⟨"BorrowedTearsModel", "findServed", "([II)V"⟩, 22), (⟨"BorrowedTearsModel", "begin", "()V"⟩, 22), (⟨"BorrowedTearsModel", "findRests", "(III)V"⟩, 22)]
theorem lw_r2 : ∀ q ∈ lw_privs_2, lw_okq q := List.forall_mem_cons.mpr ⟨lw_p16, List.forall_mem_cons.mpr ⟨lw_p17, List.forall_mem_cons.mpr ⟨lw_p18, List.forall_mem_cons.mpr ⟨lw_p19, List.forall_mem_cons.mpr ⟨lw_p20, List.forall_mem_cons.mpr ⟨lw_p21, List.forall_mem_cons.mpr ⟨lw_p22, List.forall_mem_cons.mpr ⟨lw_p23, List.forall_mem_cons.mpr ⟨lw_p24, List.forall_mem_cons.mpr ⟨lw_p25, List.forall_mem_cons.mpr ⟨lw_p26, List.forall_mem_cons.mpr ⟨lw_p27, List.forall_mem_cons.mpr ⟨lw_p28, List.forall_mem_cons.mpr ⟨lw_p29, List.forall_mem_cons.mpr ⟨lw_p30, List.forall_mem_cons.mpr ⟨lw_p31, fun _ h => absurd h List.not_mem_nil⟩⟩⟩⟩⟩⟩⟩⟩⟩⟩⟩⟩⟩⟩⟩⟩
theorem lw_p32 : lw_okq (⟨"BorrowedTearsModel", "gainOf", "(IIIIIZ)I"⟩, 22) := ⟨⟨by decide +kernel, by decide +kernel⟩, List.mem_of_getElem? (i := 484) (by decide +kernel), List.mem_of_getElem? (i := 750) (by decide +kernel), List.mem_of_getElem? (i := 751) (by decide +kernel)⟩
def lw_privs_3 : List (MethodName × Nat) := [(⟨"BorrowedTearsModel", "gainOf", "(IIIIIZ)I"⟩, 22)]
theorem lw_r3 : ∀ q ∈ lw_privs_3, lw_okq q := List.forall_mem_cons.mpr ⟨lw_p32, fun _ h => absurd h List.not_mem_nil⟩
def lw_privs : List (MethodName × Nat) := lw_privs_1 ++ (lw_privs_2 ++ (lw_privs_3))
def lw_tbl : List Cond := k2_sels lw_privs ++ tables_1
theorem lw_privs_ok : ∀ q ∈ lw_privs, lw_okq q := by
  show ∀ q ∈ lw_privs_1 ++ (lw_privs_2 ++ (lw_privs_3)), lw_okq q
  exact List.forall_mem_append.mpr ⟨lw_r1, List.forall_mem_append.mpr ⟨lw_r2, lw_r3⟩⟩
-- names
def RX0 : String := "BorrowedTears$Acts"
def TX0 : u_T := fun k => match k with
  | 0 => ("BorrowedTears$Acts", "before", "[LBorrowedTears$People;", true)
  | 1 => ("BorrowedTears$Acts", "first", "I", false)
  | _ => ("BorrowedTears$Acts", "count", "I", false)
def tyX0 : Nat → FieldType := fun k => match k with
  | 0 => .array (.object "BorrowedTears$People")
  | 1 => .int
  | _ => .int
abbrev wsX00 : List Cond := u_ws RX0 TX0 3
theorem nmX0 : ∀ a, a < 3 → ∀ b, b < 3 → a ≠ b → (TX0 a).2.1 ≠ (TX0 b).2.1 := by decide +kernel
theorem tyX0_ok : ∀ k, k < 3 → parseFieldDescriptor (TX0 k).2.2.1 = some (tyX0 k) := by decide +kernel
abbrev cX0_init : ByteArray := prog_2_method_1_code
def yX0_init : MethodName := ⟨RX0, "<init>", "()V"⟩
abbrev cX0_forgetAll : ByteArray := prog_2_method_2_code
def yX0_forgetAll : MethodName := ⟨RX0, "forgetAll", "()V"⟩
abbrev cX0_remember : ByteArray := prog_2_method_3_code
def yX0_remember : MethodName := ⟨RX0, "remember", "(LBorrowedTears$People;)V"⟩
abbrev cX0_takeLast : ByteArray := prog_2_method_4_code
def yX0_takeLast : MethodName := ⟨RX0, "takeLast", "(LBorrowedTears$People;)V"⟩
def RX1 : String := "BorrowedTears$LandText"
def TX1 : u_T := fun k => match k with
  | 0 => ("BorrowedTears$LandText", "letters", "[I", true)
  | 1 => ("BorrowedTears$LandText", "told", "LBorrowedTears$People;", true)
  | _ => ("BorrowedTears$LandText", "length", "I", false)
def tyX1 : Nat → FieldType := fun k => match k with
  | 0 => .array .int
  | 1 => .object "BorrowedTears$People"
  | _ => .int
abbrev wsX10 : List Cond := u_ws RX1 TX1 3
theorem nmX1 : ∀ a, a < 3 → ∀ b, b < 3 → a ≠ b → (TX1 a).2.1 ≠ (TX1 b).2.1 := by decide +kernel
theorem tyX1_ok : ∀ k, k < 3 → parseFieldDescriptor (TX1 k).2.2.1 = some (tyX1 k) := by decide +kernel
abbrev cX1_init : ByteArray := prog_3_method_1_code
def yX1_init : MethodName := ⟨RX1, "<init>", "()V"⟩
abbrev cX1_append : ByteArray := prog_3_method_2_code
def yX1_append : MethodName := ⟨RX1, "append", "(I)Z"⟩
abbrev cX1_readLand : ByteArray := prog_3_method_3_code
def yX1_readLand : MethodName := ⟨RX1, "readLand", "()I"⟩
abbrev cX1_letterAt : ByteArray := prog_3_method_4_code
def yX1_letterAt : MethodName := ⟨RX1, "letterAt", "(I)I"⟩
abbrev cX1_digitAt : ByteArray := prog_3_method_5_code
def yX1_digitAt : MethodName := ⟨RX1, "digitAt", "(I)I"⟩
abbrev cX1_readPerson : ByteArray := prog_3_method_6_code
def yX1_readPerson : MethodName := ⟨RX1, "readPerson", "(I)I"⟩
abbrev cX1_readKin : ByteArray := prog_3_method_7_code
def yX1_readKin : MethodName := ⟨RX1, "readKin", "(I)I"⟩
abbrev cX1_isPairLeft : ByteArray := prog_3_method_8_code
def yX1_isPairLeft : MethodName := ⟨RX1, "isPairLeft", "()Z"⟩
def RX2 : String := "BorrowedTears$People"
def TX2 : u_T := fun k => match k with
  | 0 => ("BorrowedTears$People", "sorrow", "[I", true)
  | 1 => ("BorrowedTears$People", "age", "[I", true)
  | 2 => ("BorrowedTears$People", "kind", "[I", true)
  | 3 => ("BorrowedTears$People", "kin", "[I", true)
  | 4 => ("BorrowedTears$People", "owed", "[I", true)
  | 5 => ("BorrowedTears$People", "count", "I", false)
  | 6 => ("BorrowedTears$People", "open", "I", false)
  | 7 => ("BorrowedTears$People", "onionUsers", "I", false)
  | _ => ("BorrowedTears$People", "weeks", "I", false)
def tyX2 : Nat → FieldType := fun k => match k with
  | 0 => .array .int
  | 1 => .array .int
  | 2 => .array .int
  | 3 => .array .int
  | 4 => .array .int
  | 5 => .int
  | 6 => .int
  | 7 => .int
  | _ => .int
abbrev wsX20 : List Cond := u_ws RX2 TX2 9
theorem nmX2 : ∀ a, a < 9 → ∀ b, b < 9 → a ≠ b → (TX2 a).2.1 ≠ (TX2 b).2.1 := by decide +kernel
theorem tyX2_ok : ∀ k, k < 9 → parseFieldDescriptor (TX2 k).2.2.1 = some (tyX2 k) := by decide +kernel
abbrev cX2_init : ByteArray := prog_4_method_1_code
def yX2_init : MethodName := ⟨RX2, "<init>", "()V"⟩
abbrev cX2_copyFrom : ByteArray := prog_4_method_2_code
def yX2_copyFrom : MethodName := ⟨RX2, "copyFrom", "(LBorrowedTears$People;)V"⟩
abbrev cX2_clear : ByteArray := prog_4_method_3_code
def yX2_clear : MethodName := ⟨RX2, "clear", "()V"⟩
abbrev cX2_add : ByteArray := prog_4_method_4_code
def yX2_add : MethodName := ⟨RX2, "add", "(III)V"⟩
abbrev cX2_has : ByteArray := prog_4_method_5_code
def yX2_has : MethodName := ⟨RX2, "has", "(I)Z"⟩
abbrev cX2_everyone : ByteArray := prog_4_method_6_code
def yX2_everyone : MethodName := ⟨RX2, "everyone", "()I"⟩
abbrev cX2_unbereaved : ByteArray := prog_4_method_7_code
def yX2_unbereaved : MethodName := ⟨RX2, "unbereaved", "()I"⟩
abbrev cX2_isOpen : ByteArray := prog_4_method_8_code
def yX2_isOpen : MethodName := ⟨RX2, "isOpen", "(I)Z"⟩
abbrev cX2_areKin : ByteArray := prog_4_method_9_code
def yX2_areKin : MethodName := ⟨RX2, "areKin", "(II)Z"⟩
abbrev cX2_makeKin : ByteArray := prog_4_method_10_code
def yX2_makeKin : MethodName := ⟨RX2, "makeKin", "(II)V"⟩
abbrev cX2_laterStrangers : ByteArray := prog_4_method_11_code
def yX2_laterStrangers : MethodName := ⟨RX2, "laterStrangers", "(I)I"⟩
abbrev cX2_ounces : ByteArray := prog_4_method_12_code
def yX2_ounces : MethodName := ⟨RX2, "ounces", "(I)I"⟩
abbrev cX2_allSorrow : ByteArray := prog_4_method_13_code
def yX2_allSorrow : MethodName := ⟨RX2, "allSorrow", "()I"⟩
abbrev cX2_isFitFor : ByteArray := prog_4_method_14_code
def yX2_isFitFor : MethodName := ⟨RX2, "isFitFor", "(II)Z"⟩
abbrev cX2_mayWeep : ByteArray := prog_4_method_15_code
def yX2_mayWeep : MethodName := ⟨RX2, "mayWeep", "(II)Z"⟩
abbrev cX2_mayUseOnions : ByteArray := prog_4_method_16_code
def yX2_mayUseOnions : MethodName := ⟨RX2, "mayUseOnions", "(II)Z"⟩
abbrev cX2_thoseToWeepFor : ByteArray := prog_4_method_17_code
def yX2_thoseToWeepFor : MethodName := ⟨RX2, "thoseToWeepFor", "(I)I"⟩
abbrev cX2_unweptBits : ByteArray := prog_4_method_18_code
def yX2_unweptBits : MethodName := ⟨RX2, "unweptBits", "()I"⟩
abbrev cX2_kinToAllBits : ByteArray := prog_4_method_19_code
def yX2_kinToAllBits : MethodName := ⟨RX2, "kinToAllBits", "()I"⟩
abbrev cX2_debt : ByteArray := prog_4_method_20_code
def yX2_debt : MethodName := ⟨RX2, "debt", "(II)I"⟩
abbrev cX2_reachedByDebts : ByteArray := prog_4_method_21_code
def yX2_reachedByDebts : MethodName := ⟨RX2, "reachedByDebts", "(I)I"⟩
abbrev cX2_creditors : ByteArray := prog_4_method_22_code
def yX2_creditors : MethodName := ⟨RX2, "creditors", "(I)I"⟩
abbrev cX2_bereave : ByteArray := prog_4_method_23_code
def yX2_bereave : MethodName := ⟨RX2, "bereave", "(I)V"⟩
abbrev cX2_weepFor : ByteArray := prog_4_method_24_code
def yX2_weepFor : MethodName := ⟨RX2, "weepFor", "(II)I"⟩
abbrev cX2_useOnions : ByteArray := prog_4_method_25_code
def yX2_useOnions : MethodName := ⟨RX2, "useOnions", "(II)V"⟩
abbrev cX2_settle : ByteArray := prog_4_method_26_code
def yX2_settle : MethodName := ⟨RX2, "settle", "(II)V"⟩
abbrev cX2_passWeek : ByteArray := prog_4_method_27_code
def yX2_passWeek : MethodName := ⟨RX2, "passWeek", "()V"⟩
def RX3 : String := "BorrowedTears$Service"
def TX3 : u_T := fun k => match k with
  | 0 => ("BorrowedTears$Service", "bereaved", "I", false)
  | 1 => ("BorrowedTears$Service", "most", "I", false)
  | 2 => ("BorrowedTears$Service", "ounces", "I", false)
  | _ => ("BorrowedTears$Service", "way", "I", false)
def tyX3 : Nat → FieldType := fun k => match k with
  | 0 => .int
  | 1 => .int
  | 2 => .int
  | _ => .int
abbrev wsX30 : List Cond := u_ws RX3 TX3 4
theorem nmX3 : ∀ a, a < 4 → ∀ b, b < 4 → a ≠ b → (TX3 a).2.1 ≠ (TX3 b).2.1 := by decide +kernel
theorem tyX3_ok : ∀ k, k < 4 → parseFieldDescriptor (TX3 k).2.2.1 = some (tyX3 k) := by decide +kernel
abbrev cX3_init : ByteArray := prog_5_method_1_code
def yX3_init : MethodName := ⟨RX3, "<init>", "()V"⟩
abbrev cX3_search : ByteArray := prog_5_method_2_code
def yX3_search : MethodName := ⟨RX3, "search", "(LBorrowedTears$People;II)I"⟩
abbrev cX3_give : ByteArray := prog_5_method_3_code
def yX3_give : MethodName := ⟨RX3, "give", "(LBorrowedTears$Service;LBorrowedTears$People;IIIII)V"⟩
abbrev cX3_compare : ByteArray := prog_5_method_4_code
def yX3_compare : MethodName := ⟨RX3, "compare", "(III)V"⟩
def RX4 : String := "BorrowedTears"
def TX4 : u_T := fun k => match k with
  | 0 => ("BorrowedTears", "text", "LBorrowedTears$LandText;", true)
  | 1 => ("BorrowedTears", "now", "LBorrowedTears$People;", true)
  | 2 => ("BorrowedTears", "trial", "LBorrowedTears$People;", true)
  | 3 => ("BorrowedTears", "acts", "LBorrowedTears$Acts;", true)
  | 4 => ("BorrowedTears", "kept", "[LBorrowedTears$People;", true)
  | 5 => ("BorrowedTears", "isKept", "[Z", true)
  | 6 => ("BorrowedTears", "service", "LBorrowedTears$Service;", true)
  | _ => ("BorrowedTears", "theSeed", "J", false)
def tyX4 : Nat → FieldType := fun k => match k with
  | 0 => .object "BorrowedTears$LandText"
  | 1 => .object "BorrowedTears$People"
  | 2 => .object "BorrowedTears$People"
  | 3 => .object "BorrowedTears$Acts"
  | 4 => .array (.object "BorrowedTears$People")
  | 5 => .array .boolean
  | 6 => .object "BorrowedTears$Service"
  | _ => .long
abbrev wsX40 : List Cond := u_ws RX4 TX4 8
theorem nmX4 : ∀ a, a < 8 → ∀ b, b < 8 → a ≠ b → (TX4 a).2.1 ≠ (TX4 b).2.1 := by decide +kernel
theorem tyX4_ok : ∀ k, k < 8 → parseFieldDescriptor (TX4 k).2.2.1 = some (tyX4 k) := by decide +kernel
abbrev cX4_init : ByteArray := prog_1_method_1_code
def yX4_init : MethodName := ⟨RX4, "<init>", "()V"⟩
abbrev cX4_write : ByteArray := prog_1_method_2_code
def yX4_write : MethodName := ⟨RX4, "write", "(I)I"⟩
abbrev cX4_wipe : ByteArray := prog_1_method_3_code
def yX4_wipe : MethodName := ⟨RX4, "wipe", "()I"⟩
abbrev cX4_fault : ByteArray := prog_1_method_4_code
def yX4_fault : MethodName := ⟨RX4, "fault", "()I"⟩
abbrev cX4_land : ByteArray := prog_1_method_5_code
def yX4_land : MethodName := ⟨RX4, "land", "()I"⟩
abbrev cX4_about : ByteArray := prog_1_method_6_code
def yX4_about : MethodName := ⟨RX4, "about", "(I)I"⟩
abbrev cX4_person : ByteArray := prog_1_method_7_code
def yX4_person : MethodName := ⟨RX4, "person", "(II)I"⟩
abbrev cX4_owes : ByteArray := prog_1_method_8_code
def yX4_owes : MethodName := ⟨RX4, "owes", "(II)I"⟩
abbrev cX4_funeral : ByteArray := prog_1_method_9_code
def yX4_funeral : MethodName := ⟨RX4, "funeral", "(I)I"⟩
abbrev cX4_weep : ByteArray := prog_1_method_10_code
def yX4_weep : MethodName := ⟨RX4, "weep", "(II)I"⟩
abbrev cX4_onions : ByteArray := prog_1_method_11_code
def yX4_onions : MethodName := ⟨RX4, "onions", "(II)I"⟩
abbrev cX4_week : ByteArray := prog_1_method_12_code
def yX4_week : MethodName := ⟨RX4, "week", "()I"⟩
abbrev cX4_undo : ByteArray := prog_1_method_13_code
def yX4_undo : MethodName := ⟨RX4, "undo", "()I"⟩
abbrev cX4_served : ByteArray := prog_1_method_14_code
def yX4_served : MethodName := ⟨RX4, "served", "(I)I"⟩
abbrev cX4_nobody : ByteArray := prog_1_method_15_code
def yX4_nobody : MethodName := ⟨RX4, "nobody", "(I)I"⟩
abbrev cX4_till : ByteArray := prog_1_method_16_code
def yX4_till : MethodName := ⟨RX4, "till", "(II)I"⟩
abbrev cX4_net : ByteArray := prog_1_method_17_code
def yX4_net : MethodName := ⟨RX4, "net", "(I)I"⟩
abbrev cX4_ring : ByteArray := prog_1_method_18_code
def yX4_ring : MethodName := ⟨RX4, "ring", "()I"⟩
abbrev cX4_share : ByteArray := prog_1_method_19_code
def yX4_share : MethodName := ⟨RX4, "share", "(IZ)I"⟩
abbrev cX4_weighed : ByteArray := prog_1_method_20_code
def yX4_weighed : MethodName := ⟨RX4, "weighed", "(III)I"⟩
abbrev cX4_whose : ByteArray := prog_1_method_21_code
def yX4_whose : MethodName := ⟨RX4, "whose", "(I)I"⟩
abbrev cX4_rests : ByteArray := prog_1_method_22_code
def yX4_rests : MethodName := ⟨RX4, "rests", "(IIII)I"⟩
abbrev cX4_chance : ByteArray := prog_1_method_23_code
def yX4_chance : MethodName := ⟨RX4, "chance", "(IZ)I"⟩
abbrev cX4_seed : ByteArray := prog_1_method_24_code
def yX4_seed : MethodName := ⟨RX4, "seed", "(J)J"⟩
abbrev cX4_years : ByteArray := prog_1_method_25_code
def yX4_years : MethodName := ⟨RX4, "years", "(I)I"⟩
abbrev cX4_keep : ByteArray := prog_1_method_26_code
def yX4_keep : MethodName := ⟨RX4, "keep", "(I)I"⟩
abbrev cX4_again : ByteArray := prog_1_method_27_code
def yX4_again : MethodName := ⟨RX4, "again", "(I)I"⟩
abbrev cX4_gain : ByteArray := prog_1_method_28_code
def yX4_gain : MethodName := ⟨RX4, "gain", "(II)I"⟩
abbrev cX4_allServed : ByteArray := prog_1_method_29_code
def yX4_allServed : MethodName := ⟨RX4, "allServed", "(I)Z"⟩
abbrev cX4_weight : ByteArray := prog_1_method_30_code
def yX4_weight : MethodName := ⟨RX4, "weight", "(II)I"⟩
abbrev cX4_isAtRest : ByteArray := prog_1_method_31_code
def yX4_isAtRest : MethodName := ⟨RX4, "isAtRest", "(IIZZ)Z"⟩
abbrev cX4_oneWeeps : ByteArray := prog_1_method_32_code
def yX4_oneWeeps : MethodName := ⟨RX4, "oneWeeps", "(IIZZ)Z"⟩
abbrev cX4_gotByOne : ByteArray := prog_1_method_33_code
def yX4_gotByOne : MethodName := ⟨RX4, "gotByOne", "(IIZZ)I"⟩
abbrev cX4_gotByOther : ByteArray := prog_1_method_34_code
def yX4_gotByOther : MethodName := ⟨RX4, "gotByOther", "(IIZZ)I"⟩
abbrev cX4_got : ByteArray := prog_1_method_35_code
def yX4_got : MethodName := ⟨RX4, "got", "(IZZ)I"⟩
abbrev cX4_hasBit : ByteArray := prog_1_method_36_code
def yX4_hasBit : MethodName := ⟨RX4, "hasBit", "(II)Z"⟩
abbrev cX4_factorial : ByteArray := prog_1_method_37_code
def yX4_factorial : MethodName := ⟨RX4, "factorial", "(I)I"⟩
abbrev cX4_power : ByteArray := prog_1_method_38_code
def yX4_power : MethodName := ⟨RX4, "power", "(II)I"⟩
abbrev cX4_fraction : ByteArray := prog_1_method_39_code
def yX4_fraction : MethodName := ⟨RX4, "fraction", "(IIZ)I"⟩
def RX5 : String := "BorrowedTearsModel"
def TX5 : u_T := fun k => match k with
  | 0 => ("BorrowedTearsModel", "thrown", "I", false)
  | 1 => ("BorrowedTearsModel", "text", "[I", true)
  | 2 => ("BorrowedTearsModel", "textSize", "I", false)
  | 3 => ("BorrowedTearsModel", "place", "I", false)
  | 4 => ("BorrowedTearsModel", "people", "I", false)
  | 5 => ("BorrowedTearsModel", "kind", "[I", true)
  | 6 => ("BorrowedTearsModel", "readPeople", "I", false)
  | 7 => ("BorrowedTearsModel", "readPerson", "[I", true)
  | 8 => ("BorrowedTearsModel", "readKin", "[I", true)
  | 9 => ("BorrowedTearsModel", "page", "[I", true)
  | 10 => ("BorrowedTearsModel", "trial", "[I", true)
  | 11 => ("BorrowedTearsModel", "book", "[I", true)
  | 12 => ("BorrowedTearsModel", "acts", "I", false)
  | 13 => ("BorrowedTearsModel", "kept", "[I", true)
  | 14 => ("BorrowedTearsModel", "isKept", "[Z", true)
  | 15 => ("BorrowedTearsModel", "seed", "J", false)
  | 16 => ("BorrowedTearsModel", "servedMost", "I", false)
  | 17 => ("BorrowedTearsModel", "servedOunces", "I", false)
  | 18 => ("BorrowedTearsModel", "servedWay", "I", false)
  | 19 => ("BorrowedTearsModel", "value", "[I", true)
  | 20 => ("BorrowedTearsModel", "restMany", "I", false)
  | _ => ("BorrowedTearsModel", "restFirst", "I", false)
def tyX5 : Nat → FieldType := fun k => match k with
  | 0 => .int
  | 1 => .array .int
  | 2 => .int
  | 3 => .int
  | 4 => .int
  | 5 => .array .int
  | 6 => .int
  | 7 => .array .int
  | 8 => .array .int
  | 9 => .array .int
  | 10 => .array .int
  | 11 => .array .int
  | 12 => .int
  | 13 => .array .int
  | 14 => .array .boolean
  | 15 => .long
  | 16 => .int
  | 17 => .int
  | 18 => .int
  | 19 => .array .int
  | 20 => .int
  | _ => .int
abbrev wsX50 : List Cond := u_ws RX5 TX5 22
theorem nmX5 : ∀ a, a < 22 → ∀ b, b < 22 → a ≠ b → (TX5 a).2.1 ≠ (TX5 b).2.1 := by decide +kernel
theorem tyX5_ok : ∀ k, k < 22 → parseFieldDescriptor (TX5 k).2.2.1 = some (tyX5 k) := by decide +kernel
abbrev cX5_init : ByteArray := prog_7_method_1_code
def yX5_init : MethodName := ⟨RX5, "<init>", "()V"⟩
abbrev cX5_in : ByteArray := prog_7_method_3_code
def yX5_in : MethodName := ⟨RX5, "in", "(JJJ)Z"⟩
abbrev cX5_has : ByteArray := prog_7_method_4_code
def yX5_has : MethodName := ⟨RX5, "has", "(II)Z"⟩
abbrev cX5_many : ByteArray := prog_7_method_5_code
def yX5_many : MethodName := ⟨RX5, "many", "(I)I"⟩
abbrev cX5_noPerson : ByteArray := prog_7_method_6_code
def yX5_noPerson : MethodName := ⟨RX5, "noPerson", "(I)Z"⟩
abbrev cX5_everyone : ByteArray := prog_7_method_7_code
def yX5_everyone : MethodName := ⟨RX5, "everyone", "()I"⟩
abbrev cX5_write : ByteArray := prog_7_method_8_code
def yX5_write : MethodName := ⟨RX5, "write", "(I)I"⟩
abbrev cX5_wipe : ByteArray := prog_7_method_9_code
def yX5_wipe : MethodName := ⟨RX5, "wipe", "()I"⟩
abbrev cX5_figure : ByteArray := prog_7_method_10_code
def yX5_figure : MethodName := ⟨RX5, "figure", "(II)I"⟩
abbrev cX5_pairsOf : ByteArray := prog_7_method_11_code
def yX5_pairsOf : MethodName := ⟨RX5, "pairsOf", "(I)I"⟩
abbrev cX5_arePairs : ByteArray := prog_7_method_12_code
def yX5_arePairs : MethodName := ⟨RX5, "arePairs", "()Z"⟩
abbrev cX5_readPerson : ByteArray := prog_7_method_13_code
def yX5_readPerson : MethodName := ⟨RX5, "readPerson", "()Z"⟩
abbrev cX5_readKin : ByteArray := prog_7_method_14_code
def yX5_readKin : MethodName := ⟨RX5, "readKin", "()Z"⟩
abbrev cX5_readPart : ByteArray := prog_7_method_15_code
def yX5_readPart : MethodName := ⟨RX5, "readPart", "()Z"⟩
abbrev cX5_readLand : ByteArray := prog_7_method_16_code
def yX5_readLand : MethodName := ⟨RX5, "readLand", "()I"⟩
abbrev cX5_fault : ByteArray := prog_7_method_17_code
def yX5_fault : MethodName := ⟨RX5, "fault", "()I"⟩
abbrev cX5_land : ByteArray := prog_7_method_18_code
def yX5_land : MethodName := ⟨RX5, "land", "()I"⟩
abbrev cX5_ouncesOf : ByteArray := prog_7_method_19_code
def yX5_ouncesOf : MethodName := ⟨RX5, "ouncesOf", "([II)I"⟩
abbrev cX5_isFree : ByteArray := prog_7_method_20_code
def yX5_isFree : MethodName := ⟨RX5, "isFree", "([III)Z"⟩
abbrev cX5_mayWeep : ByteArray := prog_7_method_21_code
def yX5_mayWeep : MethodName := ⟨RX5, "mayWeep", "([III)Z"⟩
abbrev cX5_open : ByteArray := prog_7_method_22_code
def yX5_open : MethodName := ⟨RX5, "open", "([II)V"⟩
abbrev cX5_close : ByteArray := prog_7_method_23_code
def yX5_close : MethodName := ⟨RX5, "close", "([III)V"⟩
abbrev cX5_goWeep : ByteArray := prog_7_method_24_code
def yX5_goWeep : MethodName := ⟨RX5, "goWeep", "([III)I"⟩
abbrev cX5_goWeek : ByteArray := prog_7_method_25_code
def yX5_goWeek : MethodName := ⟨RX5, "goWeek", "([I)V"⟩
abbrev cX5_about : ByteArray := prog_7_method_26_code
def yX5_about : MethodName := ⟨RX5, "about", "(I)I"⟩
abbrev cX5_mayFor : ByteArray := prog_7_method_27_code
def yX5_mayFor : MethodName := ⟨RX5, "mayFor", "(I)I"⟩
abbrev cX5_person : ByteArray := prog_7_method_28_code
def yX5_person : MethodName := ⟨RX5, "person", "(II)I"⟩
abbrev cX5_owes : ByteArray := prog_7_method_29_code
def yX5_owes : MethodName := ⟨RX5, "owes", "(II)I"⟩
abbrev cX5_note : ByteArray := prog_7_method_30_code
def yX5_note : MethodName := ⟨RX5, "note", "()V"⟩
abbrev cX5_funeral : ByteArray := prog_7_method_31_code
def yX5_funeral : MethodName := ⟨RX5, "funeral", "(I)I"⟩
abbrev cX5_weep : ByteArray := prog_7_method_32_code
def yX5_weep : MethodName := ⟨RX5, "weep", "(II)I"⟩
abbrev cX5_onions : ByteArray := prog_7_method_33_code
def yX5_onions : MethodName := ⟨RX5, "onions", "(II)I"⟩
abbrev cX5_week : ByteArray := prog_7_method_34_code
def yX5_week : MethodName := ⟨RX5, "week", "()I"⟩
abbrev cX5_undo : ByteArray := prog_7_method_35_code
def yX5_undo : MethodName := ⟨RX5, "undo", "()I"⟩
abbrev cX5_begin : ByteArray := prog_7_method_36_code
def yX5_begin : MethodName := ⟨RX5, "begin", "()V"⟩
abbrev cX5_power : ByteArray := prog_7_method_37_code
def yX5_power : MethodName := ⟨RX5, "power", "(II)I"⟩
abbrev cX5_findServed : ByteArray := prog_7_method_38_code
def yX5_findServed : MethodName := ⟨RX5, "findServed", "([II)V"⟩
abbrev cX5_served : ByteArray := prog_7_method_39_code
def yX5_served : MethodName := ⟨RX5, "served", "(I)I"⟩
abbrev cX5_nobody : ByteArray := prog_7_method_40_code
def yX5_nobody : MethodName := ⟨RX5, "nobody", "(I)I"⟩
abbrev cX5_till : ByteArray := prog_7_method_41_code
def yX5_till : MethodName := ⟨RX5, "till", "(II)I"⟩
abbrev cX5_net : ByteArray := prog_7_method_42_code
def yX5_net : MethodName := ⟨RX5, "net", "(I)I"⟩
abbrev cX5_ring : ByteArray := prog_7_method_43_code
def yX5_ring : MethodName := ⟨RX5, "ring", "()I"⟩
abbrev cX5_orders : ByteArray := prog_7_method_44_code
def yX5_orders : MethodName := ⟨RX5, "orders", "(I)I"⟩
abbrev cX5_divisor : ByteArray := prog_7_method_45_code
def yX5_divisor : MethodName := ⟨RX5, "divisor", "(II)I"⟩
abbrev cX5_fraction : ByteArray := prog_7_method_46_code
def yX5_fraction : MethodName := ⟨RX5, "fraction", "(IIZ)I"⟩
abbrev cX5_share : ByteArray := prog_7_method_47_code
def yX5_share : MethodName := ⟨RX5, "share", "(IZ)I"⟩
abbrev cX5_weighed : ByteArray := prog_7_method_48_code
def yX5_weighed : MethodName := ⟨RX5, "weighed", "(III)I"⟩
abbrev cX5_whose : ByteArray := prog_7_method_49_code
def yX5_whose : MethodName := ⟨RX5, "whose", "(I)I"⟩
abbrev cX5_gainOf : ByteArray := prog_7_method_50_code
def yX5_gainOf : MethodName := ⟨RX5, "gainOf", "(IIIIIZ)I"⟩
abbrev cX5_findRests : ByteArray := prog_7_method_51_code
def yX5_findRests : MethodName := ⟨RX5, "findRests", "(III)V"⟩
abbrev cX5_rests : ByteArray := prog_7_method_52_code
def yX5_rests : MethodName := ⟨RX5, "rests", "(IIII)I"⟩
abbrev cX5_chance : ByteArray := prog_7_method_53_code
def yX5_chance : MethodName := ⟨RX5, "chance", "(IZ)I"⟩
abbrev cX5_seed : ByteArray := prog_7_method_54_code
def yX5_seed : MethodName := ⟨RX5, "seed", "(J)J"⟩
abbrev cX5_years : ByteArray := prog_7_method_55_code
def yX5_years : MethodName := ⟨RX5, "years", "(I)I"⟩
abbrev cX5_keep : ByteArray := prog_7_method_56_code
def yX5_keep : MethodName := ⟨RX5, "keep", "(I)I"⟩
abbrev cX5_again : ByteArray := prog_7_method_57_code
def yX5_again : MethodName := ⟨RX5, "again", "(I)I"⟩
def RL : String := "BorrowedTearsLaw"
abbrev cL_law : ByteArray := code
def yL_law : MethodName := ⟨RL, "law", "([I)Z"⟩
abbrev vwCl : List vw_C := [(RX0, TX0, 3), (RX1, TX1, 3), (RX2, TX2, 9), (RX3, TX3, 4), (RX4, TX4, 8), (RX5, TX5, 22)]
end
section
theorem dX0_init_0 : decode cX0_init 0 = .ok (.aload_n 0, 1) := by decide +kernel
theorem dX0_init_1 : decode cX0_init 1 = .ok (.invokespecial 3, 3) := by decide +kernel
theorem dX0_init_4 : decode cX0_init 4 = .ok (.aload_n 0, 1) := by decide +kernel
theorem dX0_init_5 : decode cX0_init 5 = .ok (.bipush 14, 2) := by decide +kernel
theorem dX0_init_7 : decode cX0_init 7 = .ok (.anewarray 9, 3) := by decide +kernel
theorem dX0_init_10 : decode cX0_init 10 = .ok (.putfield 11, 3) := by decide +kernel
theorem dX0_init_13 : decode cX0_init 13 = .ok (.iconst 0, 1) := by decide +kernel
theorem dX0_init_14 : decode cX0_init 14 = .ok (.istore_n 1, 1) := by decide +kernel
theorem dX0_init_15 : decode cX0_init 15 = .ok (.iload_n 1, 1) := by decide +kernel
theorem dX0_init_16 : decode cX0_init 16 = .ok (.bipush 14, 2) := by decide +kernel
theorem dX0_init_18 : decode cX0_init 18 = .ok (.if_icmp .ge 22, 3) := by decide +kernel
theorem dX0_init_21 : decode cX0_init 21 = .ok (.aload_n 0, 1) := by decide +kernel
theorem dX0_init_22 : decode cX0_init 22 = .ok (.getfield 11, 3) := by decide +kernel
theorem dX0_init_25 : decode cX0_init 25 = .ok (.iload_n 1, 1) := by decide +kernel
theorem dX0_init_26 : decode cX0_init 26 = .ok (.new 9, 3) := by decide +kernel
theorem dX0_init_29 : decode cX0_init 29 = .ok (.dup, 1) := by decide +kernel
theorem dX0_init_30 : decode cX0_init 30 = .ok (.invokespecial 17, 3) := by decide +kernel
theorem dX0_init_33 : decode cX0_init 33 = .ok (.aastore, 1) := by decide +kernel
theorem dX0_init_34 : decode cX0_init 34 = .ok (.iinc 1 1, 3) := by decide +kernel
theorem dX0_init_37 : decode cX0_init 37 = .ok (.goto (-22), 3) := by decide +kernel
theorem dX0_init_40 : decode cX0_init 40 = .ok (.return_, 1) := by decide +kernel
theorem dX0_forgetAll_0 : decode cX0_forgetAll 0 = .ok (.aload_n 0, 1) := by decide +kernel
theorem dX0_forgetAll_1 : decode cX0_forgetAll 1 = .ok (.iconst 0, 1) := by decide +kernel
theorem dX0_forgetAll_2 : decode cX0_forgetAll 2 = .ok (.putfield 18, 3) := by decide +kernel
theorem dX0_forgetAll_5 : decode cX0_forgetAll 5 = .ok (.aload_n 0, 1) := by decide +kernel
theorem dX0_forgetAll_6 : decode cX0_forgetAll 6 = .ok (.iconst 0, 1) := by decide +kernel
theorem dX0_forgetAll_7 : decode cX0_forgetAll 7 = .ok (.putfield 22, 3) := by decide +kernel
theorem dX0_forgetAll_10 : decode cX0_forgetAll 10 = .ok (.return_, 1) := by decide +kernel
theorem dX0_remember_0 : decode cX0_remember 0 = .ok (.aload_n 0, 1) := by decide +kernel
theorem dX0_remember_1 : decode cX0_remember 1 = .ok (.getfield 22, 3) := by decide +kernel
theorem dX0_remember_4 : decode cX0_remember 4 = .ok (.bipush 14, 2) := by decide +kernel
theorem dX0_remember_6 : decode cX0_remember 6 = .ok (.if_icmp .lt 22, 3) := by decide +kernel
theorem dX0_remember_9 : decode cX0_remember 9 = .ok (.aload_n 0, 1) := by decide +kernel
theorem dX0_remember_10 : decode cX0_remember 10 = .ok (.aload_n 0, 1) := by decide +kernel
theorem dX0_remember_11 : decode cX0_remember 11 = .ok (.getfield 18, 3) := by decide +kernel
theorem dX0_remember_14 : decode cX0_remember 14 = .ok (.iconst 1, 1) := by decide +kernel
theorem dX0_remember_15 : decode cX0_remember 15 = .ok (.iadd, 1) := by decide +kernel
theorem dX0_remember_16 : decode cX0_remember 16 = .ok (.bipush 14, 2) := by decide +kernel
theorem dX0_remember_18 : decode cX0_remember 18 = .ok (.irem, 1) := by decide +kernel
theorem dX0_remember_19 : decode cX0_remember 19 = .ok (.putfield 18, 3) := by decide +kernel
theorem dX0_remember_22 : decode cX0_remember 22 = .ok (.aload_n 0, 1) := by decide +kernel
theorem dX0_remember_23 : decode cX0_remember 23 = .ok (.bipush 13, 2) := by decide +kernel
theorem dX0_remember_25 : decode cX0_remember 25 = .ok (.putfield 22, 3) := by decide +kernel
theorem dX0_remember_28 : decode cX0_remember 28 = .ok (.aload_n 0, 1) := by decide +kernel
theorem dX0_remember_29 : decode cX0_remember 29 = .ok (.getfield 11, 3) := by decide +kernel
theorem dX0_remember_32 : decode cX0_remember 32 = .ok (.aload_n 0, 1) := by decide +kernel
theorem dX0_remember_33 : decode cX0_remember 33 = .ok (.getfield 18, 3) := by decide +kernel
theorem dX0_remember_36 : decode cX0_remember 36 = .ok (.aload_n 0, 1) := by decide +kernel
theorem dX0_remember_37 : decode cX0_remember 37 = .ok (.getfield 22, 3) := by decide +kernel
theorem dX0_remember_40 : decode cX0_remember 40 = .ok (.iadd, 1) := by decide +kernel
theorem dX0_remember_41 : decode cX0_remember 41 = .ok (.bipush 14, 2) := by decide +kernel
theorem dX0_remember_43 : decode cX0_remember 43 = .ok (.irem, 1) := by decide +kernel
theorem dX0_remember_44 : decode cX0_remember 44 = .ok (.aaload, 1) := by decide +kernel
theorem dX0_remember_45 : decode cX0_remember 45 = .ok (.aload_n 1, 1) := by decide +kernel
theorem dX0_remember_46 : decode cX0_remember 46 = .ok (.invokevirtual 25, 3) := by decide +kernel
theorem dX0_remember_49 : decode cX0_remember 49 = .ok (.aload_n 0, 1) := by decide +kernel
theorem dX0_remember_50 : decode cX0_remember 50 = .ok (.dup, 1) := by decide +kernel
theorem dX0_remember_51 : decode cX0_remember 51 = .ok (.getfield 22, 3) := by decide +kernel
theorem dX0_remember_54 : decode cX0_remember 54 = .ok (.iconst 1, 1) := by decide +kernel
theorem dX0_remember_55 : decode cX0_remember 55 = .ok (.iadd, 1) := by decide +kernel
theorem dX0_remember_56 : decode cX0_remember 56 = .ok (.putfield 22, 3) := by decide +kernel
theorem dX0_remember_59 : decode cX0_remember 59 = .ok (.return_, 1) := by decide +kernel
theorem dX0_takeLast_0 : decode cX0_takeLast 0 = .ok (.aload_n 0, 1) := by decide +kernel
theorem dX0_takeLast_1 : decode cX0_takeLast 1 = .ok (.getfield 22, 3) := by decide +kernel
theorem dX0_takeLast_4 : decode cX0_takeLast 4 = .ok (.ifCond .le 34, 3) := by decide +kernel
theorem dX0_takeLast_7 : decode cX0_takeLast 7 = .ok (.aload_n 0, 1) := by decide +kernel
theorem dX0_takeLast_8 : decode cX0_takeLast 8 = .ok (.dup, 1) := by decide +kernel
theorem dX0_takeLast_9 : decode cX0_takeLast 9 = .ok (.getfield 22, 3) := by decide +kernel
theorem dX0_takeLast_12 : decode cX0_takeLast 12 = .ok (.iconst 1, 1) := by decide +kernel
theorem dX0_takeLast_13 : decode cX0_takeLast 13 = .ok (.isub, 1) := by decide +kernel
theorem dX0_takeLast_14 : decode cX0_takeLast 14 = .ok (.putfield 22, 3) := by decide +kernel
theorem dX0_takeLast_17 : decode cX0_takeLast 17 = .ok (.aload_n 1, 1) := by decide +kernel
theorem dX0_takeLast_18 : decode cX0_takeLast 18 = .ok (.aload_n 0, 1) := by decide +kernel
theorem dX0_takeLast_19 : decode cX0_takeLast 19 = .ok (.getfield 11, 3) := by decide +kernel
theorem dX0_takeLast_22 : decode cX0_takeLast 22 = .ok (.aload_n 0, 1) := by decide +kernel
theorem dX0_takeLast_23 : decode cX0_takeLast 23 = .ok (.getfield 18, 3) := by decide +kernel
theorem dX0_takeLast_26 : decode cX0_takeLast 26 = .ok (.aload_n 0, 1) := by decide +kernel
theorem dX0_takeLast_27 : decode cX0_takeLast 27 = .ok (.getfield 22, 3) := by decide +kernel
theorem dX0_takeLast_30 : decode cX0_takeLast 30 = .ok (.iadd, 1) := by decide +kernel
theorem dX0_takeLast_31 : decode cX0_takeLast 31 = .ok (.bipush 14, 2) := by decide +kernel
theorem dX0_takeLast_33 : decode cX0_takeLast 33 = .ok (.irem, 1) := by decide +kernel
theorem dX0_takeLast_34 : decode cX0_takeLast 34 = .ok (.aaload, 1) := by decide +kernel
theorem dX0_takeLast_35 : decode cX0_takeLast 35 = .ok (.invokevirtual 25, 3) := by decide +kernel
theorem dX0_takeLast_38 : decode cX0_takeLast 38 = .ok (.return_, 1) := by decide +kernel
theorem dX1_init_0 : decode cX1_init 0 = .ok (.aload_n 0, 1) := by decide +kernel
theorem dX1_init_1 : decode cX1_init 1 = .ok (.invokespecial 3, 3) := by decide +kernel
theorem dX1_init_4 : decode cX1_init 4 = .ok (.aload_n 0, 1) := by decide +kernel
theorem dX1_init_5 : decode cX1_init 5 = .ok (.bipush 48, 2) := by decide +kernel
theorem dX1_init_7 : decode cX1_init 7 = .ok (.newarray .int, 2) := by decide +kernel
theorem dX1_init_9 : decode cX1_init 9 = .ok (.putfield 9, 3) := by decide +kernel
theorem dX1_init_12 : decode cX1_init 12 = .ok (.aload_n 0, 1) := by decide +kernel
theorem dX1_init_13 : decode cX1_init 13 = .ok (.new 15, 3) := by decide +kernel
theorem dX1_init_16 : decode cX1_init 16 = .ok (.dup, 1) := by decide +kernel
theorem dX1_init_17 : decode cX1_init 17 = .ok (.invokespecial 17, 3) := by decide +kernel
theorem dX1_init_20 : decode cX1_init 20 = .ok (.putfield 18, 3) := by decide +kernel
theorem dX1_init_23 : decode cX1_init 23 = .ok (.return_, 1) := by decide +kernel
theorem dX1_append_0 : decode cX1_append 0 = .ok (.aload_n 0, 1) := by decide +kernel
theorem dX1_append_1 : decode cX1_append 1 = .ok (.getfield 22, 3) := by decide +kernel
theorem dX1_append_4 : decode cX1_append 4 = .ok (.ifCond .lt 12, 3) := by decide +kernel
theorem dX1_append_7 : decode cX1_append 7 = .ok (.aload_n 0, 1) := by decide +kernel
theorem dX1_append_8 : decode cX1_append 8 = .ok (.getfield 22, 3) := by decide +kernel
theorem dX1_append_11 : decode cX1_append 11 = .ok (.bipush 48, 2) := by decide +kernel
theorem dX1_append_13 : decode cX1_append 13 = .ok (.if_icmp .lt 5, 3) := by decide +kernel
theorem dX1_append_16 : decode cX1_append 16 = .ok (.iconst 0, 1) := by decide +kernel
theorem dX1_append_17 : decode cX1_append 17 = .ok (.ireturn, 1) := by decide +kernel
theorem dX1_append_18 : decode cX1_append 18 = .ok (.aload_n 0, 1) := by decide +kernel
theorem dX1_append_19 : decode cX1_append 19 = .ok (.getfield 9, 3) := by decide +kernel
theorem dX1_append_22 : decode cX1_append 22 = .ok (.aload_n 0, 1) := by decide +kernel
theorem dX1_append_23 : decode cX1_append 23 = .ok (.getfield 22, 3) := by decide +kernel
theorem dX1_append_26 : decode cX1_append 26 = .ok (.iload_n 1, 1) := by decide +kernel
theorem dX1_append_27 : decode cX1_append 27 = .ok (.iastore, 1) := by decide +kernel
theorem dX1_append_28 : decode cX1_append 28 = .ok (.aload_n 0, 1) := by decide +kernel
theorem dX1_append_29 : decode cX1_append 29 = .ok (.dup, 1) := by decide +kernel
theorem dX1_append_30 : decode cX1_append 30 = .ok (.getfield 22, 3) := by decide +kernel
theorem dX1_append_33 : decode cX1_append 33 = .ok (.iconst 1, 1) := by decide +kernel
theorem dX1_append_34 : decode cX1_append 34 = .ok (.iadd, 1) := by decide +kernel
theorem dX1_append_35 : decode cX1_append 35 = .ok (.putfield 22, 3) := by decide +kernel
theorem dX1_append_38 : decode cX1_append 38 = .ok (.iconst 1, 1) := by decide +kernel
theorem dX1_append_39 : decode cX1_append 39 = .ok (.ireturn, 1) := by decide +kernel
theorem dX1_readLand_0 : decode cX1_readLand 0 = .ok (.aload_n 0, 1) := by decide +kernel
theorem dX1_readLand_1 : decode cX1_readLand 1 = .ok (.getfield 18, 3) := by decide +kernel
theorem dX1_readLand_4 : decode cX1_readLand 4 = .ok (.invokevirtual 26, 3) := by decide +kernel
theorem dX1_readLand_7 : decode cX1_readLand 7 = .ok (.aload_n 0, 1) := by decide +kernel
theorem dX1_readLand_8 : decode cX1_readLand 8 = .ok (.iconst 0, 1) := by decide +kernel
theorem dX1_readLand_9 : decode cX1_readLand 9 = .ok (.invokevirtual 29, 3) := by decide +kernel
theorem dX1_readLand_12 : decode cX1_readLand 12 = .ok (.bipush 84, 2) := by decide +kernel
theorem dX1_readLand_14 : decode cX1_readLand 14 = .ok (.if_icmp .eq 5, 3) := by decide +kernel
theorem dX1_readLand_17 : decode cX1_readLand 17 = .ok (.iconst 0, 1) := by decide +kernel
theorem dX1_readLand_18 : decode cX1_readLand 18 = .ok (.ireturn, 1) := by decide +kernel
theorem dX1_readLand_19 : decode cX1_readLand 19 = .ok (.iconst 1, 1) := by decide +kernel
theorem dX1_readLand_20 : decode cX1_readLand 20 = .ok (.istore_n 1, 1) := by decide +kernel
theorem dX1_readLand_21 : decode cX1_readLand 21 = .ok (.iload_n 1, 1) := by decide +kernel
theorem dX1_readLand_22 : decode cX1_readLand 22 = .ok (.aload_n 0, 1) := by decide +kernel
theorem dX1_readLand_23 : decode cX1_readLand 23 = .ok (.getfield 22, 3) := by decide +kernel
theorem dX1_readLand_26 : decode cX1_readLand 26 = .ok (.if_icmp .ge 60, 3) := by decide +kernel
theorem dX1_readLand_29 : decode cX1_readLand 29 = .ok (.aload_n 0, 1) := by decide +kernel
theorem dX1_readLand_30 : decode cX1_readLand 30 = .ok (.iload_n 1, 1) := by decide +kernel
theorem dX1_readLand_31 : decode cX1_readLand 31 = .ok (.invokevirtual 29, 3) := by decide +kernel
theorem dX1_readLand_34 : decode cX1_readLand 34 = .ok (.bipush 80, 2) := by decide +kernel
theorem dX1_readLand_36 : decode cX1_readLand 36 = .ok (.if_icmp .ne 7, 3) := by decide +kernel
theorem dX1_readLand_39 : decode cX1_readLand 39 = .ok (.iconst 1, 1) := by decide +kernel
theorem dX1_readLand_40 : decode cX1_readLand 40 = .ok (.goto 4, 3) := by decide +kernel
theorem dX1_readLand_43 : decode cX1_readLand 43 = .ok (.iconst 0, 1) := by decide +kernel
theorem dX1_readLand_44 : decode cX1_readLand 44 = .ok (.istore_n 2, 1) := by decide +kernel
theorem dX1_readLand_45 : decode cX1_readLand 45 = .ok (.iload_n 2, 1) := by decide +kernel
theorem dX1_readLand_46 : decode cX1_readLand 46 = .ok (.ifCond .eq 11, 3) := by decide +kernel
theorem dX1_readLand_49 : decode cX1_readLand 49 = .ok (.aload_n 0, 1) := by decide +kernel
theorem dX1_readLand_50 : decode cX1_readLand 50 = .ok (.iload_n 1, 1) := by decide +kernel
theorem dX1_readLand_51 : decode cX1_readLand 51 = .ok (.invokevirtual 33, 3) := by decide +kernel
theorem dX1_readLand_54 : decode cX1_readLand 54 = .ok (.goto 8, 3) := by decide +kernel
theorem dX1_readLand_57 : decode cX1_readLand 57 = .ok (.aload_n 0, 1) := by decide +kernel
theorem dX1_readLand_58 : decode cX1_readLand 58 = .ok (.iload_n 1, 1) := by decide +kernel
theorem dX1_readLand_59 : decode cX1_readLand 59 = .ok (.invokevirtual 36, 3) := by decide +kernel
theorem dX1_readLand_62 : decode cX1_readLand 62 = .ok (.istore_n 3, 1) := by decide +kernel
theorem dX1_readLand_63 : decode cX1_readLand 63 = .ok (.iload_n 3, 1) := by decide +kernel
theorem dX1_readLand_64 : decode cX1_readLand 64 = .ok (.bipush (-9), 2) := by decide +kernel
theorem dX1_readLand_66 : decode cX1_readLand 66 = .ok (.if_icmp .eq 5, 3) := by decide +kernel
theorem dX1_readLand_69 : decode cX1_readLand 69 = .ok (.iload_n 3, 1) := by decide +kernel
theorem dX1_readLand_70 : decode cX1_readLand 70 = .ok (.ireturn, 1) := by decide +kernel
theorem dX1_readLand_71 : decode cX1_readLand 71 = .ok (.iload_n 1, 1) := by decide +kernel
theorem dX1_readLand_72 : decode cX1_readLand 72 = .ok (.iload_n 2, 1) := by decide +kernel
theorem dX1_readLand_73 : decode cX1_readLand 73 = .ok (.ifCond .eq 7, 3) := by decide +kernel
theorem dX1_readLand_76 : decode cX1_readLand 76 = .ok (.iconst 4, 1) := by decide +kernel
theorem dX1_readLand_77 : decode cX1_readLand 77 = .ok (.goto 4, 3) := by decide +kernel
theorem dX1_readLand_80 : decode cX1_readLand 80 = .ok (.iconst 3, 1) := by decide +kernel
theorem dX1_readLand_81 : decode cX1_readLand 81 = .ok (.iadd, 1) := by decide +kernel
theorem dX1_readLand_82 : decode cX1_readLand 82 = .ok (.istore_n 1, 1) := by decide +kernel
theorem dX1_readLand_83 : decode cX1_readLand 83 = .ok (.goto (-62), 3) := by decide +kernel
theorem dX1_readLand_86 : decode cX1_readLand 86 = .ok (.bipush (-9), 2) := by decide +kernel
theorem dX1_readLand_88 : decode cX1_readLand 88 = .ok (.ireturn, 1) := by decide +kernel
theorem dX1_letterAt_0 : decode cX1_letterAt 0 = .ok (.iload_n 1, 1) := by decide +kernel
theorem dX1_letterAt_1 : decode cX1_letterAt 1 = .ok (.ifCond .lt 26, 3) := by decide +kernel
theorem dX1_letterAt_4 : decode cX1_letterAt 4 = .ok (.iload_n 1, 1) := by decide +kernel
theorem dX1_letterAt_5 : decode cX1_letterAt 5 = .ok (.aload_n 0, 1) := by decide +kernel
theorem dX1_letterAt_6 : decode cX1_letterAt 6 = .ok (.getfield 22, 3) := by decide +kernel
theorem dX1_letterAt_9 : decode cX1_letterAt 9 = .ok (.if_icmp .ge 18, 3) := by decide +kernel
theorem dX1_letterAt_12 : decode cX1_letterAt 12 = .ok (.iload_n 1, 1) := by decide +kernel
theorem dX1_letterAt_13 : decode cX1_letterAt 13 = .ok (.bipush 48, 2) := by decide +kernel
theorem dX1_letterAt_15 : decode cX1_letterAt 15 = .ok (.if_icmp .ge 12, 3) := by decide +kernel
theorem dX1_letterAt_18 : decode cX1_letterAt 18 = .ok (.aload_n 0, 1) := by decide +kernel
theorem dX1_letterAt_19 : decode cX1_letterAt 19 = .ok (.getfield 9, 3) := by decide +kernel
theorem dX1_letterAt_22 : decode cX1_letterAt 22 = .ok (.iload_n 1, 1) := by decide +kernel
theorem dX1_letterAt_23 : decode cX1_letterAt 23 = .ok (.iaload, 1) := by decide +kernel
theorem dX1_letterAt_24 : decode cX1_letterAt 24 = .ok (.goto 4, 3) := by decide +kernel
theorem dX1_letterAt_27 : decode cX1_letterAt 27 = .ok (.iconst (-1), 1) := by decide +kernel
theorem dX1_letterAt_28 : decode cX1_letterAt 28 = .ok (.ireturn, 1) := by decide +kernel
theorem dX1_digitAt_0 : decode cX1_digitAt 0 = .ok (.aload_n 0, 1) := by decide +kernel
theorem dX1_digitAt_1 : decode cX1_digitAt 1 = .ok (.iload_n 1, 1) := by decide +kernel
theorem dX1_digitAt_2 : decode cX1_digitAt 2 = .ok (.invokevirtual 29, 3) := by decide +kernel
theorem dX1_digitAt_5 : decode cX1_digitAt 5 = .ok (.istore_n 2, 1) := by decide +kernel
theorem dX1_digitAt_6 : decode cX1_digitAt 6 = .ok (.iload_n 2, 1) := by decide +kernel
theorem dX1_digitAt_7 : decode cX1_digitAt 7 = .ok (.bipush 48, 2) := by decide +kernel
theorem dX1_digitAt_9 : decode cX1_digitAt 9 = .ok (.if_icmp .lt 16, 3) := by decide +kernel
theorem dX1_digitAt_12 : decode cX1_digitAt 12 = .ok (.iload_n 2, 1) := by decide +kernel
theorem dX1_digitAt_13 : decode cX1_digitAt 13 = .ok (.bipush 57, 2) := by decide +kernel
theorem dX1_digitAt_15 : decode cX1_digitAt 15 = .ok (.if_icmp .gt 10, 3) := by decide +kernel
theorem dX1_digitAt_18 : decode cX1_digitAt 18 = .ok (.iload_n 2, 1) := by decide +kernel
theorem dX1_digitAt_19 : decode cX1_digitAt 19 = .ok (.bipush 48, 2) := by decide +kernel
theorem dX1_digitAt_21 : decode cX1_digitAt 21 = .ok (.isub, 1) := by decide +kernel
theorem dX1_digitAt_22 : decode cX1_digitAt 22 = .ok (.goto 4, 3) := by decide +kernel
theorem dX1_digitAt_25 : decode cX1_digitAt 25 = .ok (.iconst (-1), 1) := by decide +kernel
theorem dX1_digitAt_26 : decode cX1_digitAt 26 = .ok (.ireturn, 1) := by decide +kernel
theorem dX1_readPerson_0 : decode cX1_readPerson 0 = .ok (.aload_n 0, 1) := by decide +kernel
theorem dX1_readPerson_1 : decode cX1_readPerson 1 = .ok (.getfield 18, 3) := by decide +kernel
theorem dX1_readPerson_4 : decode cX1_readPerson 4 = .ok (.getfield 39, 3) := by decide +kernel
theorem dX1_readPerson_7 : decode cX1_readPerson 7 = .ok (.iconst 5, 1) := by decide +kernel
theorem dX1_readPerson_8 : decode cX1_readPerson 8 = .ok (.if_icmp .lt 5, 3) := by decide +kernel
theorem dX1_readPerson_11 : decode cX1_readPerson 11 = .ok (.iload_n 1, 1) := by decide +kernel
theorem dX1_readPerson_12 : decode cX1_readPerson 12 = .ok (.ireturn, 1) := by decide +kernel
theorem dX1_readPerson_13 : decode cX1_readPerson 13 = .ok (.aload_n 0, 1) := by decide +kernel
theorem dX1_readPerson_14 : decode cX1_readPerson 14 = .ok (.iload_n 1, 1) := by decide +kernel
theorem dX1_readPerson_15 : decode cX1_readPerson 15 = .ok (.iconst 1, 1) := by decide +kernel
theorem dX1_readPerson_16 : decode cX1_readPerson 16 = .ok (.iadd, 1) := by decide +kernel
theorem dX1_readPerson_17 : decode cX1_readPerson 17 = .ok (.invokevirtual 42, 3) := by decide +kernel
theorem dX1_readPerson_20 : decode cX1_readPerson 20 = .ok (.istore_n 2, 1) := by decide +kernel
theorem dX1_readPerson_21 : decode cX1_readPerson 21 = .ok (.iload_n 2, 1) := by decide +kernel
theorem dX1_readPerson_22 : decode cX1_readPerson 22 = .ok (.ifCond .ge 7, 3) := by decide +kernel
theorem dX1_readPerson_25 : decode cX1_readPerson 25 = .ok (.iload_n 1, 1) := by decide +kernel
theorem dX1_readPerson_26 : decode cX1_readPerson 26 = .ok (.iconst 1, 1) := by decide +kernel
theorem dX1_readPerson_27 : decode cX1_readPerson 27 = .ok (.iadd, 1) := by decide +kernel
theorem dX1_readPerson_28 : decode cX1_readPerson 28 = .ok (.ireturn, 1) := by decide +kernel
theorem dX1_readPerson_29 : decode cX1_readPerson 29 = .ok (.aload_n 0, 1) := by decide +kernel
theorem dX1_readPerson_30 : decode cX1_readPerson 30 = .ok (.iload_n 1, 1) := by decide +kernel
theorem dX1_readPerson_31 : decode cX1_readPerson 31 = .ok (.iconst 2, 1) := by decide +kernel
theorem dX1_readPerson_32 : decode cX1_readPerson 32 = .ok (.iadd, 1) := by decide +kernel
theorem dX1_readPerson_33 : decode cX1_readPerson 33 = .ok (.invokevirtual 42, 3) := by decide +kernel
theorem dX1_readPerson_36 : decode cX1_readPerson 36 = .ok (.istore_n 3, 1) := by decide +kernel
theorem dX1_readPerson_37 : decode cX1_readPerson 37 = .ok (.iload_n 3, 1) := by decide +kernel
theorem dX1_readPerson_38 : decode cX1_readPerson 38 = .ok (.ifCond .ge 7, 3) := by decide +kernel
theorem dX1_readPerson_41 : decode cX1_readPerson 41 = .ok (.iload_n 1, 1) := by decide +kernel
theorem dX1_readPerson_42 : decode cX1_readPerson 42 = .ok (.iconst 2, 1) := by decide +kernel
theorem dX1_readPerson_43 : decode cX1_readPerson 43 = .ok (.iadd, 1) := by decide +kernel
theorem dX1_readPerson_44 : decode cX1_readPerson 44 = .ok (.ireturn, 1) := by decide +kernel
theorem dX1_readPerson_45 : decode cX1_readPerson 45 = .ok (.aload_n 0, 1) := by decide +kernel
theorem dX1_readPerson_46 : decode cX1_readPerson 46 = .ok (.iload_n 1, 1) := by decide +kernel
theorem dX1_readPerson_47 : decode cX1_readPerson 47 = .ok (.iconst 3, 1) := by decide +kernel
theorem dX1_readPerson_48 : decode cX1_readPerson 48 = .ok (.iadd, 1) := by decide +kernel
theorem dX1_readPerson_49 : decode cX1_readPerson 49 = .ok (.invokevirtual 42, 3) := by decide +kernel
theorem dX1_readPerson_52 : decode cX1_readPerson 52 = .ok (.istore 4, 2) := by decide +kernel
theorem dX1_readPerson_54 : decode cX1_readPerson 54 = .ok (.iload 4, 2) := by decide +kernel
theorem dX1_readPerson_56 : decode cX1_readPerson 56 = .ok (.ifCond .lt 9, 3) := by decide +kernel
theorem dX1_readPerson_59 : decode cX1_readPerson 59 = .ok (.iload 4, 2) := by decide +kernel
theorem dX1_readPerson_61 : decode cX1_readPerson 61 = .ok (.iconst 3, 1) := by decide +kernel
theorem dX1_readPerson_62 : decode cX1_readPerson 62 = .ok (.if_icmp .le 7, 3) := by decide +kernel
theorem dX1_readPerson_65 : decode cX1_readPerson 65 = .ok (.iload_n 1, 1) := by decide +kernel
theorem dX1_readPerson_66 : decode cX1_readPerson 66 = .ok (.iconst 3, 1) := by decide +kernel
theorem dX1_readPerson_67 : decode cX1_readPerson 67 = .ok (.iadd, 1) := by decide +kernel
theorem dX1_readPerson_68 : decode cX1_readPerson 68 = .ok (.ireturn, 1) := by decide +kernel
theorem dX1_readPerson_69 : decode cX1_readPerson 69 = .ok (.aload_n 0, 1) := by decide +kernel
theorem dX1_readPerson_70 : decode cX1_readPerson 70 = .ok (.getfield 18, 3) := by decide +kernel
theorem dX1_readPerson_73 : decode cX1_readPerson 73 = .ok (.iload_n 2, 1) := by decide +kernel
theorem dX1_readPerson_74 : decode cX1_readPerson 74 = .ok (.iload_n 3, 1) := by decide +kernel
theorem dX1_readPerson_75 : decode cX1_readPerson 75 = .ok (.iload 4, 2) := by decide +kernel
theorem dX1_readPerson_77 : decode cX1_readPerson 77 = .ok (.invokevirtual 45, 3) := by decide +kernel
theorem dX1_readPerson_80 : decode cX1_readPerson 80 = .ok (.bipush (-9), 2) := by decide +kernel
theorem dX1_readPerson_82 : decode cX1_readPerson 82 = .ok (.ireturn, 1) := by decide +kernel
theorem dX1_readKin_0 : decode cX1_readKin 0 = .ok (.aload_n 0, 1) := by decide +kernel
theorem dX1_readKin_1 : decode cX1_readKin 1 = .ok (.iload_n 1, 1) := by decide +kernel
theorem dX1_readKin_2 : decode cX1_readKin 2 = .ok (.invokevirtual 29, 3) := by decide +kernel
theorem dX1_readKin_5 : decode cX1_readKin 5 = .ok (.bipush 75, 2) := by decide +kernel
theorem dX1_readKin_7 : decode cX1_readKin 7 = .ok (.if_icmp .ne 10, 3) := by decide +kernel
theorem dX1_readKin_10 : decode cX1_readKin 10 = .ok (.aload_n 0, 1) := by decide +kernel
theorem dX1_readKin_11 : decode cX1_readKin 11 = .ok (.invokevirtual 49, 3) := by decide +kernel
theorem dX1_readKin_14 : decode cX1_readKin 14 = .ok (.ifCond .ne 5, 3) := by decide +kernel
theorem dX1_readKin_17 : decode cX1_readKin 17 = .ok (.iload_n 1, 1) := by decide +kernel
theorem dX1_readKin_18 : decode cX1_readKin 18 = .ok (.ireturn, 1) := by decide +kernel
theorem dX1_readKin_19 : decode cX1_readKin 19 = .ok (.aload_n 0, 1) := by decide +kernel
theorem dX1_readKin_20 : decode cX1_readKin 20 = .ok (.iload_n 1, 1) := by decide +kernel
theorem dX1_readKin_21 : decode cX1_readKin 21 = .ok (.iconst 1, 1) := by decide +kernel
theorem dX1_readKin_22 : decode cX1_readKin 22 = .ok (.iadd, 1) := by decide +kernel
theorem dX1_readKin_23 : decode cX1_readKin 23 = .ok (.invokevirtual 42, 3) := by decide +kernel
theorem dX1_readKin_26 : decode cX1_readKin 26 = .ok (.istore_n 2, 1) := by decide +kernel
theorem dX1_readKin_27 : decode cX1_readKin 27 = .ok (.aload_n 0, 1) := by decide +kernel
theorem dX1_readKin_28 : decode cX1_readKin 28 = .ok (.getfield 18, 3) := by decide +kernel
theorem dX1_readKin_31 : decode cX1_readKin 31 = .ok (.iload_n 2, 1) := by decide +kernel
theorem dX1_readKin_32 : decode cX1_readKin 32 = .ok (.invokevirtual 53, 3) := by decide +kernel
theorem dX1_readKin_35 : decode cX1_readKin 35 = .ok (.istore_n 3, 1) := by decide +kernel
theorem dX1_readKin_36 : decode cX1_readKin 36 = .ok (.iload_n 3, 1) := by decide +kernel
theorem dX1_readKin_37 : decode cX1_readKin 37 = .ok (.ifCond .ne 7, 3) := by decide +kernel
theorem dX1_readKin_40 : decode cX1_readKin 40 = .ok (.iload_n 1, 1) := by decide +kernel
theorem dX1_readKin_41 : decode cX1_readKin 41 = .ok (.iconst 1, 1) := by decide +kernel
theorem dX1_readKin_42 : decode cX1_readKin 42 = .ok (.iadd, 1) := by decide +kernel
theorem dX1_readKin_43 : decode cX1_readKin 43 = .ok (.ireturn, 1) := by decide +kernel
theorem dX1_readKin_44 : decode cX1_readKin 44 = .ok (.aload_n 0, 1) := by decide +kernel
theorem dX1_readKin_45 : decode cX1_readKin 45 = .ok (.iload_n 1, 1) := by decide +kernel
theorem dX1_readKin_46 : decode cX1_readKin 46 = .ok (.iconst 2, 1) := by decide +kernel
theorem dX1_readKin_47 : decode cX1_readKin 47 = .ok (.iadd, 1) := by decide +kernel
theorem dX1_readKin_48 : decode cX1_readKin 48 = .ok (.invokevirtual 42, 3) := by decide +kernel
theorem dX1_readKin_51 : decode cX1_readKin 51 = .ok (.istore 4, 2) := by decide +kernel
theorem dX1_readKin_53 : decode cX1_readKin 53 = .ok (.iload_n 3, 1) := by decide +kernel
theorem dX1_readKin_54 : decode cX1_readKin 54 = .ok (.iload 4, 2) := by decide +kernel
theorem dX1_readKin_56 : decode cX1_readKin 56 = .ok (.invokestatic 56, 3) := by decide +kernel
theorem dX1_readKin_59 : decode cX1_readKin 59 = .ok (.ifCond .ne 7, 3) := by decide +kernel
theorem dX1_readKin_62 : decode cX1_readKin 62 = .ok (.iload_n 1, 1) := by decide +kernel
theorem dX1_readKin_63 : decode cX1_readKin 63 = .ok (.iconst 2, 1) := by decide +kernel
theorem dX1_readKin_64 : decode cX1_readKin 64 = .ok (.iadd, 1) := by decide +kernel
theorem dX1_readKin_65 : decode cX1_readKin 65 = .ok (.ireturn, 1) := by decide +kernel
theorem dX1_readKin_66 : decode cX1_readKin 66 = .ok (.aload_n 0, 1) := by decide +kernel
theorem dX1_readKin_67 : decode cX1_readKin 67 = .ok (.getfield 18, 3) := by decide +kernel
theorem dX1_readKin_70 : decode cX1_readKin 70 = .ok (.iload_n 2, 1) := by decide +kernel
theorem dX1_readKin_71 : decode cX1_readKin 71 = .ok (.iload 4, 2) := by decide +kernel
theorem dX1_readKin_73 : decode cX1_readKin 73 = .ok (.invokevirtual 60, 3) := by decide +kernel
theorem dX1_readKin_76 : decode cX1_readKin 76 = .ok (.bipush (-9), 2) := by decide +kernel
theorem dX1_readKin_78 : decode cX1_readKin 78 = .ok (.ireturn, 1) := by decide +kernel
theorem dX1_isPairLeft_0 : decode cX1_isPairLeft 0 = .ok (.iconst 0, 1) := by decide +kernel
theorem dX1_isPairLeft_1 : decode cX1_isPairLeft 1 = .ok (.istore_n 1, 1) := by decide +kernel
theorem dX1_isPairLeft_2 : decode cX1_isPairLeft 2 = .ok (.iload_n 1, 1) := by decide +kernel
theorem dX1_isPairLeft_3 : decode cX1_isPairLeft 3 = .ok (.iconst 5, 1) := by decide +kernel
theorem dX1_isPairLeft_4 : decode cX1_isPairLeft 4 = .ok (.if_icmp .ge 22, 3) := by decide +kernel
theorem dX1_isPairLeft_7 : decode cX1_isPairLeft 7 = .ok (.aload_n 0, 1) := by decide +kernel
theorem dX1_isPairLeft_8 : decode cX1_isPairLeft 8 = .ok (.getfield 18, 3) := by decide +kernel
theorem dX1_isPairLeft_11 : decode cX1_isPairLeft 11 = .ok (.iload_n 1, 1) := by decide +kernel
theorem dX1_isPairLeft_12 : decode cX1_isPairLeft 12 = .ok (.invokevirtual 53, 3) := by decide +kernel
theorem dX1_isPairLeft_15 : decode cX1_isPairLeft 15 = .ok (.ifCond .eq 5, 3) := by decide +kernel
theorem dX1_isPairLeft_18 : decode cX1_isPairLeft 18 = .ok (.iconst 1, 1) := by decide +kernel
theorem dX1_isPairLeft_19 : decode cX1_isPairLeft 19 = .ok (.ireturn, 1) := by decide +kernel
theorem dX1_isPairLeft_20 : decode cX1_isPairLeft 20 = .ok (.iinc 1 1, 3) := by decide +kernel
theorem dX1_isPairLeft_23 : decode cX1_isPairLeft 23 = .ok (.goto (-21), 3) := by decide +kernel
theorem dX1_isPairLeft_26 : decode cX1_isPairLeft 26 = .ok (.iconst 0, 1) := by decide +kernel
theorem dX1_isPairLeft_27 : decode cX1_isPairLeft 27 = .ok (.ireturn, 1) := by decide +kernel
theorem dX2_init_0 : decode cX2_init 0 = .ok (.aload_n 0, 1) := by decide +kernel
theorem dX2_init_1 : decode cX2_init 1 = .ok (.invokespecial 3, 3) := by decide +kernel
theorem dX2_init_4 : decode cX2_init 4 = .ok (.aload_n 0, 1) := by decide +kernel
theorem dX2_init_5 : decode cX2_init 5 = .ok (.iconst 5, 1) := by decide +kernel
theorem dX2_init_6 : decode cX2_init 6 = .ok (.newarray .int, 2) := by decide +kernel
theorem dX2_init_8 : decode cX2_init 8 = .ok (.putfield 9, 3) := by decide +kernel
theorem dX2_init_11 : decode cX2_init 11 = .ok (.aload_n 0, 1) := by decide +kernel
theorem dX2_init_12 : decode cX2_init 12 = .ok (.iconst 5, 1) := by decide +kernel
theorem dX2_init_13 : decode cX2_init 13 = .ok (.newarray .int, 2) := by decide +kernel
theorem dX2_init_15 : decode cX2_init 15 = .ok (.putfield 15, 3) := by decide +kernel
theorem dX2_init_18 : decode cX2_init 18 = .ok (.aload_n 0, 1) := by decide +kernel
theorem dX2_init_19 : decode cX2_init 19 = .ok (.iconst 5, 1) := by decide +kernel
theorem dX2_init_20 : decode cX2_init 20 = .ok (.newarray .int, 2) := by decide +kernel
theorem dX2_init_22 : decode cX2_init 22 = .ok (.putfield 18, 3) := by decide +kernel
theorem dX2_init_25 : decode cX2_init 25 = .ok (.aload_n 0, 1) := by decide +kernel
theorem dX2_init_26 : decode cX2_init 26 = .ok (.iconst 5, 1) := by decide +kernel
theorem dX2_init_27 : decode cX2_init 27 = .ok (.newarray .int, 2) := by decide +kernel
theorem dX2_init_29 : decode cX2_init 29 = .ok (.putfield 21, 3) := by decide +kernel
theorem dX2_init_32 : decode cX2_init 32 = .ok (.aload_n 0, 1) := by decide +kernel
theorem dX2_init_33 : decode cX2_init 33 = .ok (.bipush 25, 2) := by decide +kernel
theorem dX2_init_35 : decode cX2_init 35 = .ok (.newarray .int, 2) := by decide +kernel
theorem dX2_init_37 : decode cX2_init 37 = .ok (.putfield 24, 3) := by decide +kernel
theorem dX2_init_40 : decode cX2_init 40 = .ok (.return_, 1) := by decide +kernel
theorem dX2_copyFrom_0 : decode cX2_copyFrom 0 = .ok (.aload_n 1, 1) := by decide +kernel
theorem dX2_copyFrom_1 : decode cX2_copyFrom 1 = .ok (.getfield 9, 3) := by decide +kernel
theorem dX2_copyFrom_4 : decode cX2_copyFrom 4 = .ok (.iconst 0, 1) := by decide +kernel
theorem dX2_copyFrom_5 : decode cX2_copyFrom 5 = .ok (.aload_n 0, 1) := by decide +kernel
theorem dX2_copyFrom_6 : decode cX2_copyFrom 6 = .ok (.getfield 9, 3) := by decide +kernel
theorem dX2_copyFrom_9 : decode cX2_copyFrom 9 = .ok (.iconst 0, 1) := by decide +kernel
theorem dX2_copyFrom_10 : decode cX2_copyFrom 10 = .ok (.iconst 5, 1) := by decide +kernel
theorem dX2_copyFrom_11 : decode cX2_copyFrom 11 = .ok (.invokestatic 27, 3) := by decide +kernel
theorem dX2_copyFrom_14 : decode cX2_copyFrom 14 = .ok (.aload_n 1, 1) := by decide +kernel
theorem dX2_copyFrom_15 : decode cX2_copyFrom 15 = .ok (.getfield 15, 3) := by decide +kernel
theorem dX2_copyFrom_18 : decode cX2_copyFrom 18 = .ok (.iconst 0, 1) := by decide +kernel
theorem dX2_copyFrom_19 : decode cX2_copyFrom 19 = .ok (.aload_n 0, 1) := by decide +kernel
theorem dX2_copyFrom_20 : decode cX2_copyFrom 20 = .ok (.getfield 15, 3) := by decide +kernel
theorem dX2_copyFrom_23 : decode cX2_copyFrom 23 = .ok (.iconst 0, 1) := by decide +kernel
theorem dX2_copyFrom_24 : decode cX2_copyFrom 24 = .ok (.iconst 5, 1) := by decide +kernel
theorem dX2_copyFrom_25 : decode cX2_copyFrom 25 = .ok (.invokestatic 27, 3) := by decide +kernel
theorem dX2_copyFrom_28 : decode cX2_copyFrom 28 = .ok (.aload_n 1, 1) := by decide +kernel
theorem dX2_copyFrom_29 : decode cX2_copyFrom 29 = .ok (.getfield 18, 3) := by decide +kernel
theorem dX2_copyFrom_32 : decode cX2_copyFrom 32 = .ok (.iconst 0, 1) := by decide +kernel
theorem dX2_copyFrom_33 : decode cX2_copyFrom 33 = .ok (.aload_n 0, 1) := by decide +kernel
theorem dX2_copyFrom_34 : decode cX2_copyFrom 34 = .ok (.getfield 18, 3) := by decide +kernel
theorem dX2_copyFrom_37 : decode cX2_copyFrom 37 = .ok (.iconst 0, 1) := by decide +kernel
theorem dX2_copyFrom_38 : decode cX2_copyFrom 38 = .ok (.iconst 5, 1) := by decide +kernel
theorem dX2_copyFrom_39 : decode cX2_copyFrom 39 = .ok (.invokestatic 27, 3) := by decide +kernel
theorem dX2_copyFrom_42 : decode cX2_copyFrom 42 = .ok (.aload_n 1, 1) := by decide +kernel
theorem dX2_copyFrom_43 : decode cX2_copyFrom 43 = .ok (.getfield 21, 3) := by decide +kernel
theorem dX2_copyFrom_46 : decode cX2_copyFrom 46 = .ok (.iconst 0, 1) := by decide +kernel
theorem dX2_copyFrom_47 : decode cX2_copyFrom 47 = .ok (.aload_n 0, 1) := by decide +kernel
theorem dX2_copyFrom_48 : decode cX2_copyFrom 48 = .ok (.getfield 21, 3) := by decide +kernel
theorem dX2_copyFrom_51 : decode cX2_copyFrom 51 = .ok (.iconst 0, 1) := by decide +kernel
theorem dX2_copyFrom_52 : decode cX2_copyFrom 52 = .ok (.iconst 5, 1) := by decide +kernel
theorem dX2_copyFrom_53 : decode cX2_copyFrom 53 = .ok (.invokestatic 27, 3) := by decide +kernel
theorem dX2_copyFrom_56 : decode cX2_copyFrom 56 = .ok (.aload_n 1, 1) := by decide +kernel
theorem dX2_copyFrom_57 : decode cX2_copyFrom 57 = .ok (.getfield 24, 3) := by decide +kernel
theorem dX2_copyFrom_60 : decode cX2_copyFrom 60 = .ok (.iconst 0, 1) := by decide +kernel
theorem dX2_copyFrom_61 : decode cX2_copyFrom 61 = .ok (.aload_n 0, 1) := by decide +kernel
theorem dX2_copyFrom_62 : decode cX2_copyFrom 62 = .ok (.getfield 24, 3) := by decide +kernel
theorem dX2_copyFrom_65 : decode cX2_copyFrom 65 = .ok (.iconst 0, 1) := by decide +kernel
theorem dX2_copyFrom_66 : decode cX2_copyFrom 66 = .ok (.bipush 25, 2) := by decide +kernel
theorem dX2_copyFrom_68 : decode cX2_copyFrom 68 = .ok (.invokestatic 27, 3) := by decide +kernel
theorem dX2_copyFrom_71 : decode cX2_copyFrom 71 = .ok (.aload_n 0, 1) := by decide +kernel
theorem dX2_copyFrom_72 : decode cX2_copyFrom 72 = .ok (.aload_n 1, 1) := by decide +kernel
theorem dX2_copyFrom_73 : decode cX2_copyFrom 73 = .ok (.getfield 33, 3) := by decide +kernel
theorem dX2_copyFrom_76 : decode cX2_copyFrom 76 = .ok (.putfield 33, 3) := by decide +kernel
theorem dX2_copyFrom_79 : decode cX2_copyFrom 79 = .ok (.aload_n 0, 1) := by decide +kernel
theorem dX2_copyFrom_80 : decode cX2_copyFrom 80 = .ok (.aload_n 1, 1) := by decide +kernel
theorem dX2_copyFrom_81 : decode cX2_copyFrom 81 = .ok (.getfield 37, 3) := by decide +kernel
theorem dX2_copyFrom_84 : decode cX2_copyFrom 84 = .ok (.putfield 37, 3) := by decide +kernel
theorem dX2_copyFrom_87 : decode cX2_copyFrom 87 = .ok (.aload_n 0, 1) := by decide +kernel
theorem dX2_copyFrom_88 : decode cX2_copyFrom 88 = .ok (.aload_n 1, 1) := by decide +kernel
theorem dX2_copyFrom_89 : decode cX2_copyFrom 89 = .ok (.getfield 40, 3) := by decide +kernel
theorem dX2_copyFrom_92 : decode cX2_copyFrom 92 = .ok (.putfield 40, 3) := by decide +kernel
theorem dX2_copyFrom_95 : decode cX2_copyFrom 95 = .ok (.aload_n 0, 1) := by decide +kernel
theorem dX2_copyFrom_96 : decode cX2_copyFrom 96 = .ok (.aload_n 1, 1) := by decide +kernel
theorem dX2_copyFrom_97 : decode cX2_copyFrom 97 = .ok (.getfield 43, 3) := by decide +kernel
theorem dX2_copyFrom_100 : decode cX2_copyFrom 100 = .ok (.putfield 43, 3) := by decide +kernel
theorem dX2_copyFrom_103 : decode cX2_copyFrom 103 = .ok (.return_, 1) := by decide +kernel
theorem dX2_clear_0 : decode cX2_clear 0 = .ok (.iconst 0, 1) := by decide +kernel
theorem dX2_clear_1 : decode cX2_clear 1 = .ok (.istore_n 1, 1) := by decide +kernel
theorem dX2_clear_2 : decode cX2_clear 2 = .ok (.iload_n 1, 1) := by decide +kernel
theorem dX2_clear_3 : decode cX2_clear 3 = .ok (.iconst 5, 1) := by decide +kernel
theorem dX2_clear_4 : decode cX2_clear 4 = .ok (.if_icmp .ge 37, 3) := by decide +kernel
theorem dX2_clear_7 : decode cX2_clear 7 = .ok (.aload_n 0, 1) := by decide +kernel
theorem dX2_clear_8 : decode cX2_clear 8 = .ok (.getfield 9, 3) := by decide +kernel
theorem dX2_clear_11 : decode cX2_clear 11 = .ok (.iload_n 1, 1) := by decide +kernel
theorem dX2_clear_12 : decode cX2_clear 12 = .ok (.iconst 0, 1) := by decide +kernel
theorem dX2_clear_13 : decode cX2_clear 13 = .ok (.iastore, 1) := by decide +kernel
theorem dX2_clear_14 : decode cX2_clear 14 = .ok (.aload_n 0, 1) := by decide +kernel
theorem dX2_clear_15 : decode cX2_clear 15 = .ok (.getfield 15, 3) := by decide +kernel
theorem dX2_clear_18 : decode cX2_clear 18 = .ok (.iload_n 1, 1) := by decide +kernel
theorem dX2_clear_19 : decode cX2_clear 19 = .ok (.iconst 0, 1) := by decide +kernel
theorem dX2_clear_20 : decode cX2_clear 20 = .ok (.iastore, 1) := by decide +kernel
theorem dX2_clear_21 : decode cX2_clear 21 = .ok (.aload_n 0, 1) := by decide +kernel
theorem dX2_clear_22 : decode cX2_clear 22 = .ok (.getfield 18, 3) := by decide +kernel
theorem dX2_clear_25 : decode cX2_clear 25 = .ok (.iload_n 1, 1) := by decide +kernel
theorem dX2_clear_26 : decode cX2_clear 26 = .ok (.iconst 0, 1) := by decide +kernel
theorem dX2_clear_27 : decode cX2_clear 27 = .ok (.iastore, 1) := by decide +kernel
theorem dX2_clear_28 : decode cX2_clear 28 = .ok (.aload_n 0, 1) := by decide +kernel
theorem dX2_clear_29 : decode cX2_clear 29 = .ok (.getfield 21, 3) := by decide +kernel
theorem dX2_clear_32 : decode cX2_clear 32 = .ok (.iload_n 1, 1) := by decide +kernel
theorem dX2_clear_33 : decode cX2_clear 33 = .ok (.iconst 0, 1) := by decide +kernel
theorem dX2_clear_34 : decode cX2_clear 34 = .ok (.iastore, 1) := by decide +kernel
theorem dX2_clear_35 : decode cX2_clear 35 = .ok (.iinc 1 1, 3) := by decide +kernel
theorem dX2_clear_38 : decode cX2_clear 38 = .ok (.goto (-36), 3) := by decide +kernel
theorem dX2_clear_41 : decode cX2_clear 41 = .ok (.iconst 0, 1) := by decide +kernel
theorem dX2_clear_42 : decode cX2_clear 42 = .ok (.istore_n 1, 1) := by decide +kernel
theorem dX2_clear_43 : decode cX2_clear 43 = .ok (.iload_n 1, 1) := by decide +kernel
theorem dX2_clear_44 : decode cX2_clear 44 = .ok (.bipush 25, 2) := by decide +kernel
theorem dX2_clear_46 : decode cX2_clear 46 = .ok (.if_icmp .ge 16, 3) := by decide +kernel
theorem dX2_clear_49 : decode cX2_clear 49 = .ok (.aload_n 0, 1) := by decide +kernel
theorem dX2_clear_50 : decode cX2_clear 50 = .ok (.getfield 24, 3) := by decide +kernel
theorem dX2_clear_53 : decode cX2_clear 53 = .ok (.iload_n 1, 1) := by decide +kernel
theorem dX2_clear_54 : decode cX2_clear 54 = .ok (.iconst 0, 1) := by decide +kernel
theorem dX2_clear_55 : decode cX2_clear 55 = .ok (.iastore, 1) := by decide +kernel
theorem dX2_clear_56 : decode cX2_clear 56 = .ok (.iinc 1 1, 3) := by decide +kernel
theorem dX2_clear_59 : decode cX2_clear 59 = .ok (.goto (-16), 3) := by decide +kernel
theorem dX2_clear_62 : decode cX2_clear 62 = .ok (.aload_n 0, 1) := by decide +kernel
theorem dX2_clear_63 : decode cX2_clear 63 = .ok (.iconst 0, 1) := by decide +kernel
theorem dX2_clear_64 : decode cX2_clear 64 = .ok (.putfield 33, 3) := by decide +kernel
theorem dX2_clear_67 : decode cX2_clear 67 = .ok (.aload_n 0, 1) := by decide +kernel
theorem dX2_clear_68 : decode cX2_clear 68 = .ok (.iconst 0, 1) := by decide +kernel
theorem dX2_clear_69 : decode cX2_clear 69 = .ok (.putfield 37, 3) := by decide +kernel
theorem dX2_clear_72 : decode cX2_clear 72 = .ok (.aload_n 0, 1) := by decide +kernel
theorem dX2_clear_73 : decode cX2_clear 73 = .ok (.iconst 0, 1) := by decide +kernel
theorem dX2_clear_74 : decode cX2_clear 74 = .ok (.putfield 40, 3) := by decide +kernel
theorem dX2_clear_77 : decode cX2_clear 77 = .ok (.aload_n 0, 1) := by decide +kernel
theorem dX2_clear_78 : decode cX2_clear 78 = .ok (.iconst 0, 1) := by decide +kernel
theorem dX2_clear_79 : decode cX2_clear 79 = .ok (.putfield 43, 3) := by decide +kernel
theorem dX2_clear_82 : decode cX2_clear 82 = .ok (.return_, 1) := by decide +kernel
theorem dX2_add_0 : decode cX2_add 0 = .ok (.aload_n 0, 1) := by decide +kernel
theorem dX2_add_1 : decode cX2_add 1 = .ok (.getfield 33, 3) := by decide +kernel
theorem dX2_add_4 : decode cX2_add 4 = .ok (.ifCond .lt 51, 3) := by decide +kernel
theorem dX2_add_7 : decode cX2_add 7 = .ok (.aload_n 0, 1) := by decide +kernel
theorem dX2_add_8 : decode cX2_add 8 = .ok (.getfield 33, 3) := by decide +kernel
theorem dX2_add_11 : decode cX2_add 11 = .ok (.iconst 5, 1) := by decide +kernel
theorem dX2_add_12 : decode cX2_add 12 = .ok (.if_icmp .ge 43, 3) := by decide +kernel
theorem dX2_add_15 : decode cX2_add 15 = .ok (.aload_n 0, 1) := by decide +kernel
theorem dX2_add_16 : decode cX2_add 16 = .ok (.getfield 9, 3) := by decide +kernel
theorem dX2_add_19 : decode cX2_add 19 = .ok (.aload_n 0, 1) := by decide +kernel
theorem dX2_add_20 : decode cX2_add 20 = .ok (.getfield 33, 3) := by decide +kernel
theorem dX2_add_23 : decode cX2_add 23 = .ok (.iload_n 1, 1) := by decide +kernel
theorem dX2_add_24 : decode cX2_add 24 = .ok (.iastore, 1) := by decide +kernel
theorem dX2_add_25 : decode cX2_add 25 = .ok (.aload_n 0, 1) := by decide +kernel
theorem dX2_add_26 : decode cX2_add 26 = .ok (.getfield 15, 3) := by decide +kernel
theorem dX2_add_29 : decode cX2_add 29 = .ok (.aload_n 0, 1) := by decide +kernel
theorem dX2_add_30 : decode cX2_add 30 = .ok (.getfield 33, 3) := by decide +kernel
theorem dX2_add_33 : decode cX2_add 33 = .ok (.iload_n 2, 1) := by decide +kernel
theorem dX2_add_34 : decode cX2_add 34 = .ok (.iastore, 1) := by decide +kernel
theorem dX2_add_35 : decode cX2_add 35 = .ok (.aload_n 0, 1) := by decide +kernel
theorem dX2_add_36 : decode cX2_add 36 = .ok (.getfield 18, 3) := by decide +kernel
theorem dX2_add_39 : decode cX2_add 39 = .ok (.aload_n 0, 1) := by decide +kernel
theorem dX2_add_40 : decode cX2_add 40 = .ok (.getfield 33, 3) := by decide +kernel
theorem dX2_add_43 : decode cX2_add 43 = .ok (.iload_n 3, 1) := by decide +kernel
theorem dX2_add_44 : decode cX2_add 44 = .ok (.iastore, 1) := by decide +kernel
theorem dX2_add_45 : decode cX2_add 45 = .ok (.aload_n 0, 1) := by decide +kernel
theorem dX2_add_46 : decode cX2_add 46 = .ok (.dup, 1) := by decide +kernel
theorem dX2_add_47 : decode cX2_add 47 = .ok (.getfield 33, 3) := by decide +kernel
theorem dX2_add_50 : decode cX2_add 50 = .ok (.iconst 1, 1) := by decide +kernel
theorem dX2_add_51 : decode cX2_add 51 = .ok (.iadd, 1) := by decide +kernel
theorem dX2_add_52 : decode cX2_add 52 = .ok (.putfield 33, 3) := by decide +kernel
theorem dX2_add_55 : decode cX2_add 55 = .ok (.return_, 1) := by decide +kernel
theorem dX2_has_0 : decode cX2_has 0 = .ok (.iload_n 1, 1) := by decide +kernel
theorem dX2_has_1 : decode cX2_has 1 = .ok (.ifCond .lt 20, 3) := by decide +kernel
theorem dX2_has_4 : decode cX2_has 4 = .ok (.iload_n 1, 1) := by decide +kernel
theorem dX2_has_5 : decode cX2_has 5 = .ok (.aload_n 0, 1) := by decide +kernel
theorem dX2_has_6 : decode cX2_has 6 = .ok (.getfield 33, 3) := by decide +kernel
theorem dX2_has_9 : decode cX2_has 9 = .ok (.if_icmp .ge 12, 3) := by decide +kernel
theorem dX2_has_12 : decode cX2_has 12 = .ok (.iload_n 1, 1) := by decide +kernel
theorem dX2_has_13 : decode cX2_has 13 = .ok (.iconst 5, 1) := by decide +kernel
theorem dX2_has_14 : decode cX2_has 14 = .ok (.if_icmp .ge 7, 3) := by decide +kernel
theorem dX2_has_17 : decode cX2_has 17 = .ok (.iconst 1, 1) := by decide +kernel
theorem dX2_has_18 : decode cX2_has 18 = .ok (.goto 4, 3) := by decide +kernel
theorem dX2_has_21 : decode cX2_has 21 = .ok (.iconst 0, 1) := by decide +kernel
theorem dX2_has_22 : decode cX2_has 22 = .ok (.ireturn, 1) := by decide +kernel
theorem dX2_everyone_0 : decode cX2_everyone 0 = .ok (.iconst 1, 1) := by decide +kernel
theorem dX2_everyone_1 : decode cX2_everyone 1 = .ok (.aload_n 0, 1) := by decide +kernel
theorem dX2_everyone_2 : decode cX2_everyone 2 = .ok (.getfield 33, 3) := by decide +kernel
theorem dX2_everyone_5 : decode cX2_everyone 5 = .ok (.ishl, 1) := by decide +kernel
theorem dX2_everyone_6 : decode cX2_everyone 6 = .ok (.iconst 1, 1) := by decide +kernel
theorem dX2_everyone_7 : decode cX2_everyone 7 = .ok (.isub, 1) := by decide +kernel
theorem dX2_everyone_8 : decode cX2_everyone 8 = .ok (.ireturn, 1) := by decide +kernel
theorem dX2_unbereaved_0 : decode cX2_unbereaved 0 = .ok (.aload_n 0, 1) := by decide +kernel
theorem dX2_unbereaved_1 : decode cX2_unbereaved 1 = .ok (.invokevirtual 46, 3) := by decide +kernel
theorem dX2_unbereaved_4 : decode cX2_unbereaved 4 = .ok (.aload_n 0, 1) := by decide +kernel
theorem dX2_unbereaved_5 : decode cX2_unbereaved 5 = .ok (.getfield 37, 3) := by decide +kernel
theorem dX2_unbereaved_8 : decode cX2_unbereaved 8 = .ok (.iconst (-1), 1) := by decide +kernel
theorem dX2_unbereaved_9 : decode cX2_unbereaved 9 = .ok (.ixor, 1) := by decide +kernel
theorem dX2_unbereaved_10 : decode cX2_unbereaved 10 = .ok (.iand, 1) := by decide +kernel
theorem dX2_unbereaved_11 : decode cX2_unbereaved 11 = .ok (.ireturn, 1) := by decide +kernel
theorem dX2_isOpen_0 : decode cX2_isOpen 0 = .ok (.aload_n 0, 1) := by decide +kernel
theorem dX2_isOpen_1 : decode cX2_isOpen 1 = .ok (.getfield 37, 3) := by decide +kernel
theorem dX2_isOpen_4 : decode cX2_isOpen 4 = .ok (.iload_n 1, 1) := by decide +kernel
theorem dX2_isOpen_5 : decode cX2_isOpen 5 = .ok (.invokestatic 50, 3) := by decide +kernel
theorem dX2_isOpen_8 : decode cX2_isOpen 8 = .ok (.ireturn, 1) := by decide +kernel
theorem dX2_areKin_0 : decode cX2_areKin 0 = .ok (.aload_n 0, 1) := by decide +kernel
theorem dX2_areKin_1 : decode cX2_areKin 1 = .ok (.iload_n 1, 1) := by decide +kernel
theorem dX2_areKin_2 : decode cX2_areKin 2 = .ok (.invokevirtual 54, 3) := by decide +kernel
theorem dX2_areKin_5 : decode cX2_areKin 5 = .ok (.ifCond .eq 20, 3) := by decide +kernel
theorem dX2_areKin_8 : decode cX2_areKin 8 = .ok (.aload_n 0, 1) := by decide +kernel
theorem dX2_areKin_9 : decode cX2_areKin 9 = .ok (.getfield 21, 3) := by decide +kernel
theorem dX2_areKin_12 : decode cX2_areKin 12 = .ok (.iload_n 1, 1) := by decide +kernel
theorem dX2_areKin_13 : decode cX2_areKin 13 = .ok (.iaload, 1) := by decide +kernel
theorem dX2_areKin_14 : decode cX2_areKin 14 = .ok (.iload_n 2, 1) := by decide +kernel
theorem dX2_areKin_15 : decode cX2_areKin 15 = .ok (.invokestatic 50, 3) := by decide +kernel
theorem dX2_areKin_18 : decode cX2_areKin 18 = .ok (.ifCond .eq 7, 3) := by decide +kernel
theorem dX2_areKin_21 : decode cX2_areKin 21 = .ok (.iconst 1, 1) := by decide +kernel
theorem dX2_areKin_22 : decode cX2_areKin 22 = .ok (.goto 4, 3) := by decide +kernel
theorem dX2_areKin_25 : decode cX2_areKin 25 = .ok (.iconst 0, 1) := by decide +kernel
theorem dX2_areKin_26 : decode cX2_areKin 26 = .ok (.ireturn, 1) := by decide +kernel
theorem dX2_makeKin_0 : decode cX2_makeKin 0 = .ok (.aload_n 0, 1) := by decide +kernel
theorem dX2_makeKin_1 : decode cX2_makeKin 1 = .ok (.iload_n 1, 1) := by decide +kernel
theorem dX2_makeKin_2 : decode cX2_makeKin 2 = .ok (.invokevirtual 54, 3) := by decide +kernel
theorem dX2_makeKin_5 : decode cX2_makeKin 5 = .ok (.ifCond .eq 35, 3) := by decide +kernel
theorem dX2_makeKin_8 : decode cX2_makeKin 8 = .ok (.aload_n 0, 1) := by decide +kernel
theorem dX2_makeKin_9 : decode cX2_makeKin 9 = .ok (.iload_n 2, 1) := by decide +kernel
theorem dX2_makeKin_10 : decode cX2_makeKin 10 = .ok (.invokevirtual 54, 3) := by decide +kernel
theorem dX2_makeKin_13 : decode cX2_makeKin 13 = .ok (.ifCond .eq 27, 3) := by decide +kernel
theorem dX2_makeKin_16 : decode cX2_makeKin 16 = .ok (.aload_n 0, 1) := by decide +kernel
theorem dX2_makeKin_17 : decode cX2_makeKin 17 = .ok (.getfield 21, 3) := by decide +kernel
theorem dX2_makeKin_20 : decode cX2_makeKin 20 = .ok (.iload_n 1, 1) := by decide +kernel
theorem dX2_makeKin_21 : decode cX2_makeKin 21 = .ok (.dup2, 1) := by decide +kernel
theorem dX2_makeKin_22 : decode cX2_makeKin 22 = .ok (.iaload, 1) := by decide +kernel
theorem dX2_makeKin_23 : decode cX2_makeKin 23 = .ok (.iconst 1, 1) := by decide +kernel
theorem dX2_makeKin_24 : decode cX2_makeKin 24 = .ok (.iload_n 2, 1) := by decide +kernel
theorem dX2_makeKin_25 : decode cX2_makeKin 25 = .ok (.ishl, 1) := by decide +kernel
theorem dX2_makeKin_26 : decode cX2_makeKin 26 = .ok (.ior, 1) := by decide +kernel
theorem dX2_makeKin_27 : decode cX2_makeKin 27 = .ok (.iastore, 1) := by decide +kernel
theorem dX2_makeKin_28 : decode cX2_makeKin 28 = .ok (.aload_n 0, 1) := by decide +kernel
theorem dX2_makeKin_29 : decode cX2_makeKin 29 = .ok (.getfield 21, 3) := by decide +kernel
theorem dX2_makeKin_32 : decode cX2_makeKin 32 = .ok (.iload_n 2, 1) := by decide +kernel
theorem dX2_makeKin_33 : decode cX2_makeKin 33 = .ok (.dup2, 1) := by decide +kernel
theorem dX2_makeKin_34 : decode cX2_makeKin 34 = .ok (.iaload, 1) := by decide +kernel
theorem dX2_makeKin_35 : decode cX2_makeKin 35 = .ok (.iconst 1, 1) := by decide +kernel
theorem dX2_makeKin_36 : decode cX2_makeKin 36 = .ok (.iload_n 1, 1) := by decide +kernel
theorem dX2_makeKin_37 : decode cX2_makeKin 37 = .ok (.ishl, 1) := by decide +kernel
theorem dX2_makeKin_38 : decode cX2_makeKin 38 = .ok (.ior, 1) := by decide +kernel
theorem dX2_makeKin_39 : decode cX2_makeKin 39 = .ok (.iastore, 1) := by decide +kernel
theorem dX2_makeKin_40 : decode cX2_makeKin 40 = .ok (.return_, 1) := by decide +kernel
theorem dX2_laterStrangers_0 : decode cX2_laterStrangers 0 = .ok (.aload_n 0, 1) := by decide +kernel
theorem dX2_laterStrangers_1 : decode cX2_laterStrangers 1 = .ok (.iload_n 1, 1) := by decide +kernel
theorem dX2_laterStrangers_2 : decode cX2_laterStrangers 2 = .ok (.invokevirtual 54, 3) := by decide +kernel
theorem dX2_laterStrangers_5 : decode cX2_laterStrangers 5 = .ok (.ifCond .eq 24, 3) := by decide +kernel
theorem dX2_laterStrangers_8 : decode cX2_laterStrangers 8 = .ok (.aload_n 0, 1) := by decide +kernel
theorem dX2_laterStrangers_9 : decode cX2_laterStrangers 9 = .ok (.invokevirtual 46, 3) := by decide +kernel
theorem dX2_laterStrangers_12 : decode cX2_laterStrangers 12 = .ok (.aload_n 0, 1) := by decide +kernel
theorem dX2_laterStrangers_13 : decode cX2_laterStrangers 13 = .ok (.getfield 21, 3) := by decide +kernel
theorem dX2_laterStrangers_16 : decode cX2_laterStrangers 16 = .ok (.iload_n 1, 1) := by decide +kernel
theorem dX2_laterStrangers_17 : decode cX2_laterStrangers 17 = .ok (.iaload, 1) := by decide +kernel
theorem dX2_laterStrangers_18 : decode cX2_laterStrangers 18 = .ok (.iconst (-1), 1) := by decide +kernel
theorem dX2_laterStrangers_19 : decode cX2_laterStrangers 19 = .ok (.ixor, 1) := by decide +kernel
theorem dX2_laterStrangers_20 : decode cX2_laterStrangers 20 = .ok (.iand, 1) := by decide +kernel
theorem dX2_laterStrangers_21 : decode cX2_laterStrangers 21 = .ok (.iconst 2, 1) := by decide +kernel
theorem dX2_laterStrangers_22 : decode cX2_laterStrangers 22 = .ok (.iload_n 1, 1) := by decide +kernel
theorem dX2_laterStrangers_23 : decode cX2_laterStrangers 23 = .ok (.ishl, 1) := by decide +kernel
theorem dX2_laterStrangers_24 : decode cX2_laterStrangers 24 = .ok (.ineg, 1) := by decide +kernel
theorem dX2_laterStrangers_25 : decode cX2_laterStrangers 25 = .ok (.iand, 1) := by decide +kernel
theorem dX2_laterStrangers_26 : decode cX2_laterStrangers 26 = .ok (.goto 4, 3) := by decide +kernel
theorem dX2_laterStrangers_29 : decode cX2_laterStrangers 29 = .ok (.iconst 0, 1) := by decide +kernel
theorem dX2_laterStrangers_30 : decode cX2_laterStrangers 30 = .ok (.ireturn, 1) := by decide +kernel
theorem dX2_ounces_0 : decode cX2_ounces 0 = .ok (.aload_n 0, 1) := by decide +kernel
theorem dX2_ounces_1 : decode cX2_ounces 1 = .ok (.iload_n 1, 1) := by decide +kernel
theorem dX2_ounces_2 : decode cX2_ounces 2 = .ok (.invokevirtual 54, 3) := by decide +kernel
theorem dX2_ounces_5 : decode cX2_ounces 5 = .ok (.ifCond .eq 13, 3) := by decide +kernel
theorem dX2_ounces_8 : decode cX2_ounces 8 = .ok (.aload_n 0, 1) := by decide +kernel
theorem dX2_ounces_9 : decode cX2_ounces 9 = .ok (.getfield 18, 3) := by decide +kernel
theorem dX2_ounces_12 : decode cX2_ounces 12 = .ok (.iload_n 1, 1) := by decide +kernel
theorem dX2_ounces_13 : decode cX2_ounces 13 = .ok (.iaload, 1) := by decide +kernel
theorem dX2_ounces_14 : decode cX2_ounces 14 = .ok (.iconst 3, 1) := by decide +kernel
theorem dX2_ounces_15 : decode cX2_ounces 15 = .ok (.if_icmp .ne 5, 3) := by decide +kernel
theorem dX2_ounces_18 : decode cX2_ounces 18 = .ok (.iconst 0, 1) := by decide +kernel
theorem dX2_ounces_19 : decode cX2_ounces 19 = .ok (.ireturn, 1) := by decide +kernel
theorem dX2_ounces_20 : decode cX2_ounces 20 = .ok (.aload_n 0, 1) := by decide +kernel
theorem dX2_ounces_21 : decode cX2_ounces 21 = .ok (.getfield 18, 3) := by decide +kernel
theorem dX2_ounces_24 : decode cX2_ounces 24 = .ok (.iload_n 1, 1) := by decide +kernel
theorem dX2_ounces_25 : decode cX2_ounces 25 = .ok (.iaload, 1) := by decide +kernel
theorem dX2_ounces_26 : decode cX2_ounces 26 = .ok (.iconst 2, 1) := by decide +kernel
theorem dX2_ounces_27 : decode cX2_ounces 27 = .ok (.if_icmp .ne 12, 3) := by decide +kernel
theorem dX2_ounces_30 : decode cX2_ounces 30 = .ok (.aload_n 0, 1) := by decide +kernel
theorem dX2_ounces_31 : decode cX2_ounces 31 = .ok (.getfield 9, 3) := by decide +kernel
theorem dX2_ounces_34 : decode cX2_ounces 34 = .ok (.iload_n 1, 1) := by decide +kernel
theorem dX2_ounces_35 : decode cX2_ounces 35 = .ok (.iaload, 1) := by decide +kernel
theorem dX2_ounces_36 : decode cX2_ounces 36 = .ok (.iconst 2, 1) := by decide +kernel
theorem dX2_ounces_37 : decode cX2_ounces 37 = .ok (.idiv, 1) := by decide +kernel
theorem dX2_ounces_38 : decode cX2_ounces 38 = .ok (.ireturn, 1) := by decide +kernel
theorem dX2_ounces_39 : decode cX2_ounces 39 = .ok (.aload_n 0, 1) := by decide +kernel
theorem dX2_ounces_40 : decode cX2_ounces 40 = .ok (.getfield 15, 3) := by decide +kernel
theorem dX2_ounces_43 : decode cX2_ounces 43 = .ok (.iload_n 1, 1) := by decide +kernel
theorem dX2_ounces_44 : decode cX2_ounces 44 = .ok (.iaload, 1) := by decide +kernel
theorem dX2_ounces_45 : decode cX2_ounces 45 = .ok (.iconst 2, 1) := by decide +kernel
theorem dX2_ounces_46 : decode cX2_ounces 46 = .ok (.if_icmp .ge 5, 3) := by decide +kernel
theorem dX2_ounces_49 : decode cX2_ounces 49 = .ok (.iconst 0, 1) := by decide +kernel
theorem dX2_ounces_50 : decode cX2_ounces 50 = .ok (.ireturn, 1) := by decide +kernel
theorem dX2_ounces_51 : decode cX2_ounces 51 = .ok (.aload_n 0, 1) := by decide +kernel
theorem dX2_ounces_52 : decode cX2_ounces 52 = .ok (.getfield 9, 3) := by decide +kernel
theorem dX2_ounces_55 : decode cX2_ounces 55 = .ok (.iload_n 1, 1) := by decide +kernel
theorem dX2_ounces_56 : decode cX2_ounces 56 = .ok (.iaload, 1) := by decide +kernel
theorem dX2_ounces_57 : decode cX2_ounces 57 = .ok (.aload_n 0, 1) := by decide +kernel
theorem dX2_ounces_58 : decode cX2_ounces 58 = .ok (.getfield 18, 3) := by decide +kernel
theorem dX2_ounces_61 : decode cX2_ounces 61 = .ok (.iload_n 1, 1) := by decide +kernel
theorem dX2_ounces_62 : decode cX2_ounces 62 = .ok (.iaload, 1) := by decide +kernel
theorem dX2_ounces_63 : decode cX2_ounces 63 = .ok (.iconst 1, 1) := by decide +kernel
theorem dX2_ounces_64 : decode cX2_ounces 64 = .ok (.if_icmp .ne 7, 3) := by decide +kernel
theorem dX2_ounces_67 : decode cX2_ounces 67 = .ok (.iconst 4, 1) := by decide +kernel
theorem dX2_ounces_68 : decode cX2_ounces 68 = .ok (.goto 4, 3) := by decide +kernel
theorem dX2_ounces_71 : decode cX2_ounces 71 = .ok (.iconst 3, 1) := by decide +kernel
theorem dX2_ounces_72 : decode cX2_ounces 72 = .ok (.idiv, 1) := by decide +kernel
theorem dX2_ounces_73 : decode cX2_ounces 73 = .ok (.ireturn, 1) := by decide +kernel
theorem dX2_allSorrow_0 : decode cX2_allSorrow 0 = .ok (.iconst 0, 1) := by decide +kernel
theorem dX2_allSorrow_1 : decode cX2_allSorrow 1 = .ok (.istore_n 1, 1) := by decide +kernel
theorem dX2_allSorrow_2 : decode cX2_allSorrow 2 = .ok (.iconst 0, 1) := by decide +kernel
theorem dX2_allSorrow_3 : decode cX2_allSorrow 3 = .ok (.istore_n 2, 1) := by decide +kernel
theorem dX2_allSorrow_4 : decode cX2_allSorrow 4 = .ok (.iload_n 2, 1) := by decide +kernel
theorem dX2_allSorrow_5 : decode cX2_allSorrow 5 = .ok (.iconst 5, 1) := by decide +kernel
theorem dX2_allSorrow_6 : decode cX2_allSorrow 6 = .ok (.if_icmp .ge 18, 3) := by decide +kernel
theorem dX2_allSorrow_9 : decode cX2_allSorrow 9 = .ok (.iload_n 1, 1) := by decide +kernel
theorem dX2_allSorrow_10 : decode cX2_allSorrow 10 = .ok (.aload_n 0, 1) := by decide +kernel
theorem dX2_allSorrow_11 : decode cX2_allSorrow 11 = .ok (.getfield 9, 3) := by decide +kernel
theorem dX2_allSorrow_14 : decode cX2_allSorrow 14 = .ok (.iload_n 2, 1) := by decide +kernel
theorem dX2_allSorrow_15 : decode cX2_allSorrow 15 = .ok (.iaload, 1) := by decide +kernel
theorem dX2_allSorrow_16 : decode cX2_allSorrow 16 = .ok (.iadd, 1) := by decide +kernel
theorem dX2_allSorrow_17 : decode cX2_allSorrow 17 = .ok (.istore_n 1, 1) := by decide +kernel
theorem dX2_allSorrow_18 : decode cX2_allSorrow 18 = .ok (.iinc 2 1, 3) := by decide +kernel
theorem dX2_allSorrow_21 : decode cX2_allSorrow 21 = .ok (.goto (-17), 3) := by decide +kernel
theorem dX2_allSorrow_24 : decode cX2_allSorrow 24 = .ok (.iload_n 1, 1) := by decide +kernel
theorem dX2_allSorrow_25 : decode cX2_allSorrow 25 = .ok (.ireturn, 1) := by decide +kernel
theorem dX2_isFitFor_0 : decode cX2_isFitFor 0 = .ok (.aload_n 0, 1) := by decide +kernel
theorem dX2_isFitFor_1 : decode cX2_isFitFor 1 = .ok (.iload_n 1, 1) := by decide +kernel
theorem dX2_isFitFor_2 : decode cX2_isFitFor 2 = .ok (.invokevirtual 58, 3) := by decide +kernel
theorem dX2_isFitFor_5 : decode cX2_isFitFor 5 = .ok (.iconst 1, 1) := by decide +kernel
theorem dX2_isFitFor_6 : decode cX2_isFitFor 6 = .ok (.if_icmp .lt 16, 3) := by decide +kernel
theorem dX2_isFitFor_9 : decode cX2_isFitFor 9 = .ok (.aload_n 0, 1) := by decide +kernel
theorem dX2_isFitFor_10 : decode cX2_isFitFor 10 = .ok (.iload_n 1, 1) := by decide +kernel
theorem dX2_isFitFor_11 : decode cX2_isFitFor 11 = .ok (.iload_n 2, 1) := by decide +kernel
theorem dX2_isFitFor_12 : decode cX2_isFitFor 12 = .ok (.invokevirtual 62, 3) := by decide +kernel
theorem dX2_isFitFor_15 : decode cX2_isFitFor 15 = .ok (.ifCond .ne 7, 3) := by decide +kernel
theorem dX2_isFitFor_18 : decode cX2_isFitFor 18 = .ok (.iconst 1, 1) := by decide +kernel
theorem dX2_isFitFor_19 : decode cX2_isFitFor 19 = .ok (.goto 4, 3) := by decide +kernel
theorem dX2_isFitFor_22 : decode cX2_isFitFor 22 = .ok (.iconst 0, 1) := by decide +kernel
theorem dX2_isFitFor_23 : decode cX2_isFitFor 23 = .ok (.ireturn, 1) := by decide +kernel
theorem dX2_mayWeep_0 : decode cX2_mayWeep 0 = .ok (.aload_n 0, 1) := by decide +kernel
theorem dX2_mayWeep_1 : decode cX2_mayWeep 1 = .ok (.iload_n 2, 1) := by decide +kernel
theorem dX2_mayWeep_2 : decode cX2_mayWeep 2 = .ok (.invokevirtual 65, 3) := by decide +kernel
theorem dX2_mayWeep_5 : decode cX2_mayWeep 5 = .ok (.ifCond .eq 24, 3) := by decide +kernel
theorem dX2_mayWeep_8 : decode cX2_mayWeep 8 = .ok (.aload_n 0, 1) := by decide +kernel
theorem dX2_mayWeep_9 : decode cX2_mayWeep 9 = .ok (.iload_n 1, 1) := by decide +kernel
theorem dX2_mayWeep_10 : decode cX2_mayWeep 10 = .ok (.invokevirtual 65, 3) := by decide +kernel
theorem dX2_mayWeep_13 : decode cX2_mayWeep 13 = .ok (.ifCond .ne 16, 3) := by decide +kernel
theorem dX2_mayWeep_16 : decode cX2_mayWeep 16 = .ok (.aload_n 0, 1) := by decide +kernel
theorem dX2_mayWeep_17 : decode cX2_mayWeep 17 = .ok (.iload_n 1, 1) := by decide +kernel
theorem dX2_mayWeep_18 : decode cX2_mayWeep 18 = .ok (.iload_n 2, 1) := by decide +kernel
theorem dX2_mayWeep_19 : decode cX2_mayWeep 19 = .ok (.invokevirtual 68, 3) := by decide +kernel
theorem dX2_mayWeep_22 : decode cX2_mayWeep 22 = .ok (.ifCond .eq 7, 3) := by decide +kernel
theorem dX2_mayWeep_25 : decode cX2_mayWeep 25 = .ok (.iconst 1, 1) := by decide +kernel
theorem dX2_mayWeep_26 : decode cX2_mayWeep 26 = .ok (.goto 4, 3) := by decide +kernel
theorem dX2_mayWeep_29 : decode cX2_mayWeep 29 = .ok (.iconst 0, 1) := by decide +kernel
theorem dX2_mayWeep_30 : decode cX2_mayWeep 30 = .ok (.ireturn, 1) := by decide +kernel
theorem dX2_mayUseOnions_0 : decode cX2_mayUseOnions 0 = .ok (.aload_n 0, 1) := by decide +kernel
theorem dX2_mayUseOnions_1 : decode cX2_mayUseOnions 1 = .ok (.iload_n 1, 1) := by decide +kernel
theorem dX2_mayUseOnions_2 : decode cX2_mayUseOnions 2 = .ok (.invokevirtual 54, 3) := by decide +kernel
theorem dX2_mayUseOnions_5 : decode cX2_mayUseOnions 5 = .ok (.ifCond .eq 32, 3) := by decide +kernel
theorem dX2_mayUseOnions_8 : decode cX2_mayUseOnions 8 = .ok (.aload_n 0, 1) := by decide +kernel
theorem dX2_mayUseOnions_9 : decode cX2_mayUseOnions 9 = .ok (.iload_n 2, 1) := by decide +kernel
theorem dX2_mayUseOnions_10 : decode cX2_mayUseOnions 10 = .ok (.invokevirtual 65, 3) := by decide +kernel
theorem dX2_mayUseOnions_13 : decode cX2_mayUseOnions 13 = .ok (.ifCond .eq 24, 3) := by decide +kernel
theorem dX2_mayUseOnions_16 : decode cX2_mayUseOnions 16 = .ok (.aload_n 0, 1) := by decide +kernel
theorem dX2_mayUseOnions_17 : decode cX2_mayUseOnions 17 = .ok (.iload_n 1, 1) := by decide +kernel
theorem dX2_mayUseOnions_18 : decode cX2_mayUseOnions 18 = .ok (.invokevirtual 65, 3) := by decide +kernel
theorem dX2_mayUseOnions_21 : decode cX2_mayUseOnions 21 = .ok (.ifCond .ne 16, 3) := by decide +kernel
theorem dX2_mayUseOnions_24 : decode cX2_mayUseOnions 24 = .ok (.aload_n 0, 1) := by decide +kernel
theorem dX2_mayUseOnions_25 : decode cX2_mayUseOnions 25 = .ok (.iload_n 1, 1) := by decide +kernel
theorem dX2_mayUseOnions_26 : decode cX2_mayUseOnions 26 = .ok (.iload_n 2, 1) := by decide +kernel
theorem dX2_mayUseOnions_27 : decode cX2_mayUseOnions 27 = .ok (.invokevirtual 62, 3) := by decide +kernel
theorem dX2_mayUseOnions_30 : decode cX2_mayUseOnions 30 = .ok (.ifCond .ne 7, 3) := by decide +kernel
theorem dX2_mayUseOnions_33 : decode cX2_mayUseOnions 33 = .ok (.iconst 1, 1) := by decide +kernel
theorem dX2_mayUseOnions_34 : decode cX2_mayUseOnions 34 = .ok (.goto 4, 3) := by decide +kernel
theorem dX2_mayUseOnions_37 : decode cX2_mayUseOnions 37 = .ok (.iconst 0, 1) := by decide +kernel
theorem dX2_mayUseOnions_38 : decode cX2_mayUseOnions 38 = .ok (.ireturn, 1) := by decide +kernel
theorem dX2_thoseToWeepFor_0 : decode cX2_thoseToWeepFor 0 = .ok (.iconst 0, 1) := by decide +kernel
theorem dX2_thoseToWeepFor_1 : decode cX2_thoseToWeepFor 1 = .ok (.istore_n 2, 1) := by decide +kernel
theorem dX2_thoseToWeepFor_2 : decode cX2_thoseToWeepFor 2 = .ok (.iconst 0, 1) := by decide +kernel
theorem dX2_thoseToWeepFor_3 : decode cX2_thoseToWeepFor 3 = .ok (.istore_n 3, 1) := by decide +kernel
theorem dX2_thoseToWeepFor_4 : decode cX2_thoseToWeepFor 4 = .ok (.iload_n 3, 1) := by decide +kernel
theorem dX2_thoseToWeepFor_5 : decode cX2_thoseToWeepFor 5 = .ok (.iconst 5, 1) := by decide +kernel
theorem dX2_thoseToWeepFor_6 : decode cX2_thoseToWeepFor 6 = .ok (.if_icmp .ge 24, 3) := by decide +kernel
theorem dX2_thoseToWeepFor_9 : decode cX2_thoseToWeepFor 9 = .ok (.aload_n 0, 1) := by decide +kernel
theorem dX2_thoseToWeepFor_10 : decode cX2_thoseToWeepFor 10 = .ok (.iload_n 1, 1) := by decide +kernel
theorem dX2_thoseToWeepFor_11 : decode cX2_thoseToWeepFor 11 = .ok (.iload_n 3, 1) := by decide +kernel
theorem dX2_thoseToWeepFor_12 : decode cX2_thoseToWeepFor 12 = .ok (.invokevirtual 71, 3) := by decide +kernel
theorem dX2_thoseToWeepFor_15 : decode cX2_thoseToWeepFor 15 = .ok (.ifCond .eq 9, 3) := by decide +kernel
theorem dX2_thoseToWeepFor_18 : decode cX2_thoseToWeepFor 18 = .ok (.iload_n 2, 1) := by decide +kernel
theorem dX2_thoseToWeepFor_19 : decode cX2_thoseToWeepFor 19 = .ok (.iconst 1, 1) := by decide +kernel
theorem dX2_thoseToWeepFor_20 : decode cX2_thoseToWeepFor 20 = .ok (.iload_n 3, 1) := by decide +kernel
theorem dX2_thoseToWeepFor_21 : decode cX2_thoseToWeepFor 21 = .ok (.ishl, 1) := by decide +kernel
theorem dX2_thoseToWeepFor_22 : decode cX2_thoseToWeepFor 22 = .ok (.ior, 1) := by decide +kernel
theorem dX2_thoseToWeepFor_23 : decode cX2_thoseToWeepFor 23 = .ok (.istore_n 2, 1) := by decide +kernel
theorem dX2_thoseToWeepFor_24 : decode cX2_thoseToWeepFor 24 = .ok (.iinc 3 1, 3) := by decide +kernel
theorem dX2_thoseToWeepFor_27 : decode cX2_thoseToWeepFor 27 = .ok (.goto (-23), 3) := by decide +kernel
theorem dX2_thoseToWeepFor_30 : decode cX2_thoseToWeepFor 30 = .ok (.iload_n 2, 1) := by decide +kernel
theorem dX2_thoseToWeepFor_31 : decode cX2_thoseToWeepFor 31 = .ok (.ireturn, 1) := by decide +kernel
theorem dX2_unweptBits_0 : decode cX2_unweptBits 0 = .ok (.aload_n 0, 1) := by decide +kernel
theorem dX2_unweptBits_1 : decode cX2_unweptBits 1 = .ok (.getfield 37, 3) := by decide +kernel
theorem dX2_unweptBits_4 : decode cX2_unweptBits 4 = .ok (.istore_n 1, 1) := by decide +kernel
theorem dX2_unweptBits_5 : decode cX2_unweptBits 5 = .ok (.iconst 0, 1) := by decide +kernel
theorem dX2_unweptBits_6 : decode cX2_unweptBits 6 = .ok (.istore_n 2, 1) := by decide +kernel
theorem dX2_unweptBits_7 : decode cX2_unweptBits 7 = .ok (.iload_n 2, 1) := by decide +kernel
theorem dX2_unweptBits_8 : decode cX2_unweptBits 8 = .ok (.iconst 5, 1) := by decide +kernel
theorem dX2_unweptBits_9 : decode cX2_unweptBits 9 = .ok (.if_icmp .ge 19, 3) := by decide +kernel
theorem dX2_unweptBits_12 : decode cX2_unweptBits 12 = .ok (.iload_n 1, 1) := by decide +kernel
theorem dX2_unweptBits_13 : decode cX2_unweptBits 13 = .ok (.aload_n 0, 1) := by decide +kernel
theorem dX2_unweptBits_14 : decode cX2_unweptBits 14 = .ok (.iload_n 2, 1) := by decide +kernel
theorem dX2_unweptBits_15 : decode cX2_unweptBits 15 = .ok (.invokevirtual 74, 3) := by decide +kernel
theorem dX2_unweptBits_18 : decode cX2_unweptBits 18 = .ok (.iconst (-1), 1) := by decide +kernel
theorem dX2_unweptBits_19 : decode cX2_unweptBits 19 = .ok (.ixor, 1) := by decide +kernel
theorem dX2_unweptBits_20 : decode cX2_unweptBits 20 = .ok (.iand, 1) := by decide +kernel
theorem dX2_unweptBits_21 : decode cX2_unweptBits 21 = .ok (.istore_n 1, 1) := by decide +kernel
theorem dX2_unweptBits_22 : decode cX2_unweptBits 22 = .ok (.iinc 2 1, 3) := by decide +kernel
theorem dX2_unweptBits_25 : decode cX2_unweptBits 25 = .ok (.goto (-18), 3) := by decide +kernel
theorem dX2_unweptBits_28 : decode cX2_unweptBits 28 = .ok (.iload_n 1, 1) := by decide +kernel
theorem dX2_unweptBits_29 : decode cX2_unweptBits 29 = .ok (.ireturn, 1) := by decide +kernel
theorem dX2_kinToAllBits_0 : decode cX2_kinToAllBits 0 = .ok (.iconst 0, 1) := by decide +kernel
theorem dX2_kinToAllBits_1 : decode cX2_kinToAllBits 1 = .ok (.istore_n 1, 1) := by decide +kernel
theorem dX2_kinToAllBits_2 : decode cX2_kinToAllBits 2 = .ok (.iconst 0, 1) := by decide +kernel
theorem dX2_kinToAllBits_3 : decode cX2_kinToAllBits 3 = .ok (.istore_n 2, 1) := by decide +kernel
theorem dX2_kinToAllBits_4 : decode cX2_kinToAllBits 4 = .ok (.iload_n 2, 1) := by decide +kernel
theorem dX2_kinToAllBits_5 : decode cX2_kinToAllBits 5 = .ok (.iconst 5, 1) := by decide +kernel
theorem dX2_kinToAllBits_6 : decode cX2_kinToAllBits 6 = .ok (.if_icmp .ge 40, 3) := by decide +kernel
theorem dX2_kinToAllBits_9 : decode cX2_kinToAllBits 9 = .ok (.aload_n 0, 1) := by decide +kernel
theorem dX2_kinToAllBits_10 : decode cX2_kinToAllBits 10 = .ok (.iload_n 2, 1) := by decide +kernel
theorem dX2_kinToAllBits_11 : decode cX2_kinToAllBits 11 = .ok (.invokevirtual 54, 3) := by decide +kernel
theorem dX2_kinToAllBits_14 : decode cX2_kinToAllBits 14 = .ok (.ifCond .eq 26, 3) := by decide +kernel
theorem dX2_kinToAllBits_17 : decode cX2_kinToAllBits 17 = .ok (.aload_n 0, 1) := by decide +kernel
theorem dX2_kinToAllBits_18 : decode cX2_kinToAllBits 18 = .ok (.getfield 21, 3) := by decide +kernel
theorem dX2_kinToAllBits_21 : decode cX2_kinToAllBits 21 = .ok (.iload_n 2, 1) := by decide +kernel
theorem dX2_kinToAllBits_22 : decode cX2_kinToAllBits 22 = .ok (.iaload, 1) := by decide +kernel
theorem dX2_kinToAllBits_23 : decode cX2_kinToAllBits 23 = .ok (.iconst 1, 1) := by decide +kernel
theorem dX2_kinToAllBits_24 : decode cX2_kinToAllBits 24 = .ok (.iload_n 2, 1) := by decide +kernel
theorem dX2_kinToAllBits_25 : decode cX2_kinToAllBits 25 = .ok (.ishl, 1) := by decide +kernel
theorem dX2_kinToAllBits_26 : decode cX2_kinToAllBits 26 = .ok (.ior, 1) := by decide +kernel
theorem dX2_kinToAllBits_27 : decode cX2_kinToAllBits 27 = .ok (.aload_n 0, 1) := by decide +kernel
theorem dX2_kinToAllBits_28 : decode cX2_kinToAllBits 28 = .ok (.invokevirtual 46, 3) := by decide +kernel
theorem dX2_kinToAllBits_31 : decode cX2_kinToAllBits 31 = .ok (.if_icmp .ne 9, 3) := by decide +kernel
theorem dX2_kinToAllBits_34 : decode cX2_kinToAllBits 34 = .ok (.iload_n 1, 1) := by decide +kernel
theorem dX2_kinToAllBits_35 : decode cX2_kinToAllBits 35 = .ok (.iconst 1, 1) := by decide +kernel
theorem dX2_kinToAllBits_36 : decode cX2_kinToAllBits 36 = .ok (.iload_n 2, 1) := by decide +kernel
theorem dX2_kinToAllBits_37 : decode cX2_kinToAllBits 37 = .ok (.ishl, 1) := by decide +kernel
theorem dX2_kinToAllBits_38 : decode cX2_kinToAllBits 38 = .ok (.ior, 1) := by decide +kernel
theorem dX2_kinToAllBits_39 : decode cX2_kinToAllBits 39 = .ok (.istore_n 1, 1) := by decide +kernel
theorem dX2_kinToAllBits_40 : decode cX2_kinToAllBits 40 = .ok (.iinc 2 1, 3) := by decide +kernel
theorem dX2_kinToAllBits_43 : decode cX2_kinToAllBits 43 = .ok (.goto (-39), 3) := by decide +kernel
theorem dX2_kinToAllBits_46 : decode cX2_kinToAllBits 46 = .ok (.iload_n 1, 1) := by decide +kernel
theorem dX2_kinToAllBits_47 : decode cX2_kinToAllBits 47 = .ok (.ireturn, 1) := by decide +kernel
theorem dX2_debt_0 : decode cX2_debt 0 = .ok (.aload_n 0, 1) := by decide +kernel
theorem dX2_debt_1 : decode cX2_debt 1 = .ok (.iload_n 1, 1) := by decide +kernel
theorem dX2_debt_2 : decode cX2_debt 2 = .ok (.invokevirtual 54, 3) := by decide +kernel
theorem dX2_debt_5 : decode cX2_debt 5 = .ok (.ifCond .eq 24, 3) := by decide +kernel
theorem dX2_debt_8 : decode cX2_debt 8 = .ok (.aload_n 0, 1) := by decide +kernel
theorem dX2_debt_9 : decode cX2_debt 9 = .ok (.iload_n 2, 1) := by decide +kernel
theorem dX2_debt_10 : decode cX2_debt 10 = .ok (.invokevirtual 54, 3) := by decide +kernel
theorem dX2_debt_13 : decode cX2_debt 13 = .ok (.ifCond .eq 16, 3) := by decide +kernel
theorem dX2_debt_16 : decode cX2_debt 16 = .ok (.aload_n 0, 1) := by decide +kernel
theorem dX2_debt_17 : decode cX2_debt 17 = .ok (.getfield 24, 3) := by decide +kernel
theorem dX2_debt_20 : decode cX2_debt 20 = .ok (.iload_n 1, 1) := by decide +kernel
theorem dX2_debt_21 : decode cX2_debt 21 = .ok (.iconst 5, 1) := by decide +kernel
theorem dX2_debt_22 : decode cX2_debt 22 = .ok (.imul, 1) := by decide +kernel
theorem dX2_debt_23 : decode cX2_debt 23 = .ok (.iload_n 2, 1) := by decide +kernel
theorem dX2_debt_24 : decode cX2_debt 24 = .ok (.iadd, 1) := by decide +kernel
theorem dX2_debt_25 : decode cX2_debt 25 = .ok (.iaload, 1) := by decide +kernel
theorem dX2_debt_26 : decode cX2_debt 26 = .ok (.goto 4, 3) := by decide +kernel
theorem dX2_debt_29 : decode cX2_debt 29 = .ok (.iconst 0, 1) := by decide +kernel
theorem dX2_debt_30 : decode cX2_debt 30 = .ok (.ireturn, 1) := by decide +kernel
theorem dX2_reachedByDebts_0 : decode cX2_reachedByDebts 0 = .ok (.aload_n 0, 1) := by decide +kernel
theorem dX2_reachedByDebts_1 : decode cX2_reachedByDebts 1 = .ok (.iload_n 1, 1) := by decide +kernel
theorem dX2_reachedByDebts_2 : decode cX2_reachedByDebts 2 = .ok (.invokevirtual 77, 3) := by decide +kernel
theorem dX2_reachedByDebts_5 : decode cX2_reachedByDebts 5 = .ok (.istore_n 2, 1) := by decide +kernel
theorem dX2_reachedByDebts_6 : decode cX2_reachedByDebts 6 = .ok (.iconst 0, 1) := by decide +kernel
theorem dX2_reachedByDebts_7 : decode cX2_reachedByDebts 7 = .ok (.istore_n 3, 1) := by decide +kernel
theorem dX2_reachedByDebts_8 : decode cX2_reachedByDebts 8 = .ok (.iload_n 3, 1) := by decide +kernel
theorem dX2_reachedByDebts_9 : decode cX2_reachedByDebts 9 = .ok (.iconst 5, 1) := by decide +kernel
theorem dX2_reachedByDebts_10 : decode cX2_reachedByDebts 10 = .ok (.if_icmp .ge 42, 3) := by decide +kernel
theorem dX2_reachedByDebts_13 : decode cX2_reachedByDebts 13 = .ok (.iconst 0, 1) := by decide +kernel
theorem dX2_reachedByDebts_14 : decode cX2_reachedByDebts 14 = .ok (.istore 4, 2) := by decide +kernel
theorem dX2_reachedByDebts_16 : decode cX2_reachedByDebts 16 = .ok (.iload 4, 2) := by decide +kernel
theorem dX2_reachedByDebts_18 : decode cX2_reachedByDebts 18 = .ok (.iconst 5, 1) := by decide +kernel
theorem dX2_reachedByDebts_19 : decode cX2_reachedByDebts 19 = .ok (.if_icmp .ge 27, 3) := by decide +kernel
theorem dX2_reachedByDebts_22 : decode cX2_reachedByDebts 22 = .ok (.iload_n 2, 1) := by decide +kernel
theorem dX2_reachedByDebts_23 : decode cX2_reachedByDebts 23 = .ok (.iload 4, 2) := by decide +kernel
theorem dX2_reachedByDebts_25 : decode cX2_reachedByDebts 25 = .ok (.invokestatic 50, 3) := by decide +kernel
theorem dX2_reachedByDebts_28 : decode cX2_reachedByDebts 28 = .ok (.ifCond .eq 12, 3) := by decide +kernel
theorem dX2_reachedByDebts_31 : decode cX2_reachedByDebts 31 = .ok (.iload_n 2, 1) := by decide +kernel
theorem dX2_reachedByDebts_32 : decode cX2_reachedByDebts 32 = .ok (.aload_n 0, 1) := by decide +kernel
theorem dX2_reachedByDebts_33 : decode cX2_reachedByDebts 33 = .ok (.iload 4, 2) := by decide +kernel
theorem dX2_reachedByDebts_35 : decode cX2_reachedByDebts 35 = .ok (.invokevirtual 77, 3) := by decide +kernel
theorem dX2_reachedByDebts_38 : decode cX2_reachedByDebts 38 = .ok (.ior, 1) := by decide +kernel
theorem dX2_reachedByDebts_39 : decode cX2_reachedByDebts 39 = .ok (.istore_n 2, 1) := by decide +kernel
theorem dX2_reachedByDebts_40 : decode cX2_reachedByDebts 40 = .ok (.iinc 4 1, 3) := by decide +kernel
theorem dX2_reachedByDebts_43 : decode cX2_reachedByDebts 43 = .ok (.goto (-27), 3) := by decide +kernel
theorem dX2_reachedByDebts_46 : decode cX2_reachedByDebts 46 = .ok (.iinc 3 1, 3) := by decide +kernel
theorem dX2_reachedByDebts_49 : decode cX2_reachedByDebts 49 = .ok (.goto (-41), 3) := by decide +kernel
theorem dX2_reachedByDebts_52 : decode cX2_reachedByDebts 52 = .ok (.iload_n 2, 1) := by decide +kernel
theorem dX2_reachedByDebts_53 : decode cX2_reachedByDebts 53 = .ok (.ireturn, 1) := by decide +kernel
theorem dX2_creditors_0 : decode cX2_creditors 0 = .ok (.iconst 0, 1) := by decide +kernel
theorem dX2_creditors_1 : decode cX2_creditors 1 = .ok (.istore_n 2, 1) := by decide +kernel
theorem dX2_creditors_2 : decode cX2_creditors 2 = .ok (.iconst 0, 1) := by decide +kernel
theorem dX2_creditors_3 : decode cX2_creditors 3 = .ok (.istore_n 3, 1) := by decide +kernel
theorem dX2_creditors_4 : decode cX2_creditors 4 = .ok (.iload_n 3, 1) := by decide +kernel
theorem dX2_creditors_5 : decode cX2_creditors 5 = .ok (.iconst 5, 1) := by decide +kernel
theorem dX2_creditors_6 : decode cX2_creditors 6 = .ok (.if_icmp .ge 24, 3) := by decide +kernel
theorem dX2_creditors_9 : decode cX2_creditors 9 = .ok (.aload_n 0, 1) := by decide +kernel
theorem dX2_creditors_10 : decode cX2_creditors 10 = .ok (.iload_n 1, 1) := by decide +kernel
theorem dX2_creditors_11 : decode cX2_creditors 11 = .ok (.iload_n 3, 1) := by decide +kernel
theorem dX2_creditors_12 : decode cX2_creditors 12 = .ok (.invokevirtual 80, 3) := by decide +kernel
theorem dX2_creditors_15 : decode cX2_creditors 15 = .ok (.ifCond .le 9, 3) := by decide +kernel
theorem dX2_creditors_18 : decode cX2_creditors 18 = .ok (.iload_n 2, 1) := by decide +kernel
theorem dX2_creditors_19 : decode cX2_creditors 19 = .ok (.iconst 1, 1) := by decide +kernel
theorem dX2_creditors_20 : decode cX2_creditors 20 = .ok (.iload_n 3, 1) := by decide +kernel
theorem dX2_creditors_21 : decode cX2_creditors 21 = .ok (.ishl, 1) := by decide +kernel
theorem dX2_creditors_22 : decode cX2_creditors 22 = .ok (.ior, 1) := by decide +kernel
theorem dX2_creditors_23 : decode cX2_creditors 23 = .ok (.istore_n 2, 1) := by decide +kernel
theorem dX2_creditors_24 : decode cX2_creditors 24 = .ok (.iinc 3 1, 3) := by decide +kernel
theorem dX2_creditors_27 : decode cX2_creditors 27 = .ok (.goto (-23), 3) := by decide +kernel
theorem dX2_creditors_30 : decode cX2_creditors 30 = .ok (.iload_n 2, 1) := by decide +kernel
theorem dX2_creditors_31 : decode cX2_creditors 31 = .ok (.ireturn, 1) := by decide +kernel
theorem dX2_bereave_0 : decode cX2_bereave 0 = .ok (.aload_n 0, 1) := by decide +kernel
theorem dX2_bereave_1 : decode cX2_bereave 1 = .ok (.iload_n 1, 1) := by decide +kernel
theorem dX2_bereave_2 : decode cX2_bereave 2 = .ok (.invokevirtual 54, 3) := by decide +kernel
theorem dX2_bereave_5 : decode cX2_bereave 5 = .ok (.ifCond .eq 38, 3) := by decide +kernel
theorem dX2_bereave_8 : decode cX2_bereave 8 = .ok (.aload_n 0, 1) := by decide +kernel
theorem dX2_bereave_9 : decode cX2_bereave 9 = .ok (.iload_n 1, 1) := by decide +kernel
theorem dX2_bereave_10 : decode cX2_bereave 10 = .ok (.invokevirtual 65, 3) := by decide +kernel
theorem dX2_bereave_13 : decode cX2_bereave 13 = .ok (.ifCond .ne 30, 3) := by decide +kernel
theorem dX2_bereave_16 : decode cX2_bereave 16 = .ok (.aload_n 0, 1) := by decide +kernel
theorem dX2_bereave_17 : decode cX2_bereave 17 = .ok (.getfield 9, 3) := by decide +kernel
theorem dX2_bereave_20 : decode cX2_bereave 20 = .ok (.iload_n 1, 1) := by decide +kernel
theorem dX2_bereave_21 : decode cX2_bereave 21 = .ok (.bipush 9, 2) := by decide +kernel
theorem dX2_bereave_23 : decode cX2_bereave 23 = .ok (.iastore, 1) := by decide +kernel
theorem dX2_bereave_24 : decode cX2_bereave 24 = .ok (.aload_n 0, 1) := by decide +kernel
theorem dX2_bereave_25 : decode cX2_bereave 25 = .ok (.getfield 15, 3) := by decide +kernel
theorem dX2_bereave_28 : decode cX2_bereave 28 = .ok (.iload_n 1, 1) := by decide +kernel
theorem dX2_bereave_29 : decode cX2_bereave 29 = .ok (.iconst 0, 1) := by decide +kernel
theorem dX2_bereave_30 : decode cX2_bereave 30 = .ok (.iastore, 1) := by decide +kernel
theorem dX2_bereave_31 : decode cX2_bereave 31 = .ok (.aload_n 0, 1) := by decide +kernel
theorem dX2_bereave_32 : decode cX2_bereave 32 = .ok (.dup, 1) := by decide +kernel
theorem dX2_bereave_33 : decode cX2_bereave 33 = .ok (.getfield 37, 3) := by decide +kernel
theorem dX2_bereave_36 : decode cX2_bereave 36 = .ok (.iconst 1, 1) := by decide +kernel
theorem dX2_bereave_37 : decode cX2_bereave 37 = .ok (.iload_n 1, 1) := by decide +kernel
theorem dX2_bereave_38 : decode cX2_bereave 38 = .ok (.ishl, 1) := by decide +kernel
theorem dX2_bereave_39 : decode cX2_bereave 39 = .ok (.ior, 1) := by decide +kernel
theorem dX2_bereave_40 : decode cX2_bereave 40 = .ok (.putfield 37, 3) := by decide +kernel
theorem dX2_bereave_43 : decode cX2_bereave 43 = .ok (.return_, 1) := by decide +kernel
theorem dX2_weepFor_0 : decode cX2_weepFor 0 = .ok (.aload_n 0, 1) := by decide +kernel
theorem dX2_weepFor_1 : decode cX2_weepFor 1 = .ok (.iload_n 1, 1) := by decide +kernel
theorem dX2_weepFor_2 : decode cX2_weepFor 2 = .ok (.invokevirtual 54, 3) := by decide +kernel
theorem dX2_weepFor_5 : decode cX2_weepFor 5 = .ok (.ifCond .eq 12, 3) := by decide +kernel
theorem dX2_weepFor_8 : decode cX2_weepFor 8 = .ok (.aload_n 0, 1) := by decide +kernel
theorem dX2_weepFor_9 : decode cX2_weepFor 9 = .ok (.iload_n 1, 1) := by decide +kernel
theorem dX2_weepFor_10 : decode cX2_weepFor 10 = .ok (.iload_n 2, 1) := by decide +kernel
theorem dX2_weepFor_11 : decode cX2_weepFor 11 = .ok (.invokevirtual 71, 3) := by decide +kernel
theorem dX2_weepFor_14 : decode cX2_weepFor 14 = .ok (.ifCond .ne 5, 3) := by decide +kernel
theorem dX2_weepFor_17 : decode cX2_weepFor 17 = .ok (.iconst 0, 1) := by decide +kernel
theorem dX2_weepFor_18 : decode cX2_weepFor 18 = .ok (.ireturn, 1) := by decide +kernel
theorem dX2_weepFor_19 : decode cX2_weepFor 19 = .ok (.aload_n 0, 1) := by decide +kernel
theorem dX2_weepFor_20 : decode cX2_weepFor 20 = .ok (.iload_n 1, 1) := by decide +kernel
theorem dX2_weepFor_21 : decode cX2_weepFor 21 = .ok (.invokevirtual 58, 3) := by decide +kernel
theorem dX2_weepFor_24 : decode cX2_weepFor 24 = .ok (.istore_n 3, 1) := by decide +kernel
theorem dX2_weepFor_25 : decode cX2_weepFor 25 = .ok (.aload_n 0, 1) := by decide +kernel
theorem dX2_weepFor_26 : decode cX2_weepFor 26 = .ok (.getfield 9, 3) := by decide +kernel
theorem dX2_weepFor_29 : decode cX2_weepFor 29 = .ok (.iload_n 1, 1) := by decide +kernel
theorem dX2_weepFor_30 : decode cX2_weepFor 30 = .ok (.dup2, 1) := by decide +kernel
theorem dX2_weepFor_31 : decode cX2_weepFor 31 = .ok (.iaload, 1) := by decide +kernel
theorem dX2_weepFor_32 : decode cX2_weepFor 32 = .ok (.iload_n 3, 1) := by decide +kernel
theorem dX2_weepFor_33 : decode cX2_weepFor 33 = .ok (.isub, 1) := by decide +kernel
theorem dX2_weepFor_34 : decode cX2_weepFor 34 = .ok (.iastore, 1) := by decide +kernel
theorem dX2_weepFor_35 : decode cX2_weepFor 35 = .ok (.aload_n 0, 1) := by decide +kernel
theorem dX2_weepFor_36 : decode cX2_weepFor 36 = .ok (.iload_n 1, 1) := by decide +kernel
theorem dX2_weepFor_37 : decode cX2_weepFor 37 = .ok (.iload_n 2, 1) := by decide +kernel
theorem dX2_weepFor_38 : decode cX2_weepFor 38 = .ok (.invokevirtual 84, 3) := by decide +kernel
theorem dX2_weepFor_41 : decode cX2_weepFor 41 = .ok (.iload_n 3, 1) := by decide +kernel
theorem dX2_weepFor_42 : decode cX2_weepFor 42 = .ok (.ireturn, 1) := by decide +kernel
theorem dX2_useOnions_0 : decode cX2_useOnions 0 = .ok (.aload_n 0, 1) := by decide +kernel
theorem dX2_useOnions_1 : decode cX2_useOnions 1 = .ok (.iload_n 1, 1) := by decide +kernel
theorem dX2_useOnions_2 : decode cX2_useOnions 2 = .ok (.iload_n 2, 1) := by decide +kernel
theorem dX2_useOnions_3 : decode cX2_useOnions 3 = .ok (.invokevirtual 88, 3) := by decide +kernel
theorem dX2_useOnions_6 : decode cX2_useOnions 6 = .ok (.ifCond .eq 21, 3) := by decide +kernel
theorem dX2_useOnions_9 : decode cX2_useOnions 9 = .ok (.aload_n 0, 1) := by decide +kernel
theorem dX2_useOnions_10 : decode cX2_useOnions 10 = .ok (.dup, 1) := by decide +kernel
theorem dX2_useOnions_11 : decode cX2_useOnions 11 = .ok (.getfield 40, 3) := by decide +kernel
theorem dX2_useOnions_14 : decode cX2_useOnions 14 = .ok (.iconst 1, 1) := by decide +kernel
theorem dX2_useOnions_15 : decode cX2_useOnions 15 = .ok (.iload_n 1, 1) := by decide +kernel
theorem dX2_useOnions_16 : decode cX2_useOnions 16 = .ok (.ishl, 1) := by decide +kernel
theorem dX2_useOnions_17 : decode cX2_useOnions 17 = .ok (.ior, 1) := by decide +kernel
theorem dX2_useOnions_18 : decode cX2_useOnions 18 = .ok (.putfield 40, 3) := by decide +kernel
theorem dX2_useOnions_21 : decode cX2_useOnions 21 = .ok (.aload_n 0, 1) := by decide +kernel
theorem dX2_useOnions_22 : decode cX2_useOnions 22 = .ok (.iload_n 1, 1) := by decide +kernel
theorem dX2_useOnions_23 : decode cX2_useOnions 23 = .ok (.iload_n 2, 1) := by decide +kernel
theorem dX2_useOnions_24 : decode cX2_useOnions 24 = .ok (.invokevirtual 84, 3) := by decide +kernel
theorem dX2_useOnions_27 : decode cX2_useOnions 27 = .ok (.return_, 1) := by decide +kernel
theorem dX2_settle_0 : decode cX2_settle 0 = .ok (.aload_n 0, 1) := by decide +kernel
theorem dX2_settle_1 : decode cX2_settle 1 = .ok (.iload_n 1, 1) := by decide +kernel
theorem dX2_settle_2 : decode cX2_settle 2 = .ok (.invokevirtual 54, 3) := by decide +kernel
theorem dX2_settle_5 : decode cX2_settle 5 = .ok (.ifCond .eq 45, 3) := by decide +kernel
theorem dX2_settle_8 : decode cX2_settle 8 = .ok (.aload_n 0, 1) := by decide +kernel
theorem dX2_settle_9 : decode cX2_settle 9 = .ok (.iload_n 2, 1) := by decide +kernel
theorem dX2_settle_10 : decode cX2_settle 10 = .ok (.invokevirtual 54, 3) := by decide +kernel
theorem dX2_settle_13 : decode cX2_settle 13 = .ok (.ifCond .eq 37, 3) := by decide +kernel
theorem dX2_settle_16 : decode cX2_settle 16 = .ok (.aload_n 0, 1) := by decide +kernel
theorem dX2_settle_17 : decode cX2_settle 17 = .ok (.iload_n 1, 1) := by decide +kernel
theorem dX2_settle_18 : decode cX2_settle 18 = .ok (.iload_n 2, 1) := by decide +kernel
theorem dX2_settle_19 : decode cX2_settle 19 = .ok (.invokevirtual 91, 3) := by decide +kernel
theorem dX2_settle_22 : decode cX2_settle 22 = .ok (.aload_n 0, 1) := by decide +kernel
theorem dX2_settle_23 : decode cX2_settle 23 = .ok (.getfield 24, 3) := by decide +kernel
theorem dX2_settle_26 : decode cX2_settle 26 = .ok (.iload_n 2, 1) := by decide +kernel
theorem dX2_settle_27 : decode cX2_settle 27 = .ok (.iconst 5, 1) := by decide +kernel
theorem dX2_settle_28 : decode cX2_settle 28 = .ok (.imul, 1) := by decide +kernel
theorem dX2_settle_29 : decode cX2_settle 29 = .ok (.iload_n 1, 1) := by decide +kernel
theorem dX2_settle_30 : decode cX2_settle 30 = .ok (.iadd, 1) := by decide +kernel
theorem dX2_settle_31 : decode cX2_settle 31 = .ok (.dup2, 1) := by decide +kernel
theorem dX2_settle_32 : decode cX2_settle 32 = .ok (.iaload, 1) := by decide +kernel
theorem dX2_settle_33 : decode cX2_settle 33 = .ok (.iconst 1, 1) := by decide +kernel
theorem dX2_settle_34 : decode cX2_settle 34 = .ok (.iadd, 1) := by decide +kernel
theorem dX2_settle_35 : decode cX2_settle 35 = .ok (.iastore, 1) := by decide +kernel
theorem dX2_settle_36 : decode cX2_settle 36 = .ok (.aload_n 0, 1) := by decide +kernel
theorem dX2_settle_37 : decode cX2_settle 37 = .ok (.dup, 1) := by decide +kernel
theorem dX2_settle_38 : decode cX2_settle 38 = .ok (.getfield 37, 3) := by decide +kernel
theorem dX2_settle_41 : decode cX2_settle 41 = .ok (.iconst 1, 1) := by decide +kernel
theorem dX2_settle_42 : decode cX2_settle 42 = .ok (.iload_n 2, 1) := by decide +kernel
theorem dX2_settle_43 : decode cX2_settle 43 = .ok (.ishl, 1) := by decide +kernel
theorem dX2_settle_44 : decode cX2_settle 44 = .ok (.iconst (-1), 1) := by decide +kernel
theorem dX2_settle_45 : decode cX2_settle 45 = .ok (.ixor, 1) := by decide +kernel
theorem dX2_settle_46 : decode cX2_settle 46 = .ok (.iand, 1) := by decide +kernel
theorem dX2_settle_47 : decode cX2_settle 47 = .ok (.putfield 37, 3) := by decide +kernel
theorem dX2_settle_50 : decode cX2_settle 50 = .ok (.return_, 1) := by decide +kernel
theorem dX2_passWeek_0 : decode cX2_passWeek 0 = .ok (.iconst 0, 1) := by decide +kernel
theorem dX2_passWeek_1 : decode cX2_passWeek 1 = .ok (.istore_n 1, 1) := by decide +kernel
theorem dX2_passWeek_2 : decode cX2_passWeek 2 = .ok (.iload_n 1, 1) := by decide +kernel
theorem dX2_passWeek_3 : decode cX2_passWeek 3 = .ok (.aload_n 0, 1) := by decide +kernel
theorem dX2_passWeek_4 : decode cX2_passWeek 4 = .ok (.getfield 33, 3) := by decide +kernel
theorem dX2_passWeek_7 : decode cX2_passWeek 7 = .ok (.if_icmp .ge 61, 3) := by decide +kernel
theorem dX2_passWeek_10 : decode cX2_passWeek 10 = .ok (.iload_n 1, 1) := by decide +kernel
theorem dX2_passWeek_11 : decode cX2_passWeek 11 = .ok (.iconst 5, 1) := by decide +kernel
theorem dX2_passWeek_12 : decode cX2_passWeek 12 = .ok (.if_icmp .ge 56, 3) := by decide +kernel
theorem dX2_passWeek_15 : decode cX2_passWeek 15 = .ok (.aload_n 0, 1) := by decide +kernel
theorem dX2_passWeek_16 : decode cX2_passWeek 16 = .ok (.getfield 15, 3) := by decide +kernel
theorem dX2_passWeek_19 : decode cX2_passWeek 19 = .ok (.iload_n 1, 1) := by decide +kernel
theorem dX2_passWeek_20 : decode cX2_passWeek 20 = .ok (.bipush 99, 2) := by decide +kernel
theorem dX2_passWeek_22 : decode cX2_passWeek 22 = .ok (.aload_n 0, 1) := by decide +kernel
theorem dX2_passWeek_23 : decode cX2_passWeek 23 = .ok (.getfield 15, 3) := by decide +kernel
theorem dX2_passWeek_26 : decode cX2_passWeek 26 = .ok (.iload_n 1, 1) := by decide +kernel
theorem dX2_passWeek_27 : decode cX2_passWeek 27 = .ok (.iaload, 1) := by decide +kernel
theorem dX2_passWeek_28 : decode cX2_passWeek 28 = .ok (.iconst 1, 1) := by decide +kernel
theorem dX2_passWeek_29 : decode cX2_passWeek 29 = .ok (.iadd, 1) := by decide +kernel
theorem dX2_passWeek_30 : decode cX2_passWeek 30 = .ok (.invokestatic 94, 3) := by decide +kernel
theorem dX2_passWeek_33 : decode cX2_passWeek 33 = .ok (.iastore, 1) := by decide +kernel
theorem dX2_passWeek_34 : decode cX2_passWeek 34 = .ok (.aload_n 0, 1) := by decide +kernel
theorem dX2_passWeek_35 : decode cX2_passWeek 35 = .ok (.getfield 15, 3) := by decide +kernel
theorem dX2_passWeek_38 : decode cX2_passWeek 38 = .ok (.iload_n 1, 1) := by decide +kernel
theorem dX2_passWeek_39 : decode cX2_passWeek 39 = .ok (.iaload, 1) := by decide +kernel
theorem dX2_passWeek_40 : decode cX2_passWeek 40 = .ok (.iconst 3, 1) := by decide +kernel
theorem dX2_passWeek_41 : decode cX2_passWeek 41 = .ok (.if_icmp .lt 21, 3) := by decide +kernel
theorem dX2_passWeek_44 : decode cX2_passWeek 44 = .ok (.aload_n 0, 1) := by decide +kernel
theorem dX2_passWeek_45 : decode cX2_passWeek 45 = .ok (.getfield 9, 3) := by decide +kernel
theorem dX2_passWeek_48 : decode cX2_passWeek 48 = .ok (.iload_n 1, 1) := by decide +kernel
theorem dX2_passWeek_49 : decode cX2_passWeek 49 = .ok (.iconst 0, 1) := by decide +kernel
theorem dX2_passWeek_50 : decode cX2_passWeek 50 = .ok (.aload_n 0, 1) := by decide +kernel
theorem dX2_passWeek_51 : decode cX2_passWeek 51 = .ok (.getfield 9, 3) := by decide +kernel
theorem dX2_passWeek_54 : decode cX2_passWeek 54 = .ok (.iload_n 1, 1) := by decide +kernel
theorem dX2_passWeek_55 : decode cX2_passWeek 55 = .ok (.iaload, 1) := by decide +kernel
theorem dX2_passWeek_56 : decode cX2_passWeek 56 = .ok (.iconst 1, 1) := by decide +kernel
theorem dX2_passWeek_57 : decode cX2_passWeek 57 = .ok (.isub, 1) := by decide +kernel
theorem dX2_passWeek_58 : decode cX2_passWeek 58 = .ok (.invokestatic 99, 3) := by decide +kernel
theorem dX2_passWeek_61 : decode cX2_passWeek 61 = .ok (.iastore, 1) := by decide +kernel
theorem dX2_passWeek_62 : decode cX2_passWeek 62 = .ok (.iinc 1 1, 3) := by decide +kernel
theorem dX2_passWeek_65 : decode cX2_passWeek 65 = .ok (.goto (-63), 3) := by decide +kernel
theorem dX2_passWeek_68 : decode cX2_passWeek 68 = .ok (.aload_n 0, 1) := by decide +kernel
theorem dX2_passWeek_69 : decode cX2_passWeek 69 = .ok (.dup, 1) := by decide +kernel
theorem dX2_passWeek_70 : decode cX2_passWeek 70 = .ok (.getfield 43, 3) := by decide +kernel
theorem dX2_passWeek_73 : decode cX2_passWeek 73 = .ok (.iconst 1, 1) := by decide +kernel
theorem dX2_passWeek_74 : decode cX2_passWeek 74 = .ok (.iadd, 1) := by decide +kernel
theorem dX2_passWeek_75 : decode cX2_passWeek 75 = .ok (.putfield 43, 3) := by decide +kernel
theorem dX2_passWeek_78 : decode cX2_passWeek 78 = .ok (.return_, 1) := by decide +kernel
theorem dX3_init_0 : decode cX3_init 0 = .ok (.aload_n 0, 1) := by decide +kernel
theorem dX3_init_1 : decode cX3_init 1 = .ok (.invokespecial 3, 3) := by decide +kernel
theorem dX3_init_4 : decode cX3_init 4 = .ok (.return_, 1) := by decide +kernel
theorem dX3_search_0 : decode cX3_search 0 = .ok (.aload_n 0, 1) := by decide +kernel
theorem dX3_search_1 : decode cX3_search 1 = .ok (.iload_n 2, 1) := by decide +kernel
theorem dX3_search_2 : decode cX3_search 2 = .ok (.putfield 9, 3) := by decide +kernel
theorem dX3_search_5 : decode cX3_search 5 = .ok (.aload_n 0, 1) := by decide +kernel
theorem dX3_search_6 : decode cX3_search 6 = .ok (.iconst (-1), 1) := by decide +kernel
theorem dX3_search_7 : decode cX3_search 7 = .ok (.putfield 15, 3) := by decide +kernel
theorem dX3_search_10 : decode cX3_search 10 = .ok (.aload_n 0, 1) := by decide +kernel
theorem dX3_search_11 : decode cX3_search 11 = .ok (.iconst 0, 1) := by decide +kernel
theorem dX3_search_12 : decode cX3_search 12 = .ok (.putfield 18, 3) := by decide +kernel
theorem dX3_search_15 : decode cX3_search 15 = .ok (.aload_n 0, 1) := by decide +kernel
theorem dX3_search_16 : decode cX3_search 16 = .ok (.iconst 0, 1) := by decide +kernel
theorem dX3_search_17 : decode cX3_search 17 = .ok (.putfield 21, 3) := by decide +kernel
theorem dX3_search_20 : decode cX3_search 20 = .ok (.aload_n 0, 1) := by decide +kernel
theorem dX3_search_21 : decode cX3_search 21 = .ok (.aload_n 1, 1) := by decide +kernel
theorem dX3_search_22 : decode cX3_search 22 = .ok (.iload_n 3, 1) := by decide +kernel
theorem dX3_search_23 : decode cX3_search 23 = .ok (.iconst 0, 1) := by decide +kernel
theorem dX3_search_24 : decode cX3_search 24 = .ok (.iconst 0, 1) := by decide +kernel
theorem dX3_search_25 : decode cX3_search 25 = .ok (.iconst 0, 1) := by decide +kernel
theorem dX3_search_26 : decode cX3_search 26 = .ok (.iconst 0, 1) := by decide +kernel
theorem dX3_search_27 : decode cX3_search 27 = .ok (.invokestatic 24, 3) := by decide +kernel
theorem dX3_search_30 : decode cX3_search 30 = .ok (.aload_n 0, 1) := by decide +kernel
theorem dX3_search_31 : decode cX3_search 31 = .ok (.getfield 15, 3) := by decide +kernel
theorem dX3_search_34 : decode cX3_search 34 = .ok (.ireturn, 1) := by decide +kernel
theorem dX3_give_0 : decode cX3_give 0 = .ok (.iload_n 3, 1) := by decide +kernel
theorem dX3_give_1 : decode cX3_give 1 = .ok (.iconst 5, 1) := by decide +kernel
theorem dX3_give_2 : decode cX3_give 2 = .ok (.if_icmp .lt 14, 3) := by decide +kernel
theorem dX3_give_5 : decode cX3_give 5 = .ok (.aload_n 0, 1) := by decide +kernel
theorem dX3_give_6 : decode cX3_give 6 = .ok (.iload 4, 2) := by decide +kernel
theorem dX3_give_8 : decode cX3_give 8 = .ok (.iload 5, 2) := by decide +kernel
theorem dX3_give_10 : decode cX3_give 10 = .ok (.iload 6, 2) := by decide +kernel
theorem dX3_give_12 : decode cX3_give 12 = .ok (.invokevirtual 28, 3) := by decide +kernel
theorem dX3_give_15 : decode cX3_give 15 = .ok (.return_, 1) := by decide +kernel
theorem dX3_give_16 : decode cX3_give 16 = .ok (.aload_n 0, 1) := by decide +kernel
theorem dX3_give_17 : decode cX3_give 17 = .ok (.getfield 9, 3) := by decide +kernel
theorem dX3_give_20 : decode cX3_give 20 = .ok (.iload_n 3, 1) := by decide +kernel
theorem dX3_give_21 : decode cX3_give 21 = .ok (.invokestatic 32, 3) := by decide +kernel
theorem dX3_give_24 : decode cX3_give 24 = .ok (.ifCond .ne 19, 3) := by decide +kernel
theorem dX3_give_27 : decode cX3_give 27 = .ok (.aload_n 0, 1) := by decide +kernel
theorem dX3_give_28 : decode cX3_give 28 = .ok (.aload_n 1, 1) := by decide +kernel
theorem dX3_give_29 : decode cX3_give 29 = .ok (.iload_n 2, 1) := by decide +kernel
theorem dX3_give_30 : decode cX3_give 30 = .ok (.iload_n 3, 1) := by decide +kernel
theorem dX3_give_31 : decode cX3_give 31 = .ok (.iconst 1, 1) := by decide +kernel
theorem dX3_give_32 : decode cX3_give 32 = .ok (.iadd, 1) := by decide +kernel
theorem dX3_give_33 : decode cX3_give 33 = .ok (.iload 4, 2) := by decide +kernel
theorem dX3_give_35 : decode cX3_give 35 = .ok (.iload 5, 2) := by decide +kernel
theorem dX3_give_37 : decode cX3_give 37 = .ok (.iload 6, 2) := by decide +kernel
theorem dX3_give_39 : decode cX3_give 39 = .ok (.invokestatic 24, 3) := by decide +kernel
theorem dX3_give_42 : decode cX3_give 42 = .ok (.return_, 1) := by decide +kernel
theorem dX3_give_43 : decode cX3_give 43 = .ok (.aload_n 0, 1) := by decide +kernel
theorem dX3_give_44 : decode cX3_give 44 = .ok (.aload_n 1, 1) := by decide +kernel
theorem dX3_give_45 : decode cX3_give 45 = .ok (.iload_n 2, 1) := by decide +kernel
theorem dX3_give_46 : decode cX3_give 46 = .ok (.iload_n 3, 1) := by decide +kernel
theorem dX3_give_47 : decode cX3_give 47 = .ok (.iconst 1, 1) := by decide +kernel
theorem dX3_give_48 : decode cX3_give 48 = .ok (.iadd, 1) := by decide +kernel
theorem dX3_give_49 : decode cX3_give 49 = .ok (.iload 4, 2) := by decide +kernel
theorem dX3_give_51 : decode cX3_give 51 = .ok (.iload 5, 2) := by decide +kernel
theorem dX3_give_53 : decode cX3_give 53 = .ok (.iload 6, 2) := by decide +kernel
theorem dX3_give_55 : decode cX3_give 55 = .ok (.bipush 10, 2) := by decide +kernel
theorem dX3_give_57 : decode cX3_give 57 = .ok (.imul, 1) := by decide +kernel
theorem dX3_give_58 : decode cX3_give 58 = .ok (.invokestatic 24, 3) := by decide +kernel
theorem dX3_give_61 : decode cX3_give 61 = .ok (.iconst 0, 1) := by decide +kernel
theorem dX3_give_62 : decode cX3_give 62 = .ok (.istore 7, 2) := by decide +kernel
theorem dX3_give_64 : decode cX3_give 64 = .ok (.iload 7, 2) := by decide +kernel
theorem dX3_give_66 : decode cX3_give 66 = .ok (.iconst 5, 1) := by decide +kernel
theorem dX3_give_67 : decode cX3_give 67 = .ok (.if_icmp .ge 75, 3) := by decide +kernel
theorem dX3_give_70 : decode cX3_give 70 = .ok (.iload_n 2, 1) := by decide +kernel
theorem dX3_give_71 : decode cX3_give 71 = .ok (.iload 7, 2) := by decide +kernel
theorem dX3_give_73 : decode cX3_give 73 = .ok (.invokestatic 32, 3) := by decide +kernel
theorem dX3_give_76 : decode cX3_give 76 = .ok (.ifCond .eq 60, 3) := by decide +kernel
theorem dX3_give_79 : decode cX3_give 79 = .ok (.aload_n 1, 1) := by decide +kernel
theorem dX3_give_80 : decode cX3_give 80 = .ok (.iload 7, 2) := by decide +kernel
theorem dX3_give_82 : decode cX3_give 82 = .ok (.iload_n 3, 1) := by decide +kernel
theorem dX3_give_83 : decode cX3_give 83 = .ok (.invokevirtual 36, 3) := by decide +kernel
theorem dX3_give_86 : decode cX3_give 86 = .ok (.ifCond .eq 50, 3) := by decide +kernel
theorem dX3_give_89 : decode cX3_give 89 = .ok (.iload_n 2, 1) := by decide +kernel
theorem dX3_give_90 : decode cX3_give 90 = .ok (.iconst 1, 1) := by decide +kernel
theorem dX3_give_91 : decode cX3_give 91 = .ok (.iload 7, 2) := by decide +kernel
theorem dX3_give_93 : decode cX3_give 93 = .ok (.ishl, 1) := by decide +kernel
theorem dX3_give_94 : decode cX3_give 94 = .ok (.iconst (-1), 1) := by decide +kernel
theorem dX3_give_95 : decode cX3_give 95 = .ok (.ixor, 1) := by decide +kernel
theorem dX3_give_96 : decode cX3_give 96 = .ok (.iand, 1) := by decide +kernel
theorem dX3_give_97 : decode cX3_give 97 = .ok (.istore 8, 2) := by decide +kernel
theorem dX3_give_99 : decode cX3_give 99 = .ok (.iload 5, 2) := by decide +kernel
theorem dX3_give_101 : decode cX3_give 101 = .ok (.aload_n 1, 1) := by decide +kernel
theorem dX3_give_102 : decode cX3_give 102 = .ok (.iload 7, 2) := by decide +kernel
theorem dX3_give_104 : decode cX3_give 104 = .ok (.invokevirtual 41, 3) := by decide +kernel
theorem dX3_give_107 : decode cX3_give 107 = .ok (.iadd, 1) := by decide +kernel
theorem dX3_give_108 : decode cX3_give 108 = .ok (.istore 9, 2) := by decide +kernel
theorem dX3_give_110 : decode cX3_give 110 = .ok (.aload_n 0, 1) := by decide +kernel
theorem dX3_give_111 : decode cX3_give 111 = .ok (.aload_n 1, 1) := by decide +kernel
theorem dX3_give_112 : decode cX3_give 112 = .ok (.iload 8, 2) := by decide +kernel
theorem dX3_give_114 : decode cX3_give 114 = .ok (.iload_n 3, 1) := by decide +kernel
theorem dX3_give_115 : decode cX3_give 115 = .ok (.iconst 1, 1) := by decide +kernel
theorem dX3_give_116 : decode cX3_give 116 = .ok (.iadd, 1) := by decide +kernel
theorem dX3_give_117 : decode cX3_give 117 = .ok (.iload 4, 2) := by decide +kernel
end
section
theorem dX3_give_119 : decode cX3_give 119 = .ok (.iconst 1, 1) := by decide +kernel
theorem dX3_give_120 : decode cX3_give 120 = .ok (.iadd, 1) := by decide +kernel
theorem dX3_give_121 : decode cX3_give 121 = .ok (.iload 9, 2) := by decide +kernel
theorem dX3_give_123 : decode cX3_give 123 = .ok (.iload 6, 2) := by decide +kernel
theorem dX3_give_125 : decode cX3_give 125 = .ok (.bipush 10, 2) := by decide +kernel
theorem dX3_give_127 : decode cX3_give 127 = .ok (.imul, 1) := by decide +kernel
theorem dX3_give_128 : decode cX3_give 128 = .ok (.iload 7, 2) := by decide +kernel
theorem dX3_give_130 : decode cX3_give 130 = .ok (.iadd, 1) := by decide +kernel
theorem dX3_give_131 : decode cX3_give 131 = .ok (.iconst 1, 1) := by decide +kernel
theorem dX3_give_132 : decode cX3_give 132 = .ok (.iadd, 1) := by decide +kernel
theorem dX3_give_133 : decode cX3_give 133 = .ok (.invokestatic 24, 3) := by decide +kernel
theorem dX3_give_136 : decode cX3_give 136 = .ok (.iinc 7 1, 3) := by decide +kernel
theorem dX3_give_139 : decode cX3_give 139 = .ok (.goto (-75), 3) := by decide +kernel
theorem dX3_give_142 : decode cX3_give 142 = .ok (.return_, 1) := by decide +kernel
theorem dX3_compare_0 : decode cX3_compare 0 = .ok (.iload_n 1, 1) := by decide +kernel
theorem dX3_compare_1 : decode cX3_compare 1 = .ok (.aload_n 0, 1) := by decide +kernel
theorem dX3_compare_2 : decode cX3_compare 2 = .ok (.getfield 15, 3) := by decide +kernel
theorem dX3_compare_5 : decode cX3_compare 5 = .ok (.if_icmp .gt 19, 3) := by decide +kernel
theorem dX3_compare_8 : decode cX3_compare 8 = .ok (.iload_n 1, 1) := by decide +kernel
theorem dX3_compare_9 : decode cX3_compare 9 = .ok (.aload_n 0, 1) := by decide +kernel
theorem dX3_compare_10 : decode cX3_compare 10 = .ok (.getfield 15, 3) := by decide +kernel
theorem dX3_compare_13 : decode cX3_compare 13 = .ok (.if_icmp .ne 26, 3) := by decide +kernel
theorem dX3_compare_16 : decode cX3_compare 16 = .ok (.iload_n 2, 1) := by decide +kernel
theorem dX3_compare_17 : decode cX3_compare 17 = .ok (.aload_n 0, 1) := by decide +kernel
theorem dX3_compare_18 : decode cX3_compare 18 = .ok (.getfield 18, 3) := by decide +kernel
theorem dX3_compare_21 : decode cX3_compare 21 = .ok (.if_icmp .ge 18, 3) := by decide +kernel
theorem dX3_compare_24 : decode cX3_compare 24 = .ok (.aload_n 0, 1) := by decide +kernel
theorem dX3_compare_25 : decode cX3_compare 25 = .ok (.iload_n 1, 1) := by decide +kernel
theorem dX3_compare_26 : decode cX3_compare 26 = .ok (.putfield 15, 3) := by decide +kernel
theorem dX3_compare_29 : decode cX3_compare 29 = .ok (.aload_n 0, 1) := by decide +kernel
theorem dX3_compare_30 : decode cX3_compare 30 = .ok (.iload_n 2, 1) := by decide +kernel
theorem dX3_compare_31 : decode cX3_compare 31 = .ok (.putfield 18, 3) := by decide +kernel
theorem dX3_compare_34 : decode cX3_compare 34 = .ok (.aload_n 0, 1) := by decide +kernel
theorem dX3_compare_35 : decode cX3_compare 35 = .ok (.iload_n 3, 1) := by decide +kernel
theorem dX3_compare_36 : decode cX3_compare 36 = .ok (.putfield 21, 3) := by decide +kernel
theorem dX3_compare_39 : decode cX3_compare 39 = .ok (.return_, 1) := by decide +kernel
theorem dX4_init_0 : decode cX4_init 0 = .ok (.aload_n 0, 1) := by decide +kernel
theorem dX4_init_1 : decode cX4_init 1 = .ok (.invokespecial 1, 3) := by decide +kernel
theorem dX4_init_4 : decode cX4_init 4 = .ok (.aload_n 0, 1) := by decide +kernel
theorem dX4_init_5 : decode cX4_init 5 = .ok (.new 7, 3) := by decide +kernel
theorem dX4_init_8 : decode cX4_init 8 = .ok (.dup, 1) := by decide +kernel
theorem dX4_init_9 : decode cX4_init 9 = .ok (.invokespecial 9, 3) := by decide +kernel
theorem dX4_init_12 : decode cX4_init 12 = .ok (.putfield 10, 3) := by decide +kernel
theorem dX4_init_15 : decode cX4_init 15 = .ok (.aload_n 0, 1) := by decide +kernel
theorem dX4_init_16 : decode cX4_init 16 = .ok (.new 16, 3) := by decide +kernel
theorem dX4_init_19 : decode cX4_init 19 = .ok (.dup, 1) := by decide +kernel
theorem dX4_init_20 : decode cX4_init 20 = .ok (.invokespecial 18, 3) := by decide +kernel
theorem dX4_init_23 : decode cX4_init 23 = .ok (.putfield 19, 3) := by decide +kernel
theorem dX4_init_26 : decode cX4_init 26 = .ok (.aload_n 0, 1) := by decide +kernel
theorem dX4_init_27 : decode cX4_init 27 = .ok (.new 16, 3) := by decide +kernel
theorem dX4_init_30 : decode cX4_init 30 = .ok (.dup, 1) := by decide +kernel
theorem dX4_init_31 : decode cX4_init 31 = .ok (.invokespecial 18, 3) := by decide +kernel
theorem dX4_init_34 : decode cX4_init 34 = .ok (.putfield 23, 3) := by decide +kernel
theorem dX4_init_37 : decode cX4_init 37 = .ok (.aload_n 0, 1) := by decide +kernel
theorem dX4_init_38 : decode cX4_init 38 = .ok (.new 26, 3) := by decide +kernel
theorem dX4_init_41 : decode cX4_init 41 = .ok (.dup, 1) := by decide +kernel
theorem dX4_init_42 : decode cX4_init 42 = .ok (.invokespecial 28, 3) := by decide +kernel
theorem dX4_init_45 : decode cX4_init 45 = .ok (.putfield 29, 3) := by decide +kernel
theorem dX4_init_48 : decode cX4_init 48 = .ok (.aload_n 0, 1) := by decide +kernel
theorem dX4_init_49 : decode cX4_init 49 = .ok (.iconst 2, 1) := by decide +kernel
theorem dX4_init_50 : decode cX4_init 50 = .ok (.anewarray 16, 3) := by decide +kernel
theorem dX4_init_53 : decode cX4_init 53 = .ok (.putfield 33, 3) := by decide +kernel
theorem dX4_init_56 : decode cX4_init 56 = .ok (.aload_n 0, 1) := by decide +kernel
theorem dX4_init_57 : decode cX4_init 57 = .ok (.iconst 2, 1) := by decide +kernel
theorem dX4_init_58 : decode cX4_init 58 = .ok (.newarray .boolean, 2) := by decide +kernel
theorem dX4_init_60 : decode cX4_init 60 = .ok (.putfield 37, 3) := by decide +kernel
theorem dX4_init_63 : decode cX4_init 63 = .ok (.iconst 0, 1) := by decide +kernel
theorem dX4_init_64 : decode cX4_init 64 = .ok (.istore_n 1, 1) := by decide +kernel
theorem dX4_init_65 : decode cX4_init 65 = .ok (.iload_n 1, 1) := by decide +kernel
theorem dX4_init_66 : decode cX4_init 66 = .ok (.iconst 2, 1) := by decide +kernel
theorem dX4_init_67 : decode cX4_init 67 = .ok (.if_icmp .ge 22, 3) := by decide +kernel
theorem dX4_init_70 : decode cX4_init 70 = .ok (.aload_n 0, 1) := by decide +kernel
theorem dX4_init_71 : decode cX4_init 71 = .ok (.getfield 33, 3) := by decide +kernel
theorem dX4_init_74 : decode cX4_init 74 = .ok (.iload_n 1, 1) := by decide +kernel
theorem dX4_init_75 : decode cX4_init 75 = .ok (.new 16, 3) := by decide +kernel
theorem dX4_init_78 : decode cX4_init 78 = .ok (.dup, 1) := by decide +kernel
theorem dX4_init_79 : decode cX4_init 79 = .ok (.invokespecial 18, 3) := by decide +kernel
theorem dX4_init_82 : decode cX4_init 82 = .ok (.aastore, 1) := by decide +kernel
theorem dX4_init_83 : decode cX4_init 83 = .ok (.iinc 1 1, 3) := by decide +kernel
theorem dX4_init_86 : decode cX4_init 86 = .ok (.goto (-21), 3) := by decide +kernel
theorem dX4_init_89 : decode cX4_init 89 = .ok (.aload_n 0, 1) := by decide +kernel
theorem dX4_init_90 : decode cX4_init 90 = .ok (.new 41, 3) := by decide +kernel
theorem dX4_init_93 : decode cX4_init 93 = .ok (.dup, 1) := by decide +kernel
theorem dX4_init_94 : decode cX4_init 94 = .ok (.invokespecial 43, 3) := by decide +kernel
theorem dX4_init_97 : decode cX4_init 97 = .ok (.putfield 44, 3) := by decide +kernel
theorem dX4_init_100 : decode cX4_init 100 = .ok (.aload_n 0, 1) := by decide +kernel
theorem dX4_init_101 : decode cX4_init 101 = .ok (.lconst 0, 1) := by decide +kernel
theorem dX4_init_102 : decode cX4_init 102 = .ok (.putfield 48, 3) := by decide +kernel
theorem dX4_init_105 : decode cX4_init 105 = .ok (.return_, 1) := by decide +kernel
theorem dX4_write_0 : decode cX4_write 0 = .ok (.iload_n 1, 1) := by decide +kernel
theorem dX4_write_1 : decode cX4_write 1 = .ok (.ifCond .lt 10, 3) := by decide +kernel
theorem dX4_write_4 : decode cX4_write 4 = .ok (.iload_n 1, 1) := by decide +kernel
theorem dX4_write_5 : decode cX4_write 5 = .ok (.sipush 255, 3) := by decide +kernel
theorem dX4_write_8 : decode cX4_write 8 = .ok (.if_icmp .le 6, 3) := by decide +kernel
theorem dX4_write_11 : decode cX4_write 11 = .ok (.bipush (-2), 2) := by decide +kernel
theorem dX4_write_13 : decode cX4_write 13 = .ok (.ireturn, 1) := by decide +kernel
theorem dX4_write_14 : decode cX4_write 14 = .ok (.aload_n 0, 1) := by decide +kernel
theorem dX4_write_15 : decode cX4_write 15 = .ok (.getfield 10, 3) := by decide +kernel
theorem dX4_write_18 : decode cX4_write 18 = .ok (.iload_n 1, 1) := by decide +kernel
theorem dX4_write_19 : decode cX4_write 19 = .ok (.invokevirtual 52, 3) := by decide +kernel
theorem dX4_write_22 : decode cX4_write 22 = .ok (.ifCond .eq 13, 3) := by decide +kernel
theorem dX4_write_25 : decode cX4_write 25 = .ok (.aload_n 0, 1) := by decide +kernel
theorem dX4_write_26 : decode cX4_write 26 = .ok (.getfield 10, 3) := by decide +kernel
theorem dX4_write_29 : decode cX4_write 29 = .ok (.getfield 56, 3) := by decide +kernel
theorem dX4_write_32 : decode cX4_write 32 = .ok (.goto 5, 3) := by decide +kernel
theorem dX4_write_35 : decode cX4_write 35 = .ok (.bipush (-4), 2) := by decide +kernel
theorem dX4_write_37 : decode cX4_write 37 = .ok (.ireturn, 1) := by decide +kernel
theorem dX4_wipe_0 : decode cX4_wipe 0 = .ok (.aload_n 0, 1) := by decide +kernel
theorem dX4_wipe_1 : decode cX4_wipe 1 = .ok (.getfield 10, 3) := by decide +kernel
theorem dX4_wipe_4 : decode cX4_wipe 4 = .ok (.getfield 56, 3) := by decide +kernel
theorem dX4_wipe_7 : decode cX4_wipe 7 = .ok (.istore_n 1, 1) := by decide +kernel
theorem dX4_wipe_8 : decode cX4_wipe 8 = .ok (.aload_n 0, 1) := by decide +kernel
theorem dX4_wipe_9 : decode cX4_wipe 9 = .ok (.getfield 10, 3) := by decide +kernel
theorem dX4_wipe_12 : decode cX4_wipe 12 = .ok (.iconst 0, 1) := by decide +kernel
theorem dX4_wipe_13 : decode cX4_wipe 13 = .ok (.putfield 56, 3) := by decide +kernel
theorem dX4_wipe_16 : decode cX4_wipe 16 = .ok (.iload_n 1, 1) := by decide +kernel
theorem dX4_wipe_17 : decode cX4_wipe 17 = .ok (.ireturn, 1) := by decide +kernel
theorem dX4_fault_0 : decode cX4_fault 0 = .ok (.aload_n 0, 1) := by decide +kernel
theorem dX4_fault_1 : decode cX4_fault 1 = .ok (.getfield 10, 3) := by decide +kernel
theorem dX4_fault_4 : decode cX4_fault 4 = .ok (.invokevirtual 60, 3) := by decide +kernel
theorem dX4_fault_7 : decode cX4_fault 7 = .ok (.ireturn, 1) := by decide +kernel
theorem dX4_land_0 : decode cX4_land 0 = .ok (.aload_n 0, 1) := by decide +kernel
theorem dX4_land_1 : decode cX4_land 1 = .ok (.getfield 10, 3) := by decide +kernel
theorem dX4_land_4 : decode cX4_land 4 = .ok (.invokevirtual 60, 3) := by decide +kernel
theorem dX4_land_7 : decode cX4_land 7 = .ok (.bipush (-9), 2) := by decide +kernel
theorem dX4_land_9 : decode cX4_land 9 = .ok (.if_icmp .eq 6, 3) := by decide +kernel
theorem dX4_land_12 : decode cX4_land 12 = .ok (.bipush (-3), 2) := by decide +kernel
theorem dX4_land_14 : decode cX4_land 14 = .ok (.ireturn, 1) := by decide +kernel
theorem dX4_land_15 : decode cX4_land 15 = .ok (.aload_n 0, 1) := by decide +kernel
theorem dX4_land_16 : decode cX4_land 16 = .ok (.getfield 19, 3) := by decide +kernel
theorem dX4_land_19 : decode cX4_land 19 = .ok (.aload_n 0, 1) := by decide +kernel
theorem dX4_land_20 : decode cX4_land 20 = .ok (.getfield 10, 3) := by decide +kernel
theorem dX4_land_23 : decode cX4_land 23 = .ok (.getfield 64, 3) := by decide +kernel
theorem dX4_land_26 : decode cX4_land 26 = .ok (.invokevirtual 67, 3) := by decide +kernel
theorem dX4_land_29 : decode cX4_land 29 = .ok (.aload_n 0, 1) := by decide +kernel
theorem dX4_land_30 : decode cX4_land 30 = .ok (.getfield 29, 3) := by decide +kernel
theorem dX4_land_33 : decode cX4_land 33 = .ok (.invokevirtual 71, 3) := by decide +kernel
theorem dX4_land_36 : decode cX4_land 36 = .ok (.iconst 0, 1) := by decide +kernel
theorem dX4_land_37 : decode cX4_land 37 = .ok (.istore_n 1, 1) := by decide +kernel
theorem dX4_land_38 : decode cX4_land 38 = .ok (.iload_n 1, 1) := by decide +kernel
theorem dX4_land_39 : decode cX4_land 39 = .ok (.iconst 2, 1) := by decide +kernel
theorem dX4_land_40 : decode cX4_land 40 = .ok (.if_icmp .ge 16, 3) := by decide +kernel
theorem dX4_land_43 : decode cX4_land 43 = .ok (.aload_n 0, 1) := by decide +kernel
theorem dX4_land_44 : decode cX4_land 44 = .ok (.getfield 37, 3) := by decide +kernel
theorem dX4_land_47 : decode cX4_land 47 = .ok (.iload_n 1, 1) := by decide +kernel
theorem dX4_land_48 : decode cX4_land 48 = .ok (.iconst 0, 1) := by decide +kernel
theorem dX4_land_49 : decode cX4_land 49 = .ok (.bastore, 1) := by decide +kernel
theorem dX4_land_50 : decode cX4_land 50 = .ok (.iinc 1 1, 3) := by decide +kernel
theorem dX4_land_53 : decode cX4_land 53 = .ok (.goto (-15), 3) := by decide +kernel
theorem dX4_land_56 : decode cX4_land 56 = .ok (.aload_n 0, 1) := by decide +kernel
theorem dX4_land_57 : decode cX4_land 57 = .ok (.getfield 19, 3) := by decide +kernel
theorem dX4_land_60 : decode cX4_land 60 = .ok (.getfield 74, 3) := by decide +kernel
theorem dX4_land_63 : decode cX4_land 63 = .ok (.ireturn, 1) := by decide +kernel
theorem dX4_about_0 : decode cX4_about 0 = .ok (.iload_n 1, 1) := by decide +kernel
theorem dX4_about_1 : decode cX4_about 1 = .ok (.tableswitch 99 0 6 #[43, 51, 59, 67, 75, 83, 91], 43) := by decide +kernel
theorem dX4_about_44 : decode cX4_about 44 = .ok (.aload_n 0, 1) := by decide +kernel
theorem dX4_about_45 : decode cX4_about 45 = .ok (.getfield 19, 3) := by decide +kernel
theorem dX4_about_48 : decode cX4_about 48 = .ok (.getfield 74, 3) := by decide +kernel
theorem dX4_about_51 : decode cX4_about 51 = .ok (.ireturn, 1) := by decide +kernel
theorem dX4_about_52 : decode cX4_about 52 = .ok (.aload_n 0, 1) := by decide +kernel
theorem dX4_about_53 : decode cX4_about 53 = .ok (.getfield 19, 3) := by decide +kernel
theorem dX4_about_56 : decode cX4_about 56 = .ok (.getfield 77, 3) := by decide +kernel
theorem dX4_about_59 : decode cX4_about 59 = .ok (.ireturn, 1) := by decide +kernel
theorem dX4_about_60 : decode cX4_about 60 = .ok (.aload_n 0, 1) := by decide +kernel
theorem dX4_about_61 : decode cX4_about 61 = .ok (.getfield 19, 3) := by decide +kernel
theorem dX4_about_64 : decode cX4_about 64 = .ok (.getfield 80, 3) := by decide +kernel
theorem dX4_about_67 : decode cX4_about 67 = .ok (.ireturn, 1) := by decide +kernel
theorem dX4_about_68 : decode cX4_about 68 = .ok (.aload_n 0, 1) := by decide +kernel
theorem dX4_about_69 : decode cX4_about 69 = .ok (.getfield 19, 3) := by decide +kernel
theorem dX4_about_72 : decode cX4_about 72 = .ok (.getfield 83, 3) := by decide +kernel
theorem dX4_about_75 : decode cX4_about 75 = .ok (.ireturn, 1) := by decide +kernel
theorem dX4_about_76 : decode cX4_about 76 = .ok (.aload_n 0, 1) := by decide +kernel
theorem dX4_about_77 : decode cX4_about 77 = .ok (.getfield 29, 3) := by decide +kernel
theorem dX4_about_80 : decode cX4_about 80 = .ok (.getfield 86, 3) := by decide +kernel
theorem dX4_about_83 : decode cX4_about 83 = .ok (.ireturn, 1) := by decide +kernel
theorem dX4_about_84 : decode cX4_about 84 = .ok (.aload_n 0, 1) := by decide +kernel
theorem dX4_about_85 : decode cX4_about 85 = .ok (.getfield 10, 3) := by decide +kernel
theorem dX4_about_88 : decode cX4_about 88 = .ok (.getfield 56, 3) := by decide +kernel
theorem dX4_about_91 : decode cX4_about 91 = .ok (.ireturn, 1) := by decide +kernel
theorem dX4_about_92 : decode cX4_about 92 = .ok (.aload_n 0, 1) := by decide +kernel
theorem dX4_about_93 : decode cX4_about 93 = .ok (.getfield 19, 3) := by decide +kernel
theorem dX4_about_96 : decode cX4_about 96 = .ok (.invokevirtual 87, 3) := by decide +kernel
theorem dX4_about_99 : decode cX4_about 99 = .ok (.ireturn, 1) := by decide +kernel
theorem dX4_about_100 : decode cX4_about 100 = .ok (.bipush (-2), 2) := by decide +kernel
theorem dX4_about_102 : decode cX4_about 102 = .ok (.ireturn, 1) := by decide +kernel
theorem dX4_person_0 : decode cX4_person 0 = .ok (.aload_n 0, 1) := by decide +kernel
theorem dX4_person_1 : decode cX4_person 1 = .ok (.getfield 19, 3) := by decide +kernel
theorem dX4_person_4 : decode cX4_person 4 = .ok (.iload_n 1, 1) := by decide +kernel
theorem dX4_person_5 : decode cX4_person 5 = .ok (.invokevirtual 90, 3) := by decide +kernel
theorem dX4_person_8 : decode cX4_person 8 = .ok (.ifCond .ne 5, 3) := by decide +kernel
theorem dX4_person_11 : decode cX4_person 11 = .ok (.iconst (-1), 1) := by decide +kernel
theorem dX4_person_12 : decode cX4_person 12 = .ok (.ireturn, 1) := by decide +kernel
theorem dX4_person_13 : decode cX4_person 13 = .ok (.iload_n 2, 1) := by decide +kernel
theorem dX4_person_14 : decode cX4_person 14 = .ok (.tableswitch 96 0 5 #[38, 48, 58, 68, 78, 87], 38) := by decide +kernel
theorem dX4_person_52 : decode cX4_person 52 = .ok (.aload_n 0, 1) := by decide +kernel
theorem dX4_person_53 : decode cX4_person 53 = .ok (.getfield 19, 3) := by decide +kernel
theorem dX4_person_56 : decode cX4_person 56 = .ok (.getfield 93, 3) := by decide +kernel
theorem dX4_person_59 : decode cX4_person 59 = .ok (.iload_n 1, 1) := by decide +kernel
theorem dX4_person_60 : decode cX4_person 60 = .ok (.iaload, 1) := by decide +kernel
theorem dX4_person_61 : decode cX4_person 61 = .ok (.ireturn, 1) := by decide +kernel
theorem dX4_person_62 : decode cX4_person 62 = .ok (.aload_n 0, 1) := by decide +kernel
theorem dX4_person_63 : decode cX4_person 63 = .ok (.getfield 19, 3) := by decide +kernel
theorem dX4_person_66 : decode cX4_person 66 = .ok (.getfield 97, 3) := by decide +kernel
theorem dX4_person_69 : decode cX4_person 69 = .ok (.iload_n 1, 1) := by decide +kernel
theorem dX4_person_70 : decode cX4_person 70 = .ok (.iaload, 1) := by decide +kernel
theorem dX4_person_71 : decode cX4_person 71 = .ok (.ireturn, 1) := by decide +kernel
theorem dX4_person_72 : decode cX4_person 72 = .ok (.aload_n 0, 1) := by decide +kernel
theorem dX4_person_73 : decode cX4_person 73 = .ok (.getfield 19, 3) := by decide +kernel
theorem dX4_person_76 : decode cX4_person 76 = .ok (.getfield 100, 3) := by decide +kernel
theorem dX4_person_79 : decode cX4_person 79 = .ok (.iload_n 1, 1) := by decide +kernel
theorem dX4_person_80 : decode cX4_person 80 = .ok (.iaload, 1) := by decide +kernel
theorem dX4_person_81 : decode cX4_person 81 = .ok (.ireturn, 1) := by decide +kernel
theorem dX4_person_82 : decode cX4_person 82 = .ok (.aload_n 0, 1) := by decide +kernel
theorem dX4_person_83 : decode cX4_person 83 = .ok (.getfield 19, 3) := by decide +kernel
theorem dX4_person_86 : decode cX4_person 86 = .ok (.getfield 103, 3) := by decide +kernel
theorem dX4_person_89 : decode cX4_person 89 = .ok (.iload_n 1, 1) := by decide +kernel
theorem dX4_person_90 : decode cX4_person 90 = .ok (.iaload, 1) := by decide +kernel
theorem dX4_person_91 : decode cX4_person 91 = .ok (.ireturn, 1) := by decide +kernel
theorem dX4_person_92 : decode cX4_person 92 = .ok (.aload_n 0, 1) := by decide +kernel
theorem dX4_person_93 : decode cX4_person 93 = .ok (.getfield 19, 3) := by decide +kernel
theorem dX4_person_96 : decode cX4_person 96 = .ok (.iload_n 1, 1) := by decide +kernel
theorem dX4_person_97 : decode cX4_person 97 = .ok (.invokevirtual 106, 3) := by decide +kernel
theorem dX4_person_100 : decode cX4_person 100 = .ok (.ireturn, 1) := by decide +kernel
theorem dX4_person_101 : decode cX4_person 101 = .ok (.aload_n 0, 1) := by decide +kernel
theorem dX4_person_102 : decode cX4_person 102 = .ok (.getfield 19, 3) := by decide +kernel
theorem dX4_person_105 : decode cX4_person 105 = .ok (.iload_n 1, 1) := by decide +kernel
theorem dX4_person_106 : decode cX4_person 106 = .ok (.invokevirtual 110, 3) := by decide +kernel
theorem dX4_person_109 : decode cX4_person 109 = .ok (.ireturn, 1) := by decide +kernel
theorem dX4_person_110 : decode cX4_person 110 = .ok (.bipush (-2), 2) := by decide +kernel
theorem dX4_person_112 : decode cX4_person 112 = .ok (.ireturn, 1) := by decide +kernel
theorem dX4_owes_0 : decode cX4_owes 0 = .ok (.aload_n 0, 1) := by decide +kernel
theorem dX4_owes_1 : decode cX4_owes 1 = .ok (.getfield 19, 3) := by decide +kernel
theorem dX4_owes_4 : decode cX4_owes 4 = .ok (.iload_n 1, 1) := by decide +kernel
theorem dX4_owes_5 : decode cX4_owes 5 = .ok (.invokevirtual 90, 3) := by decide +kernel
theorem dX4_owes_8 : decode cX4_owes 8 = .ok (.ifCond .eq 14, 3) := by decide +kernel
theorem dX4_owes_11 : decode cX4_owes 11 = .ok (.aload_n 0, 1) := by decide +kernel
theorem dX4_owes_12 : decode cX4_owes 12 = .ok (.getfield 19, 3) := by decide +kernel
theorem dX4_owes_15 : decode cX4_owes 15 = .ok (.iload_n 2, 1) := by decide +kernel
theorem dX4_owes_16 : decode cX4_owes 16 = .ok (.invokevirtual 90, 3) := by decide +kernel
theorem dX4_owes_19 : decode cX4_owes 19 = .ok (.ifCond .ne 5, 3) := by decide +kernel
theorem dX4_owes_22 : decode cX4_owes 22 = .ok (.iconst (-1), 1) := by decide +kernel
theorem dX4_owes_23 : decode cX4_owes 23 = .ok (.ireturn, 1) := by decide +kernel
theorem dX4_owes_24 : decode cX4_owes 24 = .ok (.aload_n 0, 1) := by decide +kernel
theorem dX4_owes_25 : decode cX4_owes 25 = .ok (.getfield 19, 3) := by decide +kernel
theorem dX4_owes_28 : decode cX4_owes 28 = .ok (.iload_n 1, 1) := by decide +kernel
theorem dX4_owes_29 : decode cX4_owes 29 = .ok (.iload_n 2, 1) := by decide +kernel
theorem dX4_owes_30 : decode cX4_owes 30 = .ok (.invokevirtual 113, 3) := by decide +kernel
theorem dX4_owes_33 : decode cX4_owes 33 = .ok (.ireturn, 1) := by decide +kernel
theorem dX4_funeral_0 : decode cX4_funeral 0 = .ok (.aload_n 0, 1) := by decide +kernel
theorem dX4_funeral_1 : decode cX4_funeral 1 = .ok (.getfield 19, 3) := by decide +kernel
theorem dX4_funeral_4 : decode cX4_funeral 4 = .ok (.iload_n 1, 1) := by decide +kernel
theorem dX4_funeral_5 : decode cX4_funeral 5 = .ok (.invokevirtual 90, 3) := by decide +kernel
theorem dX4_funeral_8 : decode cX4_funeral 8 = .ok (.ifCond .ne 5, 3) := by decide +kernel
theorem dX4_funeral_11 : decode cX4_funeral 11 = .ok (.iconst (-1), 1) := by decide +kernel
theorem dX4_funeral_12 : decode cX4_funeral 12 = .ok (.ireturn, 1) := by decide +kernel
theorem dX4_funeral_13 : decode cX4_funeral 13 = .ok (.aload_n 0, 1) := by decide +kernel
theorem dX4_funeral_14 : decode cX4_funeral 14 = .ok (.getfield 19, 3) := by decide +kernel
theorem dX4_funeral_17 : decode cX4_funeral 17 = .ok (.iload_n 1, 1) := by decide +kernel
theorem dX4_funeral_18 : decode cX4_funeral 18 = .ok (.invokevirtual 117, 3) := by decide +kernel
theorem dX4_funeral_21 : decode cX4_funeral 21 = .ok (.ifCond .eq 6, 3) := by decide +kernel
theorem dX4_funeral_24 : decode cX4_funeral 24 = .ok (.bipush (-3), 2) := by decide +kernel
theorem dX4_funeral_26 : decode cX4_funeral 26 = .ok (.ireturn, 1) := by decide +kernel
theorem dX4_funeral_27 : decode cX4_funeral 27 = .ok (.aload_n 0, 1) := by decide +kernel
theorem dX4_funeral_28 : decode cX4_funeral 28 = .ok (.getfield 29, 3) := by decide +kernel
theorem dX4_funeral_31 : decode cX4_funeral 31 = .ok (.aload_n 0, 1) := by decide +kernel
theorem dX4_funeral_32 : decode cX4_funeral 32 = .ok (.getfield 19, 3) := by decide +kernel
theorem dX4_funeral_35 : decode cX4_funeral 35 = .ok (.invokevirtual 120, 3) := by decide +kernel
theorem dX4_funeral_38 : decode cX4_funeral 38 = .ok (.aload_n 0, 1) := by decide +kernel
theorem dX4_funeral_39 : decode cX4_funeral 39 = .ok (.getfield 19, 3) := by decide +kernel
theorem dX4_funeral_42 : decode cX4_funeral 42 = .ok (.iload_n 1, 1) := by decide +kernel
theorem dX4_funeral_43 : decode cX4_funeral 43 = .ok (.invokevirtual 123, 3) := by decide +kernel
theorem dX4_funeral_46 : decode cX4_funeral 46 = .ok (.aload_n 0, 1) := by decide +kernel
theorem dX4_funeral_47 : decode cX4_funeral 47 = .ok (.getfield 19, 3) := by decide +kernel
theorem dX4_funeral_50 : decode cX4_funeral 50 = .ok (.getfield 77, 3) := by decide +kernel
theorem dX4_funeral_53 : decode cX4_funeral 53 = .ok (.invokestatic 127, 3) := by decide +kernel
theorem dX4_funeral_56 : decode cX4_funeral 56 = .ok (.ireturn, 1) := by decide +kernel
theorem dX4_weep_0 : decode cX4_weep 0 = .ok (.aload_n 0, 1) := by decide +kernel
theorem dX4_weep_1 : decode cX4_weep 1 = .ok (.getfield 19, 3) := by decide +kernel
theorem dX4_weep_4 : decode cX4_weep 4 = .ok (.iload_n 1, 1) := by decide +kernel
theorem dX4_weep_5 : decode cX4_weep 5 = .ok (.invokevirtual 90, 3) := by decide +kernel
theorem dX4_weep_8 : decode cX4_weep 8 = .ok (.ifCond .eq 14, 3) := by decide +kernel
theorem dX4_weep_11 : decode cX4_weep 11 = .ok (.aload_n 0, 1) := by decide +kernel
theorem dX4_weep_12 : decode cX4_weep 12 = .ok (.getfield 19, 3) := by decide +kernel
theorem dX4_weep_15 : decode cX4_weep 15 = .ok (.iload_n 2, 1) := by decide +kernel
theorem dX4_weep_16 : decode cX4_weep 16 = .ok (.invokevirtual 90, 3) := by decide +kernel
theorem dX4_weep_19 : decode cX4_weep 19 = .ok (.ifCond .ne 5, 3) := by decide +kernel
theorem dX4_weep_22 : decode cX4_weep 22 = .ok (.iconst (-1), 1) := by decide +kernel
theorem dX4_weep_23 : decode cX4_weep 23 = .ok (.ireturn, 1) := by decide +kernel
theorem dX4_weep_24 : decode cX4_weep 24 = .ok (.aload_n 0, 1) := by decide +kernel
theorem dX4_weep_25 : decode cX4_weep 25 = .ok (.getfield 19, 3) := by decide +kernel
theorem dX4_weep_28 : decode cX4_weep 28 = .ok (.iload_n 1, 1) := by decide +kernel
theorem dX4_weep_29 : decode cX4_weep 29 = .ok (.iload_n 2, 1) := by decide +kernel
theorem dX4_weep_30 : decode cX4_weep 30 = .ok (.invokevirtual 132, 3) := by decide +kernel
theorem dX4_weep_33 : decode cX4_weep 33 = .ok (.ifCond .ne 6, 3) := by decide +kernel
theorem dX4_weep_36 : decode cX4_weep 36 = .ok (.bipush (-3), 2) := by decide +kernel
theorem dX4_weep_38 : decode cX4_weep 38 = .ok (.ireturn, 1) := by decide +kernel
theorem dX4_weep_39 : decode cX4_weep 39 = .ok (.aload_n 0, 1) := by decide +kernel
theorem dX4_weep_40 : decode cX4_weep 40 = .ok (.getfield 29, 3) := by decide +kernel
theorem dX4_weep_43 : decode cX4_weep 43 = .ok (.aload_n 0, 1) := by decide +kernel
theorem dX4_weep_44 : decode cX4_weep 44 = .ok (.getfield 19, 3) := by decide +kernel
theorem dX4_weep_47 : decode cX4_weep 47 = .ok (.invokevirtual 120, 3) := by decide +kernel
theorem dX4_weep_50 : decode cX4_weep 50 = .ok (.aload_n 0, 1) := by decide +kernel
theorem dX4_weep_51 : decode cX4_weep 51 = .ok (.getfield 19, 3) := by decide +kernel
theorem dX4_weep_54 : decode cX4_weep 54 = .ok (.iload_n 1, 1) := by decide +kernel
theorem dX4_weep_55 : decode cX4_weep 55 = .ok (.iload_n 2, 1) := by decide +kernel
theorem dX4_weep_56 : decode cX4_weep 56 = .ok (.invokevirtual 136, 3) := by decide +kernel
theorem dX4_weep_59 : decode cX4_weep 59 = .ok (.ireturn, 1) := by decide +kernel
theorem dX4_onions_0 : decode cX4_onions 0 = .ok (.aload_n 0, 1) := by decide +kernel
theorem dX4_onions_1 : decode cX4_onions 1 = .ok (.getfield 19, 3) := by decide +kernel
theorem dX4_onions_4 : decode cX4_onions 4 = .ok (.iload_n 1, 1) := by decide +kernel
theorem dX4_onions_5 : decode cX4_onions 5 = .ok (.invokevirtual 90, 3) := by decide +kernel
theorem dX4_onions_8 : decode cX4_onions 8 = .ok (.ifCond .eq 14, 3) := by decide +kernel
theorem dX4_onions_11 : decode cX4_onions 11 = .ok (.aload_n 0, 1) := by decide +kernel
theorem dX4_onions_12 : decode cX4_onions 12 = .ok (.getfield 19, 3) := by decide +kernel
theorem dX4_onions_15 : decode cX4_onions 15 = .ok (.iload_n 2, 1) := by decide +kernel
theorem dX4_onions_16 : decode cX4_onions 16 = .ok (.invokevirtual 90, 3) := by decide +kernel
theorem dX4_onions_19 : decode cX4_onions 19 = .ok (.ifCond .ne 5, 3) := by decide +kernel
theorem dX4_onions_22 : decode cX4_onions 22 = .ok (.iconst (-1), 1) := by decide +kernel
theorem dX4_onions_23 : decode cX4_onions 23 = .ok (.ireturn, 1) := by decide +kernel
theorem dX4_onions_24 : decode cX4_onions 24 = .ok (.aload_n 0, 1) := by decide +kernel
theorem dX4_onions_25 : decode cX4_onions 25 = .ok (.getfield 19, 3) := by decide +kernel
theorem dX4_onions_28 : decode cX4_onions 28 = .ok (.iload_n 1, 1) := by decide +kernel
theorem dX4_onions_29 : decode cX4_onions 29 = .ok (.iload_n 2, 1) := by decide +kernel
theorem dX4_onions_30 : decode cX4_onions 30 = .ok (.invokevirtual 139, 3) := by decide +kernel
theorem dX4_onions_33 : decode cX4_onions 33 = .ok (.ifCond .ne 6, 3) := by decide +kernel
theorem dX4_onions_36 : decode cX4_onions 36 = .ok (.bipush (-3), 2) := by decide +kernel
theorem dX4_onions_38 : decode cX4_onions 38 = .ok (.ireturn, 1) := by decide +kernel
theorem dX4_onions_39 : decode cX4_onions 39 = .ok (.aload_n 0, 1) := by decide +kernel
theorem dX4_onions_40 : decode cX4_onions 40 = .ok (.getfield 29, 3) := by decide +kernel
theorem dX4_onions_43 : decode cX4_onions 43 = .ok (.aload_n 0, 1) := by decide +kernel
theorem dX4_onions_44 : decode cX4_onions 44 = .ok (.getfield 19, 3) := by decide +kernel
theorem dX4_onions_47 : decode cX4_onions 47 = .ok (.invokevirtual 120, 3) := by decide +kernel
theorem dX4_onions_50 : decode cX4_onions 50 = .ok (.aload_n 0, 1) := by decide +kernel
theorem dX4_onions_51 : decode cX4_onions 51 = .ok (.getfield 19, 3) := by decide +kernel
theorem dX4_onions_54 : decode cX4_onions 54 = .ok (.iload_n 1, 1) := by decide +kernel
theorem dX4_onions_55 : decode cX4_onions 55 = .ok (.iload_n 2, 1) := by decide +kernel
theorem dX4_onions_56 : decode cX4_onions 56 = .ok (.invokevirtual 142, 3) := by decide +kernel
theorem dX4_onions_59 : decode cX4_onions 59 = .ok (.aload_n 0, 1) := by decide +kernel
theorem dX4_onions_60 : decode cX4_onions 60 = .ok (.getfield 19, 3) := by decide +kernel
theorem dX4_onions_63 : decode cX4_onions 63 = .ok (.getfield 83, 3) := by decide +kernel
theorem dX4_onions_66 : decode cX4_onions 66 = .ok (.invokestatic 127, 3) := by decide +kernel
theorem dX4_onions_69 : decode cX4_onions 69 = .ok (.ireturn, 1) := by decide +kernel
theorem dX4_week_0 : decode cX4_week 0 = .ok (.aload_n 0, 1) := by decide +kernel
theorem dX4_week_1 : decode cX4_week 1 = .ok (.getfield 29, 3) := by decide +kernel
theorem dX4_week_4 : decode cX4_week 4 = .ok (.aload_n 0, 1) := by decide +kernel
theorem dX4_week_5 : decode cX4_week 5 = .ok (.getfield 19, 3) := by decide +kernel
theorem dX4_week_8 : decode cX4_week 8 = .ok (.invokevirtual 120, 3) := by decide +kernel
theorem dX4_week_11 : decode cX4_week 11 = .ok (.aload_n 0, 1) := by decide +kernel
theorem dX4_week_12 : decode cX4_week 12 = .ok (.getfield 19, 3) := by decide +kernel
theorem dX4_week_15 : decode cX4_week 15 = .ok (.invokevirtual 146, 3) := by decide +kernel
theorem dX4_week_18 : decode cX4_week 18 = .ok (.aload_n 0, 1) := by decide +kernel
theorem dX4_week_19 : decode cX4_week 19 = .ok (.getfield 19, 3) := by decide +kernel
theorem dX4_week_22 : decode cX4_week 22 = .ok (.getfield 80, 3) := by decide +kernel
theorem dX4_week_25 : decode cX4_week 25 = .ok (.ireturn, 1) := by decide +kernel
theorem dX4_undo_0 : decode cX4_undo 0 = .ok (.aload_n 0, 1) := by decide +kernel
theorem dX4_undo_1 : decode cX4_undo 1 = .ok (.getfield 29, 3) := by decide +kernel
theorem dX4_undo_4 : decode cX4_undo 4 = .ok (.getfield 86, 3) := by decide +kernel
theorem dX4_undo_7 : decode cX4_undo 7 = .ok (.ifCond .ne 6, 3) := by decide +kernel
theorem dX4_undo_10 : decode cX4_undo 10 = .ok (.bipush (-3), 2) := by decide +kernel
theorem dX4_undo_12 : decode cX4_undo 12 = .ok (.ireturn, 1) := by decide +kernel
theorem dX4_undo_13 : decode cX4_undo 13 = .ok (.aload_n 0, 1) := by decide +kernel
theorem dX4_undo_14 : decode cX4_undo 14 = .ok (.getfield 29, 3) := by decide +kernel
theorem dX4_undo_17 : decode cX4_undo 17 = .ok (.aload_n 0, 1) := by decide +kernel
theorem dX4_undo_18 : decode cX4_undo 18 = .ok (.getfield 19, 3) := by decide +kernel
theorem dX4_undo_21 : decode cX4_undo 21 = .ok (.invokevirtual 149, 3) := by decide +kernel
theorem dX4_undo_24 : decode cX4_undo 24 = .ok (.aload_n 0, 1) := by decide +kernel
theorem dX4_undo_25 : decode cX4_undo 25 = .ok (.getfield 29, 3) := by decide +kernel
theorem dX4_undo_28 : decode cX4_undo 28 = .ok (.getfield 86, 3) := by decide +kernel
theorem dX4_undo_31 : decode cX4_undo 31 = .ok (.ireturn, 1) := by decide +kernel
theorem dX4_served_0 : decode cX4_served 0 = .ok (.iload_n 1, 1) := by decide +kernel
theorem dX4_served_1 : decode cX4_served 1 = .ok (.ifCond .lt 8, 3) := by decide +kernel
theorem dX4_served_4 : decode cX4_served 4 = .ok (.iload_n 1, 1) := by decide +kernel
theorem dX4_served_5 : decode cX4_served 5 = .ok (.iconst 2, 1) := by decide +kernel
theorem dX4_served_6 : decode cX4_served 6 = .ok (.if_icmp .le 6, 3) := by decide +kernel
theorem dX4_served_9 : decode cX4_served 9 = .ok (.bipush (-2), 2) := by decide +kernel
theorem dX4_served_11 : decode cX4_served 11 = .ok (.ireturn, 1) := by decide +kernel
theorem dX4_served_12 : decode cX4_served 12 = .ok (.aload_n 0, 1) := by decide +kernel
theorem dX4_served_13 : decode cX4_served 13 = .ok (.getfield 44, 3) := by decide +kernel
theorem dX4_served_16 : decode cX4_served 16 = .ok (.aload_n 0, 1) := by decide +kernel
theorem dX4_served_17 : decode cX4_served 17 = .ok (.getfield 19, 3) := by decide +kernel
theorem dX4_served_20 : decode cX4_served 20 = .ok (.aload_n 0, 1) := by decide +kernel
theorem dX4_served_21 : decode cX4_served 21 = .ok (.getfield 19, 3) := by decide +kernel
theorem dX4_served_24 : decode cX4_served 24 = .ok (.getfield 77, 3) := by decide +kernel
theorem dX4_served_27 : decode cX4_served 27 = .ok (.aload_n 0, 1) := by decide +kernel
theorem dX4_served_28 : decode cX4_served 28 = .ok (.getfield 19, 3) := by decide +kernel
theorem dX4_served_31 : decode cX4_served 31 = .ok (.invokevirtual 152, 3) := by decide +kernel
theorem dX4_served_34 : decode cX4_served 34 = .ok (.invokevirtual 155, 3) := by decide +kernel
theorem dX4_served_37 : decode cX4_served 37 = .ok (.pop, 1) := by decide +kernel
theorem dX4_served_38 : decode cX4_served 38 = .ok (.iload_n 1, 1) := by decide +kernel
theorem dX4_served_39 : decode cX4_served 39 = .ok (.ifCond .ne 11, 3) := by decide +kernel
theorem dX4_served_42 : decode cX4_served 42 = .ok (.aload_n 0, 1) := by decide +kernel
theorem dX4_served_43 : decode cX4_served 43 = .ok (.getfield 44, 3) := by decide +kernel
theorem dX4_served_46 : decode cX4_served 46 = .ok (.getfield 159, 3) := by decide +kernel
theorem dX4_served_49 : decode cX4_served 49 = .ok (.ireturn, 1) := by decide +kernel
theorem dX4_served_50 : decode cX4_served 50 = .ok (.iload_n 1, 1) := by decide +kernel
theorem dX4_served_51 : decode cX4_served 51 = .ok (.iconst 1, 1) := by decide +kernel
theorem dX4_served_52 : decode cX4_served 52 = .ok (.if_icmp .ne 13, 3) := by decide +kernel
theorem dX4_served_55 : decode cX4_served 55 = .ok (.aload_n 0, 1) := by decide +kernel
theorem dX4_served_56 : decode cX4_served 56 = .ok (.getfield 44, 3) := by decide +kernel
theorem dX4_served_59 : decode cX4_served 59 = .ok (.getfield 162, 3) := by decide +kernel
theorem dX4_served_62 : decode cX4_served 62 = .ok (.goto 10, 3) := by decide +kernel
theorem dX4_served_65 : decode cX4_served 65 = .ok (.aload_n 0, 1) := by decide +kernel
theorem dX4_served_66 : decode cX4_served 66 = .ok (.getfield 44, 3) := by decide +kernel
theorem dX4_served_69 : decode cX4_served 69 = .ok (.getfield 164, 3) := by decide +kernel
theorem dX4_served_72 : decode cX4_served 72 = .ok (.ireturn, 1) := by decide +kernel
theorem dX4_nobody_0 : decode cX4_nobody 0 = .ok (.iload_n 1, 1) := by decide +kernel
theorem dX4_nobody_1 : decode cX4_nobody 1 = .ok (.ifCond .ne 11, 3) := by decide +kernel
theorem dX4_nobody_4 : decode cX4_nobody 4 = .ok (.aload_n 0, 1) := by decide +kernel
theorem dX4_nobody_5 : decode cX4_nobody 5 = .ok (.getfield 19, 3) := by decide +kernel
theorem dX4_nobody_8 : decode cX4_nobody 8 = .ok (.invokevirtual 167, 3) := by decide +kernel
theorem dX4_nobody_11 : decode cX4_nobody 11 = .ok (.ireturn, 1) := by decide +kernel
theorem dX4_nobody_12 : decode cX4_nobody 12 = .ok (.iload_n 1, 1) := by decide +kernel
theorem dX4_nobody_13 : decode cX4_nobody 13 = .ok (.iconst 1, 1) := by decide +kernel
theorem dX4_nobody_14 : decode cX4_nobody 14 = .ok (.if_icmp .ne 13, 3) := by decide +kernel
theorem dX4_nobody_17 : decode cX4_nobody 17 = .ok (.aload_n 0, 1) := by decide +kernel
theorem dX4_nobody_18 : decode cX4_nobody 18 = .ok (.getfield 19, 3) := by decide +kernel
theorem dX4_nobody_21 : decode cX4_nobody 21 = .ok (.invokevirtual 170, 3) := by decide +kernel
theorem dX4_nobody_24 : decode cX4_nobody 24 = .ok (.goto 5, 3) := by decide +kernel
theorem dX4_nobody_27 : decode cX4_nobody 27 = .ok (.bipush (-2), 2) := by decide +kernel
theorem dX4_nobody_29 : decode cX4_nobody 29 = .ok (.ireturn, 1) := by decide +kernel
theorem dX4_till_0 : decode cX4_till 0 = .ok (.aload_n 0, 1) := by decide +kernel
theorem dX4_till_1 : decode cX4_till 1 = .ok (.getfield 19, 3) := by decide +kernel
theorem dX4_till_4 : decode cX4_till 4 = .ok (.iload_n 1, 1) := by decide +kernel
theorem dX4_till_5 : decode cX4_till 5 = .ok (.invokevirtual 90, 3) := by decide +kernel
theorem dX4_till_8 : decode cX4_till 8 = .ok (.ifCond .eq 14, 3) := by decide +kernel
theorem dX4_till_11 : decode cX4_till 11 = .ok (.aload_n 0, 1) := by decide +kernel
theorem dX4_till_12 : decode cX4_till 12 = .ok (.getfield 19, 3) := by decide +kernel
theorem dX4_till_15 : decode cX4_till 15 = .ok (.iload_n 2, 1) := by decide +kernel
theorem dX4_till_16 : decode cX4_till 16 = .ok (.invokevirtual 90, 3) := by decide +kernel
theorem dX4_till_19 : decode cX4_till 19 = .ok (.ifCond .ne 5, 3) := by decide +kernel
theorem dX4_till_22 : decode cX4_till 22 = .ok (.iconst (-1), 1) := by decide +kernel
theorem dX4_till_23 : decode cX4_till 23 = .ok (.ireturn, 1) := by decide +kernel
theorem dX4_till_24 : decode cX4_till 24 = .ok (.aload_n 0, 1) := by decide +kernel
theorem dX4_till_25 : decode cX4_till 25 = .ok (.getfield 23, 3) := by decide +kernel
theorem dX4_till_28 : decode cX4_till 28 = .ok (.aload_n 0, 1) := by decide +kernel
theorem dX4_till_29 : decode cX4_till 29 = .ok (.getfield 19, 3) := by decide +kernel
theorem dX4_till_32 : decode cX4_till 32 = .ok (.invokevirtual 67, 3) := by decide +kernel
theorem dX4_till_35 : decode cX4_till 35 = .ok (.iconst 0, 1) := by decide +kernel
theorem dX4_till_36 : decode cX4_till 36 = .ok (.istore_n 3, 1) := by decide +kernel
theorem dX4_till_37 : decode cX4_till 37 = .ok (.iload_n 3, 1) := by decide +kernel
theorem dX4_till_38 : decode cX4_till 38 = .ok (.bipush 9, 2) := by decide +kernel
theorem dX4_till_40 : decode cX4_till 40 = .ok (.if_icmp .gt 30, 3) := by decide +kernel
theorem dX4_till_43 : decode cX4_till 43 = .ok (.aload_n 0, 1) := by decide +kernel
theorem dX4_till_44 : decode cX4_till 44 = .ok (.getfield 23, 3) := by decide +kernel
theorem dX4_till_47 : decode cX4_till 47 = .ok (.iload_n 1, 1) := by decide +kernel
theorem dX4_till_48 : decode cX4_till 48 = .ok (.iload_n 2, 1) := by decide +kernel
theorem dX4_till_49 : decode cX4_till 49 = .ok (.invokevirtual 132, 3) := by decide +kernel
theorem dX4_till_52 : decode cX4_till 52 = .ok (.ifCond .eq 5, 3) := by decide +kernel
theorem dX4_till_55 : decode cX4_till 55 = .ok (.iload_n 3, 1) := by decide +kernel
theorem dX4_till_56 : decode cX4_till 56 = .ok (.ireturn, 1) := by decide +kernel
theorem dX4_till_57 : decode cX4_till 57 = .ok (.aload_n 0, 1) := by decide +kernel
theorem dX4_till_58 : decode cX4_till 58 = .ok (.getfield 23, 3) := by decide +kernel
theorem dX4_till_61 : decode cX4_till 61 = .ok (.invokevirtual 146, 3) := by decide +kernel
theorem dX4_till_64 : decode cX4_till 64 = .ok (.iinc 3 1, 3) := by decide +kernel
theorem dX4_till_67 : decode cX4_till 67 = .ok (.goto (-30), 3) := by decide +kernel
theorem dX4_till_70 : decode cX4_till 70 = .ok (.bipush (-9), 2) := by decide +kernel
theorem dX4_till_72 : decode cX4_till 72 = .ok (.ireturn, 1) := by decide +kernel
theorem dX4_net_0 : decode cX4_net 0 = .ok (.aload_n 0, 1) := by decide +kernel
theorem dX4_net_1 : decode cX4_net 1 = .ok (.getfield 19, 3) := by decide +kernel
theorem dX4_net_4 : decode cX4_net 4 = .ok (.iload_n 1, 1) := by decide +kernel
theorem dX4_net_5 : decode cX4_net 5 = .ok (.invokevirtual 90, 3) := by decide +kernel
theorem dX4_net_8 : decode cX4_net 8 = .ok (.ifCond .ne 5, 3) := by decide +kernel
theorem dX4_net_11 : decode cX4_net 11 = .ok (.iconst (-1), 1) := by decide +kernel
theorem dX4_net_12 : decode cX4_net 12 = .ok (.ireturn, 1) := by decide +kernel
theorem dX4_net_13 : decode cX4_net 13 = .ok (.bipush 100, 2) := by decide +kernel
theorem dX4_net_15 : decode cX4_net 15 = .ok (.istore_n 2, 1) := by decide +kernel
theorem dX4_net_16 : decode cX4_net 16 = .ok (.iconst 0, 1) := by decide +kernel
theorem dX4_net_17 : decode cX4_net 17 = .ok (.istore_n 3, 1) := by decide +kernel
theorem dX4_net_18 : decode cX4_net 18 = .ok (.iload_n 3, 1) := by decide +kernel
theorem dX4_net_19 : decode cX4_net 19 = .ok (.aload_n 0, 1) := by decide +kernel
theorem dX4_net_20 : decode cX4_net 20 = .ok (.getfield 19, 3) := by decide +kernel
theorem dX4_net_23 : decode cX4_net 23 = .ok (.getfield 74, 3) := by decide +kernel
theorem dX4_net_26 : decode cX4_net 26 = .ok (.if_icmp .ge 31, 3) := by decide +kernel
theorem dX4_net_29 : decode cX4_net 29 = .ok (.iload_n 2, 1) := by decide +kernel
theorem dX4_net_30 : decode cX4_net 30 = .ok (.aload_n 0, 1) := by decide +kernel
theorem dX4_net_31 : decode cX4_net 31 = .ok (.getfield 19, 3) := by decide +kernel
theorem dX4_net_34 : decode cX4_net 34 = .ok (.iload_n 3, 1) := by decide +kernel
theorem dX4_net_35 : decode cX4_net 35 = .ok (.iload_n 1, 1) := by decide +kernel
theorem dX4_net_36 : decode cX4_net 36 = .ok (.invokevirtual 113, 3) := by decide +kernel
theorem dX4_net_39 : decode cX4_net 39 = .ok (.aload_n 0, 1) := by decide +kernel
theorem dX4_net_40 : decode cX4_net 40 = .ok (.getfield 19, 3) := by decide +kernel
theorem dX4_net_43 : decode cX4_net 43 = .ok (.iload_n 1, 1) := by decide +kernel
theorem dX4_net_44 : decode cX4_net 44 = .ok (.iload_n 3, 1) := by decide +kernel
theorem dX4_net_45 : decode cX4_net 45 = .ok (.invokevirtual 113, 3) := by decide +kernel
theorem dX4_net_48 : decode cX4_net 48 = .ok (.isub, 1) := by decide +kernel
theorem dX4_net_49 : decode cX4_net 49 = .ok (.iadd, 1) := by decide +kernel
theorem dX4_net_50 : decode cX4_net 50 = .ok (.istore_n 2, 1) := by decide +kernel
theorem dX4_net_51 : decode cX4_net 51 = .ok (.iinc 3 1, 3) := by decide +kernel
theorem dX4_net_54 : decode cX4_net 54 = .ok (.goto (-36), 3) := by decide +kernel
theorem dX4_net_57 : decode cX4_net 57 = .ok (.iload_n 2, 1) := by decide +kernel
theorem dX4_net_58 : decode cX4_net 58 = .ok (.ireturn, 1) := by decide +kernel
theorem dX4_ring_0 : decode cX4_ring 0 = .ok (.iconst 0, 1) := by decide +kernel
theorem dX4_ring_1 : decode cX4_ring 1 = .ok (.istore_n 1, 1) := by decide +kernel
theorem dX4_ring_2 : decode cX4_ring 2 = .ok (.iconst 0, 1) := by decide +kernel
theorem dX4_ring_3 : decode cX4_ring 3 = .ok (.istore_n 2, 1) := by decide +kernel
theorem dX4_ring_4 : decode cX4_ring 4 = .ok (.iload_n 2, 1) := by decide +kernel
theorem dX4_ring_5 : decode cX4_ring 5 = .ok (.aload_n 0, 1) := by decide +kernel
theorem dX4_ring_6 : decode cX4_ring 6 = .ok (.getfield 19, 3) := by decide +kernel
theorem dX4_ring_9 : decode cX4_ring 9 = .ok (.getfield 74, 3) := by decide +kernel
theorem dX4_ring_12 : decode cX4_ring 12 = .ok (.if_icmp .ge 24, 3) := by decide +kernel
theorem dX4_ring_15 : decode cX4_ring 15 = .ok (.iload_n 1, 1) := by decide +kernel
theorem dX4_ring_16 : decode cX4_ring 16 = .ok (.aload_n 0, 1) := by decide +kernel
theorem dX4_ring_17 : decode cX4_ring 17 = .ok (.getfield 19, 3) := by decide +kernel
theorem dX4_ring_20 : decode cX4_ring 20 = .ok (.iload_n 2, 1) := by decide +kernel
theorem dX4_ring_21 : decode cX4_ring 21 = .ok (.invokevirtual 173, 3) := by decide +kernel
theorem dX4_ring_24 : decode cX4_ring 24 = .ok (.iconst 1, 1) := by decide +kernel
theorem dX4_ring_25 : decode cX4_ring 25 = .ok (.iload_n 2, 1) := by decide +kernel
theorem dX4_ring_26 : decode cX4_ring 26 = .ok (.ishl, 1) := by decide +kernel
theorem dX4_ring_27 : decode cX4_ring 27 = .ok (.iand, 1) := by decide +kernel
theorem dX4_ring_28 : decode cX4_ring 28 = .ok (.ior, 1) := by decide +kernel
theorem dX4_ring_29 : decode cX4_ring 29 = .ok (.istore_n 1, 1) := by decide +kernel
theorem dX4_ring_30 : decode cX4_ring 30 = .ok (.iinc 2 1, 3) := by decide +kernel
theorem dX4_ring_33 : decode cX4_ring 33 = .ok (.goto (-29), 3) := by decide +kernel
theorem dX4_ring_36 : decode cX4_ring 36 = .ok (.iload_n 1, 1) := by decide +kernel
theorem dX4_ring_37 : decode cX4_ring 37 = .ok (.ireturn, 1) := by decide +kernel
theorem dX4_share_0 : decode cX4_share 0 = .ok (.aload_n 0, 1) := by decide +kernel
theorem dX4_share_1 : decode cX4_share 1 = .ok (.getfield 19, 3) := by decide +kernel
theorem dX4_share_4 : decode cX4_share 4 = .ok (.iload_n 1, 1) := by decide +kernel
theorem dX4_share_5 : decode cX4_share 5 = .ok (.invokevirtual 90, 3) := by decide +kernel
theorem dX4_share_8 : decode cX4_share 8 = .ok (.ifCond .ne 5, 3) := by decide +kernel
theorem dX4_share_11 : decode cX4_share 11 = .ok (.iconst (-1), 1) := by decide +kernel
theorem dX4_share_12 : decode cX4_share 12 = .ok (.ireturn, 1) := by decide +kernel
theorem dX4_share_13 : decode cX4_share 13 = .ok (.aload_n 0, 1) := by decide +kernel
theorem dX4_share_14 : decode cX4_share 14 = .ok (.getfield 19, 3) := by decide +kernel
theorem dX4_share_17 : decode cX4_share 17 = .ok (.iload_n 1, 1) := by decide +kernel
theorem dX4_share_18 : decode cX4_share 18 = .ok (.invokevirtual 117, 3) := by decide +kernel
theorem dX4_share_21 : decode cX4_share 21 = .ok (.ifCond .eq 10, 3) := by decide +kernel
theorem dX4_share_24 : decode cX4_share 24 = .ok (.iconst 0, 1) := by decide +kernel
theorem dX4_share_25 : decode cX4_share 25 = .ok (.iconst 1, 1) := by decide +kernel
theorem dX4_share_26 : decode cX4_share 26 = .ok (.iload_n 2, 1) := by decide +kernel
theorem dX4_share_27 : decode cX4_share 27 = .ok (.invokestatic 176, 3) := by decide +kernel
theorem dX4_share_30 : decode cX4_share 30 = .ok (.ireturn, 1) := by decide +kernel
theorem dX4_share_31 : decode cX4_share 31 = .ok (.aload_n 0, 1) := by decide +kernel
theorem dX4_share_32 : decode cX4_share 32 = .ok (.getfield 19, 3) := by decide +kernel
theorem dX4_share_35 : decode cX4_share 35 = .ok (.invokevirtual 152, 3) := by decide +kernel
theorem dX4_share_38 : decode cX4_share 38 = .ok (.iconst 1, 1) := by decide +kernel
theorem dX4_share_39 : decode cX4_share 39 = .ok (.iload_n 1, 1) := by decide +kernel
theorem dX4_share_40 : decode cX4_share 40 = .ok (.ishl, 1) := by decide +kernel
theorem dX4_share_41 : decode cX4_share 41 = .ok (.iconst (-1), 1) := by decide +kernel
theorem dX4_share_42 : decode cX4_share 42 = .ok (.ixor, 1) := by decide +kernel
theorem dX4_share_43 : decode cX4_share 43 = .ok (.iand, 1) := by decide +kernel
theorem dX4_share_44 : decode cX4_share 44 = .ok (.istore_n 3, 1) := by decide +kernel
theorem dX4_share_45 : decode cX4_share 45 = .ok (.iload_n 3, 1) := by decide +kernel
theorem dX4_share_46 : decode cX4_share 46 = .ok (.invokestatic 127, 3) := by decide +kernel
theorem dX4_share_49 : decode cX4_share 49 = .ok (.iconst 1, 1) := by decide +kernel
theorem dX4_share_50 : decode cX4_share 50 = .ok (.iadd, 1) := by decide +kernel
theorem dX4_share_51 : decode cX4_share 51 = .ok (.istore 4, 2) := by decide +kernel
theorem dX4_share_53 : decode cX4_share 53 = .ok (.iconst 0, 1) := by decide +kernel
theorem dX4_share_54 : decode cX4_share 54 = .ok (.istore 5, 2) := by decide +kernel
theorem dX4_share_56 : decode cX4_share 56 = .ok (.iconst 0, 1) := by decide +kernel
theorem dX4_share_57 : decode cX4_share 57 = .ok (.istore 6, 2) := by decide +kernel
theorem dX4_share_59 : decode cX4_share 59 = .ok (.iload 6, 2) := by decide +kernel
theorem dX4_share_61 : decode cX4_share 61 = .ok (.iload_n 3, 1) := by decide +kernel
theorem dX4_share_62 : decode cX4_share 62 = .ok (.if_icmp .gt 58, 3) := by decide +kernel
theorem dX4_share_65 : decode cX4_share 65 = .ok (.iload 6, 2) := by decide +kernel
theorem dX4_share_67 : decode cX4_share 67 = .ok (.iload_n 3, 1) := by decide +kernel
theorem dX4_share_68 : decode cX4_share 68 = .ok (.iconst (-1), 1) := by decide +kernel
theorem dX4_share_69 : decode cX4_share 69 = .ok (.ixor, 1) := by decide +kernel
theorem dX4_share_70 : decode cX4_share 70 = .ok (.iand, 1) := by decide +kernel
theorem dX4_share_71 : decode cX4_share 71 = .ok (.ifCond .ne 43, 3) := by decide +kernel
theorem dX4_share_74 : decode cX4_share 74 = .ok (.iload 6, 2) := by decide +kernel
theorem dX4_share_76 : decode cX4_share 76 = .ok (.invokestatic 127, 3) := by decide +kernel
theorem dX4_share_79 : decode cX4_share 79 = .ok (.istore 7, 2) := by decide +kernel
theorem dX4_share_81 : decode cX4_share 81 = .ok (.iload 7, 2) := by decide +kernel
theorem dX4_share_83 : decode cX4_share 83 = .ok (.invokestatic 180, 3) := by decide +kernel
theorem dX4_share_86 : decode cX4_share 86 = .ok (.iload 4, 2) := by decide +kernel
theorem dX4_share_88 : decode cX4_share 88 = .ok (.iconst 1, 1) := by decide +kernel
theorem dX4_share_89 : decode cX4_share 89 = .ok (.isub, 1) := by decide +kernel
theorem dX4_share_90 : decode cX4_share 90 = .ok (.iload 7, 2) := by decide +kernel
theorem dX4_share_92 : decode cX4_share 92 = .ok (.isub, 1) := by decide +kernel
theorem dX4_share_93 : decode cX4_share 93 = .ok (.invokestatic 180, 3) := by decide +kernel
theorem dX4_share_96 : decode cX4_share 96 = .ok (.imul, 1) := by decide +kernel
theorem dX4_share_97 : decode cX4_share 97 = .ok (.istore 8, 2) := by decide +kernel
theorem dX4_share_99 : decode cX4_share 99 = .ok (.iload 5, 2) := by decide +kernel
theorem dX4_share_101 : decode cX4_share 101 = .ok (.iload 8, 2) := by decide +kernel
theorem dX4_share_103 : decode cX4_share 103 = .ok (.aload_n 0, 1) := by decide +kernel
theorem dX4_share_104 : decode cX4_share 104 = .ok (.iload_n 1, 1) := by decide +kernel
theorem dX4_share_105 : decode cX4_share 105 = .ok (.iload 6, 2) := by decide +kernel
theorem dX4_share_107 : decode cX4_share 107 = .ok (.invokevirtual 183, 3) := by decide +kernel
theorem dX4_share_110 : decode cX4_share 110 = .ok (.imul, 1) := by decide +kernel
theorem dX4_share_111 : decode cX4_share 111 = .ok (.iadd, 1) := by decide +kernel
theorem dX4_share_112 : decode cX4_share 112 = .ok (.istore 5, 2) := by decide +kernel
theorem dX4_share_114 : decode cX4_share 114 = .ok (.iinc 6 1, 3) := by decide +kernel
theorem dX4_share_117 : decode cX4_share 117 = .ok (.goto (-58), 3) := by decide +kernel
theorem dX4_share_120 : decode cX4_share 120 = .ok (.iload 5, 2) := by decide +kernel
theorem dX4_share_122 : decode cX4_share 122 = .ok (.iload 4, 2) := by decide +kernel
theorem dX4_share_124 : decode cX4_share 124 = .ok (.invokestatic 180, 3) := by decide +kernel
theorem dX4_share_127 : decode cX4_share 127 = .ok (.iload_n 2, 1) := by decide +kernel
theorem dX4_share_128 : decode cX4_share 128 = .ok (.invokestatic 176, 3) := by decide +kernel
theorem dX4_share_131 : decode cX4_share 131 = .ok (.ireturn, 1) := by decide +kernel
theorem dX4_weighed_0 : decode cX4_weighed 0 = .ok (.iload_n 1, 1) := by decide +kernel
theorem dX4_weighed_1 : decode cX4_weighed 1 = .ok (.aload_n 0, 1) := by decide +kernel
theorem dX4_weighed_2 : decode cX4_weighed 2 = .ok (.getfield 19, 3) := by decide +kernel
theorem dX4_weighed_5 : decode cX4_weighed 5 = .ok (.invokevirtual 186, 3) := by decide +kernel
theorem dX4_weighed_8 : decode cX4_weighed 8 = .ok (.iconst (-1), 1) := by decide +kernel
theorem dX4_weighed_9 : decode cX4_weighed 9 = .ok (.ixor, 1) := by decide +kernel
theorem dX4_weighed_10 : decode cX4_weighed 10 = .ok (.iand, 1) := by decide +kernel
theorem dX4_weighed_11 : decode cX4_weighed 11 = .ok (.ifCond .ne 22, 3) := by decide +kernel
theorem dX4_weighed_14 : decode cX4_weighed 14 = .ok (.iload_n 2, 1) := by decide +kernel
theorem dX4_weighed_15 : decode cX4_weighed 15 = .ok (.ifCond .lt 18, 3) := by decide +kernel
theorem dX4_weighed_18 : decode cX4_weighed 18 = .ok (.iload_n 2, 1) := by decide +kernel
theorem dX4_weighed_19 : decode cX4_weighed 19 = .ok (.bipush 45, 2) := by decide +kernel
theorem dX4_weighed_21 : decode cX4_weighed 21 = .ok (.if_icmp .gt 12, 3) := by decide +kernel
theorem dX4_weighed_24 : decode cX4_weighed 24 = .ok (.iload_n 3, 1) := by decide +kernel
theorem dX4_weighed_25 : decode cX4_weighed 25 = .ok (.ifCond .lt 8, 3) := by decide +kernel
theorem dX4_weighed_28 : decode cX4_weighed 28 = .ok (.iload_n 3, 1) := by decide +kernel
theorem dX4_weighed_29 : decode cX4_weighed 29 = .ok (.iconst 2, 1) := by decide +kernel
theorem dX4_weighed_30 : decode cX4_weighed 30 = .ok (.if_icmp .le 6, 3) := by decide +kernel
theorem dX4_weighed_33 : decode cX4_weighed 33 = .ok (.bipush (-2), 2) := by decide +kernel
theorem dX4_weighed_35 : decode cX4_weighed 35 = .ok (.ireturn, 1) := by decide +kernel
theorem dX4_weighed_36 : decode cX4_weighed 36 = .ok (.iconst 0, 1) := by decide +kernel
theorem dX4_weighed_37 : decode cX4_weighed 37 = .ok (.istore 4, 2) := by decide +kernel
theorem dX4_weighed_39 : decode cX4_weighed 39 = .ok (.iload_n 1, 1) := by decide +kernel
theorem dX4_weighed_40 : decode cX4_weighed 40 = .ok (.istore 5, 2) := by decide +kernel
theorem dX4_weighed_42 : decode cX4_weighed 42 = .ok (.iconst 0, 1) := by decide +kernel
theorem dX4_weighed_43 : decode cX4_weighed 43 = .ok (.istore 6, 2) := by decide +kernel
theorem dX4_weighed_45 : decode cX4_weighed 45 = .ok (.iconst 0, 1) := by decide +kernel
theorem dX4_weighed_46 : decode cX4_weighed 46 = .ok (.istore 7, 2) := by decide +kernel
theorem dX4_weighed_48 : decode cX4_weighed 48 = .ok (.iload 7, 2) := by decide +kernel
theorem dX4_weighed_50 : decode cX4_weighed 50 = .ok (.iload_n 1, 1) := by decide +kernel
theorem dX4_weighed_51 : decode cX4_weighed 51 = .ok (.if_icmp .gt 46, 3) := by decide +kernel
theorem dX4_weighed_54 : decode cX4_weighed 54 = .ok (.iload 7, 2) := by decide +kernel
theorem dX4_weighed_56 : decode cX4_weighed 56 = .ok (.iload_n 1, 1) := by decide +kernel
theorem dX4_weighed_57 : decode cX4_weighed 57 = .ok (.iconst (-1), 1) := by decide +kernel
theorem dX4_weighed_58 : decode cX4_weighed 58 = .ok (.ixor, 1) := by decide +kernel
theorem dX4_weighed_59 : decode cX4_weighed 59 = .ok (.iand, 1) := by decide +kernel
theorem dX4_weighed_60 : decode cX4_weighed 60 = .ok (.ifCond .ne 31, 3) := by decide +kernel
theorem dX4_weighed_63 : decode cX4_weighed 63 = .ok (.aload_n 0, 1) := by decide +kernel
theorem dX4_weighed_64 : decode cX4_weighed 64 = .ok (.iload_n 1, 1) := by decide +kernel
theorem dX4_weighed_65 : decode cX4_weighed 65 = .ok (.iload 7, 2) := by decide +kernel
theorem dX4_weighed_67 : decode cX4_weighed 67 = .ok (.invokevirtual 189, 3) := by decide +kernel
theorem dX4_weighed_70 : decode cX4_weighed 70 = .ok (.iload_n 2, 1) := by decide +kernel
theorem dX4_weighed_71 : decode cX4_weighed 71 = .ok (.if_icmp .ne 20, 3) := by decide +kernel
theorem dX4_weighed_74 : decode cX4_weighed 74 = .ok (.iinc 4 1, 3) := by decide +kernel
theorem dX4_weighed_77 : decode cX4_weighed 77 = .ok (.iload 5, 2) := by decide +kernel
theorem dX4_weighed_79 : decode cX4_weighed 79 = .ok (.iload 7, 2) := by decide +kernel
theorem dX4_weighed_81 : decode cX4_weighed 81 = .ok (.iand, 1) := by decide +kernel
theorem dX4_weighed_82 : decode cX4_weighed 82 = .ok (.istore 5, 2) := by decide +kernel
theorem dX4_weighed_84 : decode cX4_weighed 84 = .ok (.iload 6, 2) := by decide +kernel
theorem dX4_weighed_86 : decode cX4_weighed 86 = .ok (.iload 7, 2) := by decide +kernel
theorem dX4_weighed_88 : decode cX4_weighed 88 = .ok (.ior, 1) := by decide +kernel
theorem dX4_weighed_89 : decode cX4_weighed 89 = .ok (.istore 6, 2) := by decide +kernel
theorem dX4_weighed_91 : decode cX4_weighed 91 = .ok (.iinc 7 1, 3) := by decide +kernel
theorem dX4_weighed_94 : decode cX4_weighed 94 = .ok (.goto (-46), 3) := by decide +kernel
theorem dX4_weighed_97 : decode cX4_weighed 97 = .ok (.iload_n 3, 1) := by decide +kernel
theorem dX4_weighed_98 : decode cX4_weighed 98 = .ok (.ifCond .ne 6, 3) := by decide +kernel
theorem dX4_weighed_101 : decode cX4_weighed 101 = .ok (.iload 4, 2) := by decide +kernel
theorem dX4_weighed_103 : decode cX4_weighed 103 = .ok (.ireturn, 1) := by decide +kernel
theorem dX4_weighed_104 : decode cX4_weighed 104 = .ok (.iload 4, 2) := by decide +kernel
theorem dX4_weighed_106 : decode cX4_weighed 106 = .ok (.ifCond .ne 6, 3) := by decide +kernel
theorem dX4_weighed_109 : decode cX4_weighed 109 = .ok (.bipush (-9), 2) := by decide +kernel
theorem dX4_weighed_111 : decode cX4_weighed 111 = .ok (.ireturn, 1) := by decide +kernel
theorem dX4_weighed_112 : decode cX4_weighed 112 = .ok (.iload_n 3, 1) := by decide +kernel
theorem dX4_weighed_113 : decode cX4_weighed 113 = .ok (.iconst 1, 1) := by decide +kernel
theorem dX4_weighed_114 : decode cX4_weighed 114 = .ok (.if_icmp .ne 8, 3) := by decide +kernel
theorem dX4_weighed_117 : decode cX4_weighed 117 = .ok (.iload 5, 2) := by decide +kernel
theorem dX4_weighed_119 : decode cX4_weighed 119 = .ok (.goto 9, 3) := by decide +kernel
theorem dX4_weighed_122 : decode cX4_weighed 122 = .ok (.iload_n 1, 1) := by decide +kernel
theorem dX4_weighed_123 : decode cX4_weighed 123 = .ok (.iload 6, 2) := by decide +kernel
theorem dX4_weighed_125 : decode cX4_weighed 125 = .ok (.iconst (-1), 1) := by decide +kernel
theorem dX4_weighed_126 : decode cX4_weighed 126 = .ok (.ixor, 1) := by decide +kernel
theorem dX4_weighed_127 : decode cX4_weighed 127 = .ok (.iand, 1) := by decide +kernel
theorem dX4_weighed_128 : decode cX4_weighed 128 = .ok (.ireturn, 1) := by decide +kernel
theorem dX4_whose_0 : decode cX4_whose 0 = .ok (.iload_n 1, 1) := by decide +kernel
theorem dX4_whose_1 : decode cX4_whose 1 = .ok (.iconst 1, 1) := by decide +kernel
theorem dX4_whose_2 : decode cX4_whose 2 = .ok (.if_icmp .lt 9, 3) := by decide +kernel
theorem dX4_whose_5 : decode cX4_whose 5 = .ok (.iload_n 1, 1) := by decide +kernel
theorem dX4_whose_6 : decode cX4_whose 6 = .ok (.bipush 9, 2) := by decide +kernel
theorem dX4_whose_8 : decode cX4_whose 8 = .ok (.if_icmp .le 6, 3) := by decide +kernel
theorem dX4_whose_11 : decode cX4_whose 11 = .ok (.bipush (-2), 2) := by decide +kernel
theorem dX4_whose_13 : decode cX4_whose 13 = .ok (.ireturn, 1) := by decide +kernel
theorem dX4_whose_14 : decode cX4_whose 14 = .ok (.iconst 0, 1) := by decide +kernel
theorem dX4_whose_15 : decode cX4_whose 15 = .ok (.istore_n 2, 1) := by decide +kernel
theorem dX4_whose_16 : decode cX4_whose 16 = .ok (.iconst 0, 1) := by decide +kernel
theorem dX4_whose_17 : decode cX4_whose 17 = .ok (.istore_n 3, 1) := by decide +kernel
theorem dX4_whose_18 : decode cX4_whose 18 = .ok (.iload_n 3, 1) := by decide +kernel
theorem dX4_whose_19 : decode cX4_whose 19 = .ok (.aload_n 0, 1) := by decide +kernel
theorem dX4_whose_20 : decode cX4_whose 20 = .ok (.getfield 19, 3) := by decide +kernel
theorem dX4_whose_23 : decode cX4_whose 23 = .ok (.getfield 74, 3) := by decide +kernel
theorem dX4_whose_26 : decode cX4_whose 26 = .ok (.if_icmp .ge 27, 3) := by decide +kernel
theorem dX4_whose_29 : decode cX4_whose 29 = .ok (.aload_n 0, 1) := by decide +kernel
theorem dX4_whose_30 : decode cX4_whose 30 = .ok (.getfield 19, 3) := by decide +kernel
theorem dX4_whose_33 : decode cX4_whose 33 = .ok (.iload_n 3, 1) := by decide +kernel
theorem dX4_whose_34 : decode cX4_whose 34 = .ok (.invokevirtual 106, 3) := by decide +kernel
theorem dX4_whose_37 : decode cX4_whose 37 = .ok (.iload_n 1, 1) := by decide +kernel
theorem dX4_whose_38 : decode cX4_whose 38 = .ok (.if_icmp .ne 9, 3) := by decide +kernel
theorem dX4_whose_41 : decode cX4_whose 41 = .ok (.iload_n 2, 1) := by decide +kernel
theorem dX4_whose_42 : decode cX4_whose 42 = .ok (.iconst 1, 1) := by decide +kernel
theorem dX4_whose_43 : decode cX4_whose 43 = .ok (.iload_n 3, 1) := by decide +kernel
theorem dX4_whose_44 : decode cX4_whose 44 = .ok (.ishl, 1) := by decide +kernel
theorem dX4_whose_45 : decode cX4_whose 45 = .ok (.ior, 1) := by decide +kernel
theorem dX4_whose_46 : decode cX4_whose 46 = .ok (.istore_n 2, 1) := by decide +kernel
theorem dX4_whose_47 : decode cX4_whose 47 = .ok (.iinc 3 1, 3) := by decide +kernel
theorem dX4_whose_50 : decode cX4_whose 50 = .ok (.goto (-32), 3) := by decide +kernel
theorem dX4_whose_53 : decode cX4_whose 53 = .ok (.iload_n 2, 1) := by decide +kernel
theorem dX4_whose_54 : decode cX4_whose 54 = .ok (.ireturn, 1) := by decide +kernel
theorem dX4_rests_0 : decode cX4_rests 0 = .ok (.aload_n 0, 1) := by decide +kernel
theorem dX4_rests_1 : decode cX4_rests 1 = .ok (.getfield 19, 3) := by decide +kernel
theorem dX4_rests_4 : decode cX4_rests 4 = .ok (.iload_n 1, 1) := by decide +kernel
theorem dX4_rests_5 : decode cX4_rests 5 = .ok (.invokevirtual 90, 3) := by decide +kernel
theorem dX4_rests_8 : decode cX4_rests 8 = .ok (.ifCond .eq 25, 3) := by decide +kernel
theorem dX4_rests_11 : decode cX4_rests 11 = .ok (.aload_n 0, 1) := by decide +kernel
theorem dX4_rests_12 : decode cX4_rests 12 = .ok (.getfield 19, 3) := by decide +kernel
theorem dX4_rests_15 : decode cX4_rests 15 = .ok (.iload_n 2, 1) := by decide +kernel
theorem dX4_rests_16 : decode cX4_rests 16 = .ok (.invokevirtual 90, 3) := by decide +kernel
theorem dX4_rests_19 : decode cX4_rests 19 = .ok (.ifCond .eq 14, 3) := by decide +kernel
theorem dX4_rests_22 : decode cX4_rests 22 = .ok (.aload_n 0, 1) := by decide +kernel
theorem dX4_rests_23 : decode cX4_rests 23 = .ok (.getfield 19, 3) := by decide +kernel
theorem dX4_rests_26 : decode cX4_rests 26 = .ok (.iload_n 3, 1) := by decide +kernel
theorem dX4_rests_27 : decode cX4_rests 27 = .ok (.invokevirtual 90, 3) := by decide +kernel
theorem dX4_rests_30 : decode cX4_rests 30 = .ok (.ifCond .ne 5, 3) := by decide +kernel
theorem dX4_rests_33 : decode cX4_rests 33 = .ok (.iconst (-1), 1) := by decide +kernel
theorem dX4_rests_34 : decode cX4_rests 34 = .ok (.ireturn, 1) := by decide +kernel
theorem dX4_rests_35 : decode cX4_rests 35 = .ok (.iload_n 1, 1) := by decide +kernel
theorem dX4_rests_36 : decode cX4_rests 36 = .ok (.iload_n 2, 1) := by decide +kernel
theorem dX4_rests_37 : decode cX4_rests 37 = .ok (.if_icmp .eq 24, 3) := by decide +kernel
theorem dX4_rests_40 : decode cX4_rests 40 = .ok (.iload_n 1, 1) := by decide +kernel
theorem dX4_rests_41 : decode cX4_rests 41 = .ok (.iload_n 3, 1) := by decide +kernel
theorem dX4_rests_42 : decode cX4_rests 42 = .ok (.if_icmp .eq 19, 3) := by decide +kernel
theorem dX4_rests_45 : decode cX4_rests 45 = .ok (.iload_n 2, 1) := by decide +kernel
theorem dX4_rests_46 : decode cX4_rests 46 = .ok (.iload_n 3, 1) := by decide +kernel
theorem dX4_rests_47 : decode cX4_rests 47 = .ok (.if_icmp .eq 14, 3) := by decide +kernel
theorem dX4_rests_50 : decode cX4_rests 50 = .ok (.iload 4, 2) := by decide +kernel
theorem dX4_rests_52 : decode cX4_rests 52 = .ok (.ifCond .lt 9, 3) := by decide +kernel
theorem dX4_rests_55 : decode cX4_rests 55 = .ok (.iload 4, 2) := by decide +kernel
theorem dX4_rests_57 : decode cX4_rests 57 = .ok (.iconst 1, 1) := by decide +kernel
theorem dX4_rests_58 : decode cX4_rests 58 = .ok (.if_icmp .le 6, 3) := by decide +kernel
theorem dX4_rests_61 : decode cX4_rests 61 = .ok (.bipush (-2), 2) := by decide +kernel
theorem dX4_rests_63 : decode cX4_rests 63 = .ok (.ireturn, 1) := by decide +kernel
theorem dX4_rests_64 : decode cX4_rests 64 = .ok (.aload_n 0, 1) := by decide +kernel
theorem dX4_rests_65 : decode cX4_rests 65 = .ok (.getfield 19, 3) := by decide +kernel
theorem dX4_rests_68 : decode cX4_rests 68 = .ok (.iload_n 3, 1) := by decide +kernel
theorem dX4_rests_69 : decode cX4_rests 69 = .ok (.invokevirtual 117, 3) := by decide +kernel
theorem dX4_rests_72 : decode cX4_rests 72 = .ok (.ifCond .ne 6, 3) := by decide +kernel
theorem dX4_rests_75 : decode cX4_rests 75 = .ok (.bipush (-3), 2) := by decide +kernel
theorem dX4_rests_77 : decode cX4_rests 77 = .ok (.ireturn, 1) := by decide +kernel
theorem dX4_rests_78 : decode cX4_rests 78 = .ok (.aload_n 0, 1) := by decide +kernel
theorem dX4_rests_79 : decode cX4_rests 79 = .ok (.getfield 19, 3) := by decide +kernel
theorem dX4_rests_82 : decode cX4_rests 82 = .ok (.iload_n 1, 1) := by decide +kernel
theorem dX4_rests_83 : decode cX4_rests 83 = .ok (.iload_n 3, 1) := by decide +kernel
theorem dX4_rests_84 : decode cX4_rests 84 = .ok (.invokevirtual 132, 3) := by decide +kernel
theorem dX4_rests_87 : decode cX4_rests 87 = .ok (.istore 5, 2) := by decide +kernel
theorem dX4_rests_89 : decode cX4_rests 89 = .ok (.aload_n 0, 1) := by decide +kernel
theorem dX4_rests_90 : decode cX4_rests 90 = .ok (.getfield 19, 3) := by decide +kernel
theorem dX4_rests_93 : decode cX4_rests 93 = .ok (.iload_n 2, 1) := by decide +kernel
theorem dX4_rests_94 : decode cX4_rests 94 = .ok (.iload_n 3, 1) := by decide +kernel
theorem dX4_rests_95 : decode cX4_rests 95 = .ok (.invokevirtual 132, 3) := by decide +kernel
theorem dX4_rests_98 : decode cX4_rests 98 = .ok (.istore 6, 2) := by decide +kernel
theorem dX4_rests_100 : decode cX4_rests 100 = .ok (.iconst 0, 1) := by decide +kernel
theorem dX4_rests_101 : decode cX4_rests 101 = .ok (.istore 7, 2) := by decide +kernel
theorem dX4_rests_103 : decode cX4_rests 103 = .ok (.bipush (-9), 2) := by decide +kernel
theorem dX4_rests_105 : decode cX4_rests 105 = .ok (.istore 8, 2) := by decide +kernel
theorem dX4_rests_107 : decode cX4_rests 107 = .ok (.iconst 0, 1) := by decide +kernel
theorem dX4_rests_108 : decode cX4_rests 108 = .ok (.istore 9, 2) := by decide +kernel
theorem dX4_rests_110 : decode cX4_rests 110 = .ok (.iload 9, 2) := by decide +kernel
theorem dX4_rests_112 : decode cX4_rests 112 = .ok (.iconst 3, 1) := by decide +kernel
theorem dX4_rests_113 : decode cX4_rests 113 = .ok (.if_icmp .gt 61, 3) := by decide +kernel
theorem dX4_rests_116 : decode cX4_rests 116 = .ok (.iconst 0, 1) := by decide +kernel
theorem dX4_rests_117 : decode cX4_rests 117 = .ok (.istore 10, 2) := by decide +kernel
theorem dX4_rests_119 : decode cX4_rests 119 = .ok (.iload 10, 2) := by decide +kernel
theorem dX4_rests_121 : decode cX4_rests 121 = .ok (.iconst 3, 1) := by decide +kernel
theorem dX4_rests_122 : decode cX4_rests 122 = .ok (.if_icmp .gt 46, 3) := by decide +kernel
theorem dX4_rests_125 : decode cX4_rests 125 = .ok (.iload 9, 2) := by decide +kernel
theorem dX4_rests_127 : decode cX4_rests 127 = .ok (.iload 10, 2) := by decide +kernel
theorem dX4_rests_129 : decode cX4_rests 129 = .ok (.iload 5, 2) := by decide +kernel
theorem dX4_rests_131 : decode cX4_rests 131 = .ok (.iload 6, 2) := by decide +kernel
theorem dX4_rests_133 : decode cX4_rests 133 = .ok (.invokestatic 192, 3) := by decide +kernel
theorem dX4_rests_136 : decode cX4_rests 136 = .ok (.ifCond .eq 26, 3) := by decide +kernel
theorem dX4_rests_139 : decode cX4_rests 139 = .ok (.iload 7, 2) := by decide +kernel
theorem dX4_rests_141 : decode cX4_rests 141 = .ok (.ifCond .ne 14, 3) := by decide +kernel
theorem dX4_rests_144 : decode cX4_rests 144 = .ok (.bipush 10, 2) := by decide +kernel
theorem dX4_rests_146 : decode cX4_rests 146 = .ok (.iload 9, 2) := by decide +kernel
theorem dX4_rests_148 : decode cX4_rests 148 = .ok (.imul, 1) := by decide +kernel
theorem dX4_rests_149 : decode cX4_rests 149 = .ok (.iload 10, 2) := by decide +kernel
theorem dX4_rests_151 : decode cX4_rests 151 = .ok (.iadd, 1) := by decide +kernel
theorem dX4_rests_152 : decode cX4_rests 152 = .ok (.goto 5, 3) := by decide +kernel
theorem dX4_rests_155 : decode cX4_rests 155 = .ok (.iload 8, 2) := by decide +kernel
theorem dX4_rests_157 : decode cX4_rests 157 = .ok (.istore 8, 2) := by decide +kernel
theorem dX4_rests_159 : decode cX4_rests 159 = .ok (.iinc 7 1, 3) := by decide +kernel
theorem dX4_rests_162 : decode cX4_rests 162 = .ok (.iinc 10 1, 3) := by decide +kernel
theorem dX4_rests_165 : decode cX4_rests 165 = .ok (.goto (-46), 3) := by decide +kernel
theorem dX4_rests_168 : decode cX4_rests 168 = .ok (.iinc 9 1, 3) := by decide +kernel
theorem dX4_rests_171 : decode cX4_rests 171 = .ok (.goto (-61), 3) := by decide +kernel
theorem dX4_rests_174 : decode cX4_rests 174 = .ok (.iload 4, 2) := by decide +kernel
theorem dX4_rests_176 : decode cX4_rests 176 = .ok (.ifCond .ne 8, 3) := by decide +kernel
theorem dX4_rests_179 : decode cX4_rests 179 = .ok (.iload 7, 2) := by decide +kernel
theorem dX4_rests_181 : decode cX4_rests 181 = .ok (.goto 5, 3) := by decide +kernel
theorem dX4_rests_184 : decode cX4_rests 184 = .ok (.iload 8, 2) := by decide +kernel
theorem dX4_rests_186 : decode cX4_rests 186 = .ok (.ireturn, 1) := by decide +kernel
theorem dX4_chance_0 : decode cX4_chance 0 = .ok (.iload_n 1, 1) := by decide +kernel
theorem dX4_chance_1 : decode cX4_chance 1 = .ok (.ifCond .lt 9, 3) := by decide +kernel
theorem dX4_chance_4 : decode cX4_chance 4 = .ok (.iload_n 1, 1) := by decide +kernel
theorem dX4_chance_5 : decode cX4_chance 5 = .ok (.bipush 10, 2) := by decide +kernel
theorem dX4_chance_7 : decode cX4_chance 7 = .ok (.if_icmp .le 6, 3) := by decide +kernel
theorem dX4_chance_10 : decode cX4_chance 10 = .ok (.bipush (-2), 2) := by decide +kernel
theorem dX4_chance_12 : decode cX4_chance 12 = .ok (.ireturn, 1) := by decide +kernel
theorem dX4_chance_13 : decode cX4_chance 13 = .ok (.aload_n 0, 1) := by decide +kernel
theorem dX4_chance_14 : decode cX4_chance 14 = .ok (.getfield 19, 3) := by decide +kernel
theorem dX4_chance_17 : decode cX4_chance 17 = .ok (.invokevirtual 152, 3) := by decide +kernel
theorem dX4_chance_20 : decode cX4_chance 20 = .ok (.istore_n 3, 1) := by decide +kernel
theorem dX4_chance_21 : decode cX4_chance 21 = .ok (.iload_n 3, 1) := by decide +kernel
theorem dX4_chance_22 : decode cX4_chance 22 = .ok (.invokestatic 127, 3) := by decide +kernel
theorem dX4_chance_25 : decode cX4_chance 25 = .ok (.istore 4, 2) := by decide +kernel
theorem dX4_chance_27 : decode cX4_chance 27 = .ok (.iconst 0, 1) := by decide +kernel
theorem dX4_chance_28 : decode cX4_chance 28 = .ok (.istore 5, 2) := by decide +kernel
theorem dX4_chance_30 : decode cX4_chance 30 = .ok (.iconst 0, 1) := by decide +kernel
theorem dX4_chance_31 : decode cX4_chance 31 = .ok (.istore 6, 2) := by decide +kernel
theorem dX4_chance_33 : decode cX4_chance 33 = .ok (.iload 6, 2) := by decide +kernel
theorem dX4_chance_35 : decode cX4_chance 35 = .ok (.iload_n 3, 1) := by decide +kernel
theorem dX4_chance_36 : decode cX4_chance 36 = .ok (.if_icmp .gt 66, 3) := by decide +kernel
theorem dX4_chance_39 : decode cX4_chance 39 = .ok (.iload 6, 2) := by decide +kernel
theorem dX4_chance_41 : decode cX4_chance 41 = .ok (.iload_n 3, 1) := by decide +kernel
theorem dX4_chance_42 : decode cX4_chance 42 = .ok (.iconst (-1), 1) := by decide +kernel
theorem dX4_chance_43 : decode cX4_chance 43 = .ok (.ixor, 1) := by decide +kernel
theorem dX4_chance_44 : decode cX4_chance 44 = .ok (.iand, 1) := by decide +kernel
theorem dX4_chance_45 : decode cX4_chance 45 = .ok (.ifCond .ne 51, 3) := by decide +kernel
theorem dX4_chance_48 : decode cX4_chance 48 = .ok (.aload_n 0, 1) := by decide +kernel
theorem dX4_chance_49 : decode cX4_chance 49 = .ok (.aload_n 0, 1) := by decide +kernel
theorem dX4_chance_50 : decode cX4_chance 50 = .ok (.getfield 19, 3) := by decide +kernel
theorem dX4_chance_53 : decode cX4_chance 53 = .ok (.getfield 77, 3) := by decide +kernel
theorem dX4_chance_56 : decode cX4_chance 56 = .ok (.iload 6, 2) := by decide +kernel
theorem dX4_chance_58 : decode cX4_chance 58 = .ok (.ior, 1) := by decide +kernel
theorem dX4_chance_59 : decode cX4_chance 59 = .ok (.invokevirtual 196, 3) := by decide +kernel
theorem dX4_chance_62 : decode cX4_chance 62 = .ok (.ifCond .eq 34, 3) := by decide +kernel
theorem dX4_chance_65 : decode cX4_chance 65 = .ok (.iload 6, 2) := by decide +kernel
theorem dX4_chance_67 : decode cX4_chance 67 = .ok (.invokestatic 127, 3) := by decide +kernel
theorem dX4_chance_70 : decode cX4_chance 70 = .ok (.istore 7, 2) := by decide +kernel
theorem dX4_chance_72 : decode cX4_chance 72 = .ok (.iload 5, 2) := by decide +kernel
theorem dX4_chance_74 : decode cX4_chance 74 = .ok (.iload_n 1, 1) := by decide +kernel
theorem dX4_chance_75 : decode cX4_chance 75 = .ok (.iload 7, 2) := by decide +kernel
theorem dX4_chance_77 : decode cX4_chance 77 = .ok (.invokestatic 199, 3) := by decide +kernel
theorem dX4_chance_80 : decode cX4_chance 80 = .ok (.bipush 10, 2) := by decide +kernel
theorem dX4_chance_82 : decode cX4_chance 82 = .ok (.iload_n 1, 1) := by decide +kernel
theorem dX4_chance_83 : decode cX4_chance 83 = .ok (.isub, 1) := by decide +kernel
theorem dX4_chance_84 : decode cX4_chance 84 = .ok (.iload 4, 2) := by decide +kernel
theorem dX4_chance_86 : decode cX4_chance 86 = .ok (.iload 7, 2) := by decide +kernel
theorem dX4_chance_88 : decode cX4_chance 88 = .ok (.isub, 1) := by decide +kernel
theorem dX4_chance_89 : decode cX4_chance 89 = .ok (.invokestatic 199, 3) := by decide +kernel
theorem dX4_chance_92 : decode cX4_chance 92 = .ok (.imul, 1) := by decide +kernel
theorem dX4_chance_93 : decode cX4_chance 93 = .ok (.iadd, 1) := by decide +kernel
theorem dX4_chance_94 : decode cX4_chance 94 = .ok (.istore 5, 2) := by decide +kernel
theorem dX4_chance_96 : decode cX4_chance 96 = .ok (.iinc 6 1, 3) := by decide +kernel
theorem dX4_chance_99 : decode cX4_chance 99 = .ok (.goto (-66), 3) := by decide +kernel
theorem dX4_chance_102 : decode cX4_chance 102 = .ok (.iload 5, 2) := by decide +kernel
theorem dX4_chance_104 : decode cX4_chance 104 = .ok (.bipush 10, 2) := by decide +kernel
theorem dX4_chance_106 : decode cX4_chance 106 = .ok (.iload 4, 2) := by decide +kernel
theorem dX4_chance_108 : decode cX4_chance 108 = .ok (.invokestatic 199, 3) := by decide +kernel
theorem dX4_chance_111 : decode cX4_chance 111 = .ok (.iload_n 2, 1) := by decide +kernel
theorem dX4_chance_112 : decode cX4_chance 112 = .ok (.invokestatic 176, 3) := by decide +kernel
theorem dX4_chance_115 : decode cX4_chance 115 = .ok (.ireturn, 1) := by decide +kernel
theorem dX4_seed_0 : decode cX4_seed 0 = .ok (.aload_n 0, 1) := by decide +kernel
theorem dX4_seed_1 : decode cX4_seed 1 = .ok (.getfield 48, 3) := by decide +kernel
theorem dX4_seed_4 : decode cX4_seed 4 = .ok (.lstore_n 3, 1) := by decide +kernel
theorem dX4_seed_5 : decode cX4_seed 5 = .ok (.aload_n 0, 1) := by decide +kernel
theorem dX4_seed_6 : decode cX4_seed 6 = .ok (.lload_n 1, 1) := by decide +kernel
theorem dX4_seed_7 : decode cX4_seed 7 = .ok (.putfield 48, 3) := by decide +kernel
theorem dX4_seed_10 : decode cX4_seed 10 = .ok (.lload_n 3, 1) := by decide +kernel
theorem dX4_seed_11 : decode cX4_seed 11 = .ok (.lreturn, 1) := by decide +kernel
theorem dX4_years_0 : decode cX4_years 0 = .ok (.iload_n 1, 1) := by decide +kernel
theorem dX4_years_1 : decode cX4_years 1 = .ok (.iconst 1, 1) := by decide +kernel
theorem dX4_years_2 : decode cX4_years 2 = .ok (.if_icmp .lt 9, 3) := by decide +kernel
theorem dX4_years_5 : decode cX4_years 5 = .ok (.iload_n 1, 1) := by decide +kernel
theorem dX4_years_6 : decode cX4_years 6 = .ok (.bipush 20, 2) := by decide +kernel
theorem dX4_years_8 : decode cX4_years 8 = .ok (.if_icmp .le 6, 3) := by decide +kernel
theorem dX4_years_11 : decode cX4_years 11 = .ok (.bipush (-2), 2) := by decide +kernel
theorem dX4_years_13 : decode cX4_years 13 = .ok (.ireturn, 1) := by decide +kernel
theorem dX4_years_14 : decode cX4_years 14 = .ok (.aload_n 0, 1) := by decide +kernel
theorem dX4_years_15 : decode cX4_years 15 = .ok (.getfield 23, 3) := by decide +kernel
theorem dX4_years_18 : decode cX4_years 18 = .ok (.aload_n 0, 1) := by decide +kernel
theorem dX4_years_19 : decode cX4_years 19 = .ok (.getfield 19, 3) := by decide +kernel
theorem dX4_years_22 : decode cX4_years 22 = .ok (.invokevirtual 67, 3) := by decide +kernel
theorem dX4_years_25 : decode cX4_years 25 = .ok (.iconst 0, 1) := by decide +kernel
theorem dX4_years_26 : decode cX4_years 26 = .ok (.istore_n 2, 1) := by decide +kernel
theorem dX4_years_27 : decode cX4_years 27 = .ok (.iconst 0, 1) := by decide +kernel
theorem dX4_years_28 : decode cX4_years 28 = .ok (.istore_n 3, 1) := by decide +kernel
theorem dX4_years_29 : decode cX4_years 29 = .ok (.iload_n 3, 1) := by decide +kernel
theorem dX4_years_30 : decode cX4_years 30 = .ok (.iload_n 1, 1) := by decide +kernel
theorem dX4_years_31 : decode cX4_years 31 = .ok (.if_icmp .ge 81, 3) := by decide +kernel
theorem dX4_years_34 : decode cX4_years 34 = .ok (.aload_n 0, 1) := by decide +kernel
theorem dX4_years_35 : decode cX4_years 35 = .ok (.aload_n 0, 1) := by decide +kernel
theorem dX4_years_36 : decode cX4_years 36 = .ok (.getfield 48, 3) := by decide +kernel
theorem dX4_years_39 : decode cX4_years 39 = .ok (.ldc2_w 202, 3) := by decide +kernel
theorem dX4_years_42 : decode cX4_years 42 = .ok (.lmul, 1) := by decide +kernel
theorem dX4_years_43 : decode cX4_years 43 = .ok (.ldc2_w 204, 3) := by decide +kernel
theorem dX4_years_46 : decode cX4_years 46 = .ok (.ladd, 1) := by decide +kernel
theorem dX4_years_47 : decode cX4_years 47 = .ok (.putfield 48, 3) := by decide +kernel
theorem dX4_years_50 : decode cX4_years 50 = .ok (.aload_n 0, 1) := by decide +kernel
theorem dX4_years_51 : decode cX4_years 51 = .ok (.getfield 48, 3) := by decide +kernel
theorem dX4_years_54 : decode cX4_years 54 = .ok (.bipush 33, 2) := by decide +kernel
theorem dX4_years_56 : decode cX4_years 56 = .ok (.lushr, 1) := by decide +kernel
theorem dX4_years_57 : decode cX4_years 57 = .ok (.ldc2_w 206, 3) := by decide +kernel
theorem dX4_years_60 : decode cX4_years 60 = .ok (.lrem, 1) := by decide +kernel
theorem dX4_years_61 : decode cX4_years 61 = .ok (.l2i, 1) := by decide +kernel
theorem dX4_years_62 : decode cX4_years 62 = .ok (.istore 4, 2) := by decide +kernel
theorem dX4_years_64 : decode cX4_years 64 = .ok (.aload_n 0, 1) := by decide +kernel
theorem dX4_years_65 : decode cX4_years 65 = .ok (.getfield 23, 3) := by decide +kernel
theorem dX4_years_68 : decode cX4_years 68 = .ok (.iload 4, 2) := by decide +kernel
theorem dX4_years_70 : decode cX4_years 70 = .ok (.bipush 10, 2) := by decide +kernel
theorem dX4_years_72 : decode cX4_years 72 = .ok (.idiv, 1) := by decide +kernel
theorem dX4_years_73 : decode cX4_years 73 = .ok (.invokevirtual 123, 3) := by decide +kernel
theorem dX4_years_76 : decode cX4_years 76 = .ok (.aload_n 0, 1) := by decide +kernel
theorem dX4_years_77 : decode cX4_years 77 = .ok (.getfield 23, 3) := by decide +kernel
theorem dX4_years_80 : decode cX4_years 80 = .ok (.iload 4, 2) := by decide +kernel
theorem dX4_years_82 : decode cX4_years 82 = .ok (.bipush 10, 2) := by decide +kernel
theorem dX4_years_84 : decode cX4_years 84 = .ok (.irem, 1) := by decide +kernel
theorem dX4_years_85 : decode cX4_years 85 = .ok (.iload 4, 2) := by decide +kernel
theorem dX4_years_87 : decode cX4_years 87 = .ok (.bipush 10, 2) := by decide +kernel
theorem dX4_years_89 : decode cX4_years 89 = .ok (.idiv, 1) := by decide +kernel
theorem dX4_years_90 : decode cX4_years 90 = .ok (.invokevirtual 136, 3) := by decide +kernel
theorem dX4_years_93 : decode cX4_years 93 = .ok (.ifCond .le 6, 3) := by decide +kernel
theorem dX4_years_96 : decode cX4_years 96 = .ok (.iinc 2 1, 3) := by decide +kernel
theorem dX4_years_99 : decode cX4_years 99 = .ok (.aload_n 0, 1) := by decide +kernel
theorem dX4_years_100 : decode cX4_years 100 = .ok (.getfield 23, 3) := by decide +kernel
theorem dX4_years_103 : decode cX4_years 103 = .ok (.invokevirtual 146, 3) := by decide +kernel
theorem dX4_years_106 : decode cX4_years 106 = .ok (.iinc 3 1, 3) := by decide +kernel
theorem dX4_years_109 : decode cX4_years 109 = .ok (.goto (-80), 3) := by decide +kernel
theorem dX4_years_112 : decode cX4_years 112 = .ok (.iload_n 2, 1) := by decide +kernel
theorem dX4_years_113 : decode cX4_years 113 = .ok (.ireturn, 1) := by decide +kernel
theorem dX4_keep_0 : decode cX4_keep 0 = .ok (.iload_n 1, 1) := by decide +kernel
theorem dX4_keep_1 : decode cX4_keep 1 = .ok (.ifCond .lt 8, 3) := by decide +kernel
theorem dX4_keep_4 : decode cX4_keep 4 = .ok (.iload_n 1, 1) := by decide +kernel
theorem dX4_keep_5 : decode cX4_keep 5 = .ok (.iconst 2, 1) := by decide +kernel
theorem dX4_keep_6 : decode cX4_keep 6 = .ok (.if_icmp .lt 5, 3) := by decide +kernel
theorem dX4_keep_9 : decode cX4_keep 9 = .ok (.iconst (-1), 1) := by decide +kernel
theorem dX4_keep_10 : decode cX4_keep 10 = .ok (.ireturn, 1) := by decide +kernel
theorem dX4_keep_11 : decode cX4_keep 11 = .ok (.aload_n 0, 1) := by decide +kernel
theorem dX4_keep_12 : decode cX4_keep 12 = .ok (.getfield 33, 3) := by decide +kernel
theorem dX4_keep_15 : decode cX4_keep 15 = .ok (.iload_n 1, 1) := by decide +kernel
theorem dX4_keep_16 : decode cX4_keep 16 = .ok (.aaload, 1) := by decide +kernel
theorem dX4_keep_17 : decode cX4_keep 17 = .ok (.aload_n 0, 1) := by decide +kernel
theorem dX4_keep_18 : decode cX4_keep 18 = .ok (.getfield 19, 3) := by decide +kernel
theorem dX4_keep_21 : decode cX4_keep 21 = .ok (.invokevirtual 67, 3) := by decide +kernel
theorem dX4_keep_24 : decode cX4_keep 24 = .ok (.aload_n 0, 1) := by decide +kernel
theorem dX4_keep_25 : decode cX4_keep 25 = .ok (.getfield 37, 3) := by decide +kernel
theorem dX4_keep_28 : decode cX4_keep 28 = .ok (.iload_n 1, 1) := by decide +kernel
theorem dX4_keep_29 : decode cX4_keep 29 = .ok (.iconst 1, 1) := by decide +kernel
theorem dX4_keep_30 : decode cX4_keep 30 = .ok (.bastore, 1) := by decide +kernel
theorem dX4_keep_31 : decode cX4_keep 31 = .ok (.aload_n 0, 1) := by decide +kernel
theorem dX4_keep_32 : decode cX4_keep 32 = .ok (.getfield 19, 3) := by decide +kernel
theorem dX4_keep_35 : decode cX4_keep 35 = .ok (.getfield 80, 3) := by decide +kernel
theorem dX4_keep_38 : decode cX4_keep 38 = .ok (.ireturn, 1) := by decide +kernel
theorem dX4_again_0 : decode cX4_again 0 = .ok (.iload_n 1, 1) := by decide +kernel
theorem dX4_again_1 : decode cX4_again 1 = .ok (.ifCond .lt 8, 3) := by decide +kernel
theorem dX4_again_4 : decode cX4_again 4 = .ok (.iload_n 1, 1) := by decide +kernel
theorem dX4_again_5 : decode cX4_again 5 = .ok (.iconst 2, 1) := by decide +kernel
theorem dX4_again_6 : decode cX4_again 6 = .ok (.if_icmp .lt 5, 3) := by decide +kernel
theorem dX4_again_9 : decode cX4_again 9 = .ok (.iconst (-1), 1) := by decide +kernel
theorem dX4_again_10 : decode cX4_again 10 = .ok (.ireturn, 1) := by decide +kernel
theorem dX4_again_11 : decode cX4_again 11 = .ok (.aload_n 0, 1) := by decide +kernel
theorem dX4_again_12 : decode cX4_again 12 = .ok (.getfield 37, 3) := by decide +kernel
theorem dX4_again_15 : decode cX4_again 15 = .ok (.iload_n 1, 1) := by decide +kernel
theorem dX4_again_16 : decode cX4_again 16 = .ok (.baload, 1) := by decide +kernel
theorem dX4_again_17 : decode cX4_again 17 = .ok (.ifCond .ne 6, 3) := by decide +kernel
theorem dX4_again_20 : decode cX4_again 20 = .ok (.bipush (-3), 2) := by decide +kernel
theorem dX4_again_22 : decode cX4_again 22 = .ok (.ireturn, 1) := by decide +kernel
theorem dX4_again_23 : decode cX4_again 23 = .ok (.aload_n 0, 1) := by decide +kernel
theorem dX4_again_24 : decode cX4_again 24 = .ok (.getfield 19, 3) := by decide +kernel
theorem dX4_again_27 : decode cX4_again 27 = .ok (.aload_n 0, 1) := by decide +kernel
theorem dX4_again_28 : decode cX4_again 28 = .ok (.getfield 33, 3) := by decide +kernel
theorem dX4_again_31 : decode cX4_again 31 = .ok (.iload_n 1, 1) := by decide +kernel
theorem dX4_again_32 : decode cX4_again 32 = .ok (.aaload, 1) := by decide +kernel
theorem dX4_again_33 : decode cX4_again 33 = .ok (.invokevirtual 67, 3) := by decide +kernel
theorem dX4_again_36 : decode cX4_again 36 = .ok (.aload_n 0, 1) := by decide +kernel
theorem dX4_again_37 : decode cX4_again 37 = .ok (.getfield 29, 3) := by decide +kernel
theorem dX4_again_40 : decode cX4_again 40 = .ok (.invokevirtual 71, 3) := by decide +kernel
theorem dX4_again_43 : decode cX4_again 43 = .ok (.aload_n 0, 1) := by decide +kernel
theorem dX4_again_44 : decode cX4_again 44 = .ok (.getfield 19, 3) := by decide +kernel
theorem dX4_again_47 : decode cX4_again 47 = .ok (.getfield 80, 3) := by decide +kernel
theorem dX4_again_50 : decode cX4_again 50 = .ok (.ireturn, 1) := by decide +kernel
theorem dX4_gain_0 : decode cX4_gain 0 = .ok (.aload_n 0, 1) := by decide +kernel
theorem dX4_gain_1 : decode cX4_gain 1 = .ok (.getfield 44, 3) := by decide +kernel
theorem dX4_gain_4 : decode cX4_gain 4 = .ok (.aload_n 0, 1) := by decide +kernel
theorem dX4_gain_5 : decode cX4_gain 5 = .ok (.getfield 19, 3) := by decide +kernel
theorem dX4_gain_8 : decode cX4_gain 8 = .ok (.aload_n 0, 1) := by decide +kernel
theorem dX4_gain_9 : decode cX4_gain 9 = .ok (.getfield 19, 3) := by decide +kernel
theorem dX4_gain_12 : decode cX4_gain 12 = .ok (.getfield 77, 3) := by decide +kernel
theorem dX4_gain_15 : decode cX4_gain 15 = .ok (.iload_n 2, 1) := by decide +kernel
theorem dX4_gain_16 : decode cX4_gain 16 = .ok (.invokevirtual 155, 3) := by decide +kernel
theorem dX4_gain_19 : decode cX4_gain 19 = .ok (.istore_n 3, 1) := by decide +kernel
theorem dX4_gain_20 : decode cX4_gain 20 = .ok (.aload_n 0, 1) := by decide +kernel
theorem dX4_gain_21 : decode cX4_gain 21 = .ok (.getfield 44, 3) := by decide +kernel
theorem dX4_gain_24 : decode cX4_gain 24 = .ok (.aload_n 0, 1) := by decide +kernel
theorem dX4_gain_25 : decode cX4_gain 25 = .ok (.getfield 19, 3) := by decide +kernel
theorem dX4_gain_28 : decode cX4_gain 28 = .ok (.aload_n 0, 1) := by decide +kernel
theorem dX4_gain_29 : decode cX4_gain 29 = .ok (.getfield 19, 3) := by decide +kernel
theorem dX4_gain_32 : decode cX4_gain 32 = .ok (.getfield 77, 3) := by decide +kernel
theorem dX4_gain_35 : decode cX4_gain 35 = .ok (.iload_n 2, 1) := by decide +kernel
theorem dX4_gain_36 : decode cX4_gain 36 = .ok (.iconst 1, 1) := by decide +kernel
theorem dX4_gain_37 : decode cX4_gain 37 = .ok (.iload_n 1, 1) := by decide +kernel
theorem dX4_gain_38 : decode cX4_gain 38 = .ok (.ishl, 1) := by decide +kernel
theorem dX4_gain_39 : decode cX4_gain 39 = .ok (.ior, 1) := by decide +kernel
theorem dX4_gain_40 : decode cX4_gain 40 = .ok (.invokevirtual 155, 3) := by decide +kernel
theorem dX4_gain_43 : decode cX4_gain 43 = .ok (.iload_n 3, 1) := by decide +kernel
theorem dX4_gain_44 : decode cX4_gain 44 = .ok (.isub, 1) := by decide +kernel
theorem dX4_gain_45 : decode cX4_gain 45 = .ok (.ireturn, 1) := by decide +kernel
theorem dX4_allServed_0 : decode cX4_allServed 0 = .ok (.aload_n 0, 1) := by decide +kernel
theorem dX4_allServed_1 : decode cX4_allServed 1 = .ok (.getfield 44, 3) := by decide +kernel
theorem dX4_allServed_4 : decode cX4_allServed 4 = .ok (.aload_n 0, 1) := by decide +kernel
theorem dX4_allServed_5 : decode cX4_allServed 5 = .ok (.getfield 19, 3) := by decide +kernel
theorem dX4_allServed_8 : decode cX4_allServed 8 = .ok (.iload_n 1, 1) := by decide +kernel
theorem dX4_allServed_9 : decode cX4_allServed 9 = .ok (.aload_n 0, 1) := by decide +kernel
theorem dX4_allServed_10 : decode cX4_allServed 10 = .ok (.getfield 19, 3) := by decide +kernel
theorem dX4_allServed_13 : decode cX4_allServed 13 = .ok (.invokevirtual 186, 3) := by decide +kernel
theorem dX4_allServed_16 : decode cX4_allServed 16 = .ok (.iload_n 1, 1) := by decide +kernel
theorem dX4_allServed_17 : decode cX4_allServed 17 = .ok (.iconst (-1), 1) := by decide +kernel
theorem dX4_allServed_18 : decode cX4_allServed 18 = .ok (.ixor, 1) := by decide +kernel
theorem dX4_allServed_19 : decode cX4_allServed 19 = .ok (.iand, 1) := by decide +kernel
theorem dX4_allServed_20 : decode cX4_allServed 20 = .ok (.invokevirtual 155, 3) := by decide +kernel
theorem dX4_allServed_23 : decode cX4_allServed 23 = .ok (.iload_n 1, 1) := by decide +kernel
theorem dX4_allServed_24 : decode cX4_allServed 24 = .ok (.invokestatic 127, 3) := by decide +kernel
theorem dX4_allServed_27 : decode cX4_allServed 27 = .ok (.if_icmp .ne 7, 3) := by decide +kernel
theorem dX4_allServed_30 : decode cX4_allServed 30 = .ok (.iconst 1, 1) := by decide +kernel
theorem dX4_allServed_31 : decode cX4_allServed 31 = .ok (.goto 4, 3) := by decide +kernel
theorem dX4_allServed_34 : decode cX4_allServed 34 = .ok (.iconst 0, 1) := by decide +kernel
theorem dX4_allServed_35 : decode cX4_allServed 35 = .ok (.ireturn, 1) := by decide +kernel
theorem dX4_weight_0 : decode cX4_weight 0 = .ok (.iconst 0, 1) := by decide +kernel
theorem dX4_weight_1 : decode cX4_weight 1 = .ok (.istore_n 3, 1) := by decide +kernel
theorem dX4_weight_2 : decode cX4_weight 2 = .ok (.iconst 0, 1) := by decide +kernel
theorem dX4_weight_3 : decode cX4_weight 3 = .ok (.istore 4, 2) := by decide +kernel
theorem dX4_weight_5 : decode cX4_weight 5 = .ok (.iload 4, 2) := by decide +kernel
theorem dX4_weight_7 : decode cX4_weight 7 = .ok (.aload_n 0, 1) := by decide +kernel
theorem dX4_weight_8 : decode cX4_weight 8 = .ok (.getfield 19, 3) := by decide +kernel
theorem dX4_weight_11 : decode cX4_weight 11 = .ok (.getfield 74, 3) := by decide +kernel
theorem dX4_weight_14 : decode cX4_weight 14 = .ok (.if_icmp .ge 45, 3) := by decide +kernel
theorem dX4_weight_17 : decode cX4_weight 17 = .ok (.iload_n 2, 1) := by decide +kernel
theorem dX4_weight_18 : decode cX4_weight 18 = .ok (.iload 4, 2) := by decide +kernel
theorem dX4_weight_20 : decode cX4_weight 20 = .ok (.invokestatic 208, 3) := by decide +kernel
theorem dX4_weight_23 : decode cX4_weight 23 = .ok (.ifCond .eq 9, 3) := by decide +kernel
theorem dX4_weight_26 : decode cX4_weight 26 = .ok (.iinc 3 2, 3) := by decide +kernel
theorem dX4_weight_29 : decode cX4_weight 29 = .ok (.goto 24, 3) := by decide +kernel
theorem dX4_weight_32 : decode cX4_weight 32 = .ok (.iload_n 1, 1) := by decide +kernel
theorem dX4_weight_33 : decode cX4_weight 33 = .ok (.iload 4, 2) := by decide +kernel
theorem dX4_weight_35 : decode cX4_weight 35 = .ok (.invokestatic 208, 3) := by decide +kernel
theorem dX4_weight_38 : decode cX4_weight 38 = .ok (.ifCond .eq 15, 3) := by decide +kernel
theorem dX4_weight_41 : decode cX4_weight 41 = .ok (.iload_n 3, 1) := by decide +kernel
theorem dX4_weight_42 : decode cX4_weight 42 = .ok (.aload_n 0, 1) := by decide +kernel
theorem dX4_weight_43 : decode cX4_weight 43 = .ok (.getfield 19, 3) := by decide +kernel
theorem dX4_weight_46 : decode cX4_weight 46 = .ok (.iload 4, 2) := by decide +kernel
theorem dX4_weight_48 : decode cX4_weight 48 = .ok (.invokevirtual 106, 3) := by decide +kernel
theorem dX4_weight_51 : decode cX4_weight 51 = .ok (.iadd, 1) := by decide +kernel
theorem dX4_weight_52 : decode cX4_weight 52 = .ok (.istore_n 3, 1) := by decide +kernel
theorem dX4_weight_53 : decode cX4_weight 53 = .ok (.iinc 4 1, 3) := by decide +kernel
theorem dX4_weight_56 : decode cX4_weight 56 = .ok (.goto (-51), 3) := by decide +kernel
theorem dX4_weight_59 : decode cX4_weight 59 = .ok (.iload_n 3, 1) := by decide +kernel
theorem dX4_weight_60 : decode cX4_weight 60 = .ok (.ireturn, 1) := by decide +kernel
theorem dX4_isAtRest_0 : decode cX4_isAtRest 0 = .ok (.iload_n 0, 1) := by decide +kernel
theorem dX4_isAtRest_1 : decode cX4_isAtRest 1 = .ok (.iload_n 1, 1) := by decide +kernel
theorem dX4_isAtRest_2 : decode cX4_isAtRest 2 = .ok (.iload_n 2, 1) := by decide +kernel
theorem dX4_isAtRest_3 : decode cX4_isAtRest 3 = .ok (.iload_n 3, 1) := by decide +kernel
theorem dX4_isAtRest_4 : decode cX4_isAtRest 4 = .ok (.invokestatic 211, 3) := by decide +kernel
theorem dX4_isAtRest_7 : decode cX4_isAtRest 7 = .ok (.istore 4, 2) := by decide +kernel
theorem dX4_isAtRest_9 : decode cX4_isAtRest 9 = .ok (.iload_n 0, 1) := by decide +kernel
theorem dX4_isAtRest_10 : decode cX4_isAtRest 10 = .ok (.iload_n 1, 1) := by decide +kernel
theorem dX4_isAtRest_11 : decode cX4_isAtRest 11 = .ok (.iload_n 2, 1) := by decide +kernel
theorem dX4_isAtRest_12 : decode cX4_isAtRest 12 = .ok (.iload_n 3, 1) := by decide +kernel
theorem dX4_isAtRest_13 : decode cX4_isAtRest 13 = .ok (.invokestatic 215, 3) := by decide +kernel
theorem dX4_isAtRest_16 : decode cX4_isAtRest 16 = .ok (.istore 5, 2) := by decide +kernel
theorem dX4_isAtRest_18 : decode cX4_isAtRest 18 = .ok (.iconst 0, 1) := by decide +kernel
theorem dX4_isAtRest_19 : decode cX4_isAtRest 19 = .ok (.istore 6, 2) := by decide +kernel
theorem dX4_isAtRest_21 : decode cX4_isAtRest 21 = .ok (.iload 6, 2) := by decide +kernel
theorem dX4_isAtRest_23 : decode cX4_isAtRest 23 = .ok (.iconst 3, 1) := by decide +kernel
theorem dX4_isAtRest_24 : decode cX4_isAtRest 24 = .ok (.if_icmp .gt 37, 3) := by decide +kernel
theorem dX4_isAtRest_27 : decode cX4_isAtRest 27 = .ok (.iload 6, 2) := by decide +kernel
theorem dX4_isAtRest_29 : decode cX4_isAtRest 29 = .ok (.iload_n 1, 1) := by decide +kernel
theorem dX4_isAtRest_30 : decode cX4_isAtRest 30 = .ok (.iload_n 2, 1) := by decide +kernel
theorem dX4_isAtRest_31 : decode cX4_isAtRest 31 = .ok (.iload_n 3, 1) := by decide +kernel
theorem dX4_isAtRest_32 : decode cX4_isAtRest 32 = .ok (.invokestatic 211, 3) := by decide +kernel
theorem dX4_isAtRest_35 : decode cX4_isAtRest 35 = .ok (.iload 4, 2) := by decide +kernel
theorem dX4_isAtRest_37 : decode cX4_isAtRest 37 = .ok (.if_icmp .gt 16, 3) := by decide +kernel
theorem dX4_isAtRest_40 : decode cX4_isAtRest 40 = .ok (.iload_n 0, 1) := by decide +kernel
theorem dX4_isAtRest_41 : decode cX4_isAtRest 41 = .ok (.iload 6, 2) := by decide +kernel
theorem dX4_isAtRest_43 : decode cX4_isAtRest 43 = .ok (.iload_n 2, 1) := by decide +kernel
theorem dX4_isAtRest_44 : decode cX4_isAtRest 44 = .ok (.iload_n 3, 1) := by decide +kernel
theorem dX4_isAtRest_45 : decode cX4_isAtRest 45 = .ok (.invokestatic 215, 3) := by decide +kernel
theorem dX4_isAtRest_48 : decode cX4_isAtRest 48 = .ok (.iload 5, 2) := by decide +kernel
theorem dX4_isAtRest_50 : decode cX4_isAtRest 50 = .ok (.if_icmp .le 5, 3) := by decide +kernel
theorem dX4_isAtRest_53 : decode cX4_isAtRest 53 = .ok (.iconst 0, 1) := by decide +kernel
theorem dX4_isAtRest_54 : decode cX4_isAtRest 54 = .ok (.ireturn, 1) := by decide +kernel
theorem dX4_isAtRest_55 : decode cX4_isAtRest 55 = .ok (.iinc 6 1, 3) := by decide +kernel
theorem dX4_isAtRest_58 : decode cX4_isAtRest 58 = .ok (.goto (-37), 3) := by decide +kernel
theorem dX4_isAtRest_61 : decode cX4_isAtRest 61 = .ok (.iconst 1, 1) := by decide +kernel
theorem dX4_isAtRest_62 : decode cX4_isAtRest 62 = .ok (.ireturn, 1) := by decide +kernel
theorem dX4_oneWeeps_0 : decode cX4_oneWeeps 0 = .ok (.iload_n 2, 1) := by decide +kernel
theorem dX4_oneWeeps_1 : decode cX4_oneWeeps 1 = .ok (.ifCond .eq 16, 3) := by decide +kernel
theorem dX4_oneWeeps_4 : decode cX4_oneWeeps 4 = .ok (.iload_n 0, 1) := by decide +kernel
theorem dX4_oneWeeps_5 : decode cX4_oneWeeps 5 = .ok (.iload_n 1, 1) := by decide +kernel
theorem dX4_oneWeeps_6 : decode cX4_oneWeeps 6 = .ok (.if_icmp .ge 7, 3) := by decide +kernel
theorem dX4_oneWeeps_9 : decode cX4_oneWeeps 9 = .ok (.iload_n 3, 1) := by decide +kernel
theorem dX4_oneWeeps_10 : decode cX4_oneWeeps 10 = .ok (.ifCond .ne 7, 3) := by decide +kernel
theorem dX4_oneWeeps_13 : decode cX4_oneWeeps 13 = .ok (.iconst 1, 1) := by decide +kernel
theorem dX4_oneWeeps_14 : decode cX4_oneWeeps 14 = .ok (.goto 4, 3) := by decide +kernel
theorem dX4_oneWeeps_17 : decode cX4_oneWeeps 17 = .ok (.iconst 0, 1) := by decide +kernel
theorem dX4_oneWeeps_18 : decode cX4_oneWeeps 18 = .ok (.ireturn, 1) := by decide +kernel
theorem dX4_gotByOne_0 : decode cX4_gotByOne 0 = .ok (.iload_n 0, 1) := by decide +kernel
theorem dX4_gotByOne_1 : decode cX4_gotByOne 1 = .ok (.iload_n 2, 1) := by decide +kernel
theorem dX4_gotByOne_2 : decode cX4_gotByOne 2 = .ok (.iload_n 0, 1) := by decide +kernel
theorem dX4_gotByOne_3 : decode cX4_gotByOne 3 = .ok (.iload_n 1, 1) := by decide +kernel
theorem dX4_gotByOne_4 : decode cX4_gotByOne 4 = .ok (.iload_n 2, 1) := by decide +kernel
theorem dX4_gotByOne_5 : decode cX4_gotByOne 5 = .ok (.iload_n 3, 1) := by decide +kernel
theorem dX4_gotByOne_6 : decode cX4_gotByOne 6 = .ok (.invokestatic 218, 3) := by decide +kernel
end
section
theorem dX4_gotByOne_9 : decode cX4_gotByOne 9 = .ok (.invokestatic 221, 3) := by decide +kernel
theorem dX4_gotByOne_12 : decode cX4_gotByOne 12 = .ok (.ireturn, 1) := by decide +kernel
theorem dX4_gotByOther_0 : decode cX4_gotByOther 0 = .ok (.iload_n 3, 1) := by decide +kernel
theorem dX4_gotByOther_1 : decode cX4_gotByOther 1 = .ok (.ifCond .eq 17, 3) := by decide +kernel
theorem dX4_gotByOther_4 : decode cX4_gotByOther 4 = .ok (.iload_n 0, 1) := by decide +kernel
theorem dX4_gotByOther_5 : decode cX4_gotByOther 5 = .ok (.iload_n 1, 1) := by decide +kernel
theorem dX4_gotByOther_6 : decode cX4_gotByOther 6 = .ok (.iload_n 2, 1) := by decide +kernel
theorem dX4_gotByOther_7 : decode cX4_gotByOther 7 = .ok (.iload_n 3, 1) := by decide +kernel
theorem dX4_gotByOther_8 : decode cX4_gotByOther 8 = .ok (.invokestatic 218, 3) := by decide +kernel
theorem dX4_gotByOther_11 : decode cX4_gotByOther 11 = .ok (.ifCond .ne 7, 3) := by decide +kernel
theorem dX4_gotByOther_14 : decode cX4_gotByOther 14 = .ok (.iconst 1, 1) := by decide +kernel
theorem dX4_gotByOther_15 : decode cX4_gotByOther 15 = .ok (.goto 4, 3) := by decide +kernel
theorem dX4_gotByOther_18 : decode cX4_gotByOther 18 = .ok (.iconst 0, 1) := by decide +kernel
theorem dX4_gotByOther_19 : decode cX4_gotByOther 19 = .ok (.istore 4, 2) := by decide +kernel
theorem dX4_gotByOther_21 : decode cX4_gotByOther 21 = .ok (.iload_n 1, 1) := by decide +kernel
theorem dX4_gotByOther_22 : decode cX4_gotByOther 22 = .ok (.iload_n 3, 1) := by decide +kernel
theorem dX4_gotByOther_23 : decode cX4_gotByOther 23 = .ok (.iload 4, 2) := by decide +kernel
theorem dX4_gotByOther_25 : decode cX4_gotByOther 25 = .ok (.invokestatic 221, 3) := by decide +kernel
theorem dX4_gotByOther_28 : decode cX4_gotByOther 28 = .ok (.ireturn, 1) := by decide +kernel
theorem dX4_got_0 : decode cX4_got 0 = .ok (.iload_n 2, 1) := by decide +kernel
theorem dX4_got_1 : decode cX4_got 1 = .ok (.ifCond .eq 7, 3) := by decide +kernel
theorem dX4_got_4 : decode cX4_got 4 = .ok (.iconst 3, 1) := by decide +kernel
theorem dX4_got_5 : decode cX4_got 5 = .ok (.iload_n 0, 1) := by decide +kernel
theorem dX4_got_6 : decode cX4_got 6 = .ok (.isub, 1) := by decide +kernel
theorem dX4_got_7 : decode cX4_got 7 = .ok (.ireturn, 1) := by decide +kernel
theorem dX4_got_8 : decode cX4_got 8 = .ok (.iload_n 0, 1) := by decide +kernel
theorem dX4_got_9 : decode cX4_got 9 = .ok (.ifCond .le 11, 3) := by decide +kernel
theorem dX4_got_12 : decode cX4_got 12 = .ok (.iload_n 1, 1) := by decide +kernel
theorem dX4_got_13 : decode cX4_got 13 = .ok (.ifCond .ne 7, 3) := by decide +kernel
theorem dX4_got_16 : decode cX4_got 16 = .ok (.iconst (-1), 1) := by decide +kernel
theorem dX4_got_17 : decode cX4_got 17 = .ok (.goto 4, 3) := by decide +kernel
theorem dX4_got_20 : decode cX4_got 20 = .ok (.iconst 0, 1) := by decide +kernel
theorem dX4_got_21 : decode cX4_got 21 = .ok (.ireturn, 1) := by decide +kernel
theorem dX4_hasBit_0 : decode cX4_hasBit 0 = .ok (.iload_n 1, 1) := by decide +kernel
theorem dX4_hasBit_1 : decode cX4_hasBit 1 = .ok (.ifCond .lt 20, 3) := by decide +kernel
theorem dX4_hasBit_4 : decode cX4_hasBit 4 = .ok (.iload_n 1, 1) := by decide +kernel
theorem dX4_hasBit_5 : decode cX4_hasBit 5 = .ok (.iconst 5, 1) := by decide +kernel
theorem dX4_hasBit_6 : decode cX4_hasBit 6 = .ok (.if_icmp .ge 15, 3) := by decide +kernel
theorem dX4_hasBit_9 : decode cX4_hasBit 9 = .ok (.iload_n 0, 1) := by decide +kernel
theorem dX4_hasBit_10 : decode cX4_hasBit 10 = .ok (.iload_n 1, 1) := by decide +kernel
theorem dX4_hasBit_11 : decode cX4_hasBit 11 = .ok (.ishr, 1) := by decide +kernel
theorem dX4_hasBit_12 : decode cX4_hasBit 12 = .ok (.iconst 1, 1) := by decide +kernel
theorem dX4_hasBit_13 : decode cX4_hasBit 13 = .ok (.iand, 1) := by decide +kernel
theorem dX4_hasBit_14 : decode cX4_hasBit 14 = .ok (.ifCond .eq 7, 3) := by decide +kernel
theorem dX4_hasBit_17 : decode cX4_hasBit 17 = .ok (.iconst 1, 1) := by decide +kernel
theorem dX4_hasBit_18 : decode cX4_hasBit 18 = .ok (.goto 4, 3) := by decide +kernel
theorem dX4_hasBit_21 : decode cX4_hasBit 21 = .ok (.iconst 0, 1) := by decide +kernel
theorem dX4_hasBit_22 : decode cX4_hasBit 22 = .ok (.ireturn, 1) := by decide +kernel
theorem dX4_factorial_0 : decode cX4_factorial 0 = .ok (.iload_n 0, 1) := by decide +kernel
theorem dX4_factorial_1 : decode cX4_factorial 1 = .ok (.ifCond .lt 19, 3) := by decide +kernel
theorem dX4_factorial_4 : decode cX4_factorial 4 = .ok (.iload_n 0, 1) := by decide +kernel
theorem dX4_factorial_5 : decode cX4_factorial 5 = .ok (.getstatic 225, 3) := by decide +kernel
theorem dX4_factorial_8 : decode cX4_factorial 8 = .ok (.arraylength, 1) := by decide +kernel
theorem dX4_factorial_9 : decode cX4_factorial 9 = .ok (.if_icmp .ge 11, 3) := by decide +kernel
theorem dX4_factorial_12 : decode cX4_factorial 12 = .ok (.getstatic 225, 3) := by decide +kernel
theorem dX4_factorial_15 : decode cX4_factorial 15 = .ok (.iload_n 0, 1) := by decide +kernel
theorem dX4_factorial_16 : decode cX4_factorial 16 = .ok (.iaload, 1) := by decide +kernel
theorem dX4_factorial_17 : decode cX4_factorial 17 = .ok (.goto 4, 3) := by decide +kernel
theorem dX4_factorial_20 : decode cX4_factorial 20 = .ok (.iconst 0, 1) := by decide +kernel
theorem dX4_factorial_21 : decode cX4_factorial 21 = .ok (.ireturn, 1) := by decide +kernel
theorem dX4_power_0 : decode cX4_power 0 = .ok (.iconst 1, 1) := by decide +kernel
theorem dX4_power_1 : decode cX4_power 1 = .ok (.istore_n 2, 1) := by decide +kernel
theorem dX4_power_2 : decode cX4_power 2 = .ok (.iconst 0, 1) := by decide +kernel
theorem dX4_power_3 : decode cX4_power 3 = .ok (.istore_n 3, 1) := by decide +kernel
theorem dX4_power_4 : decode cX4_power 4 = .ok (.iload_n 3, 1) := by decide +kernel
theorem dX4_power_5 : decode cX4_power 5 = .ok (.iload_n 1, 1) := by decide +kernel
theorem dX4_power_6 : decode cX4_power 6 = .ok (.if_icmp .ge 13, 3) := by decide +kernel
theorem dX4_power_9 : decode cX4_power 9 = .ok (.iload_n 2, 1) := by decide +kernel
theorem dX4_power_10 : decode cX4_power 10 = .ok (.iload_n 0, 1) := by decide +kernel
theorem dX4_power_11 : decode cX4_power 11 = .ok (.imul, 1) := by decide +kernel
theorem dX4_power_12 : decode cX4_power 12 = .ok (.istore_n 2, 1) := by decide +kernel
theorem dX4_power_13 : decode cX4_power 13 = .ok (.iinc 3 1, 3) := by decide +kernel
theorem dX4_power_16 : decode cX4_power 16 = .ok (.goto (-12), 3) := by decide +kernel
theorem dX4_power_19 : decode cX4_power 19 = .ok (.iload_n 2, 1) := by decide +kernel
theorem dX4_power_20 : decode cX4_power 20 = .ok (.ireturn, 1) := by decide +kernel
theorem dX4_fraction_0 : decode cX4_fraction 0 = .ok (.iload_n 1, 1) := by decide +kernel
theorem dX4_fraction_1 : decode cX4_fraction 1 = .ok (.istore_n 3, 1) := by decide +kernel
theorem dX4_fraction_2 : decode cX4_fraction 2 = .ok (.iload_n 0, 1) := by decide +kernel
theorem dX4_fraction_3 : decode cX4_fraction 3 = .ok (.istore 4, 2) := by decide +kernel
theorem dX4_fraction_5 : decode cX4_fraction 5 = .ok (.iconst 0, 1) := by decide +kernel
theorem dX4_fraction_6 : decode cX4_fraction 6 = .ok (.istore 5, 2) := by decide +kernel
theorem dX4_fraction_8 : decode cX4_fraction 8 = .ok (.iload 4, 2) := by decide +kernel
theorem dX4_fraction_10 : decode cX4_fraction 10 = .ok (.ifCond .le 29, 3) := by decide +kernel
theorem dX4_fraction_13 : decode cX4_fraction 13 = .ok (.iload 5, 2) := by decide +kernel
theorem dX4_fraction_15 : decode cX4_fraction 15 = .ok (.bipush 64, 2) := by decide +kernel
theorem dX4_fraction_17 : decode cX4_fraction 17 = .ok (.if_icmp .ge 22, 3) := by decide +kernel
theorem dX4_fraction_20 : decode cX4_fraction 20 = .ok (.iload_n 3, 1) := by decide +kernel
theorem dX4_fraction_21 : decode cX4_fraction 21 = .ok (.iload 4, 2) := by decide +kernel
theorem dX4_fraction_23 : decode cX4_fraction 23 = .ok (.irem, 1) := by decide +kernel
theorem dX4_fraction_24 : decode cX4_fraction 24 = .ok (.istore 6, 2) := by decide +kernel
theorem dX4_fraction_26 : decode cX4_fraction 26 = .ok (.iload 4, 2) := by decide +kernel
theorem dX4_fraction_28 : decode cX4_fraction 28 = .ok (.istore_n 3, 1) := by decide +kernel
theorem dX4_fraction_29 : decode cX4_fraction 29 = .ok (.iload 6, 2) := by decide +kernel
theorem dX4_fraction_31 : decode cX4_fraction 31 = .ok (.istore 4, 2) := by decide +kernel
theorem dX4_fraction_33 : decode cX4_fraction 33 = .ok (.iinc 5 1, 3) := by decide +kernel
theorem dX4_fraction_36 : decode cX4_fraction 36 = .ok (.goto (-28), 3) := by decide +kernel
theorem dX4_fraction_39 : decode cX4_fraction 39 = .ok (.iload_n 3, 1) := by decide +kernel
theorem dX4_fraction_40 : decode cX4_fraction 40 = .ok (.ifCond .le 17, 3) := by decide +kernel
theorem dX4_fraction_43 : decode cX4_fraction 43 = .ok (.iload_n 2, 1) := by decide +kernel
theorem dX4_fraction_44 : decode cX4_fraction 44 = .ok (.ifCond .eq 7, 3) := by decide +kernel
theorem dX4_fraction_47 : decode cX4_fraction 47 = .ok (.iload_n 0, 1) := by decide +kernel
theorem dX4_fraction_48 : decode cX4_fraction 48 = .ok (.goto 4, 3) := by decide +kernel
theorem dX4_fraction_51 : decode cX4_fraction 51 = .ok (.iload_n 1, 1) := by decide +kernel
theorem dX4_fraction_52 : decode cX4_fraction 52 = .ok (.iload_n 3, 1) := by decide +kernel
theorem dX4_fraction_53 : decode cX4_fraction 53 = .ok (.idiv, 1) := by decide +kernel
theorem dX4_fraction_54 : decode cX4_fraction 54 = .ok (.goto 4, 3) := by decide +kernel
theorem dX4_fraction_57 : decode cX4_fraction 57 = .ok (.iconst 0, 1) := by decide +kernel
theorem dX4_fraction_58 : decode cX4_fraction 58 = .ok (.ireturn, 1) := by decide +kernel
theorem dX5_init_0 : decode cX5_init 0 = .ok (.aload_n 0, 1) := by decide +kernel
theorem dX5_init_1 : decode cX5_init 1 = .ok (.invokespecial 1, 3) := by decide +kernel
theorem dX5_init_4 : decode cX5_init 4 = .ok (.aload_n 0, 1) := by decide +kernel
theorem dX5_init_5 : decode cX5_init 5 = .ok (.bipush 48, 2) := by decide +kernel
theorem dX5_init_7 : decode cX5_init 7 = .ok (.newarray .int, 2) := by decide +kernel
theorem dX5_init_9 : decode cX5_init 9 = .ok (.putfield 7, 3) := by decide +kernel
theorem dX5_init_12 : decode cX5_init 12 = .ok (.aload_n 0, 1) := by decide +kernel
theorem dX5_init_13 : decode cX5_init 13 = .ok (.iconst 5, 1) := by decide +kernel
theorem dX5_init_14 : decode cX5_init 14 = .ok (.newarray .int, 2) := by decide +kernel
theorem dX5_init_16 : decode cX5_init 16 = .ok (.putfield 13, 3) := by decide +kernel
theorem dX5_init_19 : decode cX5_init 19 = .ok (.aload_n 0, 1) := by decide +kernel
theorem dX5_init_20 : decode cX5_init 20 = .ok (.bipush 15, 2) := by decide +kernel
theorem dX5_init_22 : decode cX5_init 22 = .ok (.newarray .int, 2) := by decide +kernel
theorem dX5_init_24 : decode cX5_init 24 = .ok (.putfield 16, 3) := by decide +kernel
theorem dX5_init_27 : decode cX5_init 27 = .ok (.aload_n 0, 1) := by decide +kernel
theorem dX5_init_28 : decode cX5_init 28 = .ok (.iconst 5, 1) := by decide +kernel
theorem dX5_init_29 : decode cX5_init 29 = .ok (.newarray .int, 2) := by decide +kernel
theorem dX5_init_31 : decode cX5_init 31 = .ok (.putfield 19, 3) := by decide +kernel
theorem dX5_init_34 : decode cX5_init 34 = .ok (.aload_n 0, 1) := by decide +kernel
theorem dX5_init_35 : decode cX5_init 35 = .ok (.bipush 43, 2) := by decide +kernel
theorem dX5_init_37 : decode cX5_init 37 = .ok (.newarray .int, 2) := by decide +kernel
theorem dX5_init_39 : decode cX5_init 39 = .ok (.putfield 22, 3) := by decide +kernel
theorem dX5_init_42 : decode cX5_init 42 = .ok (.aload_n 0, 1) := by decide +kernel
theorem dX5_init_43 : decode cX5_init 43 = .ok (.bipush 43, 2) := by decide +kernel
theorem dX5_init_45 : decode cX5_init 45 = .ok (.newarray .int, 2) := by decide +kernel
theorem dX5_init_47 : decode cX5_init 47 = .ok (.putfield 25, 3) := by decide +kernel
theorem dX5_init_50 : decode cX5_init 50 = .ok (.aload_n 0, 1) := by decide +kernel
theorem dX5_init_51 : decode cX5_init 51 = .ok (.sipush 602, 3) := by decide +kernel
theorem dX5_init_54 : decode cX5_init 54 = .ok (.newarray .int, 2) := by decide +kernel
theorem dX5_init_56 : decode cX5_init 56 = .ok (.putfield 28, 3) := by decide +kernel
theorem dX5_init_59 : decode cX5_init 59 = .ok (.aload_n 0, 1) := by decide +kernel
theorem dX5_init_60 : decode cX5_init 60 = .ok (.bipush 86, 2) := by decide +kernel
theorem dX5_init_62 : decode cX5_init 62 = .ok (.newarray .int, 2) := by decide +kernel
theorem dX5_init_64 : decode cX5_init 64 = .ok (.putfield 31, 3) := by decide +kernel
theorem dX5_init_67 : decode cX5_init 67 = .ok (.aload_n 0, 1) := by decide +kernel
theorem dX5_init_68 : decode cX5_init 68 = .ok (.iconst 2, 1) := by decide +kernel
theorem dX5_init_69 : decode cX5_init 69 = .ok (.newarray .boolean, 2) := by decide +kernel
theorem dX5_init_71 : decode cX5_init 71 = .ok (.putfield 34, 3) := by decide +kernel
theorem dX5_init_74 : decode cX5_init 74 = .ok (.aload_n 0, 1) := by decide +kernel
theorem dX5_init_75 : decode cX5_init 75 = .ok (.bipush 32, 2) := by decide +kernel
theorem dX5_init_77 : decode cX5_init 77 = .ok (.newarray .int, 2) := by decide +kernel
theorem dX5_init_79 : decode cX5_init 79 = .ok (.putfield 38, 3) := by decide +kernel
theorem dX5_init_82 : decode cX5_init 82 = .ok (.return_, 1) := by decide +kernel
theorem dX5_in_0 : decode cX5_in 0 = .ok (.lload_n 0, 1) := by decide +kernel
theorem dX5_in_1 : decode cX5_in 1 = .ok (.lload_n 2, 1) := by decide +kernel
theorem dX5_in_2 : decode cX5_in 2 = .ok (.lcmp, 1) := by decide +kernel
theorem dX5_in_3 : decode cX5_in 3 = .ok (.ifCond .lt 14, 3) := by decide +kernel
theorem dX5_in_6 : decode cX5_in 6 = .ok (.lload_n 0, 1) := by decide +kernel
theorem dX5_in_7 : decode cX5_in 7 = .ok (.lload 4, 2) := by decide +kernel
theorem dX5_in_9 : decode cX5_in 9 = .ok (.lcmp, 1) := by decide +kernel
theorem dX5_in_10 : decode cX5_in 10 = .ok (.ifCond .gt 7, 3) := by decide +kernel
theorem dX5_in_13 : decode cX5_in 13 = .ok (.iconst 1, 1) := by decide +kernel
theorem dX5_in_14 : decode cX5_in 14 = .ok (.goto 4, 3) := by decide +kernel
theorem dX5_in_17 : decode cX5_in 17 = .ok (.iconst 0, 1) := by decide +kernel
theorem dX5_in_18 : decode cX5_in 18 = .ok (.ireturn, 1) := by decide +kernel
theorem dX5_has_0 : decode cX5_has 0 = .ok (.iload_n 0, 1) := by decide +kernel
theorem dX5_has_1 : decode cX5_has 1 = .ok (.iload_n 1, 1) := by decide +kernel
theorem dX5_has_2 : decode cX5_has 2 = .ok (.ishr, 1) := by decide +kernel
theorem dX5_has_3 : decode cX5_has 3 = .ok (.iconst 1, 1) := by decide +kernel
theorem dX5_has_4 : decode cX5_has 4 = .ok (.iand, 1) := by decide +kernel
theorem dX5_has_5 : decode cX5_has 5 = .ok (.iconst 1, 1) := by decide +kernel
theorem dX5_has_6 : decode cX5_has 6 = .ok (.if_icmp .ne 7, 3) := by decide +kernel
theorem dX5_has_9 : decode cX5_has 9 = .ok (.iconst 1, 1) := by decide +kernel
theorem dX5_has_10 : decode cX5_has 10 = .ok (.goto 4, 3) := by decide +kernel
theorem dX5_has_13 : decode cX5_has 13 = .ok (.iconst 0, 1) := by decide +kernel
theorem dX5_has_14 : decode cX5_has 14 = .ok (.ireturn, 1) := by decide +kernel
theorem dX5_many_0 : decode cX5_many 0 = .ok (.iconst 0, 1) := by decide +kernel
theorem dX5_many_1 : decode cX5_many 1 = .ok (.istore_n 1, 1) := by decide +kernel
theorem dX5_many_2 : decode cX5_many 2 = .ok (.iconst 0, 1) := by decide +kernel
theorem dX5_many_3 : decode cX5_many 3 = .ok (.istore_n 2, 1) := by decide +kernel
theorem dX5_many_4 : decode cX5_many 4 = .ok (.iload_n 2, 1) := by decide +kernel
theorem dX5_many_5 : decode cX5_many 5 = .ok (.iconst 5, 1) := by decide +kernel
theorem dX5_many_6 : decode cX5_many 6 = .ok (.if_icmp .ge 17, 3) := by decide +kernel
theorem dX5_many_9 : decode cX5_many 9 = .ok (.iload_n 1, 1) := by decide +kernel
theorem dX5_many_10 : decode cX5_many 10 = .ok (.iload_n 0, 1) := by decide +kernel
theorem dX5_many_11 : decode cX5_many 11 = .ok (.iload_n 2, 1) := by decide +kernel
theorem dX5_many_12 : decode cX5_many 12 = .ok (.ishr, 1) := by decide +kernel
theorem dX5_many_13 : decode cX5_many 13 = .ok (.iconst 1, 1) := by decide +kernel
theorem dX5_many_14 : decode cX5_many 14 = .ok (.iand, 1) := by decide +kernel
theorem dX5_many_15 : decode cX5_many 15 = .ok (.iadd, 1) := by decide +kernel
theorem dX5_many_16 : decode cX5_many 16 = .ok (.istore_n 1, 1) := by decide +kernel
theorem dX5_many_17 : decode cX5_many 17 = .ok (.iinc 2 1, 3) := by decide +kernel
theorem dX5_many_20 : decode cX5_many 20 = .ok (.goto (-16), 3) := by decide +kernel
theorem dX5_many_23 : decode cX5_many 23 = .ok (.iload_n 1, 1) := by decide +kernel
theorem dX5_many_24 : decode cX5_many 24 = .ok (.ireturn, 1) := by decide +kernel
theorem dX5_noPerson_0 : decode cX5_noPerson 0 = .ok (.iload_n 1, 1) := by decide +kernel
theorem dX5_noPerson_1 : decode cX5_noPerson 1 = .ok (.i2l, 1) := by decide +kernel
theorem dX5_noPerson_2 : decode cX5_noPerson 2 = .ok (.lconst 0, 1) := by decide +kernel
theorem dX5_noPerson_3 : decode cX5_noPerson 3 = .ok (.aload_n 0, 1) := by decide +kernel
theorem dX5_noPerson_4 : decode cX5_noPerson 4 = .ok (.getfield 45, 3) := by decide +kernel
theorem dX5_noPerson_7 : decode cX5_noPerson 7 = .ok (.iconst 1, 1) := by decide +kernel
theorem dX5_noPerson_8 : decode cX5_noPerson 8 = .ok (.isub, 1) := by decide +kernel
theorem dX5_noPerson_9 : decode cX5_noPerson 9 = .ok (.i2l, 1) := by decide +kernel
theorem dX5_noPerson_10 : decode cX5_noPerson 10 = .ok (.invokestatic 48, 3) := by decide +kernel
theorem dX5_noPerson_13 : decode cX5_noPerson 13 = .ok (.ifCond .ne 7, 3) := by decide +kernel
theorem dX5_noPerson_16 : decode cX5_noPerson 16 = .ok (.iconst 1, 1) := by decide +kernel
theorem dX5_noPerson_17 : decode cX5_noPerson 17 = .ok (.goto 4, 3) := by decide +kernel
theorem dX5_noPerson_20 : decode cX5_noPerson 20 = .ok (.iconst 0, 1) := by decide +kernel
theorem dX5_noPerson_21 : decode cX5_noPerson 21 = .ok (.ireturn, 1) := by decide +kernel
theorem dX5_everyone_0 : decode cX5_everyone 0 = .ok (.iconst 1, 1) := by decide +kernel
theorem dX5_everyone_1 : decode cX5_everyone 1 = .ok (.aload_n 0, 1) := by decide +kernel
theorem dX5_everyone_2 : decode cX5_everyone 2 = .ok (.getfield 45, 3) := by decide +kernel
theorem dX5_everyone_5 : decode cX5_everyone 5 = .ok (.ishl, 1) := by decide +kernel
theorem dX5_everyone_6 : decode cX5_everyone 6 = .ok (.iconst 1, 1) := by decide +kernel
theorem dX5_everyone_7 : decode cX5_everyone 7 = .ok (.isub, 1) := by decide +kernel
theorem dX5_everyone_8 : decode cX5_everyone 8 = .ok (.ireturn, 1) := by decide +kernel
theorem dX5_write_0 : decode cX5_write 0 = .ok (.aload_n 0, 1) := by decide +kernel
theorem dX5_write_1 : decode cX5_write 1 = .ok (.iconst 0, 1) := by decide +kernel
theorem dX5_write_2 : decode cX5_write 2 = .ok (.putfield 41, 3) := by decide +kernel
theorem dX5_write_5 : decode cX5_write 5 = .ok (.iload_n 1, 1) := by decide +kernel
theorem dX5_write_6 : decode cX5_write 6 = .ok (.i2l, 1) := by decide +kernel
theorem dX5_write_7 : decode cX5_write 7 = .ok (.lconst 0, 1) := by decide +kernel
theorem dX5_write_8 : decode cX5_write 8 = .ok (.ldc2_w 52, 3) := by decide +kernel
theorem dX5_write_11 : decode cX5_write 11 = .ok (.invokestatic 48, 3) := by decide +kernel
theorem dX5_write_14 : decode cX5_write 14 = .ok (.ifCond .ne 6, 3) := by decide +kernel
theorem dX5_write_17 : decode cX5_write 17 = .ok (.bipush (-2), 2) := by decide +kernel
theorem dX5_write_19 : decode cX5_write 19 = .ok (.ireturn, 1) := by decide +kernel
theorem dX5_write_20 : decode cX5_write 20 = .ok (.aload_n 0, 1) := by decide +kernel
theorem dX5_write_21 : decode cX5_write 21 = .ok (.getfield 54, 3) := by decide +kernel
theorem dX5_write_24 : decode cX5_write 24 = .ok (.bipush 48, 2) := by decide +kernel
theorem dX5_write_26 : decode cX5_write 26 = .ok (.if_icmp .ne 6, 3) := by decide +kernel
theorem dX5_write_29 : decode cX5_write 29 = .ok (.bipush (-4), 2) := by decide +kernel
theorem dX5_write_31 : decode cX5_write 31 = .ok (.ireturn, 1) := by decide +kernel
theorem dX5_write_32 : decode cX5_write 32 = .ok (.aload_n 0, 1) := by decide +kernel
theorem dX5_write_33 : decode cX5_write 33 = .ok (.getfield 7, 3) := by decide +kernel
theorem dX5_write_36 : decode cX5_write 36 = .ok (.aload_n 0, 1) := by decide +kernel
theorem dX5_write_37 : decode cX5_write 37 = .ok (.getfield 54, 3) := by decide +kernel
theorem dX5_write_40 : decode cX5_write 40 = .ok (.iload_n 1, 1) := by decide +kernel
theorem dX5_write_41 : decode cX5_write 41 = .ok (.iastore, 1) := by decide +kernel
theorem dX5_write_42 : decode cX5_write 42 = .ok (.aload_n 0, 1) := by decide +kernel
theorem dX5_write_43 : decode cX5_write 43 = .ok (.dup, 1) := by decide +kernel
theorem dX5_write_44 : decode cX5_write 44 = .ok (.getfield 54, 3) := by decide +kernel
theorem dX5_write_47 : decode cX5_write 47 = .ok (.iconst 1, 1) := by decide +kernel
theorem dX5_write_48 : decode cX5_write 48 = .ok (.iadd, 1) := by decide +kernel
theorem dX5_write_49 : decode cX5_write 49 = .ok (.putfield 54, 3) := by decide +kernel
theorem dX5_write_52 : decode cX5_write 52 = .ok (.aload_n 0, 1) := by decide +kernel
theorem dX5_write_53 : decode cX5_write 53 = .ok (.getfield 54, 3) := by decide +kernel
theorem dX5_write_56 : decode cX5_write 56 = .ok (.ireturn, 1) := by decide +kernel
theorem dX5_wipe_0 : decode cX5_wipe 0 = .ok (.aload_n 0, 1) := by decide +kernel
theorem dX5_wipe_1 : decode cX5_wipe 1 = .ok (.iconst 0, 1) := by decide +kernel
theorem dX5_wipe_2 : decode cX5_wipe 2 = .ok (.putfield 41, 3) := by decide +kernel
theorem dX5_wipe_5 : decode cX5_wipe 5 = .ok (.aload_n 0, 1) := by decide +kernel
theorem dX5_wipe_6 : decode cX5_wipe 6 = .ok (.getfield 54, 3) := by decide +kernel
theorem dX5_wipe_9 : decode cX5_wipe 9 = .ok (.istore_n 1, 1) := by decide +kernel
theorem dX5_wipe_10 : decode cX5_wipe 10 = .ok (.aload_n 0, 1) := by decide +kernel
theorem dX5_wipe_11 : decode cX5_wipe 11 = .ok (.iconst 0, 1) := by decide +kernel
theorem dX5_wipe_12 : decode cX5_wipe 12 = .ok (.putfield 54, 3) := by decide +kernel
theorem dX5_wipe_15 : decode cX5_wipe 15 = .ok (.iload_n 1, 1) := by decide +kernel
theorem dX5_wipe_16 : decode cX5_wipe 16 = .ok (.ireturn, 1) := by decide +kernel
theorem dX5_figure_0 : decode cX5_figure 0 = .ok (.aload_n 0, 1) := by decide +kernel
theorem dX5_figure_1 : decode cX5_figure 1 = .ok (.getfield 57, 3) := by decide +kernel
theorem dX5_figure_4 : decode cX5_figure 4 = .ok (.aload_n 0, 1) := by decide +kernel
theorem dX5_figure_5 : decode cX5_figure 5 = .ok (.getfield 54, 3) := by decide +kernel
theorem dX5_figure_8 : decode cX5_figure 8 = .ok (.if_icmp .eq 26, 3) := by decide +kernel
theorem dX5_figure_11 : decode cX5_figure 11 = .ok (.aload_n 0, 1) := by decide +kernel
theorem dX5_figure_12 : decode cX5_figure 12 = .ok (.getfield 7, 3) := by decide +kernel
theorem dX5_figure_15 : decode cX5_figure 15 = .ok (.aload_n 0, 1) := by decide +kernel
theorem dX5_figure_16 : decode cX5_figure 16 = .ok (.getfield 57, 3) := by decide +kernel
theorem dX5_figure_19 : decode cX5_figure 19 = .ok (.iaload, 1) := by decide +kernel
theorem dX5_figure_20 : decode cX5_figure 20 = .ok (.bipush 48, 2) := by decide +kernel
theorem dX5_figure_22 : decode cX5_figure 22 = .ok (.isub, 1) := by decide +kernel
theorem dX5_figure_23 : decode cX5_figure 23 = .ok (.i2l, 1) := by decide +kernel
theorem dX5_figure_24 : decode cX5_figure 24 = .ok (.iload_n 1, 1) := by decide +kernel
theorem dX5_figure_25 : decode cX5_figure 25 = .ok (.i2l, 1) := by decide +kernel
theorem dX5_figure_26 : decode cX5_figure 26 = .ok (.iload_n 2, 1) := by decide +kernel
theorem dX5_figure_27 : decode cX5_figure 27 = .ok (.i2l, 1) := by decide +kernel
theorem dX5_figure_28 : decode cX5_figure 28 = .ok (.invokestatic 48, 3) := by decide +kernel
theorem dX5_figure_31 : decode cX5_figure 31 = .ok (.ifCond .ne 6, 3) := by decide +kernel
theorem dX5_figure_34 : decode cX5_figure 34 = .ok (.bipush (-9), 2) := by decide +kernel
theorem dX5_figure_36 : decode cX5_figure 36 = .ok (.ireturn, 1) := by decide +kernel
theorem dX5_figure_37 : decode cX5_figure 37 = .ok (.aload_n 0, 1) := by decide +kernel
theorem dX5_figure_38 : decode cX5_figure 38 = .ok (.dup, 1) := by decide +kernel
theorem dX5_figure_39 : decode cX5_figure 39 = .ok (.getfield 57, 3) := by decide +kernel
theorem dX5_figure_42 : decode cX5_figure 42 = .ok (.iconst 1, 1) := by decide +kernel
theorem dX5_figure_43 : decode cX5_figure 43 = .ok (.iadd, 1) := by decide +kernel
theorem dX5_figure_44 : decode cX5_figure 44 = .ok (.putfield 57, 3) := by decide +kernel
theorem dX5_figure_47 : decode cX5_figure 47 = .ok (.aload_n 0, 1) := by decide +kernel
theorem dX5_figure_48 : decode cX5_figure 48 = .ok (.getfield 7, 3) := by decide +kernel
theorem dX5_figure_51 : decode cX5_figure 51 = .ok (.aload_n 0, 1) := by decide +kernel
theorem dX5_figure_52 : decode cX5_figure 52 = .ok (.getfield 57, 3) := by decide +kernel
theorem dX5_figure_55 : decode cX5_figure 55 = .ok (.iconst 1, 1) := by decide +kernel
theorem dX5_figure_56 : decode cX5_figure 56 = .ok (.isub, 1) := by decide +kernel
theorem dX5_figure_57 : decode cX5_figure 57 = .ok (.iaload, 1) := by decide +kernel
theorem dX5_figure_58 : decode cX5_figure 58 = .ok (.bipush 48, 2) := by decide +kernel
theorem dX5_figure_60 : decode cX5_figure 60 = .ok (.isub, 1) := by decide +kernel
theorem dX5_figure_61 : decode cX5_figure 61 = .ok (.ireturn, 1) := by decide +kernel
theorem dX5_pairsOf_0 : decode cX5_pairsOf 0 = .ok (.iconst 0, 1) := by decide +kernel
theorem dX5_pairsOf_1 : decode cX5_pairsOf 1 = .ok (.istore_n 2, 1) := by decide +kernel
theorem dX5_pairsOf_2 : decode cX5_pairsOf 2 = .ok (.iload_n 1, 1) := by decide +kernel
theorem dX5_pairsOf_3 : decode cX5_pairsOf 3 = .ok (.iconst 1, 1) := by decide +kernel
theorem dX5_pairsOf_4 : decode cX5_pairsOf 4 = .ok (.iadd, 1) := by decide +kernel
theorem dX5_pairsOf_5 : decode cX5_pairsOf 5 = .ok (.istore_n 3, 1) := by decide +kernel
theorem dX5_pairsOf_6 : decode cX5_pairsOf 6 = .ok (.iload_n 3, 1) := by decide +kernel
theorem dX5_pairsOf_7 : decode cX5_pairsOf 7 = .ok (.aload_n 0, 1) := by decide +kernel
theorem dX5_pairsOf_8 : decode cX5_pairsOf 8 = .ok (.getfield 60, 3) := by decide +kernel
theorem dX5_pairsOf_11 : decode cX5_pairsOf 11 = .ok (.if_icmp .ge 32, 3) := by decide +kernel
theorem dX5_pairsOf_14 : decode cX5_pairsOf 14 = .ok (.iload_n 2, 1) := by decide +kernel
theorem dX5_pairsOf_15 : decode cX5_pairsOf 15 = .ok (.aload_n 0, 1) := by decide +kernel
theorem dX5_pairsOf_16 : decode cX5_pairsOf 16 = .ok (.getfield 19, 3) := by decide +kernel
theorem dX5_pairsOf_19 : decode cX5_pairsOf 19 = .ok (.iload_n 1, 1) := by decide +kernel
theorem dX5_pairsOf_20 : decode cX5_pairsOf 20 = .ok (.iaload, 1) := by decide +kernel
theorem dX5_pairsOf_21 : decode cX5_pairsOf 21 = .ok (.iload_n 3, 1) := by decide +kernel
theorem dX5_pairsOf_22 : decode cX5_pairsOf 22 = .ok (.invokestatic 63, 3) := by decide +kernel
theorem dX5_pairsOf_25 : decode cX5_pairsOf 25 = .ok (.ifCond .eq 7, 3) := by decide +kernel
theorem dX5_pairsOf_28 : decode cX5_pairsOf 28 = .ok (.iconst 0, 1) := by decide +kernel
theorem dX5_pairsOf_29 : decode cX5_pairsOf 29 = .ok (.goto 6, 3) := by decide +kernel
theorem dX5_pairsOf_32 : decode cX5_pairsOf 32 = .ok (.iconst 1, 1) := by decide +kernel
theorem dX5_pairsOf_33 : decode cX5_pairsOf 33 = .ok (.iload_n 3, 1) := by decide +kernel
theorem dX5_pairsOf_34 : decode cX5_pairsOf 34 = .ok (.ishl, 1) := by decide +kernel
theorem dX5_pairsOf_35 : decode cX5_pairsOf 35 = .ok (.ior, 1) := by decide +kernel
theorem dX5_pairsOf_36 : decode cX5_pairsOf 36 = .ok (.istore_n 2, 1) := by decide +kernel
theorem dX5_pairsOf_37 : decode cX5_pairsOf 37 = .ok (.iinc 3 1, 3) := by decide +kernel
theorem dX5_pairsOf_40 : decode cX5_pairsOf 40 = .ok (.goto (-34), 3) := by decide +kernel
theorem dX5_pairsOf_43 : decode cX5_pairsOf 43 = .ok (.iload_n 2, 1) := by decide +kernel
theorem dX5_pairsOf_44 : decode cX5_pairsOf 44 = .ok (.ireturn, 1) := by decide +kernel
theorem dX5_arePairs_0 : decode cX5_arePairs 0 = .ok (.iconst 0, 1) := by decide +kernel
theorem dX5_arePairs_1 : decode cX5_arePairs 1 = .ok (.istore_n 1, 1) := by decide +kernel
theorem dX5_arePairs_2 : decode cX5_arePairs 2 = .ok (.iconst 0, 1) := by decide +kernel
theorem dX5_arePairs_3 : decode cX5_arePairs 3 = .ok (.istore_n 2, 1) := by decide +kernel
theorem dX5_arePairs_4 : decode cX5_arePairs 4 = .ok (.iload_n 2, 1) := by decide +kernel
theorem dX5_arePairs_5 : decode cX5_arePairs 5 = .ok (.aload_n 0, 1) := by decide +kernel
theorem dX5_arePairs_6 : decode cX5_arePairs 6 = .ok (.getfield 60, 3) := by decide +kernel
theorem dX5_arePairs_9 : decode cX5_arePairs 9 = .ok (.if_icmp .ge 27, 3) := by decide +kernel
theorem dX5_arePairs_12 : decode cX5_arePairs 12 = .ok (.iload_n 1, 1) := by decide +kernel
theorem dX5_arePairs_13 : decode cX5_arePairs 13 = .ok (.ifCond .ne 11, 3) := by decide +kernel
theorem dX5_arePairs_16 : decode cX5_arePairs 16 = .ok (.aload_n 0, 1) := by decide +kernel
theorem dX5_arePairs_17 : decode cX5_arePairs 17 = .ok (.iload_n 2, 1) := by decide +kernel
theorem dX5_arePairs_18 : decode cX5_arePairs 18 = .ok (.invokevirtual 67, 3) := by decide +kernel
theorem dX5_arePairs_21 : decode cX5_arePairs 21 = .ok (.ifCond .eq 7, 3) := by decide +kernel
theorem dX5_arePairs_24 : decode cX5_arePairs 24 = .ok (.iconst 1, 1) := by decide +kernel
theorem dX5_arePairs_25 : decode cX5_arePairs 25 = .ok (.goto 4, 3) := by decide +kernel
theorem dX5_arePairs_28 : decode cX5_arePairs 28 = .ok (.iconst 0, 1) := by decide +kernel
theorem dX5_arePairs_29 : decode cX5_arePairs 29 = .ok (.istore_n 1, 1) := by decide +kernel
theorem dX5_arePairs_30 : decode cX5_arePairs 30 = .ok (.iinc 2 1, 3) := by decide +kernel
theorem dX5_arePairs_33 : decode cX5_arePairs 33 = .ok (.goto (-29), 3) := by decide +kernel
theorem dX5_arePairs_36 : decode cX5_arePairs 36 = .ok (.iload_n 1, 1) := by decide +kernel
theorem dX5_arePairs_37 : decode cX5_arePairs 37 = .ok (.ireturn, 1) := by decide +kernel
theorem dX5_readPerson_0 : decode cX5_readPerson 0 = .ok (.iconst 3, 1) := by decide +kernel
theorem dX5_readPerson_1 : decode cX5_readPerson 1 = .ok (.aload_n 0, 1) := by decide +kernel
theorem dX5_readPerson_2 : decode cX5_readPerson 2 = .ok (.getfield 60, 3) := by decide +kernel
theorem dX5_readPerson_5 : decode cX5_readPerson 5 = .ok (.imul, 1) := by decide +kernel
theorem dX5_readPerson_6 : decode cX5_readPerson 6 = .ok (.istore_n 1, 1) := by decide +kernel
theorem dX5_readPerson_7 : decode cX5_readPerson 7 = .ok (.iconst 0, 1) := by decide +kernel
theorem dX5_readPerson_8 : decode cX5_readPerson 8 = .ok (.istore_n 2, 1) := by decide +kernel
theorem dX5_readPerson_9 : decode cX5_readPerson 9 = .ok (.iload_n 2, 1) := by decide +kernel
theorem dX5_readPerson_10 : decode cX5_readPerson 10 = .ok (.iconst 3, 1) := by decide +kernel
theorem dX5_readPerson_11 : decode cX5_readPerson 11 = .ok (.if_icmp .ge 43, 3) := by decide +kernel
theorem dX5_readPerson_14 : decode cX5_readPerson 14 = .ok (.aload_n 0, 1) := by decide +kernel
theorem dX5_readPerson_15 : decode cX5_readPerson 15 = .ok (.iconst 0, 1) := by decide +kernel
theorem dX5_readPerson_16 : decode cX5_readPerson 16 = .ok (.iload_n 2, 1) := by decide +kernel
theorem dX5_readPerson_17 : decode cX5_readPerson 17 = .ok (.iconst 2, 1) := by decide +kernel
theorem dX5_readPerson_18 : decode cX5_readPerson 18 = .ok (.if_icmp .ne 7, 3) := by decide +kernel
theorem dX5_readPerson_21 : decode cX5_readPerson 21 = .ok (.iconst 3, 1) := by decide +kernel
theorem dX5_readPerson_22 : decode cX5_readPerson 22 = .ok (.goto 5, 3) := by decide +kernel
theorem dX5_readPerson_25 : decode cX5_readPerson 25 = .ok (.bipush 9, 2) := by decide +kernel
theorem dX5_readPerson_27 : decode cX5_readPerson 27 = .ok (.invokevirtual 71, 3) := by decide +kernel
theorem dX5_readPerson_30 : decode cX5_readPerson 30 = .ok (.istore_n 3, 1) := by decide +kernel
theorem dX5_readPerson_31 : decode cX5_readPerson 31 = .ok (.iload_n 3, 1) := by decide +kernel
theorem dX5_readPerson_32 : decode cX5_readPerson 32 = .ok (.bipush (-9), 2) := by decide +kernel
theorem dX5_readPerson_34 : decode cX5_readPerson 34 = .ok (.if_icmp .ne 5, 3) := by decide +kernel
theorem dX5_readPerson_37 : decode cX5_readPerson 37 = .ok (.iconst 0, 1) := by decide +kernel
theorem dX5_readPerson_38 : decode cX5_readPerson 38 = .ok (.ireturn, 1) := by decide +kernel
theorem dX5_readPerson_39 : decode cX5_readPerson 39 = .ok (.aload_n 0, 1) := by decide +kernel
theorem dX5_readPerson_40 : decode cX5_readPerson 40 = .ok (.getfield 16, 3) := by decide +kernel
theorem dX5_readPerson_43 : decode cX5_readPerson 43 = .ok (.iload_n 1, 1) := by decide +kernel
theorem dX5_readPerson_44 : decode cX5_readPerson 44 = .ok (.iload_n 2, 1) := by decide +kernel
theorem dX5_readPerson_45 : decode cX5_readPerson 45 = .ok (.iadd, 1) := by decide +kernel
theorem dX5_readPerson_46 : decode cX5_readPerson 46 = .ok (.iload_n 3, 1) := by decide +kernel
theorem dX5_readPerson_47 : decode cX5_readPerson 47 = .ok (.iastore, 1) := by decide +kernel
theorem dX5_readPerson_48 : decode cX5_readPerson 48 = .ok (.iinc 2 1, 3) := by decide +kernel
theorem dX5_readPerson_51 : decode cX5_readPerson 51 = .ok (.goto (-42), 3) := by decide +kernel
theorem dX5_readPerson_54 : decode cX5_readPerson 54 = .ok (.aload_n 0, 1) := by decide +kernel
theorem dX5_readPerson_55 : decode cX5_readPerson 55 = .ok (.getfield 19, 3) := by decide +kernel
theorem dX5_readPerson_58 : decode cX5_readPerson 58 = .ok (.aload_n 0, 1) := by decide +kernel
theorem dX5_readPerson_59 : decode cX5_readPerson 59 = .ok (.getfield 60, 3) := by decide +kernel
theorem dX5_readPerson_62 : decode cX5_readPerson 62 = .ok (.iconst 0, 1) := by decide +kernel
theorem dX5_readPerson_63 : decode cX5_readPerson 63 = .ok (.iastore, 1) := by decide +kernel
theorem dX5_readPerson_64 : decode cX5_readPerson 64 = .ok (.aload_n 0, 1) := by decide +kernel
theorem dX5_readPerson_65 : decode cX5_readPerson 65 = .ok (.dup, 1) := by decide +kernel
theorem dX5_readPerson_66 : decode cX5_readPerson 66 = .ok (.getfield 60, 3) := by decide +kernel
theorem dX5_readPerson_69 : decode cX5_readPerson 69 = .ok (.iconst 1, 1) := by decide +kernel
theorem dX5_readPerson_70 : decode cX5_readPerson 70 = .ok (.iadd, 1) := by decide +kernel
theorem dX5_readPerson_71 : decode cX5_readPerson 71 = .ok (.putfield 60, 3) := by decide +kernel
theorem dX5_readPerson_74 : decode cX5_readPerson 74 = .ok (.iconst 1, 1) := by decide +kernel
theorem dX5_readPerson_75 : decode cX5_readPerson 75 = .ok (.ireturn, 1) := by decide +kernel
theorem dX5_readKin_0 : decode cX5_readKin 0 = .ok (.aload_n 0, 1) := by decide +kernel
theorem dX5_readKin_1 : decode cX5_readKin 1 = .ok (.getfield 57, 3) := by decide +kernel
theorem dX5_readKin_4 : decode cX5_readKin 4 = .ok (.aload_n 0, 1) := by decide +kernel
theorem dX5_readKin_5 : decode cX5_readKin 5 = .ok (.getfield 54, 3) := by decide +kernel
theorem dX5_readKin_8 : decode cX5_readKin 8 = .ok (.if_icmp .ge 18, 3) := by decide +kernel
theorem dX5_readKin_11 : decode cX5_readKin 11 = .ok (.aload_n 0, 1) := by decide +kernel
theorem dX5_readKin_12 : decode cX5_readKin 12 = .ok (.getfield 7, 3) := by decide +kernel
theorem dX5_readKin_15 : decode cX5_readKin 15 = .ok (.aload_n 0, 1) := by decide +kernel
theorem dX5_readKin_16 : decode cX5_readKin 16 = .ok (.getfield 57, 3) := by decide +kernel
theorem dX5_readKin_19 : decode cX5_readKin 19 = .ok (.iaload, 1) := by decide +kernel
theorem dX5_readKin_20 : decode cX5_readKin 20 = .ok (.bipush 48, 2) := by decide +kernel
theorem dX5_readKin_22 : decode cX5_readKin 22 = .ok (.isub, 1) := by decide +kernel
theorem dX5_readKin_23 : decode cX5_readKin 23 = .ok (.goto 5, 3) := by decide +kernel
theorem dX5_readKin_26 : decode cX5_readKin 26 = .ok (.bipush (-9), 2) := by decide +kernel
theorem dX5_readKin_28 : decode cX5_readKin 28 = .ok (.istore_n 1, 1) := by decide +kernel
theorem dX5_readKin_29 : decode cX5_readKin 29 = .ok (.iload_n 1, 1) := by decide +kernel
theorem dX5_readKin_30 : decode cX5_readKin 30 = .ok (.i2l, 1) := by decide +kernel
theorem dX5_readKin_31 : decode cX5_readKin 31 = .ok (.lconst 0, 1) := by decide +kernel
theorem dX5_readKin_32 : decode cX5_readKin 32 = .ok (.aload_n 0, 1) := by decide +kernel
theorem dX5_readKin_33 : decode cX5_readKin 33 = .ok (.getfield 60, 3) := by decide +kernel
theorem dX5_readKin_36 : decode cX5_readKin 36 = .ok (.iconst 1, 1) := by decide +kernel
theorem dX5_readKin_37 : decode cX5_readKin 37 = .ok (.isub, 1) := by decide +kernel
theorem dX5_readKin_38 : decode cX5_readKin 38 = .ok (.i2l, 1) := by decide +kernel
theorem dX5_readKin_39 : decode cX5_readKin 39 = .ok (.invokestatic 48, 3) := by decide +kernel
theorem dX5_readKin_42 : decode cX5_readKin 42 = .ok (.ifCond .eq 11, 3) := by decide +kernel
theorem dX5_readKin_45 : decode cX5_readKin 45 = .ok (.aload_n 0, 1) := by decide +kernel
theorem dX5_readKin_46 : decode cX5_readKin 46 = .ok (.iload_n 1, 1) := by decide +kernel
theorem dX5_readKin_47 : decode cX5_readKin 47 = .ok (.invokevirtual 67, 3) := by decide +kernel
theorem dX5_readKin_50 : decode cX5_readKin 50 = .ok (.ifCond .ne 5, 3) := by decide +kernel
theorem dX5_readKin_53 : decode cX5_readKin 53 = .ok (.iconst 0, 1) := by decide +kernel
theorem dX5_readKin_54 : decode cX5_readKin 54 = .ok (.ireturn, 1) := by decide +kernel
theorem dX5_readKin_55 : decode cX5_readKin 55 = .ok (.aload_n 0, 1) := by decide +kernel
theorem dX5_readKin_56 : decode cX5_readKin 56 = .ok (.dup, 1) := by decide +kernel
theorem dX5_readKin_57 : decode cX5_readKin 57 = .ok (.getfield 57, 3) := by decide +kernel
theorem dX5_readKin_60 : decode cX5_readKin 60 = .ok (.iconst 1, 1) := by decide +kernel
theorem dX5_readKin_61 : decode cX5_readKin 61 = .ok (.iadd, 1) := by decide +kernel
theorem dX5_readKin_62 : decode cX5_readKin 62 = .ok (.putfield 57, 3) := by decide +kernel
theorem dX5_readKin_65 : decode cX5_readKin 65 = .ok (.aload_n 0, 1) := by decide +kernel
theorem dX5_readKin_66 : decode cX5_readKin 66 = .ok (.getfield 57, 3) := by decide +kernel
theorem dX5_readKin_69 : decode cX5_readKin 69 = .ok (.aload_n 0, 1) := by decide +kernel
theorem dX5_readKin_70 : decode cX5_readKin 70 = .ok (.getfield 54, 3) := by decide +kernel
theorem dX5_readKin_73 : decode cX5_readKin 73 = .ok (.if_icmp .ge 18, 3) := by decide +kernel
theorem dX5_readKin_76 : decode cX5_readKin 76 = .ok (.aload_n 0, 1) := by decide +kernel
theorem dX5_readKin_77 : decode cX5_readKin 77 = .ok (.getfield 7, 3) := by decide +kernel
theorem dX5_readKin_80 : decode cX5_readKin 80 = .ok (.aload_n 0, 1) := by decide +kernel
theorem dX5_readKin_81 : decode cX5_readKin 81 = .ok (.getfield 57, 3) := by decide +kernel
theorem dX5_readKin_84 : decode cX5_readKin 84 = .ok (.iaload, 1) := by decide +kernel
theorem dX5_readKin_85 : decode cX5_readKin 85 = .ok (.bipush 48, 2) := by decide +kernel
theorem dX5_readKin_87 : decode cX5_readKin 87 = .ok (.isub, 1) := by decide +kernel
theorem dX5_readKin_88 : decode cX5_readKin 88 = .ok (.goto 5, 3) := by decide +kernel
theorem dX5_readKin_91 : decode cX5_readKin 91 = .ok (.bipush (-9), 2) := by decide +kernel
theorem dX5_readKin_93 : decode cX5_readKin 93 = .ok (.istore_n 2, 1) := by decide +kernel
theorem dX5_readKin_94 : decode cX5_readKin 94 = .ok (.iload_n 2, 1) := by decide +kernel
theorem dX5_readKin_95 : decode cX5_readKin 95 = .ok (.i2l, 1) := by decide +kernel
theorem dX5_readKin_96 : decode cX5_readKin 96 = .ok (.lconst 0, 1) := by decide +kernel
theorem dX5_readKin_97 : decode cX5_readKin 97 = .ok (.aload_n 0, 1) := by decide +kernel
theorem dX5_readKin_98 : decode cX5_readKin 98 = .ok (.getfield 60, 3) := by decide +kernel
theorem dX5_readKin_101 : decode cX5_readKin 101 = .ok (.iconst 1, 1) := by decide +kernel
theorem dX5_readKin_102 : decode cX5_readKin 102 = .ok (.isub, 1) := by decide +kernel
theorem dX5_readKin_103 : decode cX5_readKin 103 = .ok (.i2l, 1) := by decide +kernel
theorem dX5_readKin_104 : decode cX5_readKin 104 = .ok (.invokestatic 48, 3) := by decide +kernel
theorem dX5_readKin_107 : decode cX5_readKin 107 = .ok (.ifCond .eq 15, 3) := by decide +kernel
theorem dX5_readKin_110 : decode cX5_readKin 110 = .ok (.aload_n 0, 1) := by decide +kernel
theorem dX5_readKin_111 : decode cX5_readKin 111 = .ok (.iload_n 1, 1) := by decide +kernel
theorem dX5_readKin_112 : decode cX5_readKin 112 = .ok (.invokevirtual 67, 3) := by decide +kernel
theorem dX5_readKin_115 : decode cX5_readKin 115 = .ok (.iload_n 2, 1) := by decide +kernel
theorem dX5_readKin_116 : decode cX5_readKin 116 = .ok (.invokestatic 63, 3) := by decide +kernel
theorem dX5_readKin_119 : decode cX5_readKin 119 = .ok (.ifCond .ne 5, 3) := by decide +kernel
theorem dX5_readKin_122 : decode cX5_readKin 122 = .ok (.iconst 0, 1) := by decide +kernel
theorem dX5_readKin_123 : decode cX5_readKin 123 = .ok (.ireturn, 1) := by decide +kernel
theorem dX5_readKin_124 : decode cX5_readKin 124 = .ok (.aload_n 0, 1) := by decide +kernel
theorem dX5_readKin_125 : decode cX5_readKin 125 = .ok (.dup, 1) := by decide +kernel
theorem dX5_readKin_126 : decode cX5_readKin 126 = .ok (.getfield 57, 3) := by decide +kernel
theorem dX5_readKin_129 : decode cX5_readKin 129 = .ok (.iconst 1, 1) := by decide +kernel
theorem dX5_readKin_130 : decode cX5_readKin 130 = .ok (.iadd, 1) := by decide +kernel
theorem dX5_readKin_131 : decode cX5_readKin 131 = .ok (.putfield 57, 3) := by decide +kernel
theorem dX5_readKin_134 : decode cX5_readKin 134 = .ok (.aload_n 0, 1) := by decide +kernel
theorem dX5_readKin_135 : decode cX5_readKin 135 = .ok (.getfield 19, 3) := by decide +kernel
theorem dX5_readKin_138 : decode cX5_readKin 138 = .ok (.iload_n 1, 1) := by decide +kernel
theorem dX5_readKin_139 : decode cX5_readKin 139 = .ok (.dup2, 1) := by decide +kernel
theorem dX5_readKin_140 : decode cX5_readKin 140 = .ok (.iaload, 1) := by decide +kernel
theorem dX5_readKin_141 : decode cX5_readKin 141 = .ok (.iconst 1, 1) := by decide +kernel
theorem dX5_readKin_142 : decode cX5_readKin 142 = .ok (.iload_n 2, 1) := by decide +kernel
theorem dX5_readKin_143 : decode cX5_readKin 143 = .ok (.ishl, 1) := by decide +kernel
theorem dX5_readKin_144 : decode cX5_readKin 144 = .ok (.ior, 1) := by decide +kernel
theorem dX5_readKin_145 : decode cX5_readKin 145 = .ok (.iastore, 1) := by decide +kernel
theorem dX5_readKin_146 : decode cX5_readKin 146 = .ok (.aload_n 0, 1) := by decide +kernel
theorem dX5_readKin_147 : decode cX5_readKin 147 = .ok (.getfield 19, 3) := by decide +kernel
theorem dX5_readKin_150 : decode cX5_readKin 150 = .ok (.iload_n 2, 1) := by decide +kernel
theorem dX5_readKin_151 : decode cX5_readKin 151 = .ok (.dup2, 1) := by decide +kernel
theorem dX5_readKin_152 : decode cX5_readKin 152 = .ok (.iaload, 1) := by decide +kernel
theorem dX5_readKin_153 : decode cX5_readKin 153 = .ok (.iconst 1, 1) := by decide +kernel
theorem dX5_readKin_154 : decode cX5_readKin 154 = .ok (.iload_n 1, 1) := by decide +kernel
theorem dX5_readKin_155 : decode cX5_readKin 155 = .ok (.ishl, 1) := by decide +kernel
theorem dX5_readKin_156 : decode cX5_readKin 156 = .ok (.ior, 1) := by decide +kernel
theorem dX5_readKin_157 : decode cX5_readKin 157 = .ok (.iastore, 1) := by decide +kernel
theorem dX5_readKin_158 : decode cX5_readKin 158 = .ok (.iconst 1, 1) := by decide +kernel
theorem dX5_readKin_159 : decode cX5_readKin 159 = .ok (.ireturn, 1) := by decide +kernel
theorem dX5_readPart_0 : decode cX5_readPart 0 = .ok (.aload_n 0, 1) := by decide +kernel
theorem dX5_readPart_1 : decode cX5_readPart 1 = .ok (.getfield 7, 3) := by decide +kernel
theorem dX5_readPart_4 : decode cX5_readPart 4 = .ok (.aload_n 0, 1) := by decide +kernel
theorem dX5_readPart_5 : decode cX5_readPart 5 = .ok (.getfield 57, 3) := by decide +kernel
theorem dX5_readPart_8 : decode cX5_readPart 8 = .ok (.iaload, 1) := by decide +kernel
theorem dX5_readPart_9 : decode cX5_readPart 9 = .ok (.istore_n 1, 1) := by decide +kernel
theorem dX5_readPart_10 : decode cX5_readPart 10 = .ok (.aload_n 0, 1) := by decide +kernel
theorem dX5_readPart_11 : decode cX5_readPart 11 = .ok (.dup, 1) := by decide +kernel
theorem dX5_readPart_12 : decode cX5_readPart 12 = .ok (.getfield 57, 3) := by decide +kernel
theorem dX5_readPart_15 : decode cX5_readPart 15 = .ok (.iconst 1, 1) := by decide +kernel
theorem dX5_readPart_16 : decode cX5_readPart 16 = .ok (.iadd, 1) := by decide +kernel
theorem dX5_readPart_17 : decode cX5_readPart 17 = .ok (.putfield 57, 3) := by decide +kernel
theorem dX5_readPart_20 : decode cX5_readPart 20 = .ok (.iload_n 1, 1) := by decide +kernel
theorem dX5_readPart_21 : decode cX5_readPart 21 = .ok (.bipush 80, 2) := by decide +kernel
theorem dX5_readPart_23 : decode cX5_readPart 23 = .ok (.if_icmp .ne 16, 3) := by decide +kernel
theorem dX5_readPart_26 : decode cX5_readPart 26 = .ok (.aload_n 0, 1) := by decide +kernel
theorem dX5_readPart_27 : decode cX5_readPart 27 = .ok (.getfield 60, 3) := by decide +kernel
theorem dX5_readPart_30 : decode cX5_readPart 30 = .ok (.iconst 5, 1) := by decide +kernel
theorem dX5_readPart_31 : decode cX5_readPart 31 = .ok (.if_icmp .ge 8, 3) := by decide +kernel
theorem dX5_readPart_34 : decode cX5_readPart 34 = .ok (.aload_n 0, 1) := by decide +kernel
theorem dX5_readPart_35 : decode cX5_readPart 35 = .ok (.invokevirtual 75, 3) := by decide +kernel
theorem dX5_readPart_38 : decode cX5_readPart 38 = .ok (.ireturn, 1) := by decide +kernel
theorem dX5_readPart_39 : decode cX5_readPart 39 = .ok (.iload_n 1, 1) := by decide +kernel
theorem dX5_readPart_40 : decode cX5_readPart 40 = .ok (.bipush 75, 2) := by decide +kernel
theorem dX5_readPart_42 : decode cX5_readPart 42 = .ok (.if_icmp .ne 15, 3) := by decide +kernel
theorem dX5_readPart_45 : decode cX5_readPart 45 = .ok (.aload_n 0, 1) := by decide +kernel
theorem dX5_readPart_46 : decode cX5_readPart 46 = .ok (.invokevirtual 78, 3) := by decide +kernel
theorem dX5_readPart_49 : decode cX5_readPart 49 = .ok (.ifCond .eq 8, 3) := by decide +kernel
theorem dX5_readPart_52 : decode cX5_readPart 52 = .ok (.aload_n 0, 1) := by decide +kernel
theorem dX5_readPart_53 : decode cX5_readPart 53 = .ok (.invokevirtual 81, 3) := by decide +kernel
theorem dX5_readPart_56 : decode cX5_readPart 56 = .ok (.ireturn, 1) := by decide +kernel
theorem dX5_readPart_57 : decode cX5_readPart 57 = .ok (.aload_n 0, 1) := by decide +kernel
theorem dX5_readPart_58 : decode cX5_readPart 58 = .ok (.dup, 1) := by decide +kernel
theorem dX5_readPart_59 : decode cX5_readPart 59 = .ok (.getfield 57, 3) := by decide +kernel
theorem dX5_readPart_62 : decode cX5_readPart 62 = .ok (.iconst 1, 1) := by decide +kernel
theorem dX5_readPart_63 : decode cX5_readPart 63 = .ok (.isub, 1) := by decide +kernel
theorem dX5_readPart_64 : decode cX5_readPart 64 = .ok (.putfield 57, 3) := by decide +kernel
theorem dX5_readPart_67 : decode cX5_readPart 67 = .ok (.iconst 0, 1) := by decide +kernel
theorem dX5_readPart_68 : decode cX5_readPart 68 = .ok (.ireturn, 1) := by decide +kernel
theorem dX5_readLand_0 : decode cX5_readLand 0 = .ok (.aload_n 0, 1) := by decide +kernel
theorem dX5_readLand_1 : decode cX5_readLand 1 = .ok (.iconst 0, 1) := by decide +kernel
theorem dX5_readLand_2 : decode cX5_readLand 2 = .ok (.putfield 57, 3) := by decide +kernel
theorem dX5_readLand_5 : decode cX5_readLand 5 = .ok (.aload_n 0, 1) := by decide +kernel
theorem dX5_readLand_6 : decode cX5_readLand 6 = .ok (.iconst 0, 1) := by decide +kernel
theorem dX5_readLand_7 : decode cX5_readLand 7 = .ok (.putfield 60, 3) := by decide +kernel
theorem dX5_readLand_10 : decode cX5_readLand 10 = .ok (.aload_n 0, 1) := by decide +kernel
theorem dX5_readLand_11 : decode cX5_readLand 11 = .ok (.getfield 54, 3) := by decide +kernel
theorem dX5_readLand_14 : decode cX5_readLand 14 = .ok (.ifCond .eq 14, 3) := by decide +kernel
theorem dX5_readLand_17 : decode cX5_readLand 17 = .ok (.aload_n 0, 1) := by decide +kernel
theorem dX5_readLand_18 : decode cX5_readLand 18 = .ok (.getfield 7, 3) := by decide +kernel
theorem dX5_readLand_21 : decode cX5_readLand 21 = .ok (.iconst 0, 1) := by decide +kernel
theorem dX5_readLand_22 : decode cX5_readLand 22 = .ok (.iaload, 1) := by decide +kernel
theorem dX5_readLand_23 : decode cX5_readLand 23 = .ok (.bipush 84, 2) := by decide +kernel
theorem dX5_readLand_25 : decode cX5_readLand 25 = .ok (.if_icmp .eq 5, 3) := by decide +kernel
theorem dX5_readLand_28 : decode cX5_readLand 28 = .ok (.iconst 0, 1) := by decide +kernel
theorem dX5_readLand_29 : decode cX5_readLand 29 = .ok (.ireturn, 1) := by decide +kernel
theorem dX5_readLand_30 : decode cX5_readLand 30 = .ok (.aload_n 0, 1) := by decide +kernel
theorem dX5_readLand_31 : decode cX5_readLand 31 = .ok (.iconst 1, 1) := by decide +kernel
theorem dX5_readLand_32 : decode cX5_readLand 32 = .ok (.putfield 57, 3) := by decide +kernel
theorem dX5_readLand_35 : decode cX5_readLand 35 = .ok (.aload_n 0, 1) := by decide +kernel
theorem dX5_readLand_36 : decode cX5_readLand 36 = .ok (.getfield 57, 3) := by decide +kernel
theorem dX5_readLand_39 : decode cX5_readLand 39 = .ok (.aload_n 0, 1) := by decide +kernel
theorem dX5_readLand_40 : decode cX5_readLand 40 = .ok (.getfield 54, 3) := by decide +kernel
theorem dX5_readLand_43 : decode cX5_readLand 43 = .ok (.if_icmp .ge 15, 3) := by decide +kernel
theorem dX5_readLand_46 : decode cX5_readLand 46 = .ok (.aload_n 0, 1) := by decide +kernel
theorem dX5_readLand_47 : decode cX5_readLand 47 = .ok (.invokevirtual 83, 3) := by decide +kernel
theorem dX5_readLand_50 : decode cX5_readLand 50 = .ok (.ifCond .ne (-15), 3) := by decide +kernel
theorem dX5_readLand_53 : decode cX5_readLand 53 = .ok (.aload_n 0, 1) := by decide +kernel
theorem dX5_readLand_54 : decode cX5_readLand 54 = .ok (.getfield 57, 3) := by decide +kernel
theorem dX5_readLand_57 : decode cX5_readLand 57 = .ok (.ireturn, 1) := by decide +kernel
theorem dX5_readLand_58 : decode cX5_readLand 58 = .ok (.bipush (-9), 2) := by decide +kernel
theorem dX5_readLand_60 : decode cX5_readLand 60 = .ok (.ireturn, 1) := by decide +kernel
theorem dX5_fault_0 : decode cX5_fault 0 = .ok (.aload_n 0, 1) := by decide +kernel
theorem dX5_fault_1 : decode cX5_fault 1 = .ok (.iconst 0, 1) := by decide +kernel
theorem dX5_fault_2 : decode cX5_fault 2 = .ok (.putfield 41, 3) := by decide +kernel
theorem dX5_fault_5 : decode cX5_fault 5 = .ok (.aload_n 0, 1) := by decide +kernel
theorem dX5_fault_6 : decode cX5_fault 6 = .ok (.invokevirtual 86, 3) := by decide +kernel
theorem dX5_fault_9 : decode cX5_fault 9 = .ok (.ireturn, 1) := by decide +kernel
theorem dX5_land_0 : decode cX5_land 0 = .ok (.aload_n 0, 1) := by decide +kernel
theorem dX5_land_1 : decode cX5_land 1 = .ok (.iconst 0, 1) := by decide +kernel
theorem dX5_land_2 : decode cX5_land 2 = .ok (.putfield 41, 3) := by decide +kernel
theorem dX5_land_5 : decode cX5_land 5 = .ok (.aload_n 0, 1) := by decide +kernel
theorem dX5_land_6 : decode cX5_land 6 = .ok (.invokevirtual 86, 3) := by decide +kernel
theorem dX5_land_9 : decode cX5_land 9 = .ok (.bipush (-9), 2) := by decide +kernel
theorem dX5_land_11 : decode cX5_land 11 = .ok (.if_icmp .eq 6, 3) := by decide +kernel
theorem dX5_land_14 : decode cX5_land 14 = .ok (.bipush (-3), 2) := by decide +kernel
theorem dX5_land_16 : decode cX5_land 16 = .ok (.ireturn, 1) := by decide +kernel
theorem dX5_land_17 : decode cX5_land 17 = .ok (.aload_n 0, 1) := by decide +kernel
theorem dX5_land_18 : decode cX5_land 18 = .ok (.aload_n 0, 1) := by decide +kernel
theorem dX5_land_19 : decode cX5_land 19 = .ok (.getfield 60, 3) := by decide +kernel
theorem dX5_land_22 : decode cX5_land 22 = .ok (.putfield 45, 3) := by decide +kernel
theorem dX5_land_25 : decode cX5_land 25 = .ok (.iconst 0, 1) := by decide +kernel
theorem dX5_land_26 : decode cX5_land 26 = .ok (.istore_n 1, 1) := by decide +kernel
theorem dX5_land_27 : decode cX5_land 27 = .ok (.iload_n 1, 1) := by decide +kernel
theorem dX5_land_28 : decode cX5_land 28 = .ok (.bipush 43, 2) := by decide +kernel
theorem dX5_land_30 : decode cX5_land 30 = .ok (.if_icmp .ge 16, 3) := by decide +kernel
theorem dX5_land_33 : decode cX5_land 33 = .ok (.aload_n 0, 1) := by decide +kernel
theorem dX5_land_34 : decode cX5_land 34 = .ok (.getfield 22, 3) := by decide +kernel
theorem dX5_land_37 : decode cX5_land 37 = .ok (.iload_n 1, 1) := by decide +kernel
theorem dX5_land_38 : decode cX5_land 38 = .ok (.iconst 0, 1) := by decide +kernel
theorem dX5_land_39 : decode cX5_land 39 = .ok (.iastore, 1) := by decide +kernel
theorem dX5_land_40 : decode cX5_land 40 = .ok (.iinc 1 1, 3) := by decide +kernel
theorem dX5_land_43 : decode cX5_land 43 = .ok (.goto (-16), 3) := by decide +kernel
theorem dX5_land_46 : decode cX5_land 46 = .ok (.iconst 0, 1) := by decide +kernel
theorem dX5_land_47 : decode cX5_land 47 = .ok (.istore_n 1, 1) := by decide +kernel
theorem dX5_land_48 : decode cX5_land 48 = .ok (.iload_n 1, 1) := by decide +kernel
theorem dX5_land_49 : decode cX5_land 49 = .ok (.aload_n 0, 1) := by decide +kernel
theorem dX5_land_50 : decode cX5_land 50 = .ok (.getfield 45, 3) := by decide +kernel
theorem dX5_land_53 : decode cX5_land 53 = .ok (.if_icmp .ge 74, 3) := by decide +kernel
theorem dX5_land_56 : decode cX5_land 56 = .ok (.aload_n 0, 1) := by decide +kernel
theorem dX5_land_57 : decode cX5_land 57 = .ok (.getfield 22, 3) := by decide +kernel
theorem dX5_land_60 : decode cX5_land 60 = .ok (.iconst 0, 1) := by decide +kernel
theorem dX5_land_61 : decode cX5_land 61 = .ok (.iload_n 1, 1) := by decide +kernel
theorem dX5_land_62 : decode cX5_land 62 = .ok (.iadd, 1) := by decide +kernel
theorem dX5_land_63 : decode cX5_land 63 = .ok (.aload_n 0, 1) := by decide +kernel
theorem dX5_land_64 : decode cX5_land 64 = .ok (.getfield 16, 3) := by decide +kernel
theorem dX5_land_67 : decode cX5_land 67 = .ok (.iconst 3, 1) := by decide +kernel
theorem dX5_land_68 : decode cX5_land 68 = .ok (.iload_n 1, 1) := by decide +kernel
theorem dX5_land_69 : decode cX5_land 69 = .ok (.imul, 1) := by decide +kernel
theorem dX5_land_70 : decode cX5_land 70 = .ok (.iaload, 1) := by decide +kernel
theorem dX5_land_71 : decode cX5_land 71 = .ok (.iastore, 1) := by decide +kernel
theorem dX5_land_72 : decode cX5_land 72 = .ok (.aload_n 0, 1) := by decide +kernel
theorem dX5_land_73 : decode cX5_land 73 = .ok (.getfield 22, 3) := by decide +kernel
theorem dX5_land_76 : decode cX5_land 76 = .ok (.iconst 5, 1) := by decide +kernel
theorem dX5_land_77 : decode cX5_land 77 = .ok (.iload_n 1, 1) := by decide +kernel
theorem dX5_land_78 : decode cX5_land 78 = .ok (.iadd, 1) := by decide +kernel
theorem dX5_land_79 : decode cX5_land 79 = .ok (.aload_n 0, 1) := by decide +kernel
theorem dX5_land_80 : decode cX5_land 80 = .ok (.getfield 16, 3) := by decide +kernel
theorem dX5_land_83 : decode cX5_land 83 = .ok (.iconst 3, 1) := by decide +kernel
theorem dX5_land_84 : decode cX5_land 84 = .ok (.iload_n 1, 1) := by decide +kernel
theorem dX5_land_85 : decode cX5_land 85 = .ok (.imul, 1) := by decide +kernel
theorem dX5_land_86 : decode cX5_land 86 = .ok (.iconst 1, 1) := by decide +kernel
theorem dX5_land_87 : decode cX5_land 87 = .ok (.iadd, 1) := by decide +kernel
theorem dX5_land_88 : decode cX5_land 88 = .ok (.iaload, 1) := by decide +kernel
theorem dX5_land_89 : decode cX5_land 89 = .ok (.iastore, 1) := by decide +kernel
theorem dX5_land_90 : decode cX5_land 90 = .ok (.aload_n 0, 1) := by decide +kernel
theorem dX5_land_91 : decode cX5_land 91 = .ok (.getfield 13, 3) := by decide +kernel
theorem dX5_land_94 : decode cX5_land 94 = .ok (.iload_n 1, 1) := by decide +kernel
theorem dX5_land_95 : decode cX5_land 95 = .ok (.aload_n 0, 1) := by decide +kernel
theorem dX5_land_96 : decode cX5_land 96 = .ok (.getfield 16, 3) := by decide +kernel
theorem dX5_land_99 : decode cX5_land 99 = .ok (.iconst 3, 1) := by decide +kernel
theorem dX5_land_100 : decode cX5_land 100 = .ok (.iload_n 1, 1) := by decide +kernel
theorem dX5_land_101 : decode cX5_land 101 = .ok (.imul, 1) := by decide +kernel
theorem dX5_land_102 : decode cX5_land 102 = .ok (.iconst 2, 1) := by decide +kernel
theorem dX5_land_103 : decode cX5_land 103 = .ok (.iadd, 1) := by decide +kernel
theorem dX5_land_104 : decode cX5_land 104 = .ok (.iaload, 1) := by decide +kernel
theorem dX5_land_105 : decode cX5_land 105 = .ok (.iastore, 1) := by decide +kernel
theorem dX5_land_106 : decode cX5_land 106 = .ok (.aload_n 0, 1) := by decide +kernel
theorem dX5_land_107 : decode cX5_land 107 = .ok (.getfield 22, 3) := by decide +kernel
theorem dX5_land_110 : decode cX5_land 110 = .ok (.bipush 10, 2) := by decide +kernel
theorem dX5_land_112 : decode cX5_land 112 = .ok (.iload_n 1, 1) := by decide +kernel
theorem dX5_land_113 : decode cX5_land 113 = .ok (.iadd, 1) := by decide +kernel
theorem dX5_land_114 : decode cX5_land 114 = .ok (.aload_n 0, 1) := by decide +kernel
theorem dX5_land_115 : decode cX5_land 115 = .ok (.getfield 19, 3) := by decide +kernel
theorem dX5_land_118 : decode cX5_land 118 = .ok (.iload_n 1, 1) := by decide +kernel
theorem dX5_land_119 : decode cX5_land 119 = .ok (.iaload, 1) := by decide +kernel
theorem dX5_land_120 : decode cX5_land 120 = .ok (.iastore, 1) := by decide +kernel
theorem dX5_land_121 : decode cX5_land 121 = .ok (.iinc 1 1, 3) := by decide +kernel
theorem dX5_land_124 : decode cX5_land 124 = .ok (.goto (-76), 3) := by decide +kernel
theorem dX5_land_127 : decode cX5_land 127 = .ok (.aload_n 0, 1) := by decide +kernel
theorem dX5_land_128 : decode cX5_land 128 = .ok (.iconst 0, 1) := by decide +kernel
theorem dX5_land_129 : decode cX5_land 129 = .ok (.putfield 90, 3) := by decide +kernel
theorem dX5_land_132 : decode cX5_land 132 = .ok (.aload_n 0, 1) := by decide +kernel
theorem dX5_land_133 : decode cX5_land 133 = .ok (.getfield 34, 3) := by decide +kernel
theorem dX5_land_136 : decode cX5_land 136 = .ok (.iconst 0, 1) := by decide +kernel
theorem dX5_land_137 : decode cX5_land 137 = .ok (.iconst 0, 1) := by decide +kernel
theorem dX5_land_138 : decode cX5_land 138 = .ok (.bastore, 1) := by decide +kernel
theorem dX5_land_139 : decode cX5_land 139 = .ok (.aload_n 0, 1) := by decide +kernel
theorem dX5_land_140 : decode cX5_land 140 = .ok (.getfield 34, 3) := by decide +kernel
theorem dX5_land_143 : decode cX5_land 143 = .ok (.iconst 1, 1) := by decide +kernel
theorem dX5_land_144 : decode cX5_land 144 = .ok (.iconst 0, 1) := by decide +kernel
theorem dX5_land_145 : decode cX5_land 145 = .ok (.bastore, 1) := by decide +kernel
theorem dX5_land_146 : decode cX5_land 146 = .ok (.aload_n 0, 1) := by decide +kernel
theorem dX5_land_147 : decode cX5_land 147 = .ok (.getfield 45, 3) := by decide +kernel
theorem dX5_land_150 : decode cX5_land 150 = .ok (.ireturn, 1) := by decide +kernel
theorem dX5_ouncesOf_0 : decode cX5_ouncesOf 0 = .ok (.aload_n 1, 1) := by decide +kernel
theorem dX5_ouncesOf_1 : decode cX5_ouncesOf 1 = .ok (.iconst 0, 1) := by decide +kernel
theorem dX5_ouncesOf_2 : decode cX5_ouncesOf 2 = .ok (.iload_n 2, 1) := by decide +kernel
theorem dX5_ouncesOf_3 : decode cX5_ouncesOf 3 = .ok (.iadd, 1) := by decide +kernel
theorem dX5_ouncesOf_4 : decode cX5_ouncesOf 4 = .ok (.iaload, 1) := by decide +kernel
theorem dX5_ouncesOf_5 : decode cX5_ouncesOf 5 = .ok (.istore_n 3, 1) := by decide +kernel
theorem dX5_ouncesOf_6 : decode cX5_ouncesOf 6 = .ok (.aload_n 1, 1) := by decide +kernel
theorem dX5_ouncesOf_7 : decode cX5_ouncesOf 7 = .ok (.iconst 5, 1) := by decide +kernel
theorem dX5_ouncesOf_8 : decode cX5_ouncesOf 8 = .ok (.iload_n 2, 1) := by decide +kernel
theorem dX5_ouncesOf_9 : decode cX5_ouncesOf 9 = .ok (.iadd, 1) := by decide +kernel
theorem dX5_ouncesOf_10 : decode cX5_ouncesOf 10 = .ok (.iaload, 1) := by decide +kernel
theorem dX5_ouncesOf_11 : decode cX5_ouncesOf 11 = .ok (.iconst 2, 1) := by decide +kernel
theorem dX5_ouncesOf_12 : decode cX5_ouncesOf 12 = .ok (.if_icmp .lt 7, 3) := by decide +kernel
theorem dX5_ouncesOf_15 : decode cX5_ouncesOf 15 = .ok (.iconst 1, 1) := by decide +kernel
theorem dX5_ouncesOf_16 : decode cX5_ouncesOf 16 = .ok (.goto 4, 3) := by decide +kernel
theorem dX5_ouncesOf_19 : decode cX5_ouncesOf 19 = .ok (.iconst 0, 1) := by decide +kernel
theorem dX5_ouncesOf_20 : decode cX5_ouncesOf 20 = .ok (.istore 4, 2) := by decide +kernel
theorem dX5_ouncesOf_22 : decode cX5_ouncesOf 22 = .ok (.aload_n 0, 1) := by decide +kernel
theorem dX5_ouncesOf_23 : decode cX5_ouncesOf 23 = .ok (.getfield 13, 3) := by decide +kernel
theorem dX5_ouncesOf_26 : decode cX5_ouncesOf 26 = .ok (.iload_n 2, 1) := by decide +kernel
theorem dX5_ouncesOf_27 : decode cX5_ouncesOf 27 = .ok (.iaload, 1) := by decide +kernel
theorem dX5_ouncesOf_28 : decode cX5_ouncesOf 28 = .ok (.tableswitch 58 0 2 #[28, 41, 54], 28) := by decide +kernel
theorem dX5_ouncesOf_56 : decode cX5_ouncesOf 56 = .ok (.iload 4, 2) := by decide +kernel
theorem dX5_ouncesOf_58 : decode cX5_ouncesOf 58 = .ok (.ifCond .eq 9, 3) := by decide +kernel
theorem dX5_ouncesOf_61 : decode cX5_ouncesOf 61 = .ok (.iload_n 3, 1) := by decide +kernel
theorem dX5_ouncesOf_62 : decode cX5_ouncesOf 62 = .ok (.iconst 3, 1) := by decide +kernel
theorem dX5_ouncesOf_63 : decode cX5_ouncesOf 63 = .ok (.idiv, 1) := by decide +kernel
theorem dX5_ouncesOf_64 : decode cX5_ouncesOf 64 = .ok (.goto 4, 3) := by decide +kernel
theorem dX5_ouncesOf_67 : decode cX5_ouncesOf 67 = .ok (.iconst 0, 1) := by decide +kernel
theorem dX5_ouncesOf_68 : decode cX5_ouncesOf 68 = .ok (.ireturn, 1) := by decide +kernel
theorem dX5_ouncesOf_69 : decode cX5_ouncesOf 69 = .ok (.iload 4, 2) := by decide +kernel
theorem dX5_ouncesOf_71 : decode cX5_ouncesOf 71 = .ok (.ifCond .eq 9, 3) := by decide +kernel
theorem dX5_ouncesOf_74 : decode cX5_ouncesOf 74 = .ok (.iload_n 3, 1) := by decide +kernel
theorem dX5_ouncesOf_75 : decode cX5_ouncesOf 75 = .ok (.iconst 4, 1) := by decide +kernel
theorem dX5_ouncesOf_76 : decode cX5_ouncesOf 76 = .ok (.idiv, 1) := by decide +kernel
theorem dX5_ouncesOf_77 : decode cX5_ouncesOf 77 = .ok (.goto 4, 3) := by decide +kernel
theorem dX5_ouncesOf_80 : decode cX5_ouncesOf 80 = .ok (.iconst 0, 1) := by decide +kernel
theorem dX5_ouncesOf_81 : decode cX5_ouncesOf 81 = .ok (.ireturn, 1) := by decide +kernel
theorem dX5_ouncesOf_82 : decode cX5_ouncesOf 82 = .ok (.iload_n 3, 1) := by decide +kernel
theorem dX5_ouncesOf_83 : decode cX5_ouncesOf 83 = .ok (.iconst 2, 1) := by decide +kernel
theorem dX5_ouncesOf_84 : decode cX5_ouncesOf 84 = .ok (.idiv, 1) := by decide +kernel
theorem dX5_ouncesOf_85 : decode cX5_ouncesOf 85 = .ok (.ireturn, 1) := by decide +kernel
theorem dX5_ouncesOf_86 : decode cX5_ouncesOf 86 = .ok (.iconst 0, 1) := by decide +kernel
theorem dX5_ouncesOf_87 : decode cX5_ouncesOf 87 = .ok (.ireturn, 1) := by decide +kernel
theorem dX5_isFree_0 : decode cX5_isFree 0 = .ok (.aload_n 1, 1) := by decide +kernel
theorem dX5_isFree_1 : decode cX5_isFree 1 = .ok (.bipush 15, 2) := by decide +kernel
theorem dX5_isFree_3 : decode cX5_isFree 3 = .ok (.iaload, 1) := by decide +kernel
theorem dX5_isFree_4 : decode cX5_isFree 4 = .ok (.iload_n 3, 1) := by decide +kernel
theorem dX5_isFree_5 : decode cX5_isFree 5 = .ok (.invokestatic 63, 3) := by decide +kernel
theorem dX5_isFree_8 : decode cX5_isFree 8 = .ok (.ifCond .eq 31, 3) := by decide +kernel
theorem dX5_isFree_11 : decode cX5_isFree 11 = .ok (.aload_n 1, 1) := by decide +kernel
theorem dX5_isFree_12 : decode cX5_isFree 12 = .ok (.bipush 10, 2) := by decide +kernel
theorem dX5_isFree_14 : decode cX5_isFree 14 = .ok (.iload_n 2, 1) := by decide +kernel
theorem dX5_isFree_15 : decode cX5_isFree 15 = .ok (.iadd, 1) := by decide +kernel
theorem dX5_isFree_16 : decode cX5_isFree 16 = .ok (.iaload, 1) := by decide +kernel
theorem dX5_isFree_17 : decode cX5_isFree 17 = .ok (.iload_n 3, 1) := by decide +kernel
theorem dX5_isFree_18 : decode cX5_isFree 18 = .ok (.invokestatic 63, 3) := by decide +kernel
theorem dX5_isFree_21 : decode cX5_isFree 21 = .ok (.ifCond .ne 18, 3) := by decide +kernel
theorem dX5_isFree_24 : decode cX5_isFree 24 = .ok (.aload_n 1, 1) := by decide +kernel
theorem dX5_isFree_25 : decode cX5_isFree 25 = .ok (.bipush 15, 2) := by decide +kernel
theorem dX5_isFree_27 : decode cX5_isFree 27 = .ok (.iaload, 1) := by decide +kernel
theorem dX5_isFree_28 : decode cX5_isFree 28 = .ok (.iload_n 2, 1) := by decide +kernel
theorem dX5_isFree_29 : decode cX5_isFree 29 = .ok (.invokestatic 63, 3) := by decide +kernel
theorem dX5_isFree_32 : decode cX5_isFree 32 = .ok (.ifCond .ne 7, 3) := by decide +kernel
theorem dX5_isFree_35 : decode cX5_isFree 35 = .ok (.iconst 1, 1) := by decide +kernel
theorem dX5_isFree_36 : decode cX5_isFree 36 = .ok (.goto 4, 3) := by decide +kernel
theorem dX5_isFree_39 : decode cX5_isFree 39 = .ok (.iconst 0, 1) := by decide +kernel
theorem dX5_isFree_40 : decode cX5_isFree 40 = .ok (.ireturn, 1) := by decide +kernel
theorem dX5_mayWeep_0 : decode cX5_mayWeep 0 = .ok (.aload_n 0, 1) := by decide +kernel
theorem dX5_mayWeep_1 : decode cX5_mayWeep 1 = .ok (.aload_n 1, 1) := by decide +kernel
theorem dX5_mayWeep_2 : decode cX5_mayWeep 2 = .ok (.iload_n 2, 1) := by decide +kernel
theorem dX5_mayWeep_3 : decode cX5_mayWeep 3 = .ok (.iload_n 3, 1) := by decide +kernel
theorem dX5_mayWeep_4 : decode cX5_mayWeep 4 = .ok (.invokevirtual 93, 3) := by decide +kernel
theorem dX5_mayWeep_7 : decode cX5_mayWeep 7 = .ok (.ifCond .eq 16, 3) := by decide +kernel
theorem dX5_mayWeep_10 : decode cX5_mayWeep 10 = .ok (.aload_n 0, 1) := by decide +kernel
theorem dX5_mayWeep_11 : decode cX5_mayWeep 11 = .ok (.aload_n 1, 1) := by decide +kernel
theorem dX5_mayWeep_12 : decode cX5_mayWeep 12 = .ok (.iload_n 2, 1) := by decide +kernel
theorem dX5_mayWeep_13 : decode cX5_mayWeep 13 = .ok (.invokevirtual 97, 3) := by decide +kernel
theorem dX5_mayWeep_16 : decode cX5_mayWeep 16 = .ok (.ifCond .le 7, 3) := by decide +kernel
theorem dX5_mayWeep_19 : decode cX5_mayWeep 19 = .ok (.iconst 1, 1) := by decide +kernel
theorem dX5_mayWeep_20 : decode cX5_mayWeep 20 = .ok (.goto 4, 3) := by decide +kernel
theorem dX5_mayWeep_23 : decode cX5_mayWeep 23 = .ok (.iconst 0, 1) := by decide +kernel
theorem dX5_mayWeep_24 : decode cX5_mayWeep 24 = .ok (.ireturn, 1) := by decide +kernel
theorem dX5_open_0 : decode cX5_open 0 = .ok (.aload_n 1, 1) := by decide +kernel
theorem dX5_open_1 : decode cX5_open 1 = .ok (.iconst 0, 1) := by decide +kernel
theorem dX5_open_2 : decode cX5_open 2 = .ok (.iload_n 2, 1) := by decide +kernel
theorem dX5_open_3 : decode cX5_open 3 = .ok (.iadd, 1) := by decide +kernel
theorem dX5_open_4 : decode cX5_open 4 = .ok (.bipush 9, 2) := by decide +kernel
theorem dX5_open_6 : decode cX5_open 6 = .ok (.iastore, 1) := by decide +kernel
theorem dX5_open_7 : decode cX5_open 7 = .ok (.aload_n 1, 1) := by decide +kernel
theorem dX5_open_8 : decode cX5_open 8 = .ok (.iconst 5, 1) := by decide +kernel
theorem dX5_open_9 : decode cX5_open 9 = .ok (.iload_n 2, 1) := by decide +kernel
theorem dX5_open_10 : decode cX5_open 10 = .ok (.iadd, 1) := by decide +kernel
theorem dX5_open_11 : decode cX5_open 11 = .ok (.iconst 0, 1) := by decide +kernel
theorem dX5_open_12 : decode cX5_open 12 = .ok (.iastore, 1) := by decide +kernel
theorem dX5_open_13 : decode cX5_open 13 = .ok (.aload_n 1, 1) := by decide +kernel
theorem dX5_open_14 : decode cX5_open 14 = .ok (.bipush 15, 2) := by decide +kernel
theorem dX5_open_16 : decode cX5_open 16 = .ok (.dup2, 1) := by decide +kernel
theorem dX5_open_17 : decode cX5_open 17 = .ok (.iaload, 1) := by decide +kernel
theorem dX5_open_18 : decode cX5_open 18 = .ok (.iconst 1, 1) := by decide +kernel
theorem dX5_open_19 : decode cX5_open 19 = .ok (.iload_n 2, 1) := by decide +kernel
theorem dX5_open_20 : decode cX5_open 20 = .ok (.ishl, 1) := by decide +kernel
theorem dX5_open_21 : decode cX5_open 21 = .ok (.ior, 1) := by decide +kernel
theorem dX5_open_22 : decode cX5_open 22 = .ok (.iastore, 1) := by decide +kernel
theorem dX5_open_23 : decode cX5_open 23 = .ok (.return_, 1) := by decide +kernel
theorem dX5_close_0 : decode cX5_close 0 = .ok (.aload_n 1, 1) := by decide +kernel
theorem dX5_close_1 : decode cX5_close 1 = .ok (.bipush 10, 2) := by decide +kernel
theorem dX5_close_3 : decode cX5_close 3 = .ok (.iload_n 2, 1) := by decide +kernel
theorem dX5_close_4 : decode cX5_close 4 = .ok (.iadd, 1) := by decide +kernel
theorem dX5_close_5 : decode cX5_close 5 = .ok (.dup2, 1) := by decide +kernel
theorem dX5_close_6 : decode cX5_close 6 = .ok (.iaload, 1) := by decide +kernel
theorem dX5_close_7 : decode cX5_close 7 = .ok (.iconst 1, 1) := by decide +kernel
theorem dX5_close_8 : decode cX5_close 8 = .ok (.iload_n 3, 1) := by decide +kernel
theorem dX5_close_9 : decode cX5_close 9 = .ok (.ishl, 1) := by decide +kernel
theorem dX5_close_10 : decode cX5_close 10 = .ok (.ior, 1) := by decide +kernel
theorem dX5_close_11 : decode cX5_close 11 = .ok (.iastore, 1) := by decide +kernel
theorem dX5_close_12 : decode cX5_close 12 = .ok (.aload_n 1, 1) := by decide +kernel
theorem dX5_close_13 : decode cX5_close 13 = .ok (.bipush 10, 2) := by decide +kernel
theorem dX5_close_15 : decode cX5_close 15 = .ok (.iload_n 3, 1) := by decide +kernel
theorem dX5_close_16 : decode cX5_close 16 = .ok (.iadd, 1) := by decide +kernel
theorem dX5_close_17 : decode cX5_close 17 = .ok (.dup2, 1) := by decide +kernel
theorem dX5_close_18 : decode cX5_close 18 = .ok (.iaload, 1) := by decide +kernel
theorem dX5_close_19 : decode cX5_close 19 = .ok (.iconst 1, 1) := by decide +kernel
theorem dX5_close_20 : decode cX5_close 20 = .ok (.iload_n 2, 1) := by decide +kernel
theorem dX5_close_21 : decode cX5_close 21 = .ok (.ishl, 1) := by decide +kernel
theorem dX5_close_22 : decode cX5_close 22 = .ok (.ior, 1) := by decide +kernel
theorem dX5_close_23 : decode cX5_close 23 = .ok (.iastore, 1) := by decide +kernel
theorem dX5_close_24 : decode cX5_close 24 = .ok (.aload_n 1, 1) := by decide +kernel
theorem dX5_close_25 : decode cX5_close 25 = .ok (.bipush 16, 2) := by decide +kernel
theorem dX5_close_27 : decode cX5_close 27 = .ok (.iconst 5, 1) := by decide +kernel
theorem dX5_close_28 : decode cX5_close 28 = .ok (.iload_n 3, 1) := by decide +kernel
theorem dX5_close_29 : decode cX5_close 29 = .ok (.imul, 1) := by decide +kernel
theorem dX5_close_30 : decode cX5_close 30 = .ok (.iadd, 1) := by decide +kernel
theorem dX5_close_31 : decode cX5_close 31 = .ok (.iload_n 2, 1) := by decide +kernel
theorem dX5_close_32 : decode cX5_close 32 = .ok (.iadd, 1) := by decide +kernel
theorem dX5_close_33 : decode cX5_close 33 = .ok (.dup2, 1) := by decide +kernel
theorem dX5_close_34 : decode cX5_close 34 = .ok (.iaload, 1) := by decide +kernel
theorem dX5_close_35 : decode cX5_close 35 = .ok (.iconst 1, 1) := by decide +kernel
theorem dX5_close_36 : decode cX5_close 36 = .ok (.iadd, 1) := by decide +kernel
theorem dX5_close_37 : decode cX5_close 37 = .ok (.iastore, 1) := by decide +kernel
theorem dX5_close_38 : decode cX5_close 38 = .ok (.aload_n 1, 1) := by decide +kernel
theorem dX5_close_39 : decode cX5_close 39 = .ok (.bipush 15, 2) := by decide +kernel
theorem dX5_close_41 : decode cX5_close 41 = .ok (.dup2, 1) := by decide +kernel
theorem dX5_close_42 : decode cX5_close 42 = .ok (.iaload, 1) := by decide +kernel
theorem dX5_close_43 : decode cX5_close 43 = .ok (.iconst 1, 1) := by decide +kernel
theorem dX5_close_44 : decode cX5_close 44 = .ok (.iload_n 3, 1) := by decide +kernel
theorem dX5_close_45 : decode cX5_close 45 = .ok (.ishl, 1) := by decide +kernel
theorem dX5_close_46 : decode cX5_close 46 = .ok (.iconst (-1), 1) := by decide +kernel
theorem dX5_close_47 : decode cX5_close 47 = .ok (.ixor, 1) := by decide +kernel
theorem dX5_close_48 : decode cX5_close 48 = .ok (.iand, 1) := by decide +kernel
theorem dX5_close_49 : decode cX5_close 49 = .ok (.iastore, 1) := by decide +kernel
theorem dX5_close_50 : decode cX5_close 50 = .ok (.return_, 1) := by decide +kernel
theorem dX5_goWeep_0 : decode cX5_goWeep 0 = .ok (.aload_n 0, 1) := by decide +kernel
theorem dX5_goWeep_1 : decode cX5_goWeep 1 = .ok (.aload_n 1, 1) := by decide +kernel
theorem dX5_goWeep_2 : decode cX5_goWeep 2 = .ok (.iload_n 2, 1) := by decide +kernel
theorem dX5_goWeep_3 : decode cX5_goWeep 3 = .ok (.invokevirtual 97, 3) := by decide +kernel
theorem dX5_goWeep_6 : decode cX5_goWeep 6 = .ok (.istore 4, 2) := by decide +kernel
theorem dX5_goWeep_8 : decode cX5_goWeep 8 = .ok (.aload_n 1, 1) := by decide +kernel
theorem dX5_goWeep_9 : decode cX5_goWeep 9 = .ok (.iconst 0, 1) := by decide +kernel
theorem dX5_goWeep_10 : decode cX5_goWeep 10 = .ok (.iload_n 2, 1) := by decide +kernel
theorem dX5_goWeep_11 : decode cX5_goWeep 11 = .ok (.iadd, 1) := by decide +kernel
theorem dX5_goWeep_12 : decode cX5_goWeep 12 = .ok (.dup2, 1) := by decide +kernel
theorem dX5_goWeep_13 : decode cX5_goWeep 13 = .ok (.iaload, 1) := by decide +kernel
theorem dX5_goWeep_14 : decode cX5_goWeep 14 = .ok (.iload 4, 2) := by decide +kernel
theorem dX5_goWeep_16 : decode cX5_goWeep 16 = .ok (.isub, 1) := by decide +kernel
theorem dX5_goWeep_17 : decode cX5_goWeep 17 = .ok (.iastore, 1) := by decide +kernel
theorem dX5_goWeep_18 : decode cX5_goWeep 18 = .ok (.aload_n 0, 1) := by decide +kernel
theorem dX5_goWeep_19 : decode cX5_goWeep 19 = .ok (.aload_n 1, 1) := by decide +kernel
theorem dX5_goWeep_20 : decode cX5_goWeep 20 = .ok (.iload_n 2, 1) := by decide +kernel
theorem dX5_goWeep_21 : decode cX5_goWeep 21 = .ok (.iload_n 3, 1) := by decide +kernel
theorem dX5_goWeep_22 : decode cX5_goWeep 22 = .ok (.invokevirtual 101, 3) := by decide +kernel
theorem dX5_goWeep_25 : decode cX5_goWeep 25 = .ok (.iload 4, 2) := by decide +kernel
theorem dX5_goWeep_27 : decode cX5_goWeep 27 = .ok (.ireturn, 1) := by decide +kernel
theorem dX5_goWeek_0 : decode cX5_goWeek 0 = .ok (.iconst 0, 1) := by decide +kernel
theorem dX5_goWeek_1 : decode cX5_goWeek 1 = .ok (.istore_n 2, 1) := by decide +kernel
theorem dX5_goWeek_2 : decode cX5_goWeek 2 = .ok (.iload_n 2, 1) := by decide +kernel
theorem dX5_goWeek_3 : decode cX5_goWeek 3 = .ok (.aload_n 0, 1) := by decide +kernel
theorem dX5_goWeek_4 : decode cX5_goWeek 4 = .ok (.getfield 45, 3) := by decide +kernel
theorem dX5_goWeek_7 : decode cX5_goWeek 7 = .ok (.if_icmp .ge 62, 3) := by decide +kernel
theorem dX5_goWeek_10 : decode cX5_goWeek 10 = .ok (.aload_n 1, 1) := by decide +kernel
theorem dX5_goWeek_11 : decode cX5_goWeek 11 = .ok (.iconst 5, 1) := by decide +kernel
theorem dX5_goWeek_12 : decode cX5_goWeek 12 = .ok (.iload_n 2, 1) := by decide +kernel
theorem dX5_goWeek_13 : decode cX5_goWeek 13 = .ok (.iadd, 1) := by decide +kernel
theorem dX5_goWeek_14 : decode cX5_goWeek 14 = .ok (.dup2, 1) := by decide +kernel
theorem dX5_goWeek_15 : decode cX5_goWeek 15 = .ok (.iaload, 1) := by decide +kernel
theorem dX5_goWeek_16 : decode cX5_goWeek 16 = .ok (.aload_n 1, 1) := by decide +kernel
theorem dX5_goWeek_17 : decode cX5_goWeek 17 = .ok (.iconst 5, 1) := by decide +kernel
theorem dX5_goWeek_18 : decode cX5_goWeek 18 = .ok (.iload_n 2, 1) := by decide +kernel
theorem dX5_goWeek_19 : decode cX5_goWeek 19 = .ok (.iadd, 1) := by decide +kernel
theorem dX5_goWeek_20 : decode cX5_goWeek 20 = .ok (.iaload, 1) := by decide +kernel
theorem dX5_goWeek_21 : decode cX5_goWeek 21 = .ok (.bipush 99, 2) := by decide +kernel
theorem dX5_goWeek_23 : decode cX5_goWeek 23 = .ok (.if_icmp .ge 7, 3) := by decide +kernel
theorem dX5_goWeek_26 : decode cX5_goWeek 26 = .ok (.iconst 1, 1) := by decide +kernel
theorem dX5_goWeek_27 : decode cX5_goWeek 27 = .ok (.goto 4, 3) := by decide +kernel
theorem dX5_goWeek_30 : decode cX5_goWeek 30 = .ok (.iconst 0, 1) := by decide +kernel
theorem dX5_goWeek_31 : decode cX5_goWeek 31 = .ok (.iadd, 1) := by decide +kernel
theorem dX5_goWeek_32 : decode cX5_goWeek 32 = .ok (.iastore, 1) := by decide +kernel
theorem dX5_goWeek_33 : decode cX5_goWeek 33 = .ok (.aload_n 1, 1) := by decide +kernel
theorem dX5_goWeek_34 : decode cX5_goWeek 34 = .ok (.iconst 0, 1) := by decide +kernel
theorem dX5_goWeek_35 : decode cX5_goWeek 35 = .ok (.iload_n 2, 1) := by decide +kernel
theorem dX5_goWeek_36 : decode cX5_goWeek 36 = .ok (.iadd, 1) := by decide +kernel
theorem dX5_goWeek_37 : decode cX5_goWeek 37 = .ok (.dup2, 1) := by decide +kernel
theorem dX5_goWeek_38 : decode cX5_goWeek 38 = .ok (.iaload, 1) := by decide +kernel
theorem dX5_goWeek_39 : decode cX5_goWeek 39 = .ok (.aload_n 1, 1) := by decide +kernel
theorem dX5_goWeek_40 : decode cX5_goWeek 40 = .ok (.iconst 5, 1) := by decide +kernel
theorem dX5_goWeek_41 : decode cX5_goWeek 41 = .ok (.iload_n 2, 1) := by decide +kernel
theorem dX5_goWeek_42 : decode cX5_goWeek 42 = .ok (.iadd, 1) := by decide +kernel
theorem dX5_goWeek_43 : decode cX5_goWeek 43 = .ok (.iaload, 1) := by decide +kernel
theorem dX5_goWeek_44 : decode cX5_goWeek 44 = .ok (.iconst 3, 1) := by decide +kernel
theorem dX5_goWeek_45 : decode cX5_goWeek 45 = .ok (.if_icmp .lt 15, 3) := by decide +kernel
theorem dX5_goWeek_48 : decode cX5_goWeek 48 = .ok (.aload_n 1, 1) := by decide +kernel
theorem dX5_goWeek_49 : decode cX5_goWeek 49 = .ok (.iconst 0, 1) := by decide +kernel
theorem dX5_goWeek_50 : decode cX5_goWeek 50 = .ok (.iload_n 2, 1) := by decide +kernel
theorem dX5_goWeek_51 : decode cX5_goWeek 51 = .ok (.iadd, 1) := by decide +kernel
theorem dX5_goWeek_52 : decode cX5_goWeek 52 = .ok (.iaload, 1) := by decide +kernel
theorem dX5_goWeek_53 : decode cX5_goWeek 53 = .ok (.ifCond .le 7, 3) := by decide +kernel
theorem dX5_goWeek_56 : decode cX5_goWeek 56 = .ok (.iconst 1, 1) := by decide +kernel
theorem dX5_goWeek_57 : decode cX5_goWeek 57 = .ok (.goto 4, 3) := by decide +kernel
theorem dX5_goWeek_60 : decode cX5_goWeek 60 = .ok (.iconst 0, 1) := by decide +kernel
theorem dX5_goWeek_61 : decode cX5_goWeek 61 = .ok (.isub, 1) := by decide +kernel
theorem dX5_goWeek_62 : decode cX5_goWeek 62 = .ok (.iastore, 1) := by decide +kernel
theorem dX5_goWeek_63 : decode cX5_goWeek 63 = .ok (.iinc 2 1, 3) := by decide +kernel
theorem dX5_goWeek_66 : decode cX5_goWeek 66 = .ok (.goto (-64), 3) := by decide +kernel
theorem dX5_goWeek_69 : decode cX5_goWeek 69 = .ok (.aload_n 1, 1) := by decide +kernel
theorem dX5_goWeek_70 : decode cX5_goWeek 70 = .ok (.bipush 42, 2) := by decide +kernel
theorem dX5_goWeek_72 : decode cX5_goWeek 72 = .ok (.dup2, 1) := by decide +kernel
theorem dX5_goWeek_73 : decode cX5_goWeek 73 = .ok (.iaload, 1) := by decide +kernel
theorem dX5_goWeek_74 : decode cX5_goWeek 74 = .ok (.iconst 1, 1) := by decide +kernel
theorem dX5_goWeek_75 : decode cX5_goWeek 75 = .ok (.iadd, 1) := by decide +kernel
theorem dX5_goWeek_76 : decode cX5_goWeek 76 = .ok (.iastore, 1) := by decide +kernel
theorem dX5_goWeek_77 : decode cX5_goWeek 77 = .ok (.return_, 1) := by decide +kernel
theorem dX5_about_0 : decode cX5_about 0 = .ok (.aload_n 0, 1) := by decide +kernel
theorem dX5_about_1 : decode cX5_about 1 = .ok (.iconst 0, 1) := by decide +kernel
theorem dX5_about_2 : decode cX5_about 2 = .ok (.putfield 41, 3) := by decide +kernel
theorem dX5_about_5 : decode cX5_about 5 = .ok (.iconst 0, 1) := by decide +kernel
theorem dX5_about_6 : decode cX5_about 6 = .ok (.istore_n 2, 1) := by decide +kernel
theorem dX5_about_7 : decode cX5_about 7 = .ok (.iconst 0, 1) := by decide +kernel
theorem dX5_about_8 : decode cX5_about 8 = .ok (.istore_n 3, 1) := by decide +kernel
theorem dX5_about_9 : decode cX5_about 9 = .ok (.iload_n 3, 1) := by decide +kernel
theorem dX5_about_10 : decode cX5_about 10 = .ok (.aload_n 0, 1) := by decide +kernel
theorem dX5_about_11 : decode cX5_about 11 = .ok (.getfield 45, 3) := by decide +kernel
theorem dX5_about_14 : decode cX5_about 14 = .ok (.if_icmp .ge 20, 3) := by decide +kernel
theorem dX5_about_17 : decode cX5_about 17 = .ok (.iload_n 2, 1) := by decide +kernel
theorem dX5_about_18 : decode cX5_about 18 = .ok (.aload_n 0, 1) := by decide +kernel
theorem dX5_about_19 : decode cX5_about 19 = .ok (.getfield 22, 3) := by decide +kernel
theorem dX5_about_22 : decode cX5_about 22 = .ok (.iconst 0, 1) := by decide +kernel
theorem dX5_about_23 : decode cX5_about 23 = .ok (.iload_n 3, 1) := by decide +kernel
theorem dX5_about_24 : decode cX5_about 24 = .ok (.iadd, 1) := by decide +kernel
theorem dX5_about_25 : decode cX5_about 25 = .ok (.iaload, 1) := by decide +kernel
theorem dX5_about_26 : decode cX5_about 26 = .ok (.iadd, 1) := by decide +kernel
theorem dX5_about_27 : decode cX5_about 27 = .ok (.istore_n 2, 1) := by decide +kernel
theorem dX5_about_28 : decode cX5_about 28 = .ok (.iinc 3 1, 3) := by decide +kernel
theorem dX5_about_31 : decode cX5_about 31 = .ok (.goto (-22), 3) := by decide +kernel
theorem dX5_about_34 : decode cX5_about 34 = .ok (.iload_n 1, 1) := by decide +kernel
theorem dX5_about_35 : decode cX5_about 35 = .ok (.tableswitch 82 0 6 #[41, 46, 54, 62, 70, 75, 80], 41) := by decide +kernel
theorem dX5_about_76 : decode cX5_about 76 = .ok (.aload_n 0, 1) := by decide +kernel
theorem dX5_about_77 : decode cX5_about 77 = .ok (.getfield 45, 3) := by decide +kernel
theorem dX5_about_80 : decode cX5_about 80 = .ok (.ireturn, 1) := by decide +kernel
theorem dX5_about_81 : decode cX5_about 81 = .ok (.aload_n 0, 1) := by decide +kernel
theorem dX5_about_82 : decode cX5_about 82 = .ok (.getfield 22, 3) := by decide +kernel
theorem dX5_about_85 : decode cX5_about 85 = .ok (.bipush 15, 2) := by decide +kernel
theorem dX5_about_87 : decode cX5_about 87 = .ok (.iaload, 1) := by decide +kernel
theorem dX5_about_88 : decode cX5_about 88 = .ok (.ireturn, 1) := by decide +kernel
theorem dX5_about_89 : decode cX5_about 89 = .ok (.aload_n 0, 1) := by decide +kernel
theorem dX5_about_90 : decode cX5_about 90 = .ok (.getfield 22, 3) := by decide +kernel
theorem dX5_about_93 : decode cX5_about 93 = .ok (.bipush 42, 2) := by decide +kernel
theorem dX5_about_95 : decode cX5_about 95 = .ok (.iaload, 1) := by decide +kernel
theorem dX5_about_96 : decode cX5_about 96 = .ok (.ireturn, 1) := by decide +kernel
theorem dX5_about_97 : decode cX5_about 97 = .ok (.aload_n 0, 1) := by decide +kernel
theorem dX5_about_98 : decode cX5_about 98 = .ok (.getfield 22, 3) := by decide +kernel
theorem dX5_about_101 : decode cX5_about 101 = .ok (.bipush 41, 2) := by decide +kernel
theorem dX5_about_103 : decode cX5_about 103 = .ok (.iaload, 1) := by decide +kernel
theorem dX5_about_104 : decode cX5_about 104 = .ok (.ireturn, 1) := by decide +kernel
theorem dX5_about_105 : decode cX5_about 105 = .ok (.aload_n 0, 1) := by decide +kernel
theorem dX5_about_106 : decode cX5_about 106 = .ok (.getfield 90, 3) := by decide +kernel
theorem dX5_about_109 : decode cX5_about 109 = .ok (.ireturn, 1) := by decide +kernel
theorem dX5_about_110 : decode cX5_about 110 = .ok (.aload_n 0, 1) := by decide +kernel
theorem dX5_about_111 : decode cX5_about 111 = .ok (.getfield 54, 3) := by decide +kernel
theorem dX5_about_114 : decode cX5_about 114 = .ok (.ireturn, 1) := by decide +kernel
theorem dX5_about_115 : decode cX5_about 115 = .ok (.iload_n 2, 1) := by decide +kernel
theorem dX5_about_116 : decode cX5_about 116 = .ok (.ireturn, 1) := by decide +kernel
theorem dX5_about_117 : decode cX5_about 117 = .ok (.bipush (-2), 2) := by decide +kernel
theorem dX5_about_119 : decode cX5_about 119 = .ok (.ireturn, 1) := by decide +kernel
theorem dX5_mayFor_0 : decode cX5_mayFor 0 = .ok (.iconst 0, 1) := by decide +kernel
theorem dX5_mayFor_1 : decode cX5_mayFor 1 = .ok (.istore_n 2, 1) := by decide +kernel
theorem dX5_mayFor_2 : decode cX5_mayFor 2 = .ok (.iconst 0, 1) := by decide +kernel
theorem dX5_mayFor_3 : decode cX5_mayFor 3 = .ok (.istore_n 3, 1) := by decide +kernel
theorem dX5_mayFor_4 : decode cX5_mayFor 4 = .ok (.iload_n 3, 1) := by decide +kernel
theorem dX5_mayFor_5 : decode cX5_mayFor 5 = .ok (.aload_n 0, 1) := by decide +kernel
theorem dX5_mayFor_6 : decode cX5_mayFor 6 = .ok (.getfield 45, 3) := by decide +kernel
theorem dX5_mayFor_9 : decode cX5_mayFor 9 = .ok (.if_icmp .ge 32, 3) := by decide +kernel
theorem dX5_mayFor_12 : decode cX5_mayFor 12 = .ok (.iload_n 2, 1) := by decide +kernel
theorem dX5_mayFor_13 : decode cX5_mayFor 13 = .ok (.aload_n 0, 1) := by decide +kernel
theorem dX5_mayFor_14 : decode cX5_mayFor 14 = .ok (.aload_n 0, 1) := by decide +kernel
theorem dX5_mayFor_15 : decode cX5_mayFor 15 = .ok (.getfield 22, 3) := by decide +kernel
theorem dX5_mayFor_18 : decode cX5_mayFor 18 = .ok (.iload_n 1, 1) := by decide +kernel
theorem dX5_mayFor_19 : decode cX5_mayFor 19 = .ok (.iload_n 3, 1) := by decide +kernel
theorem dX5_mayFor_20 : decode cX5_mayFor 20 = .ok (.invokevirtual 105, 3) := by decide +kernel
theorem dX5_mayFor_23 : decode cX5_mayFor 23 = .ok (.ifCond .eq 9, 3) := by decide +kernel
theorem dX5_mayFor_26 : decode cX5_mayFor 26 = .ok (.iconst 1, 1) := by decide +kernel
theorem dX5_mayFor_27 : decode cX5_mayFor 27 = .ok (.iload_n 3, 1) := by decide +kernel
theorem dX5_mayFor_28 : decode cX5_mayFor 28 = .ok (.ishl, 1) := by decide +kernel
theorem dX5_mayFor_29 : decode cX5_mayFor 29 = .ok (.goto 4, 3) := by decide +kernel
theorem dX5_mayFor_32 : decode cX5_mayFor 32 = .ok (.iconst 0, 1) := by decide +kernel
theorem dX5_mayFor_33 : decode cX5_mayFor 33 = .ok (.ior, 1) := by decide +kernel
theorem dX5_mayFor_34 : decode cX5_mayFor 34 = .ok (.istore_n 2, 1) := by decide +kernel
theorem dX5_mayFor_35 : decode cX5_mayFor 35 = .ok (.iinc 3 1, 3) := by decide +kernel
theorem dX5_mayFor_38 : decode cX5_mayFor 38 = .ok (.goto (-34), 3) := by decide +kernel
theorem dX5_mayFor_41 : decode cX5_mayFor 41 = .ok (.iload_n 2, 1) := by decide +kernel
theorem dX5_mayFor_42 : decode cX5_mayFor 42 = .ok (.ireturn, 1) := by decide +kernel
theorem dX5_person_0 : decode cX5_person 0 = .ok (.aload_n 0, 1) := by decide +kernel
theorem dX5_person_1 : decode cX5_person 1 = .ok (.iconst 0, 1) := by decide +kernel
theorem dX5_person_2 : decode cX5_person 2 = .ok (.putfield 41, 3) := by decide +kernel
theorem dX5_person_5 : decode cX5_person 5 = .ok (.aload_n 0, 1) := by decide +kernel
theorem dX5_person_6 : decode cX5_person 6 = .ok (.iload_n 1, 1) := by decide +kernel
theorem dX5_person_7 : decode cX5_person 7 = .ok (.invokevirtual 108, 3) := by decide +kernel
theorem dX5_person_10 : decode cX5_person 10 = .ok (.ifCond .eq 5, 3) := by decide +kernel
theorem dX5_person_13 : decode cX5_person 13 = .ok (.iconst (-1), 1) := by decide +kernel
theorem dX5_person_14 : decode cX5_person 14 = .ok (.ireturn, 1) := by decide +kernel
theorem dX5_person_15 : decode cX5_person 15 = .ok (.iload_n 2, 1) := by decide +kernel
theorem dX5_person_16 : decode cX5_person 16 = .ok (.tableswitch 91 0 5 #[40, 49, 58, 65, 75, 85], 40) := by decide +kernel
theorem dX5_person_56 : decode cX5_person 56 = .ok (.aload_n 0, 1) := by decide +kernel
theorem dX5_person_57 : decode cX5_person 57 = .ok (.getfield 22, 3) := by decide +kernel
theorem dX5_person_60 : decode cX5_person 60 = .ok (.iconst 0, 1) := by decide +kernel
theorem dX5_person_61 : decode cX5_person 61 = .ok (.iload_n 1, 1) := by decide +kernel
theorem dX5_person_62 : decode cX5_person 62 = .ok (.iadd, 1) := by decide +kernel
theorem dX5_person_63 : decode cX5_person 63 = .ok (.iaload, 1) := by decide +kernel
theorem dX5_person_64 : decode cX5_person 64 = .ok (.ireturn, 1) := by decide +kernel
theorem dX5_person_65 : decode cX5_person 65 = .ok (.aload_n 0, 1) := by decide +kernel
theorem dX5_person_66 : decode cX5_person 66 = .ok (.getfield 22, 3) := by decide +kernel
theorem dX5_person_69 : decode cX5_person 69 = .ok (.iconst 5, 1) := by decide +kernel
theorem dX5_person_70 : decode cX5_person 70 = .ok (.iload_n 1, 1) := by decide +kernel
theorem dX5_person_71 : decode cX5_person 71 = .ok (.iadd, 1) := by decide +kernel
theorem dX5_person_72 : decode cX5_person 72 = .ok (.iaload, 1) := by decide +kernel
theorem dX5_person_73 : decode cX5_person 73 = .ok (.ireturn, 1) := by decide +kernel
theorem dX5_person_74 : decode cX5_person 74 = .ok (.aload_n 0, 1) := by decide +kernel
theorem dX5_person_75 : decode cX5_person 75 = .ok (.getfield 13, 3) := by decide +kernel
theorem dX5_person_78 : decode cX5_person 78 = .ok (.iload_n 1, 1) := by decide +kernel
theorem dX5_person_79 : decode cX5_person 79 = .ok (.iaload, 1) := by decide +kernel
theorem dX5_person_80 : decode cX5_person 80 = .ok (.ireturn, 1) := by decide +kernel
theorem dX5_person_81 : decode cX5_person 81 = .ok (.aload_n 0, 1) := by decide +kernel
theorem dX5_person_82 : decode cX5_person 82 = .ok (.getfield 22, 3) := by decide +kernel
theorem dX5_person_85 : decode cX5_person 85 = .ok (.bipush 10, 2) := by decide +kernel
theorem dX5_person_87 : decode cX5_person 87 = .ok (.iload_n 1, 1) := by decide +kernel
theorem dX5_person_88 : decode cX5_person 88 = .ok (.iadd, 1) := by decide +kernel
theorem dX5_person_89 : decode cX5_person 89 = .ok (.iaload, 1) := by decide +kernel
theorem dX5_person_90 : decode cX5_person 90 = .ok (.ireturn, 1) := by decide +kernel
theorem dX5_person_91 : decode cX5_person 91 = .ok (.aload_n 0, 1) := by decide +kernel
theorem dX5_person_92 : decode cX5_person 92 = .ok (.aload_n 0, 1) := by decide +kernel
theorem dX5_person_93 : decode cX5_person 93 = .ok (.getfield 22, 3) := by decide +kernel
theorem dX5_person_96 : decode cX5_person 96 = .ok (.iload_n 1, 1) := by decide +kernel
theorem dX5_person_97 : decode cX5_person 97 = .ok (.invokevirtual 97, 3) := by decide +kernel
theorem dX5_person_100 : decode cX5_person 100 = .ok (.ireturn, 1) := by decide +kernel
theorem dX5_person_101 : decode cX5_person 101 = .ok (.aload_n 0, 1) := by decide +kernel
theorem dX5_person_102 : decode cX5_person 102 = .ok (.iload_n 1, 1) := by decide +kernel
theorem dX5_person_103 : decode cX5_person 103 = .ok (.invokevirtual 112, 3) := by decide +kernel
theorem dX5_person_106 : decode cX5_person 106 = .ok (.ireturn, 1) := by decide +kernel
theorem dX5_person_107 : decode cX5_person 107 = .ok (.bipush (-2), 2) := by decide +kernel
theorem dX5_person_109 : decode cX5_person 109 = .ok (.ireturn, 1) := by decide +kernel
theorem dX5_owes_0 : decode cX5_owes 0 = .ok (.aload_n 0, 1) := by decide +kernel
theorem dX5_owes_1 : decode cX5_owes 1 = .ok (.iconst 0, 1) := by decide +kernel
theorem dX5_owes_2 : decode cX5_owes 2 = .ok (.putfield 41, 3) := by decide +kernel
theorem dX5_owes_5 : decode cX5_owes 5 = .ok (.aload_n 0, 1) := by decide +kernel
theorem dX5_owes_6 : decode cX5_owes 6 = .ok (.iload_n 1, 1) := by decide +kernel
theorem dX5_owes_7 : decode cX5_owes 7 = .ok (.invokevirtual 108, 3) := by decide +kernel
theorem dX5_owes_10 : decode cX5_owes 10 = .ok (.ifCond .ne 11, 3) := by decide +kernel
theorem dX5_owes_13 : decode cX5_owes 13 = .ok (.aload_n 0, 1) := by decide +kernel
theorem dX5_owes_14 : decode cX5_owes 14 = .ok (.iload_n 2, 1) := by decide +kernel
theorem dX5_owes_15 : decode cX5_owes 15 = .ok (.invokevirtual 108, 3) := by decide +kernel
theorem dX5_owes_18 : decode cX5_owes 18 = .ok (.ifCond .eq 7, 3) := by decide +kernel
theorem dX5_owes_21 : decode cX5_owes 21 = .ok (.iconst (-1), 1) := by decide +kernel
theorem dX5_owes_22 : decode cX5_owes 22 = .ok (.goto 16, 3) := by decide +kernel
theorem dX5_owes_25 : decode cX5_owes 25 = .ok (.aload_n 0, 1) := by decide +kernel
theorem dX5_owes_26 : decode cX5_owes 26 = .ok (.getfield 22, 3) := by decide +kernel
theorem dX5_owes_29 : decode cX5_owes 29 = .ok (.bipush 16, 2) := by decide +kernel
theorem dX5_owes_31 : decode cX5_owes 31 = .ok (.iconst 5, 1) := by decide +kernel
theorem dX5_owes_32 : decode cX5_owes 32 = .ok (.iload_n 1, 1) := by decide +kernel
theorem dX5_owes_33 : decode cX5_owes 33 = .ok (.imul, 1) := by decide +kernel
theorem dX5_owes_34 : decode cX5_owes 34 = .ok (.iadd, 1) := by decide +kernel
theorem dX5_owes_35 : decode cX5_owes 35 = .ok (.iload_n 2, 1) := by decide +kernel
theorem dX5_owes_36 : decode cX5_owes 36 = .ok (.iadd, 1) := by decide +kernel
theorem dX5_owes_37 : decode cX5_owes 37 = .ok (.iaload, 1) := by decide +kernel
theorem dX5_owes_38 : decode cX5_owes 38 = .ok (.ireturn, 1) := by decide +kernel
theorem dX5_note_0 : decode cX5_note 0 = .ok (.aload_n 0, 1) := by decide +kernel
theorem dX5_note_1 : decode cX5_note 1 = .ok (.getfield 90, 3) := by decide +kernel
theorem dX5_note_4 : decode cX5_note 4 = .ok (.bipush 14, 2) := by decide +kernel
theorem dX5_note_6 : decode cX5_note 6 = .ok (.if_icmp .ne 43, 3) := by decide +kernel
theorem dX5_note_9 : decode cX5_note 9 = .ok (.iconst 0, 1) := by decide +kernel
theorem dX5_note_10 : decode cX5_note 10 = .ok (.istore_n 1, 1) := by decide +kernel
theorem dX5_note_11 : decode cX5_note 11 = .ok (.iload_n 1, 1) := by decide +kernel
theorem dX5_note_12 : decode cX5_note 12 = .ok (.sipush 559, 3) := by decide +kernel
theorem dX5_note_15 : decode cX5_note 15 = .ok (.if_icmp .ge 24, 3) := by decide +kernel
theorem dX5_note_18 : decode cX5_note 18 = .ok (.aload_n 0, 1) := by decide +kernel
theorem dX5_note_19 : decode cX5_note 19 = .ok (.getfield 28, 3) := by decide +kernel
theorem dX5_note_22 : decode cX5_note 22 = .ok (.iload_n 1, 1) := by decide +kernel
theorem dX5_note_23 : decode cX5_note 23 = .ok (.aload_n 0, 1) := by decide +kernel
theorem dX5_note_24 : decode cX5_note 24 = .ok (.getfield 28, 3) := by decide +kernel
theorem dX5_note_27 : decode cX5_note 27 = .ok (.iload_n 1, 1) := by decide +kernel
theorem dX5_note_28 : decode cX5_note 28 = .ok (.bipush 43, 2) := by decide +kernel
theorem dX5_note_30 : decode cX5_note 30 = .ok (.iadd, 1) := by decide +kernel
theorem dX5_note_31 : decode cX5_note 31 = .ok (.iaload, 1) := by decide +kernel
theorem dX5_note_32 : decode cX5_note 32 = .ok (.iastore, 1) := by decide +kernel
theorem dX5_note_33 : decode cX5_note 33 = .ok (.iinc 1 1, 3) := by decide +kernel
theorem dX5_note_36 : decode cX5_note 36 = .ok (.goto (-25), 3) := by decide +kernel
theorem dX5_note_39 : decode cX5_note 39 = .ok (.aload_n 0, 1) := by decide +kernel
theorem dX5_note_40 : decode cX5_note 40 = .ok (.dup, 1) := by decide +kernel
theorem dX5_note_41 : decode cX5_note 41 = .ok (.getfield 90, 3) := by decide +kernel
theorem dX5_note_44 : decode cX5_note 44 = .ok (.iconst 1, 1) := by decide +kernel
theorem dX5_note_45 : decode cX5_note 45 = .ok (.isub, 1) := by decide +kernel
theorem dX5_note_46 : decode cX5_note 46 = .ok (.putfield 90, 3) := by decide +kernel
theorem dX5_note_49 : decode cX5_note 49 = .ok (.iconst 0, 1) := by decide +kernel
theorem dX5_note_50 : decode cX5_note 50 = .ok (.istore_n 1, 1) := by decide +kernel
theorem dX5_note_51 : decode cX5_note 51 = .ok (.iload_n 1, 1) := by decide +kernel
theorem dX5_note_52 : decode cX5_note 52 = .ok (.bipush 43, 2) := by decide +kernel
theorem dX5_note_54 : decode cX5_note 54 = .ok (.if_icmp .ge 29, 3) := by decide +kernel
theorem dX5_note_57 : decode cX5_note 57 = .ok (.aload_n 0, 1) := by decide +kernel
theorem dX5_note_58 : decode cX5_note 58 = .ok (.getfield 28, 3) := by decide +kernel
theorem dX5_note_61 : decode cX5_note 61 = .ok (.bipush 43, 2) := by decide +kernel
theorem dX5_note_63 : decode cX5_note 63 = .ok (.aload_n 0, 1) := by decide +kernel
theorem dX5_note_64 : decode cX5_note 64 = .ok (.getfield 90, 3) := by decide +kernel
theorem dX5_note_67 : decode cX5_note 67 = .ok (.imul, 1) := by decide +kernel
theorem dX5_note_68 : decode cX5_note 68 = .ok (.iload_n 1, 1) := by decide +kernel
theorem dX5_note_69 : decode cX5_note 69 = .ok (.iadd, 1) := by decide +kernel
theorem dX5_note_70 : decode cX5_note 70 = .ok (.aload_n 0, 1) := by decide +kernel
theorem dX5_note_71 : decode cX5_note 71 = .ok (.getfield 22, 3) := by decide +kernel
theorem dX5_note_74 : decode cX5_note 74 = .ok (.iload_n 1, 1) := by decide +kernel
theorem dX5_note_75 : decode cX5_note 75 = .ok (.iaload, 1) := by decide +kernel
theorem dX5_note_76 : decode cX5_note 76 = .ok (.iastore, 1) := by decide +kernel
theorem dX5_note_77 : decode cX5_note 77 = .ok (.iinc 1 1, 3) := by decide +kernel
theorem dX5_note_80 : decode cX5_note 80 = .ok (.goto (-29), 3) := by decide +kernel
theorem dX5_note_83 : decode cX5_note 83 = .ok (.aload_n 0, 1) := by decide +kernel
theorem dX5_note_84 : decode cX5_note 84 = .ok (.dup, 1) := by decide +kernel
theorem dX5_note_85 : decode cX5_note 85 = .ok (.getfield 90, 3) := by decide +kernel
theorem dX5_note_88 : decode cX5_note 88 = .ok (.iconst 1, 1) := by decide +kernel
end
section
theorem dX5_note_89 : decode cX5_note 89 = .ok (.iadd, 1) := by decide +kernel
theorem dX5_note_90 : decode cX5_note 90 = .ok (.putfield 90, 3) := by decide +kernel
theorem dX5_note_93 : decode cX5_note 93 = .ok (.return_, 1) := by decide +kernel
theorem dX5_funeral_0 : decode cX5_funeral 0 = .ok (.aload_n 0, 1) := by decide +kernel
theorem dX5_funeral_1 : decode cX5_funeral 1 = .ok (.iconst 0, 1) := by decide +kernel
theorem dX5_funeral_2 : decode cX5_funeral 2 = .ok (.putfield 41, 3) := by decide +kernel
theorem dX5_funeral_5 : decode cX5_funeral 5 = .ok (.aload_n 0, 1) := by decide +kernel
theorem dX5_funeral_6 : decode cX5_funeral 6 = .ok (.iload_n 1, 1) := by decide +kernel
theorem dX5_funeral_7 : decode cX5_funeral 7 = .ok (.invokevirtual 108, 3) := by decide +kernel
theorem dX5_funeral_10 : decode cX5_funeral 10 = .ok (.ifCond .eq 5, 3) := by decide +kernel
theorem dX5_funeral_13 : decode cX5_funeral 13 = .ok (.iconst (-1), 1) := by decide +kernel
theorem dX5_funeral_14 : decode cX5_funeral 14 = .ok (.ireturn, 1) := by decide +kernel
theorem dX5_funeral_15 : decode cX5_funeral 15 = .ok (.aload_n 0, 1) := by decide +kernel
theorem dX5_funeral_16 : decode cX5_funeral 16 = .ok (.getfield 22, 3) := by decide +kernel
theorem dX5_funeral_19 : decode cX5_funeral 19 = .ok (.bipush 15, 2) := by decide +kernel
theorem dX5_funeral_21 : decode cX5_funeral 21 = .ok (.iaload, 1) := by decide +kernel
theorem dX5_funeral_22 : decode cX5_funeral 22 = .ok (.iload_n 1, 1) := by decide +kernel
theorem dX5_funeral_23 : decode cX5_funeral 23 = .ok (.invokestatic 63, 3) := by decide +kernel
theorem dX5_funeral_26 : decode cX5_funeral 26 = .ok (.ifCond .eq 6, 3) := by decide +kernel
theorem dX5_funeral_29 : decode cX5_funeral 29 = .ok (.bipush (-3), 2) := by decide +kernel
theorem dX5_funeral_31 : decode cX5_funeral 31 = .ok (.ireturn, 1) := by decide +kernel
theorem dX5_funeral_32 : decode cX5_funeral 32 = .ok (.aload_n 0, 1) := by decide +kernel
theorem dX5_funeral_33 : decode cX5_funeral 33 = .ok (.invokevirtual 115, 3) := by decide +kernel
theorem dX5_funeral_36 : decode cX5_funeral 36 = .ok (.aload_n 0, 1) := by decide +kernel
theorem dX5_funeral_37 : decode cX5_funeral 37 = .ok (.aload_n 0, 1) := by decide +kernel
theorem dX5_funeral_38 : decode cX5_funeral 38 = .ok (.getfield 22, 3) := by decide +kernel
theorem dX5_funeral_41 : decode cX5_funeral 41 = .ok (.iload_n 1, 1) := by decide +kernel
theorem dX5_funeral_42 : decode cX5_funeral 42 = .ok (.invokevirtual 118, 3) := by decide +kernel
theorem dX5_funeral_45 : decode cX5_funeral 45 = .ok (.aload_n 0, 1) := by decide +kernel
theorem dX5_funeral_46 : decode cX5_funeral 46 = .ok (.getfield 22, 3) := by decide +kernel
theorem dX5_funeral_49 : decode cX5_funeral 49 = .ok (.bipush 15, 2) := by decide +kernel
theorem dX5_funeral_51 : decode cX5_funeral 51 = .ok (.iaload, 1) := by decide +kernel
theorem dX5_funeral_52 : decode cX5_funeral 52 = .ok (.invokestatic 122, 3) := by decide +kernel
theorem dX5_funeral_55 : decode cX5_funeral 55 = .ok (.ireturn, 1) := by decide +kernel
theorem dX5_weep_0 : decode cX5_weep 0 = .ok (.aload_n 0, 1) := by decide +kernel
theorem dX5_weep_1 : decode cX5_weep 1 = .ok (.iconst 0, 1) := by decide +kernel
theorem dX5_weep_2 : decode cX5_weep 2 = .ok (.putfield 41, 3) := by decide +kernel
theorem dX5_weep_5 : decode cX5_weep 5 = .ok (.aload_n 0, 1) := by decide +kernel
theorem dX5_weep_6 : decode cX5_weep 6 = .ok (.iload_n 1, 1) := by decide +kernel
theorem dX5_weep_7 : decode cX5_weep 7 = .ok (.invokevirtual 108, 3) := by decide +kernel
theorem dX5_weep_10 : decode cX5_weep 10 = .ok (.ifCond .ne 11, 3) := by decide +kernel
theorem dX5_weep_13 : decode cX5_weep 13 = .ok (.aload_n 0, 1) := by decide +kernel
theorem dX5_weep_14 : decode cX5_weep 14 = .ok (.iload_n 2, 1) := by decide +kernel
theorem dX5_weep_15 : decode cX5_weep 15 = .ok (.invokevirtual 108, 3) := by decide +kernel
theorem dX5_weep_18 : decode cX5_weep 18 = .ok (.ifCond .eq 5, 3) := by decide +kernel
theorem dX5_weep_21 : decode cX5_weep 21 = .ok (.iconst (-1), 1) := by decide +kernel
theorem dX5_weep_22 : decode cX5_weep 22 = .ok (.ireturn, 1) := by decide +kernel
theorem dX5_weep_23 : decode cX5_weep 23 = .ok (.aload_n 0, 1) := by decide +kernel
theorem dX5_weep_24 : decode cX5_weep 24 = .ok (.aload_n 0, 1) := by decide +kernel
theorem dX5_weep_25 : decode cX5_weep 25 = .ok (.getfield 22, 3) := by decide +kernel
theorem dX5_weep_28 : decode cX5_weep 28 = .ok (.iload_n 1, 1) := by decide +kernel
theorem dX5_weep_29 : decode cX5_weep 29 = .ok (.iload_n 2, 1) := by decide +kernel
theorem dX5_weep_30 : decode cX5_weep 30 = .ok (.invokevirtual 105, 3) := by decide +kernel
theorem dX5_weep_33 : decode cX5_weep 33 = .ok (.ifCond .ne 6, 3) := by decide +kernel
theorem dX5_weep_36 : decode cX5_weep 36 = .ok (.bipush (-3), 2) := by decide +kernel
theorem dX5_weep_38 : decode cX5_weep 38 = .ok (.ireturn, 1) := by decide +kernel
theorem dX5_weep_39 : decode cX5_weep 39 = .ok (.aload_n 0, 1) := by decide +kernel
theorem dX5_weep_40 : decode cX5_weep 40 = .ok (.invokevirtual 115, 3) := by decide +kernel
theorem dX5_weep_43 : decode cX5_weep 43 = .ok (.aload_n 0, 1) := by decide +kernel
theorem dX5_weep_44 : decode cX5_weep 44 = .ok (.aload_n 0, 1) := by decide +kernel
theorem dX5_weep_45 : decode cX5_weep 45 = .ok (.getfield 22, 3) := by decide +kernel
theorem dX5_weep_48 : decode cX5_weep 48 = .ok (.iload_n 1, 1) := by decide +kernel
theorem dX5_weep_49 : decode cX5_weep 49 = .ok (.iload_n 2, 1) := by decide +kernel
theorem dX5_weep_50 : decode cX5_weep 50 = .ok (.invokevirtual 125, 3) := by decide +kernel
theorem dX5_weep_53 : decode cX5_weep 53 = .ok (.ireturn, 1) := by decide +kernel
theorem dX5_onions_0 : decode cX5_onions 0 = .ok (.aload_n 0, 1) := by decide +kernel
theorem dX5_onions_1 : decode cX5_onions 1 = .ok (.iconst 0, 1) := by decide +kernel
theorem dX5_onions_2 : decode cX5_onions 2 = .ok (.putfield 41, 3) := by decide +kernel
theorem dX5_onions_5 : decode cX5_onions 5 = .ok (.aload_n 0, 1) := by decide +kernel
theorem dX5_onions_6 : decode cX5_onions 6 = .ok (.iload_n 1, 1) := by decide +kernel
theorem dX5_onions_7 : decode cX5_onions 7 = .ok (.invokevirtual 108, 3) := by decide +kernel
theorem dX5_onions_10 : decode cX5_onions 10 = .ok (.ifCond .ne 11, 3) := by decide +kernel
theorem dX5_onions_13 : decode cX5_onions 13 = .ok (.aload_n 0, 1) := by decide +kernel
theorem dX5_onions_14 : decode cX5_onions 14 = .ok (.iload_n 2, 1) := by decide +kernel
theorem dX5_onions_15 : decode cX5_onions 15 = .ok (.invokevirtual 108, 3) := by decide +kernel
theorem dX5_onions_18 : decode cX5_onions 18 = .ok (.ifCond .eq 5, 3) := by decide +kernel
theorem dX5_onions_21 : decode cX5_onions 21 = .ok (.iconst (-1), 1) := by decide +kernel
theorem dX5_onions_22 : decode cX5_onions 22 = .ok (.ireturn, 1) := by decide +kernel
theorem dX5_onions_23 : decode cX5_onions 23 = .ok (.aload_n 0, 1) := by decide +kernel
theorem dX5_onions_24 : decode cX5_onions 24 = .ok (.aload_n 0, 1) := by decide +kernel
theorem dX5_onions_25 : decode cX5_onions 25 = .ok (.getfield 22, 3) := by decide +kernel
theorem dX5_onions_28 : decode cX5_onions 28 = .ok (.iload_n 1, 1) := by decide +kernel
theorem dX5_onions_29 : decode cX5_onions 29 = .ok (.iload_n 2, 1) := by decide +kernel
theorem dX5_onions_30 : decode cX5_onions 30 = .ok (.invokevirtual 93, 3) := by decide +kernel
theorem dX5_onions_33 : decode cX5_onions 33 = .ok (.ifCond .ne 6, 3) := by decide +kernel
theorem dX5_onions_36 : decode cX5_onions 36 = .ok (.bipush (-3), 2) := by decide +kernel
theorem dX5_onions_38 : decode cX5_onions 38 = .ok (.ireturn, 1) := by decide +kernel
theorem dX5_onions_39 : decode cX5_onions 39 = .ok (.aload_n 0, 1) := by decide +kernel
theorem dX5_onions_40 : decode cX5_onions 40 = .ok (.invokevirtual 115, 3) := by decide +kernel
theorem dX5_onions_43 : decode cX5_onions 43 = .ok (.aload_n 0, 1) := by decide +kernel
theorem dX5_onions_44 : decode cX5_onions 44 = .ok (.aload_n 0, 1) := by decide +kernel
theorem dX5_onions_45 : decode cX5_onions 45 = .ok (.getfield 22, 3) := by decide +kernel
theorem dX5_onions_48 : decode cX5_onions 48 = .ok (.iload_n 1, 1) := by decide +kernel
theorem dX5_onions_49 : decode cX5_onions 49 = .ok (.iload_n 2, 1) := by decide +kernel
theorem dX5_onions_50 : decode cX5_onions 50 = .ok (.invokevirtual 101, 3) := by decide +kernel
theorem dX5_onions_53 : decode cX5_onions 53 = .ok (.aload_n 0, 1) := by decide +kernel
theorem dX5_onions_54 : decode cX5_onions 54 = .ok (.getfield 22, 3) := by decide +kernel
theorem dX5_onions_57 : decode cX5_onions 57 = .ok (.bipush 41, 2) := by decide +kernel
theorem dX5_onions_59 : decode cX5_onions 59 = .ok (.dup2, 1) := by decide +kernel
theorem dX5_onions_60 : decode cX5_onions 60 = .ok (.iaload, 1) := by decide +kernel
theorem dX5_onions_61 : decode cX5_onions 61 = .ok (.iconst 1, 1) := by decide +kernel
theorem dX5_onions_62 : decode cX5_onions 62 = .ok (.iload_n 1, 1) := by decide +kernel
theorem dX5_onions_63 : decode cX5_onions 63 = .ok (.ishl, 1) := by decide +kernel
theorem dX5_onions_64 : decode cX5_onions 64 = .ok (.ior, 1) := by decide +kernel
theorem dX5_onions_65 : decode cX5_onions 65 = .ok (.iastore, 1) := by decide +kernel
theorem dX5_onions_66 : decode cX5_onions 66 = .ok (.aload_n 0, 1) := by decide +kernel
theorem dX5_onions_67 : decode cX5_onions 67 = .ok (.getfield 22, 3) := by decide +kernel
theorem dX5_onions_70 : decode cX5_onions 70 = .ok (.bipush 41, 2) := by decide +kernel
theorem dX5_onions_72 : decode cX5_onions 72 = .ok (.iaload, 1) := by decide +kernel
theorem dX5_onions_73 : decode cX5_onions 73 = .ok (.invokestatic 122, 3) := by decide +kernel
theorem dX5_onions_76 : decode cX5_onions 76 = .ok (.ireturn, 1) := by decide +kernel
theorem dX5_week_0 : decode cX5_week 0 = .ok (.aload_n 0, 1) := by decide +kernel
theorem dX5_week_1 : decode cX5_week 1 = .ok (.iconst 0, 1) := by decide +kernel
theorem dX5_week_2 : decode cX5_week 2 = .ok (.putfield 41, 3) := by decide +kernel
theorem dX5_week_5 : decode cX5_week 5 = .ok (.aload_n 0, 1) := by decide +kernel
theorem dX5_week_6 : decode cX5_week 6 = .ok (.invokevirtual 115, 3) := by decide +kernel
theorem dX5_week_9 : decode cX5_week 9 = .ok (.aload_n 0, 1) := by decide +kernel
theorem dX5_week_10 : decode cX5_week 10 = .ok (.aload_n 0, 1) := by decide +kernel
theorem dX5_week_11 : decode cX5_week 11 = .ok (.getfield 22, 3) := by decide +kernel
theorem dX5_week_14 : decode cX5_week 14 = .ok (.invokevirtual 129, 3) := by decide +kernel
theorem dX5_week_17 : decode cX5_week 17 = .ok (.aload_n 0, 1) := by decide +kernel
theorem dX5_week_18 : decode cX5_week 18 = .ok (.getfield 22, 3) := by decide +kernel
theorem dX5_week_21 : decode cX5_week 21 = .ok (.bipush 42, 2) := by decide +kernel
theorem dX5_week_23 : decode cX5_week 23 = .ok (.iaload, 1) := by decide +kernel
theorem dX5_week_24 : decode cX5_week 24 = .ok (.ireturn, 1) := by decide +kernel
theorem dX5_undo_0 : decode cX5_undo 0 = .ok (.aload_n 0, 1) := by decide +kernel
theorem dX5_undo_1 : decode cX5_undo 1 = .ok (.iconst 0, 1) := by decide +kernel
theorem dX5_undo_2 : decode cX5_undo 2 = .ok (.putfield 41, 3) := by decide +kernel
theorem dX5_undo_5 : decode cX5_undo 5 = .ok (.aload_n 0, 1) := by decide +kernel
theorem dX5_undo_6 : decode cX5_undo 6 = .ok (.getfield 90, 3) := by decide +kernel
theorem dX5_undo_9 : decode cX5_undo 9 = .ok (.ifCond .ne 6, 3) := by decide +kernel
theorem dX5_undo_12 : decode cX5_undo 12 = .ok (.bipush (-3), 2) := by decide +kernel
theorem dX5_undo_14 : decode cX5_undo 14 = .ok (.ireturn, 1) := by decide +kernel
theorem dX5_undo_15 : decode cX5_undo 15 = .ok (.aload_n 0, 1) := by decide +kernel
theorem dX5_undo_16 : decode cX5_undo 16 = .ok (.dup, 1) := by decide +kernel
theorem dX5_undo_17 : decode cX5_undo 17 = .ok (.getfield 90, 3) := by decide +kernel
theorem dX5_undo_20 : decode cX5_undo 20 = .ok (.iconst 1, 1) := by decide +kernel
theorem dX5_undo_21 : decode cX5_undo 21 = .ok (.isub, 1) := by decide +kernel
theorem dX5_undo_22 : decode cX5_undo 22 = .ok (.putfield 90, 3) := by decide +kernel
theorem dX5_undo_25 : decode cX5_undo 25 = .ok (.iconst 0, 1) := by decide +kernel
theorem dX5_undo_26 : decode cX5_undo 26 = .ok (.istore_n 1, 1) := by decide +kernel
theorem dX5_undo_27 : decode cX5_undo 27 = .ok (.iload_n 1, 1) := by decide +kernel
theorem dX5_undo_28 : decode cX5_undo 28 = .ok (.bipush 43, 2) := by decide +kernel
theorem dX5_undo_30 : decode cX5_undo 30 = .ok (.if_icmp .ge 29, 3) := by decide +kernel
theorem dX5_undo_33 : decode cX5_undo 33 = .ok (.aload_n 0, 1) := by decide +kernel
theorem dX5_undo_34 : decode cX5_undo 34 = .ok (.getfield 22, 3) := by decide +kernel
theorem dX5_undo_37 : decode cX5_undo 37 = .ok (.iload_n 1, 1) := by decide +kernel
theorem dX5_undo_38 : decode cX5_undo 38 = .ok (.aload_n 0, 1) := by decide +kernel
theorem dX5_undo_39 : decode cX5_undo 39 = .ok (.getfield 28, 3) := by decide +kernel
theorem dX5_undo_42 : decode cX5_undo 42 = .ok (.bipush 43, 2) := by decide +kernel
theorem dX5_undo_44 : decode cX5_undo 44 = .ok (.aload_n 0, 1) := by decide +kernel
theorem dX5_undo_45 : decode cX5_undo 45 = .ok (.getfield 90, 3) := by decide +kernel
theorem dX5_undo_48 : decode cX5_undo 48 = .ok (.imul, 1) := by decide +kernel
theorem dX5_undo_49 : decode cX5_undo 49 = .ok (.iload_n 1, 1) := by decide +kernel
theorem dX5_undo_50 : decode cX5_undo 50 = .ok (.iadd, 1) := by decide +kernel
theorem dX5_undo_51 : decode cX5_undo 51 = .ok (.iaload, 1) := by decide +kernel
theorem dX5_undo_52 : decode cX5_undo 52 = .ok (.iastore, 1) := by decide +kernel
theorem dX5_undo_53 : decode cX5_undo 53 = .ok (.iinc 1 1, 3) := by decide +kernel
theorem dX5_undo_56 : decode cX5_undo 56 = .ok (.goto (-29), 3) := by decide +kernel
theorem dX5_undo_59 : decode cX5_undo 59 = .ok (.aload_n 0, 1) := by decide +kernel
theorem dX5_undo_60 : decode cX5_undo 60 = .ok (.getfield 90, 3) := by decide +kernel
theorem dX5_undo_63 : decode cX5_undo 63 = .ok (.ireturn, 1) := by decide +kernel
theorem dX5_begin_0 : decode cX5_begin 0 = .ok (.iconst 0, 1) := by decide +kernel
theorem dX5_begin_1 : decode cX5_begin 1 = .ok (.istore_n 1, 1) := by decide +kernel
theorem dX5_begin_2 : decode cX5_begin 2 = .ok (.iload_n 1, 1) := by decide +kernel
theorem dX5_begin_3 : decode cX5_begin 3 = .ok (.bipush 43, 2) := by decide +kernel
theorem dX5_begin_5 : decode cX5_begin 5 = .ok (.if_icmp .ge 21, 3) := by decide +kernel
theorem dX5_begin_8 : decode cX5_begin 8 = .ok (.aload_n 0, 1) := by decide +kernel
theorem dX5_begin_9 : decode cX5_begin 9 = .ok (.getfield 25, 3) := by decide +kernel
theorem dX5_begin_12 : decode cX5_begin 12 = .ok (.iload_n 1, 1) := by decide +kernel
theorem dX5_begin_13 : decode cX5_begin 13 = .ok (.aload_n 0, 1) := by decide +kernel
theorem dX5_begin_14 : decode cX5_begin 14 = .ok (.getfield 22, 3) := by decide +kernel
theorem dX5_begin_17 : decode cX5_begin 17 = .ok (.iload_n 1, 1) := by decide +kernel
theorem dX5_begin_18 : decode cX5_begin 18 = .ok (.iaload, 1) := by decide +kernel
theorem dX5_begin_19 : decode cX5_begin 19 = .ok (.iastore, 1) := by decide +kernel
theorem dX5_begin_20 : decode cX5_begin 20 = .ok (.iinc 1 1, 3) := by decide +kernel
theorem dX5_begin_23 : decode cX5_begin 23 = .ok (.goto (-21), 3) := by decide +kernel
theorem dX5_begin_26 : decode cX5_begin 26 = .ok (.return_, 1) := by decide +kernel
theorem dX5_power_0 : decode cX5_power 0 = .ok (.iconst 1, 1) := by decide +kernel
theorem dX5_power_1 : decode cX5_power 1 = .ok (.istore_n 2, 1) := by decide +kernel
theorem dX5_power_2 : decode cX5_power 2 = .ok (.iconst 0, 1) := by decide +kernel
theorem dX5_power_3 : decode cX5_power 3 = .ok (.istore_n 3, 1) := by decide +kernel
theorem dX5_power_4 : decode cX5_power 4 = .ok (.iload_n 3, 1) := by decide +kernel
theorem dX5_power_5 : decode cX5_power 5 = .ok (.iload_n 1, 1) := by decide +kernel
theorem dX5_power_6 : decode cX5_power 6 = .ok (.if_icmp .ge 13, 3) := by decide +kernel
theorem dX5_power_9 : decode cX5_power 9 = .ok (.iload_n 2, 1) := by decide +kernel
theorem dX5_power_10 : decode cX5_power 10 = .ok (.iload_n 0, 1) := by decide +kernel
theorem dX5_power_11 : decode cX5_power 11 = .ok (.imul, 1) := by decide +kernel
theorem dX5_power_12 : decode cX5_power 12 = .ok (.istore_n 2, 1) := by decide +kernel
theorem dX5_power_13 : decode cX5_power 13 = .ok (.iinc 3 1, 3) := by decide +kernel
theorem dX5_power_16 : decode cX5_power 16 = .ok (.goto (-12), 3) := by decide +kernel
theorem dX5_power_19 : decode cX5_power 19 = .ok (.iload_n 2, 1) := by decide +kernel
theorem dX5_power_20 : decode cX5_power 20 = .ok (.ireturn, 1) := by decide +kernel
theorem dX5_findServed_0 : decode cX5_findServed 0 = .ok (.aload_n 1, 1) := by decide +kernel
theorem dX5_findServed_1 : decode cX5_findServed 1 = .ok (.bipush 15, 2) := by decide +kernel
theorem dX5_findServed_3 : decode cX5_findServed 3 = .ok (.iaload, 1) := by decide +kernel
theorem dX5_findServed_4 : decode cX5_findServed 4 = .ok (.invokestatic 122, 3) := by decide +kernel
theorem dX5_findServed_7 : decode cX5_findServed 7 = .ok (.istore_n 3, 1) := by decide +kernel
theorem dX5_findServed_8 : decode cX5_findServed 8 = .ok (.aload_n 0, 1) := by decide +kernel
theorem dX5_findServed_9 : decode cX5_findServed 9 = .ok (.bipush (-9), 2) := by decide +kernel
theorem dX5_findServed_11 : decode cX5_findServed 11 = .ok (.putfield 133, 3) := by decide +kernel
theorem dX5_findServed_14 : decode cX5_findServed 14 = .ok (.aload_n 0, 1) := by decide +kernel
theorem dX5_findServed_15 : decode cX5_findServed 15 = .ok (.sipush 9999, 3) := by decide +kernel
theorem dX5_findServed_18 : decode cX5_findServed 18 = .ok (.putfield 136, 3) := by decide +kernel
theorem dX5_findServed_21 : decode cX5_findServed 21 = .ok (.aload_n 0, 1) := by decide +kernel
theorem dX5_findServed_22 : decode cX5_findServed 22 = .ok (.iconst 0, 1) := by decide +kernel
theorem dX5_findServed_23 : decode cX5_findServed 23 = .ok (.putfield 139, 3) := by decide +kernel
theorem dX5_findServed_26 : decode cX5_findServed 26 = .ok (.aload_n 0, 1) := by decide +kernel
theorem dX5_findServed_27 : decode cX5_findServed 27 = .ok (.getfield 45, 3) := by decide +kernel
theorem dX5_findServed_30 : decode cX5_findServed 30 = .ok (.iconst 1, 1) := by decide +kernel
theorem dX5_findServed_31 : decode cX5_findServed 31 = .ok (.iadd, 1) := by decide +kernel
theorem dX5_findServed_32 : decode cX5_findServed 32 = .ok (.iload_n 3, 1) := by decide +kernel
theorem dX5_findServed_33 : decode cX5_findServed 33 = .ok (.invokestatic 142, 3) := by decide +kernel
theorem dX5_findServed_36 : decode cX5_findServed 36 = .ok (.istore 4, 2) := by decide +kernel
theorem dX5_findServed_38 : decode cX5_findServed 38 = .ok (.iconst 0, 1) := by decide +kernel
theorem dX5_findServed_39 : decode cX5_findServed 39 = .ok (.istore 5, 2) := by decide +kernel
theorem dX5_findServed_41 : decode cX5_findServed 41 = .ok (.iload 5, 2) := by decide +kernel
theorem dX5_findServed_43 : decode cX5_findServed 43 = .ok (.iload 4, 2) := by decide +kernel
theorem dX5_findServed_45 : decode cX5_findServed 45 = .ok (.if_icmp .ge 253, 3) := by decide +kernel
theorem dX5_findServed_48 : decode cX5_findServed 48 = .ok (.iconst 0, 1) := by decide +kernel
theorem dX5_findServed_49 : decode cX5_findServed 49 = .ok (.istore 6, 2) := by decide +kernel
theorem dX5_findServed_51 : decode cX5_findServed 51 = .ok (.iconst 0, 1) := by decide +kernel
theorem dX5_findServed_52 : decode cX5_findServed 52 = .ok (.istore 7, 2) := by decide +kernel
theorem dX5_findServed_54 : decode cX5_findServed 54 = .ok (.iconst 0, 1) := by decide +kernel
theorem dX5_findServed_55 : decode cX5_findServed 55 = .ok (.istore 8, 2) := by decide +kernel
theorem dX5_findServed_57 : decode cX5_findServed 57 = .ok (.iconst 0, 1) := by decide +kernel
theorem dX5_findServed_58 : decode cX5_findServed 58 = .ok (.istore 9, 2) := by decide +kernel
theorem dX5_findServed_60 : decode cX5_findServed 60 = .ok (.iload 5, 2) := by decide +kernel
theorem dX5_findServed_62 : decode cX5_findServed 62 = .ok (.istore 10, 2) := by decide +kernel
theorem dX5_findServed_64 : decode cX5_findServed 64 = .ok (.iload 4, 2) := by decide +kernel
theorem dX5_findServed_66 : decode cX5_findServed 66 = .ok (.istore 11, 2) := by decide +kernel
theorem dX5_findServed_68 : decode cX5_findServed 68 = .ok (.iconst 1, 1) := by decide +kernel
theorem dX5_findServed_69 : decode cX5_findServed 69 = .ok (.istore 12, 2) := by decide +kernel
theorem dX5_findServed_71 : decode cX5_findServed 71 = .ok (.iconst 0, 1) := by decide +kernel
theorem dX5_findServed_72 : decode cX5_findServed 72 = .ok (.istore 13, 2) := by decide +kernel
theorem dX5_findServed_74 : decode cX5_findServed 74 = .ok (.iload 13, 2) := by decide +kernel
theorem dX5_findServed_76 : decode cX5_findServed 76 = .ok (.aload_n 0, 1) := by decide +kernel
theorem dX5_findServed_77 : decode cX5_findServed 77 = .ok (.getfield 45, 3) := by decide +kernel
theorem dX5_findServed_80 : decode cX5_findServed 80 = .ok (.if_icmp .ge 162, 3) := by decide +kernel
theorem dX5_findServed_83 : decode cX5_findServed 83 = .ok (.iload 12, 2) := by decide +kernel
theorem dX5_findServed_85 : decode cX5_findServed 85 = .ok (.ifCond .eq 157, 3) := by decide +kernel
theorem dX5_findServed_88 : decode cX5_findServed 88 = .ok (.aload_n 1, 1) := by decide +kernel
theorem dX5_findServed_89 : decode cX5_findServed 89 = .ok (.bipush 15, 2) := by decide +kernel
theorem dX5_findServed_91 : decode cX5_findServed 91 = .ok (.iaload, 1) := by decide +kernel
theorem dX5_findServed_92 : decode cX5_findServed 92 = .ok (.iload 13, 2) := by decide +kernel
theorem dX5_findServed_94 : decode cX5_findServed 94 = .ok (.invokestatic 63, 3) := by decide +kernel
theorem dX5_findServed_97 : decode cX5_findServed 97 = .ok (.ifCond .eq 139, 3) := by decide +kernel
theorem dX5_findServed_100 : decode cX5_findServed 100 = .ok (.iload 11, 2) := by decide +kernel
theorem dX5_findServed_102 : decode cX5_findServed 102 = .ok (.aload_n 0, 1) := by decide +kernel
theorem dX5_findServed_103 : decode cX5_findServed 103 = .ok (.getfield 45, 3) := by decide +kernel
theorem dX5_findServed_106 : decode cX5_findServed 106 = .ok (.iconst 1, 1) := by decide +kernel
theorem dX5_findServed_107 : decode cX5_findServed 107 = .ok (.iadd, 1) := by decide +kernel
theorem dX5_findServed_108 : decode cX5_findServed 108 = .ok (.idiv, 1) := by decide +kernel
theorem dX5_findServed_109 : decode cX5_findServed 109 = .ok (.istore 11, 2) := by decide +kernel
theorem dX5_findServed_111 : decode cX5_findServed 111 = .ok (.iload 10, 2) := by decide +kernel
theorem dX5_findServed_113 : decode cX5_findServed 113 = .ok (.iload 11, 2) := by decide +kernel
theorem dX5_findServed_115 : decode cX5_findServed 115 = .ok (.idiv, 1) := by decide +kernel
theorem dX5_findServed_116 : decode cX5_findServed 116 = .ok (.iconst 1, 1) := by decide +kernel
theorem dX5_findServed_117 : decode cX5_findServed 117 = .ok (.isub, 1) := by decide +kernel
theorem dX5_findServed_118 : decode cX5_findServed 118 = .ok (.istore 14, 2) := by decide +kernel
theorem dX5_findServed_120 : decode cX5_findServed 120 = .ok (.iload 10, 2) := by decide +kernel
theorem dX5_findServed_122 : decode cX5_findServed 122 = .ok (.iload 11, 2) := by decide +kernel
theorem dX5_findServed_124 : decode cX5_findServed 124 = .ok (.irem, 1) := by decide +kernel
theorem dX5_findServed_125 : decode cX5_findServed 125 = .ok (.istore 10, 2) := by decide +kernel
theorem dX5_findServed_127 : decode cX5_findServed 127 = .ok (.iload 14, 2) := by decide +kernel
theorem dX5_findServed_129 : decode cX5_findServed 129 = .ok (.ifCond .lt 34, 3) := by decide +kernel
theorem dX5_findServed_132 : decode cX5_findServed 132 = .ok (.iload_n 2, 1) := by decide +kernel
theorem dX5_findServed_133 : decode cX5_findServed 133 = .ok (.iload 14, 2) := by decide +kernel
theorem dX5_findServed_135 : decode cX5_findServed 135 = .ok (.invokestatic 63, 3) := by decide +kernel
theorem dX5_findServed_138 : decode cX5_findServed 138 = .ok (.ifCond .eq 29, 3) := by decide +kernel
theorem dX5_findServed_141 : decode cX5_findServed 141 = .ok (.iload 6, 2) := by decide +kernel
theorem dX5_findServed_143 : decode cX5_findServed 143 = .ok (.iload 14, 2) := by decide +kernel
theorem dX5_findServed_145 : decode cX5_findServed 145 = .ok (.invokestatic 63, 3) := by decide +kernel
theorem dX5_findServed_148 : decode cX5_findServed 148 = .ok (.ifCond .ne 19, 3) := by decide +kernel
theorem dX5_findServed_151 : decode cX5_findServed 151 = .ok (.aload_n 0, 1) := by decide +kernel
theorem dX5_findServed_152 : decode cX5_findServed 152 = .ok (.aload_n 1, 1) := by decide +kernel
theorem dX5_findServed_153 : decode cX5_findServed 153 = .ok (.iload 14, 2) := by decide +kernel
theorem dX5_findServed_155 : decode cX5_findServed 155 = .ok (.iload 13, 2) := by decide +kernel
theorem dX5_findServed_157 : decode cX5_findServed 157 = .ok (.invokevirtual 105, 3) := by decide +kernel
theorem dX5_findServed_160 : decode cX5_findServed 160 = .ok (.ifCond .eq 7, 3) := by decide +kernel
theorem dX5_findServed_163 : decode cX5_findServed 163 = .ok (.iconst 1, 1) := by decide +kernel
theorem dX5_findServed_164 : decode cX5_findServed 164 = .ok (.goto 4, 3) := by decide +kernel
theorem dX5_findServed_167 : decode cX5_findServed 167 = .ok (.iconst 0, 1) := by decide +kernel
theorem dX5_findServed_168 : decode cX5_findServed 168 = .ok (.istore 12, 2) := by decide +kernel
theorem dX5_findServed_170 : decode cX5_findServed 170 = .ok (.iload 6, 2) := by decide +kernel
theorem dX5_findServed_172 : decode cX5_findServed 172 = .ok (.iload 14, 2) := by decide +kernel
theorem dX5_findServed_174 : decode cX5_findServed 174 = .ok (.ifCond .ge 7, 3) := by decide +kernel
theorem dX5_findServed_177 : decode cX5_findServed 177 = .ok (.iconst 0, 1) := by decide +kernel
theorem dX5_findServed_178 : decode cX5_findServed 178 = .ok (.goto 7, 3) := by decide +kernel
theorem dX5_findServed_181 : decode cX5_findServed 181 = .ok (.iconst 1, 1) := by decide +kernel
theorem dX5_findServed_182 : decode cX5_findServed 182 = .ok (.iload 14, 2) := by decide +kernel
theorem dX5_findServed_184 : decode cX5_findServed 184 = .ok (.ishl, 1) := by decide +kernel
theorem dX5_findServed_185 : decode cX5_findServed 185 = .ok (.ior, 1) := by decide +kernel
theorem dX5_findServed_186 : decode cX5_findServed 186 = .ok (.istore 6, 2) := by decide +kernel
theorem dX5_findServed_188 : decode cX5_findServed 188 = .ok (.iload 7, 2) := by decide +kernel
theorem dX5_findServed_190 : decode cX5_findServed 190 = .ok (.iload 14, 2) := by decide +kernel
theorem dX5_findServed_192 : decode cX5_findServed 192 = .ok (.ifCond .ge 7, 3) := by decide +kernel
theorem dX5_findServed_195 : decode cX5_findServed 195 = .ok (.iconst 0, 1) := by decide +kernel
theorem dX5_findServed_196 : decode cX5_findServed 196 = .ok (.goto 10, 3) := by decide +kernel
theorem dX5_findServed_199 : decode cX5_findServed 199 = .ok (.aload_n 0, 1) := by decide +kernel
theorem dX5_findServed_200 : decode cX5_findServed 200 = .ok (.aload_n 1, 1) := by decide +kernel
theorem dX5_findServed_201 : decode cX5_findServed 201 = .ok (.iload 14, 2) := by decide +kernel
theorem dX5_findServed_203 : decode cX5_findServed 203 = .ok (.invokevirtual 97, 3) := by decide +kernel
theorem dX5_findServed_206 : decode cX5_findServed 206 = .ok (.iadd, 1) := by decide +kernel
theorem dX5_findServed_207 : decode cX5_findServed 207 = .ok (.istore 7, 2) := by decide +kernel
theorem dX5_findServed_209 : decode cX5_findServed 209 = .ok (.iload 8, 2) := by decide +kernel
theorem dX5_findServed_211 : decode cX5_findServed 211 = .ok (.iload 14, 2) := by decide +kernel
theorem dX5_findServed_213 : decode cX5_findServed 213 = .ok (.ifCond .ge 7, 3) := by decide +kernel
theorem dX5_findServed_216 : decode cX5_findServed 216 = .ok (.iconst 0, 1) := by decide +kernel
theorem dX5_findServed_217 : decode cX5_findServed 217 = .ok (.goto 4, 3) := by decide +kernel
theorem dX5_findServed_220 : decode cX5_findServed 220 = .ok (.iconst 1, 1) := by decide +kernel
theorem dX5_findServed_221 : decode cX5_findServed 221 = .ok (.iadd, 1) := by decide +kernel
theorem dX5_findServed_222 : decode cX5_findServed 222 = .ok (.istore 8, 2) := by decide +kernel
theorem dX5_findServed_224 : decode cX5_findServed 224 = .ok (.bipush 10, 2) := by decide +kernel
theorem dX5_findServed_226 : decode cX5_findServed 226 = .ok (.iload 9, 2) := by decide +kernel
theorem dX5_findServed_228 : decode cX5_findServed 228 = .ok (.imul, 1) := by decide +kernel
theorem dX5_findServed_229 : decode cX5_findServed 229 = .ok (.iload 14, 2) := by decide +kernel
theorem dX5_findServed_231 : decode cX5_findServed 231 = .ok (.iadd, 1) := by decide +kernel
theorem dX5_findServed_232 : decode cX5_findServed 232 = .ok (.iconst 1, 1) := by decide +kernel
theorem dX5_findServed_233 : decode cX5_findServed 233 = .ok (.iadd, 1) := by decide +kernel
theorem dX5_findServed_234 : decode cX5_findServed 234 = .ok (.istore 9, 2) := by decide +kernel
theorem dX5_findServed_236 : decode cX5_findServed 236 = .ok (.iinc 13 1, 3) := by decide +kernel
theorem dX5_findServed_239 : decode cX5_findServed 239 = .ok (.goto (-165), 3) := by decide +kernel
theorem dX5_findServed_242 : decode cX5_findServed 242 = .ok (.iload 12, 2) := by decide +kernel
theorem dX5_findServed_244 : decode cX5_findServed 244 = .ok (.ifCond .eq 48, 3) := by decide +kernel
theorem dX5_findServed_247 : decode cX5_findServed 247 = .ok (.iload 8, 2) := by decide +kernel
theorem dX5_findServed_249 : decode cX5_findServed 249 = .ok (.aload_n 0, 1) := by decide +kernel
theorem dX5_findServed_250 : decode cX5_findServed 250 = .ok (.getfield 133, 3) := by decide +kernel
theorem dX5_findServed_253 : decode cX5_findServed 253 = .ok (.if_icmp .gt 21, 3) := by decide +kernel
theorem dX5_findServed_256 : decode cX5_findServed 256 = .ok (.iload 8, 2) := by decide +kernel
theorem dX5_findServed_258 : decode cX5_findServed 258 = .ok (.aload_n 0, 1) := by decide +kernel
theorem dX5_findServed_259 : decode cX5_findServed 259 = .ok (.getfield 133, 3) := by decide +kernel
theorem dX5_findServed_262 : decode cX5_findServed 262 = .ok (.if_icmp .ne 30, 3) := by decide +kernel
theorem dX5_findServed_265 : decode cX5_findServed 265 = .ok (.iload 7, 2) := by decide +kernel
theorem dX5_findServed_267 : decode cX5_findServed 267 = .ok (.aload_n 0, 1) := by decide +kernel
theorem dX5_findServed_268 : decode cX5_findServed 268 = .ok (.getfield 136, 3) := by decide +kernel
theorem dX5_findServed_271 : decode cX5_findServed 271 = .ok (.if_icmp .ge 21, 3) := by decide +kernel
theorem dX5_findServed_274 : decode cX5_findServed 274 = .ok (.aload_n 0, 1) := by decide +kernel
theorem dX5_findServed_275 : decode cX5_findServed 275 = .ok (.iload 8, 2) := by decide +kernel
theorem dX5_findServed_277 : decode cX5_findServed 277 = .ok (.putfield 133, 3) := by decide +kernel
theorem dX5_findServed_280 : decode cX5_findServed 280 = .ok (.aload_n 0, 1) := by decide +kernel
theorem dX5_findServed_281 : decode cX5_findServed 281 = .ok (.iload 7, 2) := by decide +kernel
theorem dX5_findServed_283 : decode cX5_findServed 283 = .ok (.putfield 136, 3) := by decide +kernel
theorem dX5_findServed_286 : decode cX5_findServed 286 = .ok (.aload_n 0, 1) := by decide +kernel
theorem dX5_findServed_287 : decode cX5_findServed 287 = .ok (.iload 9, 2) := by decide +kernel
theorem dX5_findServed_289 : decode cX5_findServed 289 = .ok (.putfield 139, 3) := by decide +kernel
theorem dX5_findServed_292 : decode cX5_findServed 292 = .ok (.iinc 5 1, 3) := by decide +kernel
theorem dX5_findServed_295 : decode cX5_findServed 295 = .ok (.goto (-254), 3) := by decide +kernel
theorem dX5_findServed_298 : decode cX5_findServed 298 = .ok (.return_, 1) := by decide +kernel
theorem dX5_served_0 : decode cX5_served 0 = .ok (.aload_n 0, 1) := by decide +kernel
theorem dX5_served_1 : decode cX5_served 1 = .ok (.iconst 0, 1) := by decide +kernel
theorem dX5_served_2 : decode cX5_served 2 = .ok (.putfield 41, 3) := by decide +kernel
theorem dX5_served_5 : decode cX5_served 5 = .ok (.iload_n 1, 1) := by decide +kernel
theorem dX5_served_6 : decode cX5_served 6 = .ok (.i2l, 1) := by decide +kernel
theorem dX5_served_7 : decode cX5_served 7 = .ok (.lconst 0, 1) := by decide +kernel
theorem dX5_served_8 : decode cX5_served 8 = .ok (.ldc2_w 145, 3) := by decide +kernel
theorem dX5_served_11 : decode cX5_served 11 = .ok (.invokestatic 48, 3) := by decide +kernel
theorem dX5_served_14 : decode cX5_served 14 = .ok (.ifCond .ne 6, 3) := by decide +kernel
theorem dX5_served_17 : decode cX5_served 17 = .ok (.bipush (-2), 2) := by decide +kernel
theorem dX5_served_19 : decode cX5_served 19 = .ok (.ireturn, 1) := by decide +kernel
theorem dX5_served_20 : decode cX5_served 20 = .ok (.aload_n 0, 1) := by decide +kernel
theorem dX5_served_21 : decode cX5_served 21 = .ok (.aload_n 0, 1) := by decide +kernel
theorem dX5_served_22 : decode cX5_served 22 = .ok (.getfield 22, 3) := by decide +kernel
theorem dX5_served_25 : decode cX5_served 25 = .ok (.aload_n 0, 1) := by decide +kernel
theorem dX5_served_26 : decode cX5_served 26 = .ok (.invokevirtual 147, 3) := by decide +kernel
theorem dX5_served_29 : decode cX5_served 29 = .ok (.invokevirtual 150, 3) := by decide +kernel
theorem dX5_served_32 : decode cX5_served 32 = .ok (.iload_n 1, 1) := by decide +kernel
theorem dX5_served_33 : decode cX5_served 33 = .ok (.ifCond .ne 10, 3) := by decide +kernel
theorem dX5_served_36 : decode cX5_served 36 = .ok (.aload_n 0, 1) := by decide +kernel
theorem dX5_served_37 : decode cX5_served 37 = .ok (.getfield 133, 3) := by decide +kernel
theorem dX5_served_40 : decode cX5_served 40 = .ok (.goto 19, 3) := by decide +kernel
theorem dX5_served_43 : decode cX5_served 43 = .ok (.iload_n 1, 1) := by decide +kernel
theorem dX5_served_44 : decode cX5_served 44 = .ok (.iconst 1, 1) := by decide +kernel
theorem dX5_served_45 : decode cX5_served 45 = .ok (.if_icmp .ne 10, 3) := by decide +kernel
theorem dX5_served_48 : decode cX5_served 48 = .ok (.aload_n 0, 1) := by decide +kernel
theorem dX5_served_49 : decode cX5_served 49 = .ok (.getfield 136, 3) := by decide +kernel
theorem dX5_served_52 : decode cX5_served 52 = .ok (.goto 7, 3) := by decide +kernel
theorem dX5_served_55 : decode cX5_served 55 = .ok (.aload_n 0, 1) := by decide +kernel
theorem dX5_served_56 : decode cX5_served 56 = .ok (.getfield 139, 3) := by decide +kernel
theorem dX5_served_59 : decode cX5_served 59 = .ok (.ireturn, 1) := by decide +kernel
theorem dX5_nobody_0 : decode cX5_nobody 0 = .ok (.aload_n 0, 1) := by decide +kernel
theorem dX5_nobody_1 : decode cX5_nobody 1 = .ok (.iconst 0, 1) := by decide +kernel
theorem dX5_nobody_2 : decode cX5_nobody 2 = .ok (.putfield 41, 3) := by decide +kernel
theorem dX5_nobody_5 : decode cX5_nobody 5 = .ok (.iload_n 1, 1) := by decide +kernel
theorem dX5_nobody_6 : decode cX5_nobody 6 = .ok (.i2l, 1) := by decide +kernel
theorem dX5_nobody_7 : decode cX5_nobody 7 = .ok (.lconst 0, 1) := by decide +kernel
theorem dX5_nobody_8 : decode cX5_nobody 8 = .ok (.lconst 1, 1) := by decide +kernel
theorem dX5_nobody_9 : decode cX5_nobody 9 = .ok (.invokestatic 48, 3) := by decide +kernel
theorem dX5_nobody_12 : decode cX5_nobody 12 = .ok (.ifCond .ne 6, 3) := by decide +kernel
theorem dX5_nobody_15 : decode cX5_nobody 15 = .ok (.bipush (-2), 2) := by decide +kernel
theorem dX5_nobody_17 : decode cX5_nobody 17 = .ok (.ireturn, 1) := by decide +kernel
theorem dX5_nobody_18 : decode cX5_nobody 18 = .ok (.iconst 0, 1) := by decide +kernel
theorem dX5_nobody_19 : decode cX5_nobody 19 = .ok (.istore_n 2, 1) := by decide +kernel
theorem dX5_nobody_20 : decode cX5_nobody 20 = .ok (.iconst 0, 1) := by decide +kernel
theorem dX5_nobody_21 : decode cX5_nobody 21 = .ok (.istore_n 3, 1) := by decide +kernel
theorem dX5_nobody_22 : decode cX5_nobody 22 = .ok (.iload_n 3, 1) := by decide +kernel
theorem dX5_nobody_23 : decode cX5_nobody 23 = .ok (.aload_n 0, 1) := by decide +kernel
theorem dX5_nobody_24 : decode cX5_nobody 24 = .ok (.getfield 45, 3) := by decide +kernel
theorem dX5_nobody_27 : decode cX5_nobody 27 = .ok (.if_icmp .ge 118, 3) := by decide +kernel
theorem dX5_nobody_30 : decode cX5_nobody 30 = .ok (.iload_n 1, 1) := by decide +kernel
theorem dX5_nobody_31 : decode cX5_nobody 31 = .ok (.iconst 1, 1) := by decide +kernel
theorem dX5_nobody_32 : decode cX5_nobody 32 = .ok (.if_icmp .ne 31, 3) := by decide +kernel
theorem dX5_nobody_35 : decode cX5_nobody 35 = .ok (.aload_n 0, 1) := by decide +kernel
theorem dX5_nobody_36 : decode cX5_nobody 36 = .ok (.getfield 22, 3) := by decide +kernel
theorem dX5_nobody_39 : decode cX5_nobody 39 = .ok (.bipush 10, 2) := by decide +kernel
theorem dX5_nobody_41 : decode cX5_nobody 41 = .ok (.iload_n 3, 1) := by decide +kernel
theorem dX5_nobody_42 : decode cX5_nobody 42 = .ok (.iadd, 1) := by decide +kernel
theorem dX5_nobody_43 : decode cX5_nobody 43 = .ok (.iaload, 1) := by decide +kernel
theorem dX5_nobody_44 : decode cX5_nobody 44 = .ok (.iconst 1, 1) := by decide +kernel
theorem dX5_nobody_45 : decode cX5_nobody 45 = .ok (.iload_n 3, 1) := by decide +kernel
theorem dX5_nobody_46 : decode cX5_nobody 46 = .ok (.ishl, 1) := by decide +kernel
theorem dX5_nobody_47 : decode cX5_nobody 47 = .ok (.ior, 1) := by decide +kernel
theorem dX5_nobody_48 : decode cX5_nobody 48 = .ok (.aload_n 0, 1) := by decide +kernel
theorem dX5_nobody_49 : decode cX5_nobody 49 = .ok (.invokevirtual 147, 3) := by decide +kernel
theorem dX5_nobody_52 : decode cX5_nobody 52 = .ok (.if_icmp .ne 7, 3) := by decide +kernel
theorem dX5_nobody_55 : decode cX5_nobody 55 = .ok (.iconst 1, 1) := by decide +kernel
theorem dX5_nobody_56 : decode cX5_nobody 56 = .ok (.goto 18, 3) := by decide +kernel
theorem dX5_nobody_59 : decode cX5_nobody 59 = .ok (.iconst 0, 1) := by decide +kernel
theorem dX5_nobody_60 : decode cX5_nobody 60 = .ok (.goto 14, 3) := by decide +kernel
theorem dX5_nobody_63 : decode cX5_nobody 63 = .ok (.aload_n 0, 1) := by decide +kernel
theorem dX5_nobody_64 : decode cX5_nobody 64 = .ok (.getfield 22, 3) := by decide +kernel
theorem dX5_nobody_67 : decode cX5_nobody 67 = .ok (.bipush 15, 2) := by decide +kernel
theorem dX5_nobody_69 : decode cX5_nobody 69 = .ok (.iaload, 1) := by decide +kernel
theorem dX5_nobody_70 : decode cX5_nobody 70 = .ok (.iload_n 3, 1) := by decide +kernel
theorem dX5_nobody_71 : decode cX5_nobody 71 = .ok (.invokestatic 63, 3) := by decide +kernel
theorem dX5_nobody_74 : decode cX5_nobody 74 = .ok (.istore 4, 2) := by decide +kernel
theorem dX5_nobody_76 : decode cX5_nobody 76 = .ok (.iconst 0, 1) := by decide +kernel
theorem dX5_nobody_77 : decode cX5_nobody 77 = .ok (.istore 5, 2) := by decide +kernel
theorem dX5_nobody_79 : decode cX5_nobody 79 = .ok (.iload 5, 2) := by decide +kernel
theorem dX5_nobody_81 : decode cX5_nobody 81 = .ok (.aload_n 0, 1) := by decide +kernel
theorem dX5_nobody_82 : decode cX5_nobody 82 = .ok (.getfield 45, 3) := by decide +kernel
theorem dX5_nobody_85 : decode cX5_nobody 85 = .ok (.if_icmp .ge 39, 3) := by decide +kernel
theorem dX5_nobody_88 : decode cX5_nobody 88 = .ok (.iload_n 1, 1) := by decide +kernel
theorem dX5_nobody_89 : decode cX5_nobody 89 = .ok (.ifCond .ne 35, 3) := by decide +kernel
theorem dX5_nobody_92 : decode cX5_nobody 92 = .ok (.iload 4, 2) := by decide +kernel
theorem dX5_nobody_94 : decode cX5_nobody 94 = .ok (.ifCond .eq 21, 3) := by decide +kernel
theorem dX5_nobody_97 : decode cX5_nobody 97 = .ok (.aload_n 0, 1) := by decide +kernel
theorem dX5_nobody_98 : decode cX5_nobody 98 = .ok (.aload_n 0, 1) := by decide +kernel
theorem dX5_nobody_99 : decode cX5_nobody 99 = .ok (.getfield 22, 3) := by decide +kernel
theorem dX5_nobody_102 : decode cX5_nobody 102 = .ok (.iload 5, 2) := by decide +kernel
theorem dX5_nobody_104 : decode cX5_nobody 104 = .ok (.iload_n 3, 1) := by decide +kernel
theorem dX5_nobody_105 : decode cX5_nobody 105 = .ok (.invokevirtual 105, 3) := by decide +kernel
theorem dX5_nobody_108 : decode cX5_nobody 108 = .ok (.ifCond .ne 7, 3) := by decide +kernel
theorem dX5_nobody_111 : decode cX5_nobody 111 = .ok (.iconst 1, 1) := by decide +kernel
theorem dX5_nobody_112 : decode cX5_nobody 112 = .ok (.goto 4, 3) := by decide +kernel
theorem dX5_nobody_115 : decode cX5_nobody 115 = .ok (.iconst 0, 1) := by decide +kernel
theorem dX5_nobody_116 : decode cX5_nobody 116 = .ok (.istore 4, 2) := by decide +kernel
theorem dX5_nobody_118 : decode cX5_nobody 118 = .ok (.iinc 5 1, 3) := by decide +kernel
theorem dX5_nobody_121 : decode cX5_nobody 121 = .ok (.goto (-42), 3) := by decide +kernel
theorem dX5_nobody_124 : decode cX5_nobody 124 = .ok (.iload_n 2, 1) := by decide +kernel
theorem dX5_nobody_125 : decode cX5_nobody 125 = .ok (.iload 4, 2) := by decide +kernel
theorem dX5_nobody_127 : decode cX5_nobody 127 = .ok (.ifCond .eq 9, 3) := by decide +kernel
theorem dX5_nobody_130 : decode cX5_nobody 130 = .ok (.iconst 1, 1) := by decide +kernel
theorem dX5_nobody_131 : decode cX5_nobody 131 = .ok (.iload_n 3, 1) := by decide +kernel
theorem dX5_nobody_132 : decode cX5_nobody 132 = .ok (.ishl, 1) := by decide +kernel
theorem dX5_nobody_133 : decode cX5_nobody 133 = .ok (.goto 4, 3) := by decide +kernel
theorem dX5_nobody_136 : decode cX5_nobody 136 = .ok (.iconst 0, 1) := by decide +kernel
theorem dX5_nobody_137 : decode cX5_nobody 137 = .ok (.ior, 1) := by decide +kernel
theorem dX5_nobody_138 : decode cX5_nobody 138 = .ok (.istore_n 2, 1) := by decide +kernel
theorem dX5_nobody_139 : decode cX5_nobody 139 = .ok (.iinc 3 1, 3) := by decide +kernel
theorem dX5_nobody_142 : decode cX5_nobody 142 = .ok (.goto (-120), 3) := by decide +kernel
theorem dX5_nobody_145 : decode cX5_nobody 145 = .ok (.iload_n 2, 1) := by decide +kernel
theorem dX5_nobody_146 : decode cX5_nobody 146 = .ok (.ireturn, 1) := by decide +kernel
theorem dX5_till_0 : decode cX5_till 0 = .ok (.aload_n 0, 1) := by decide +kernel
theorem dX5_till_1 : decode cX5_till 1 = .ok (.iconst 0, 1) := by decide +kernel
theorem dX5_till_2 : decode cX5_till 2 = .ok (.putfield 41, 3) := by decide +kernel
theorem dX5_till_5 : decode cX5_till 5 = .ok (.aload_n 0, 1) := by decide +kernel
theorem dX5_till_6 : decode cX5_till 6 = .ok (.iload_n 1, 1) := by decide +kernel
theorem dX5_till_7 : decode cX5_till 7 = .ok (.invokevirtual 108, 3) := by decide +kernel
theorem dX5_till_10 : decode cX5_till 10 = .ok (.ifCond .ne 11, 3) := by decide +kernel
theorem dX5_till_13 : decode cX5_till 13 = .ok (.aload_n 0, 1) := by decide +kernel
theorem dX5_till_14 : decode cX5_till 14 = .ok (.iload_n 2, 1) := by decide +kernel
theorem dX5_till_15 : decode cX5_till 15 = .ok (.invokevirtual 108, 3) := by decide +kernel
theorem dX5_till_18 : decode cX5_till 18 = .ok (.ifCond .eq 5, 3) := by decide +kernel
theorem dX5_till_21 : decode cX5_till 21 = .ok (.iconst (-1), 1) := by decide +kernel
theorem dX5_till_22 : decode cX5_till 22 = .ok (.ireturn, 1) := by decide +kernel
theorem dX5_till_23 : decode cX5_till 23 = .ok (.aload_n 0, 1) := by decide +kernel
theorem dX5_till_24 : decode cX5_till 24 = .ok (.invokevirtual 153, 3) := by decide +kernel
theorem dX5_till_27 : decode cX5_till 27 = .ok (.iconst 0, 1) := by decide +kernel
theorem dX5_till_28 : decode cX5_till 28 = .ok (.istore_n 3, 1) := by decide +kernel
theorem dX5_till_29 : decode cX5_till 29 = .ok (.iload_n 3, 1) := by decide +kernel
theorem dX5_till_30 : decode cX5_till 30 = .ok (.bipush 9, 2) := by decide +kernel
theorem dX5_till_32 : decode cX5_till 32 = .ok (.if_icmp .gt 32, 3) := by decide +kernel
theorem dX5_till_35 : decode cX5_till 35 = .ok (.aload_n 0, 1) := by decide +kernel
theorem dX5_till_36 : decode cX5_till 36 = .ok (.aload_n 0, 1) := by decide +kernel
theorem dX5_till_37 : decode cX5_till 37 = .ok (.getfield 25, 3) := by decide +kernel
theorem dX5_till_40 : decode cX5_till 40 = .ok (.iload_n 1, 1) := by decide +kernel
theorem dX5_till_41 : decode cX5_till 41 = .ok (.iload_n 2, 1) := by decide +kernel
theorem dX5_till_42 : decode cX5_till 42 = .ok (.invokevirtual 105, 3) := by decide +kernel
theorem dX5_till_45 : decode cX5_till 45 = .ok (.ifCond .eq 5, 3) := by decide +kernel
theorem dX5_till_48 : decode cX5_till 48 = .ok (.iload_n 3, 1) := by decide +kernel
theorem dX5_till_49 : decode cX5_till 49 = .ok (.ireturn, 1) := by decide +kernel
theorem dX5_till_50 : decode cX5_till 50 = .ok (.aload_n 0, 1) := by decide +kernel
theorem dX5_till_51 : decode cX5_till 51 = .ok (.aload_n 0, 1) := by decide +kernel
theorem dX5_till_52 : decode cX5_till 52 = .ok (.getfield 25, 3) := by decide +kernel
theorem dX5_till_55 : decode cX5_till 55 = .ok (.invokevirtual 129, 3) := by decide +kernel
theorem dX5_till_58 : decode cX5_till 58 = .ok (.iinc 3 1, 3) := by decide +kernel
theorem dX5_till_61 : decode cX5_till 61 = .ok (.goto (-32), 3) := by decide +kernel
theorem dX5_till_64 : decode cX5_till 64 = .ok (.bipush (-9), 2) := by decide +kernel
theorem dX5_till_66 : decode cX5_till 66 = .ok (.ireturn, 1) := by decide +kernel
theorem dX5_net_0 : decode cX5_net 0 = .ok (.aload_n 0, 1) := by decide +kernel
theorem dX5_net_1 : decode cX5_net 1 = .ok (.iconst 0, 1) := by decide +kernel
theorem dX5_net_2 : decode cX5_net 2 = .ok (.putfield 41, 3) := by decide +kernel
theorem dX5_net_5 : decode cX5_net 5 = .ok (.aload_n 0, 1) := by decide +kernel
theorem dX5_net_6 : decode cX5_net 6 = .ok (.iload_n 1, 1) := by decide +kernel
theorem dX5_net_7 : decode cX5_net 7 = .ok (.invokevirtual 108, 3) := by decide +kernel
theorem dX5_net_10 : decode cX5_net 10 = .ok (.ifCond .eq 5, 3) := by decide +kernel
theorem dX5_net_13 : decode cX5_net 13 = .ok (.iconst (-1), 1) := by decide +kernel
theorem dX5_net_14 : decode cX5_net 14 = .ok (.ireturn, 1) := by decide +kernel
theorem dX5_net_15 : decode cX5_net 15 = .ok (.bipush 100, 2) := by decide +kernel
theorem dX5_net_17 : decode cX5_net 17 = .ok (.istore_n 2, 1) := by decide +kernel
theorem dX5_net_18 : decode cX5_net 18 = .ok (.iconst 0, 1) := by decide +kernel
theorem dX5_net_19 : decode cX5_net 19 = .ok (.istore_n 3, 1) := by decide +kernel
theorem dX5_net_20 : decode cX5_net 20 = .ok (.iload_n 3, 1) := by decide +kernel
theorem dX5_net_21 : decode cX5_net 21 = .ok (.aload_n 0, 1) := by decide +kernel
theorem dX5_net_22 : decode cX5_net 22 = .ok (.getfield 45, 3) := by decide +kernel
theorem dX5_net_25 : decode cX5_net 25 = .ok (.if_icmp .ge 39, 3) := by decide +kernel
theorem dX5_net_28 : decode cX5_net 28 = .ok (.iload_n 2, 1) := by decide +kernel
theorem dX5_net_29 : decode cX5_net 29 = .ok (.aload_n 0, 1) := by decide +kernel
theorem dX5_net_30 : decode cX5_net 30 = .ok (.getfield 22, 3) := by decide +kernel
theorem dX5_net_33 : decode cX5_net 33 = .ok (.bipush 16, 2) := by decide +kernel
theorem dX5_net_35 : decode cX5_net 35 = .ok (.iconst 5, 1) := by decide +kernel
theorem dX5_net_36 : decode cX5_net 36 = .ok (.iload_n 3, 1) := by decide +kernel
theorem dX5_net_37 : decode cX5_net 37 = .ok (.imul, 1) := by decide +kernel
theorem dX5_net_38 : decode cX5_net 38 = .ok (.iadd, 1) := by decide +kernel
theorem dX5_net_39 : decode cX5_net 39 = .ok (.iload_n 1, 1) := by decide +kernel
theorem dX5_net_40 : decode cX5_net 40 = .ok (.iadd, 1) := by decide +kernel
theorem dX5_net_41 : decode cX5_net 41 = .ok (.iaload, 1) := by decide +kernel
theorem dX5_net_42 : decode cX5_net 42 = .ok (.aload_n 0, 1) := by decide +kernel
theorem dX5_net_43 : decode cX5_net 43 = .ok (.getfield 22, 3) := by decide +kernel
theorem dX5_net_46 : decode cX5_net 46 = .ok (.bipush 16, 2) := by decide +kernel
theorem dX5_net_48 : decode cX5_net 48 = .ok (.iconst 5, 1) := by decide +kernel
theorem dX5_net_49 : decode cX5_net 49 = .ok (.iload_n 1, 1) := by decide +kernel
theorem dX5_net_50 : decode cX5_net 50 = .ok (.imul, 1) := by decide +kernel
theorem dX5_net_51 : decode cX5_net 51 = .ok (.iadd, 1) := by decide +kernel
theorem dX5_net_52 : decode cX5_net 52 = .ok (.iload_n 3, 1) := by decide +kernel
theorem dX5_net_53 : decode cX5_net 53 = .ok (.iadd, 1) := by decide +kernel
theorem dX5_net_54 : decode cX5_net 54 = .ok (.iaload, 1) := by decide +kernel
theorem dX5_net_55 : decode cX5_net 55 = .ok (.isub, 1) := by decide +kernel
theorem dX5_net_56 : decode cX5_net 56 = .ok (.iadd, 1) := by decide +kernel
theorem dX5_net_57 : decode cX5_net 57 = .ok (.istore_n 2, 1) := by decide +kernel
theorem dX5_net_58 : decode cX5_net 58 = .ok (.iinc 3 1, 3) := by decide +kernel
theorem dX5_net_61 : decode cX5_net 61 = .ok (.goto (-41), 3) := by decide +kernel
theorem dX5_net_64 : decode cX5_net 64 = .ok (.iload_n 2, 1) := by decide +kernel
theorem dX5_net_65 : decode cX5_net 65 = .ok (.ireturn, 1) := by decide +kernel
theorem dX5_ring_0 : decode cX5_ring 0 = .ok (.aload_n 0, 1) := by decide +kernel
theorem dX5_ring_1 : decode cX5_ring 1 = .ok (.iconst 0, 1) := by decide +kernel
theorem dX5_ring_2 : decode cX5_ring 2 = .ok (.putfield 41, 3) := by decide +kernel
theorem dX5_ring_5 : decode cX5_ring 5 = .ok (.iconst 0, 1) := by decide +kernel
theorem dX5_ring_6 : decode cX5_ring 6 = .ok (.istore_n 1, 1) := by decide +kernel
theorem dX5_ring_7 : decode cX5_ring 7 = .ok (.iconst 0, 1) := by decide +kernel
theorem dX5_ring_8 : decode cX5_ring 8 = .ok (.istore_n 2, 1) := by decide +kernel
theorem dX5_ring_9 : decode cX5_ring 9 = .ok (.iload_n 2, 1) := by decide +kernel
theorem dX5_ring_10 : decode cX5_ring 10 = .ok (.aload_n 0, 1) := by decide +kernel
theorem dX5_ring_11 : decode cX5_ring 11 = .ok (.getfield 45, 3) := by decide +kernel
theorem dX5_ring_14 : decode cX5_ring 14 = .ok (.if_icmp .ge 139, 3) := by decide +kernel
theorem dX5_ring_17 : decode cX5_ring 17 = .ok (.iconst 0, 1) := by decide +kernel
theorem dX5_ring_18 : decode cX5_ring 18 = .ok (.istore_n 3, 1) := by decide +kernel
theorem dX5_ring_19 : decode cX5_ring 19 = .ok (.iconst 0, 1) := by decide +kernel
theorem dX5_ring_20 : decode cX5_ring 20 = .ok (.istore 4, 2) := by decide +kernel
theorem dX5_ring_22 : decode cX5_ring 22 = .ok (.iload 4, 2) := by decide +kernel
theorem dX5_ring_24 : decode cX5_ring 24 = .ok (.aload_n 0, 1) := by decide +kernel
theorem dX5_ring_25 : decode cX5_ring 25 = .ok (.getfield 45, 3) := by decide +kernel
theorem dX5_ring_28 : decode cX5_ring 28 = .ok (.if_icmp .ge 101, 3) := by decide +kernel
theorem dX5_ring_31 : decode cX5_ring 31 = .ok (.iconst 0, 1) := by decide +kernel
theorem dX5_ring_32 : decode cX5_ring 32 = .ok (.istore 5, 2) := by decide +kernel
theorem dX5_ring_34 : decode cX5_ring 34 = .ok (.iload 5, 2) := by decide +kernel
theorem dX5_ring_36 : decode cX5_ring 36 = .ok (.aload_n 0, 1) := by decide +kernel
theorem dX5_ring_37 : decode cX5_ring 37 = .ok (.getfield 45, 3) := by decide +kernel
theorem dX5_ring_40 : decode cX5_ring 40 = .ok (.if_icmp .ge 83, 3) := by decide +kernel
theorem dX5_ring_43 : decode cX5_ring 43 = .ok (.iload 5, 2) := by decide +kernel
theorem dX5_ring_45 : decode cX5_ring 45 = .ok (.iload_n 2, 1) := by decide +kernel
theorem dX5_ring_46 : decode cX5_ring 46 = .ok (.if_icmp .eq 12, 3) := by decide +kernel
theorem dX5_ring_49 : decode cX5_ring 49 = .ok (.iload_n 3, 1) := by decide +kernel
theorem dX5_ring_50 : decode cX5_ring 50 = .ok (.iload 5, 2) := by decide +kernel
theorem dX5_ring_52 : decode cX5_ring 52 = .ok (.invokestatic 63, 3) := by decide +kernel
theorem dX5_ring_55 : decode cX5_ring 55 = .ok (.ifCond .eq 7, 3) := by decide +kernel
theorem dX5_ring_58 : decode cX5_ring 58 = .ok (.iconst 1, 1) := by decide +kernel
theorem dX5_ring_59 : decode cX5_ring 59 = .ok (.goto 4, 3) := by decide +kernel
theorem dX5_ring_62 : decode cX5_ring 62 = .ok (.iconst 0, 1) := by decide +kernel
theorem dX5_ring_63 : decode cX5_ring 63 = .ok (.istore 6, 2) := by decide +kernel
theorem dX5_ring_65 : decode cX5_ring 65 = .ok (.iconst 0, 1) := by decide +kernel
theorem dX5_ring_66 : decode cX5_ring 66 = .ok (.istore 7, 2) := by decide +kernel
theorem dX5_ring_68 : decode cX5_ring 68 = .ok (.iload 7, 2) := by decide +kernel
theorem dX5_ring_70 : decode cX5_ring 70 = .ok (.aload_n 0, 1) := by decide +kernel
theorem dX5_ring_71 : decode cX5_ring 71 = .ok (.getfield 45, 3) := by decide +kernel
theorem dX5_ring_74 : decode cX5_ring 74 = .ok (.if_icmp .ge 43, 3) := by decide +kernel
theorem dX5_ring_77 : decode cX5_ring 77 = .ok (.iload_n 3, 1) := by decide +kernel
theorem dX5_ring_78 : decode cX5_ring 78 = .ok (.iload 6, 2) := by decide +kernel
theorem dX5_ring_80 : decode cX5_ring 80 = .ok (.ifCond .eq 28, 3) := by decide +kernel
theorem dX5_ring_83 : decode cX5_ring 83 = .ok (.aload_n 0, 1) := by decide +kernel
theorem dX5_ring_84 : decode cX5_ring 84 = .ok (.getfield 22, 3) := by decide +kernel
theorem dX5_ring_87 : decode cX5_ring 87 = .ok (.bipush 16, 2) := by decide +kernel
theorem dX5_ring_89 : decode cX5_ring 89 = .ok (.iconst 5, 1) := by decide +kernel
theorem dX5_ring_90 : decode cX5_ring 90 = .ok (.iload 5, 2) := by decide +kernel
theorem dX5_ring_92 : decode cX5_ring 92 = .ok (.imul, 1) := by decide +kernel
theorem dX5_ring_93 : decode cX5_ring 93 = .ok (.iadd, 1) := by decide +kernel
theorem dX5_ring_94 : decode cX5_ring 94 = .ok (.iload 7, 2) := by decide +kernel
theorem dX5_ring_96 : decode cX5_ring 96 = .ok (.iadd, 1) := by decide +kernel
theorem dX5_ring_97 : decode cX5_ring 97 = .ok (.iaload, 1) := by decide +kernel
theorem dX5_ring_98 : decode cX5_ring 98 = .ok (.ifCond .le 10, 3) := by decide +kernel
theorem dX5_ring_101 : decode cX5_ring 101 = .ok (.iconst 1, 1) := by decide +kernel
theorem dX5_ring_102 : decode cX5_ring 102 = .ok (.iload 7, 2) := by decide +kernel
theorem dX5_ring_104 : decode cX5_ring 104 = .ok (.ishl, 1) := by decide +kernel
theorem dX5_ring_105 : decode cX5_ring 105 = .ok (.goto 4, 3) := by decide +kernel
theorem dX5_ring_108 : decode cX5_ring 108 = .ok (.iconst 0, 1) := by decide +kernel
theorem dX5_ring_109 : decode cX5_ring 109 = .ok (.ior, 1) := by decide +kernel
theorem dX5_ring_110 : decode cX5_ring 110 = .ok (.istore_n 3, 1) := by decide +kernel
theorem dX5_ring_111 : decode cX5_ring 111 = .ok (.iinc 7 1, 3) := by decide +kernel
theorem dX5_ring_114 : decode cX5_ring 114 = .ok (.goto (-46), 3) := by decide +kernel
theorem dX5_ring_117 : decode cX5_ring 117 = .ok (.iinc 5 1, 3) := by decide +kernel
theorem dX5_ring_120 : decode cX5_ring 120 = .ok (.goto (-86), 3) := by decide +kernel
theorem dX5_ring_123 : decode cX5_ring 123 = .ok (.iinc 4 1, 3) := by decide +kernel
theorem dX5_ring_126 : decode cX5_ring 126 = .ok (.goto (-104), 3) := by decide +kernel
theorem dX5_ring_129 : decode cX5_ring 129 = .ok (.iload_n 1, 1) := by decide +kernel
theorem dX5_ring_130 : decode cX5_ring 130 = .ok (.iload_n 3, 1) := by decide +kernel
theorem dX5_ring_131 : decode cX5_ring 131 = .ok (.iload_n 2, 1) := by decide +kernel
theorem dX5_ring_132 : decode cX5_ring 132 = .ok (.invokestatic 63, 3) := by decide +kernel
theorem dX5_ring_135 : decode cX5_ring 135 = .ok (.ifCond .eq 9, 3) := by decide +kernel
theorem dX5_ring_138 : decode cX5_ring 138 = .ok (.iconst 1, 1) := by decide +kernel
theorem dX5_ring_139 : decode cX5_ring 139 = .ok (.iload_n 2, 1) := by decide +kernel
theorem dX5_ring_140 : decode cX5_ring 140 = .ok (.ishl, 1) := by decide +kernel
theorem dX5_ring_141 : decode cX5_ring 141 = .ok (.goto 4, 3) := by decide +kernel
theorem dX5_ring_144 : decode cX5_ring 144 = .ok (.iconst 0, 1) := by decide +kernel
theorem dX5_ring_145 : decode cX5_ring 145 = .ok (.ior, 1) := by decide +kernel
theorem dX5_ring_146 : decode cX5_ring 146 = .ok (.istore_n 1, 1) := by decide +kernel
theorem dX5_ring_147 : decode cX5_ring 147 = .ok (.iinc 2 1, 3) := by decide +kernel
theorem dX5_ring_150 : decode cX5_ring 150 = .ok (.goto (-141), 3) := by decide +kernel
theorem dX5_ring_153 : decode cX5_ring 153 = .ok (.iload_n 1, 1) := by decide +kernel
theorem dX5_ring_154 : decode cX5_ring 154 = .ok (.ireturn, 1) := by decide +kernel
theorem dX5_orders_0 : decode cX5_orders 0 = .ok (.iconst 1, 1) := by decide +kernel
theorem dX5_orders_1 : decode cX5_orders 1 = .ok (.istore_n 1, 1) := by decide +kernel
theorem dX5_orders_2 : decode cX5_orders 2 = .ok (.iconst 2, 1) := by decide +kernel
theorem dX5_orders_3 : decode cX5_orders 3 = .ok (.istore_n 2, 1) := by decide +kernel
theorem dX5_orders_4 : decode cX5_orders 4 = .ok (.iload_n 2, 1) := by decide +kernel
theorem dX5_orders_5 : decode cX5_orders 5 = .ok (.iload_n 0, 1) := by decide +kernel
theorem dX5_orders_6 : decode cX5_orders 6 = .ok (.if_icmp .gt 13, 3) := by decide +kernel
theorem dX5_orders_9 : decode cX5_orders 9 = .ok (.iload_n 1, 1) := by decide +kernel
theorem dX5_orders_10 : decode cX5_orders 10 = .ok (.iload_n 2, 1) := by decide +kernel
theorem dX5_orders_11 : decode cX5_orders 11 = .ok (.imul, 1) := by decide +kernel
theorem dX5_orders_12 : decode cX5_orders 12 = .ok (.istore_n 1, 1) := by decide +kernel
theorem dX5_orders_13 : decode cX5_orders 13 = .ok (.iinc 2 1, 3) := by decide +kernel
theorem dX5_orders_16 : decode cX5_orders 16 = .ok (.goto (-12), 3) := by decide +kernel
theorem dX5_orders_19 : decode cX5_orders 19 = .ok (.iload_n 1, 1) := by decide +kernel
theorem dX5_orders_20 : decode cX5_orders 20 = .ok (.ireturn, 1) := by decide +kernel
theorem dX5_divisor_0 : decode cX5_divisor 0 = .ok (.iload_n 0, 1) := by decide +kernel
theorem dX5_divisor_1 : decode cX5_divisor 1 = .ok (.ifCond .ge 8, 3) := by decide +kernel
theorem dX5_divisor_4 : decode cX5_divisor 4 = .ok (.iload_n 0, 1) := by decide +kernel
theorem dX5_divisor_5 : decode cX5_divisor 5 = .ok (.ineg, 1) := by decide +kernel
theorem dX5_divisor_6 : decode cX5_divisor 6 = .ok (.goto 4, 3) := by decide +kernel
theorem dX5_divisor_9 : decode cX5_divisor 9 = .ok (.iload_n 0, 1) := by decide +kernel
theorem dX5_divisor_10 : decode cX5_divisor 10 = .ok (.istore_n 2, 1) := by decide +kernel
theorem dX5_divisor_11 : decode cX5_divisor 11 = .ok (.iload_n 1, 1) := by decide +kernel
theorem dX5_divisor_12 : decode cX5_divisor 12 = .ok (.istore_n 3, 1) := by decide +kernel
theorem dX5_divisor_13 : decode cX5_divisor 13 = .ok (.iload_n 3, 1) := by decide +kernel
theorem dX5_divisor_14 : decode cX5_divisor 14 = .ok (.ifCond .eq 16, 3) := by decide +kernel
theorem dX5_divisor_17 : decode cX5_divisor 17 = .ok (.iload_n 2, 1) := by decide +kernel
theorem dX5_divisor_18 : decode cX5_divisor 18 = .ok (.iload_n 3, 1) := by decide +kernel
theorem dX5_divisor_19 : decode cX5_divisor 19 = .ok (.irem, 1) := by decide +kernel
theorem dX5_divisor_20 : decode cX5_divisor 20 = .ok (.istore 4, 2) := by decide +kernel
theorem dX5_divisor_22 : decode cX5_divisor 22 = .ok (.iload_n 3, 1) := by decide +kernel
theorem dX5_divisor_23 : decode cX5_divisor 23 = .ok (.istore_n 2, 1) := by decide +kernel
theorem dX5_divisor_24 : decode cX5_divisor 24 = .ok (.iload 4, 2) := by decide +kernel
theorem dX5_divisor_26 : decode cX5_divisor 26 = .ok (.istore_n 3, 1) := by decide +kernel
theorem dX5_divisor_27 : decode cX5_divisor 27 = .ok (.goto (-14), 3) := by decide +kernel
theorem dX5_divisor_30 : decode cX5_divisor 30 = .ok (.iload_n 2, 1) := by decide +kernel
theorem dX5_divisor_31 : decode cX5_divisor 31 = .ok (.ireturn, 1) := by decide +kernel
theorem dX5_fraction_0 : decode cX5_fraction 0 = .ok (.iload_n 0, 1) := by decide +kernel
theorem dX5_fraction_1 : decode cX5_fraction 1 = .ok (.iload_n 1, 1) := by decide +kernel
theorem dX5_fraction_2 : decode cX5_fraction 2 = .ok (.invokestatic 156, 3) := by decide +kernel
theorem dX5_fraction_5 : decode cX5_fraction 5 = .ok (.istore_n 3, 1) := by decide +kernel
theorem dX5_fraction_6 : decode cX5_fraction 6 = .ok (.iload_n 2, 1) := by decide +kernel
theorem dX5_fraction_7 : decode cX5_fraction 7 = .ok (.ifCond .eq 9, 3) := by decide +kernel
theorem dX5_fraction_10 : decode cX5_fraction 10 = .ok (.iload_n 0, 1) := by decide +kernel
theorem dX5_fraction_11 : decode cX5_fraction 11 = .ok (.iload_n 3, 1) := by decide +kernel
theorem dX5_fraction_12 : decode cX5_fraction 12 = .ok (.idiv, 1) := by decide +kernel
theorem dX5_fraction_13 : decode cX5_fraction 13 = .ok (.goto 6, 3) := by decide +kernel
theorem dX5_fraction_16 : decode cX5_fraction 16 = .ok (.iload_n 1, 1) := by decide +kernel
theorem dX5_fraction_17 : decode cX5_fraction 17 = .ok (.iload_n 3, 1) := by decide +kernel
theorem dX5_fraction_18 : decode cX5_fraction 18 = .ok (.idiv, 1) := by decide +kernel
theorem dX5_fraction_19 : decode cX5_fraction 19 = .ok (.ireturn, 1) := by decide +kernel
theorem dX5_share_0 : decode cX5_share 0 = .ok (.aload_n 0, 1) := by decide +kernel
theorem dX5_share_1 : decode cX5_share 1 = .ok (.iconst 0, 1) := by decide +kernel
theorem dX5_share_2 : decode cX5_share 2 = .ok (.putfield 41, 3) := by decide +kernel
theorem dX5_share_5 : decode cX5_share 5 = .ok (.aload_n 0, 1) := by decide +kernel
theorem dX5_share_6 : decode cX5_share 6 = .ok (.iload_n 1, 1) := by decide +kernel
theorem dX5_share_7 : decode cX5_share 7 = .ok (.invokevirtual 108, 3) := by decide +kernel
theorem dX5_share_10 : decode cX5_share 10 = .ok (.ifCond .eq 5, 3) := by decide +kernel
theorem dX5_share_13 : decode cX5_share 13 = .ok (.iconst (-1), 1) := by decide +kernel
theorem dX5_share_14 : decode cX5_share 14 = .ok (.ireturn, 1) := by decide +kernel
theorem dX5_share_15 : decode cX5_share 15 = .ok (.aload_n 0, 1) := by decide +kernel
theorem dX5_share_16 : decode cX5_share 16 = .ok (.invokevirtual 147, 3) := by decide +kernel
theorem dX5_share_19 : decode cX5_share 19 = .ok (.aload_n 0, 1) := by decide +kernel
theorem dX5_share_20 : decode cX5_share 20 = .ok (.getfield 22, 3) := by decide +kernel
theorem dX5_share_23 : decode cX5_share 23 = .ok (.bipush 15, 2) := by decide +kernel
theorem dX5_share_25 : decode cX5_share 25 = .ok (.iaload, 1) := by decide +kernel
theorem dX5_share_26 : decode cX5_share 26 = .ok (.iconst (-1), 1) := by decide +kernel
theorem dX5_share_27 : decode cX5_share 27 = .ok (.ixor, 1) := by decide +kernel
theorem dX5_share_28 : decode cX5_share 28 = .ok (.iand, 1) := by decide +kernel
theorem dX5_share_29 : decode cX5_share 29 = .ok (.istore_n 3, 1) := by decide +kernel
theorem dX5_share_30 : decode cX5_share 30 = .ok (.iload_n 3, 1) := by decide +kernel
theorem dX5_share_31 : decode cX5_share 31 = .ok (.invokestatic 122, 3) := by decide +kernel
theorem dX5_share_34 : decode cX5_share 34 = .ok (.istore 4, 2) := by decide +kernel
theorem dX5_share_36 : decode cX5_share 36 = .ok (.iconst 0, 1) := by decide +kernel
theorem dX5_share_37 : decode cX5_share 37 = .ok (.istore 5, 2) := by decide +kernel
theorem dX5_share_39 : decode cX5_share 39 = .ok (.iconst 0, 1) := by decide +kernel
theorem dX5_share_40 : decode cX5_share 40 = .ok (.istore 6, 2) := by decide +kernel
theorem dX5_share_42 : decode cX5_share 42 = .ok (.iload 6, 2) := by decide +kernel
theorem dX5_share_44 : decode cX5_share 44 = .ok (.iload_n 3, 1) := by decide +kernel
theorem dX5_share_45 : decode cX5_share 45 = .ok (.if_icmp .gt 39, 3) := by decide +kernel
theorem dX5_share_48 : decode cX5_share 48 = .ok (.iload 6, 2) := by decide +kernel
theorem dX5_share_50 : decode cX5_share 50 = .ok (.iload_n 3, 1) := by decide +kernel
theorem dX5_share_51 : decode cX5_share 51 = .ok (.iconst (-1), 1) := by decide +kernel
theorem dX5_share_52 : decode cX5_share 52 = .ok (.ixor, 1) := by decide +kernel
theorem dX5_share_53 : decode cX5_share 53 = .ok (.iand, 1) := by decide +kernel
theorem dX5_share_54 : decode cX5_share 54 = .ok (.ifCond .ne 24, 3) := by decide +kernel
theorem dX5_share_57 : decode cX5_share 57 = .ok (.aload_n 0, 1) := by decide +kernel
theorem dX5_share_58 : decode cX5_share 58 = .ok (.aload_n 0, 1) := by decide +kernel
theorem dX5_share_59 : decode cX5_share 59 = .ok (.getfield 22, 3) := by decide +kernel
theorem dX5_share_62 : decode cX5_share 62 = .ok (.iload 6, 2) := by decide +kernel
theorem dX5_share_64 : decode cX5_share 64 = .ok (.invokevirtual 150, 3) := by decide +kernel
theorem dX5_share_67 : decode cX5_share 67 = .ok (.aload_n 0, 1) := by decide +kernel
theorem dX5_share_68 : decode cX5_share 68 = .ok (.getfield 38, 3) := by decide +kernel
theorem dX5_share_71 : decode cX5_share 71 = .ok (.iload 6, 2) := by decide +kernel
theorem dX5_share_73 : decode cX5_share 73 = .ok (.aload_n 0, 1) := by decide +kernel
theorem dX5_share_74 : decode cX5_share 74 = .ok (.getfield 133, 3) := by decide +kernel
theorem dX5_share_77 : decode cX5_share 77 = .ok (.iastore, 1) := by decide +kernel
theorem dX5_share_78 : decode cX5_share 78 = .ok (.iinc 6 1, 3) := by decide +kernel
theorem dX5_share_81 : decode cX5_share 81 = .ok (.goto (-39), 3) := by decide +kernel
theorem dX5_share_84 : decode cX5_share 84 = .ok (.iconst 0, 1) := by decide +kernel
theorem dX5_share_85 : decode cX5_share 85 = .ok (.istore 6, 2) := by decide +kernel
theorem dX5_share_87 : decode cX5_share 87 = .ok (.iload 6, 2) := by decide +kernel
theorem dX5_share_89 : decode cX5_share 89 = .ok (.iload_n 3, 1) := by decide +kernel
theorem dX5_share_90 : decode cX5_share 90 = .ok (.if_icmp .gt 83, 3) := by decide +kernel
theorem dX5_share_93 : decode cX5_share 93 = .ok (.iload_n 3, 1) := by decide +kernel
theorem dX5_share_94 : decode cX5_share 94 = .ok (.iload_n 1, 1) := by decide +kernel
theorem dX5_share_95 : decode cX5_share 95 = .ok (.invokestatic 63, 3) := by decide +kernel
theorem dX5_share_98 : decode cX5_share 98 = .ok (.ifCond .eq 75, 3) := by decide +kernel
theorem dX5_share_101 : decode cX5_share 101 = .ok (.iload 6, 2) := by decide +kernel
theorem dX5_share_103 : decode cX5_share 103 = .ok (.iload_n 3, 1) := by decide +kernel
theorem dX5_share_104 : decode cX5_share 104 = .ok (.iconst (-1), 1) := by decide +kernel
theorem dX5_share_105 : decode cX5_share 105 = .ok (.ixor, 1) := by decide +kernel
theorem dX5_share_106 : decode cX5_share 106 = .ok (.iand, 1) := by decide +kernel
theorem dX5_share_107 : decode cX5_share 107 = .ok (.ifCond .ne 60, 3) := by decide +kernel
theorem dX5_share_110 : decode cX5_share 110 = .ok (.iload 6, 2) := by decide +kernel
theorem dX5_share_112 : decode cX5_share 112 = .ok (.iload_n 1, 1) := by decide +kernel
theorem dX5_share_113 : decode cX5_share 113 = .ok (.invokestatic 63, 3) := by decide +kernel
theorem dX5_share_116 : decode cX5_share 116 = .ok (.ifCond .ne 51, 3) := by decide +kernel
theorem dX5_share_119 : decode cX5_share 119 = .ok (.iload 6, 2) := by decide +kernel
theorem dX5_share_121 : decode cX5_share 121 = .ok (.invokestatic 122, 3) := by decide +kernel
theorem dX5_share_124 : decode cX5_share 124 = .ok (.istore 7, 2) := by decide +kernel
theorem dX5_share_126 : decode cX5_share 126 = .ok (.iload 5, 2) := by decide +kernel
theorem dX5_share_128 : decode cX5_share 128 = .ok (.iload 7, 2) := by decide +kernel
theorem dX5_share_130 : decode cX5_share 130 = .ok (.invokestatic 159, 3) := by decide +kernel
theorem dX5_share_133 : decode cX5_share 133 = .ok (.iload 4, 2) := by decide +kernel
theorem dX5_share_135 : decode cX5_share 135 = .ok (.iconst 1, 1) := by decide +kernel
theorem dX5_share_136 : decode cX5_share 136 = .ok (.isub, 1) := by decide +kernel
theorem dX5_share_137 : decode cX5_share 137 = .ok (.iload 7, 2) := by decide +kernel
theorem dX5_share_139 : decode cX5_share 139 = .ok (.isub, 1) := by decide +kernel
theorem dX5_share_140 : decode cX5_share 140 = .ok (.invokestatic 159, 3) := by decide +kernel
theorem dX5_share_143 : decode cX5_share 143 = .ok (.imul, 1) := by decide +kernel
theorem dX5_share_144 : decode cX5_share 144 = .ok (.aload_n 0, 1) := by decide +kernel
theorem dX5_share_145 : decode cX5_share 145 = .ok (.getfield 38, 3) := by decide +kernel
theorem dX5_share_148 : decode cX5_share 148 = .ok (.iload 6, 2) := by decide +kernel
theorem dX5_share_150 : decode cX5_share 150 = .ok (.iconst 1, 1) := by decide +kernel
theorem dX5_share_151 : decode cX5_share 151 = .ok (.iload_n 1, 1) := by decide +kernel
theorem dX5_share_152 : decode cX5_share 152 = .ok (.ishl, 1) := by decide +kernel
theorem dX5_share_153 : decode cX5_share 153 = .ok (.ior, 1) := by decide +kernel
theorem dX5_share_154 : decode cX5_share 154 = .ok (.iaload, 1) := by decide +kernel
theorem dX5_share_155 : decode cX5_share 155 = .ok (.aload_n 0, 1) := by decide +kernel
theorem dX5_share_156 : decode cX5_share 156 = .ok (.getfield 38, 3) := by decide +kernel
theorem dX5_share_159 : decode cX5_share 159 = .ok (.iload 6, 2) := by decide +kernel
theorem dX5_share_161 : decode cX5_share 161 = .ok (.iaload, 1) := by decide +kernel
theorem dX5_share_162 : decode cX5_share 162 = .ok (.isub, 1) := by decide +kernel
theorem dX5_share_163 : decode cX5_share 163 = .ok (.imul, 1) := by decide +kernel
theorem dX5_share_164 : decode cX5_share 164 = .ok (.iadd, 1) := by decide +kernel
theorem dX5_share_165 : decode cX5_share 165 = .ok (.istore 5, 2) := by decide +kernel
theorem dX5_share_167 : decode cX5_share 167 = .ok (.iinc 6 1, 3) := by decide +kernel
theorem dX5_share_170 : decode cX5_share 170 = .ok (.goto (-83), 3) := by decide +kernel
theorem dX5_share_173 : decode cX5_share 173 = .ok (.iload 5, 2) := by decide +kernel
theorem dX5_share_175 : decode cX5_share 175 = .ok (.iload 4, 2) := by decide +kernel
theorem dX5_share_177 : decode cX5_share 177 = .ok (.invokestatic 159, 3) := by decide +kernel
theorem dX5_share_180 : decode cX5_share 180 = .ok (.iload_n 2, 1) := by decide +kernel
theorem dX5_share_181 : decode cX5_share 181 = .ok (.invokestatic 162, 3) := by decide +kernel
theorem dX5_share_184 : decode cX5_share 184 = .ok (.ireturn, 1) := by decide +kernel
theorem dX5_weighed_0 : decode cX5_weighed 0 = .ok (.aload_n 0, 1) := by decide +kernel
theorem dX5_weighed_1 : decode cX5_weighed 1 = .ok (.iconst 0, 1) := by decide +kernel
theorem dX5_weighed_2 : decode cX5_weighed 2 = .ok (.putfield 41, 3) := by decide +kernel
theorem dX5_weighed_5 : decode cX5_weighed 5 = .ok (.iload_n 1, 1) := by decide +kernel
theorem dX5_weighed_6 : decode cX5_weighed 6 = .ok (.i2l, 1) := by decide +kernel
theorem dX5_weighed_7 : decode cX5_weighed 7 = .ok (.lconst 0, 1) := by decide +kernel
theorem dX5_weighed_8 : decode cX5_weighed 8 = .ok (.aload_n 0, 1) := by decide +kernel
theorem dX5_weighed_9 : decode cX5_weighed 9 = .ok (.invokevirtual 147, 3) := by decide +kernel
theorem dX5_weighed_12 : decode cX5_weighed 12 = .ok (.i2l, 1) := by decide +kernel
theorem dX5_weighed_13 : decode cX5_weighed 13 = .ok (.invokestatic 48, 3) := by decide +kernel
theorem dX5_weighed_16 : decode cX5_weighed 16 = .ok (.ifCond .eq 27, 3) := by decide +kernel
theorem dX5_weighed_19 : decode cX5_weighed 19 = .ok (.iload_n 2, 1) := by decide +kernel
theorem dX5_weighed_20 : decode cX5_weighed 20 = .ok (.i2l, 1) := by decide +kernel
theorem dX5_weighed_21 : decode cX5_weighed 21 = .ok (.lconst 0, 1) := by decide +kernel
theorem dX5_weighed_22 : decode cX5_weighed 22 = .ok (.ldc2_w 166, 3) := by decide +kernel
theorem dX5_weighed_25 : decode cX5_weighed 25 = .ok (.invokestatic 48, 3) := by decide +kernel
theorem dX5_weighed_28 : decode cX5_weighed 28 = .ok (.ifCond .eq 15, 3) := by decide +kernel
theorem dX5_weighed_31 : decode cX5_weighed 31 = .ok (.iload_n 3, 1) := by decide +kernel
theorem dX5_weighed_32 : decode cX5_weighed 32 = .ok (.i2l, 1) := by decide +kernel
theorem dX5_weighed_33 : decode cX5_weighed 33 = .ok (.lconst 0, 1) := by decide +kernel
theorem dX5_weighed_34 : decode cX5_weighed 34 = .ok (.ldc2_w 145, 3) := by decide +kernel
theorem dX5_weighed_37 : decode cX5_weighed 37 = .ok (.invokestatic 48, 3) := by decide +kernel
theorem dX5_weighed_40 : decode cX5_weighed 40 = .ok (.ifCond .ne 6, 3) := by decide +kernel
theorem dX5_weighed_43 : decode cX5_weighed 43 = .ok (.bipush (-2), 2) := by decide +kernel
theorem dX5_weighed_45 : decode cX5_weighed 45 = .ok (.ireturn, 1) := by decide +kernel
theorem dX5_weighed_46 : decode cX5_weighed 46 = .ok (.iconst 0, 1) := by decide +kernel
theorem dX5_weighed_47 : decode cX5_weighed 47 = .ok (.istore 4, 2) := by decide +kernel
theorem dX5_weighed_49 : decode cX5_weighed 49 = .ok (.iload_n 1, 1) := by decide +kernel
theorem dX5_weighed_50 : decode cX5_weighed 50 = .ok (.istore 5, 2) := by decide +kernel
theorem dX5_weighed_52 : decode cX5_weighed 52 = .ok (.iconst 0, 1) := by decide +kernel
theorem dX5_weighed_53 : decode cX5_weighed 53 = .ok (.istore 6, 2) := by decide +kernel
theorem dX5_weighed_55 : decode cX5_weighed 55 = .ok (.iconst 0, 1) := by decide +kernel
theorem dX5_weighed_56 : decode cX5_weighed 56 = .ok (.istore 7, 2) := by decide +kernel
theorem dX5_weighed_58 : decode cX5_weighed 58 = .ok (.iload 7, 2) := by decide +kernel
theorem dX5_weighed_60 : decode cX5_weighed 60 = .ok (.iload_n 1, 1) := by decide +kernel
theorem dX5_weighed_61 : decode cX5_weighed 61 = .ok (.if_icmp .gt 104, 3) := by decide +kernel
theorem dX5_weighed_64 : decode cX5_weighed 64 = .ok (.iconst 0, 1) := by decide +kernel
theorem dX5_weighed_65 : decode cX5_weighed 65 = .ok (.istore 8, 2) := by decide +kernel
theorem dX5_weighed_67 : decode cX5_weighed 67 = .ok (.iconst 0, 1) := by decide +kernel
theorem dX5_weighed_68 : decode cX5_weighed 68 = .ok (.istore 9, 2) := by decide +kernel
theorem dX5_weighed_70 : decode cX5_weighed 70 = .ok (.iload 9, 2) := by decide +kernel
theorem dX5_weighed_72 : decode cX5_weighed 72 = .ok (.aload_n 0, 1) := by decide +kernel
theorem dX5_weighed_73 : decode cX5_weighed 73 = .ok (.getfield 45, 3) := by decide +kernel
theorem dX5_weighed_76 : decode cX5_weighed 76 = .ok (.if_icmp .ge 51, 3) := by decide +kernel
theorem dX5_weighed_79 : decode cX5_weighed 79 = .ok (.iload 8, 2) := by decide +kernel
theorem dX5_weighed_81 : decode cX5_weighed 81 = .ok (.iload_n 1, 1) := by decide +kernel
theorem dX5_weighed_82 : decode cX5_weighed 82 = .ok (.iload 9, 2) := by decide +kernel
theorem dX5_weighed_84 : decode cX5_weighed 84 = .ok (.invokestatic 63, 3) := by decide +kernel
theorem dX5_weighed_87 : decode cX5_weighed 87 = .ok (.ifCond .ne 7, 3) := by decide +kernel
theorem dX5_weighed_90 : decode cX5_weighed 90 = .ok (.iconst 0, 1) := by decide +kernel
theorem dX5_weighed_91 : decode cX5_weighed 91 = .ok (.goto 27, 3) := by decide +kernel
theorem dX5_weighed_94 : decode cX5_weighed 94 = .ok (.iload 7, 2) := by decide +kernel
theorem dX5_weighed_96 : decode cX5_weighed 96 = .ok (.iload 9, 2) := by decide +kernel
theorem dX5_weighed_98 : decode cX5_weighed 98 = .ok (.invokestatic 63, 3) := by decide +kernel
theorem dX5_weighed_101 : decode cX5_weighed 101 = .ok (.ifCond .eq 7, 3) := by decide +kernel
theorem dX5_weighed_104 : decode cX5_weighed 104 = .ok (.iconst 2, 1) := by decide +kernel
theorem dX5_weighed_105 : decode cX5_weighed 105 = .ok (.goto 13, 3) := by decide +kernel
theorem dX5_weighed_108 : decode cX5_weighed 108 = .ok (.aload_n 0, 1) := by decide +kernel
theorem dX5_weighed_109 : decode cX5_weighed 109 = .ok (.aload_n 0, 1) := by decide +kernel
theorem dX5_weighed_110 : decode cX5_weighed 110 = .ok (.getfield 22, 3) := by decide +kernel
theorem dX5_weighed_113 : decode cX5_weighed 113 = .ok (.iload 9, 2) := by decide +kernel
theorem dX5_weighed_115 : decode cX5_weighed 115 = .ok (.invokevirtual 97, 3) := by decide +kernel
theorem dX5_weighed_118 : decode cX5_weighed 118 = .ok (.iadd, 1) := by decide +kernel
theorem dX5_weighed_119 : decode cX5_weighed 119 = .ok (.istore 8, 2) := by decide +kernel
theorem dX5_weighed_121 : decode cX5_weighed 121 = .ok (.iinc 9 1, 3) := by decide +kernel
theorem dX5_weighed_124 : decode cX5_weighed 124 = .ok (.goto (-54), 3) := by decide +kernel
theorem dX5_weighed_127 : decode cX5_weighed 127 = .ok (.iload 7, 2) := by decide +kernel
theorem dX5_weighed_129 : decode cX5_weighed 129 = .ok (.iload_n 1, 1) := by decide +kernel
theorem dX5_weighed_130 : decode cX5_weighed 130 = .ok (.iconst (-1), 1) := by decide +kernel
theorem dX5_weighed_131 : decode cX5_weighed 131 = .ok (.ixor, 1) := by decide +kernel
theorem dX5_weighed_132 : decode cX5_weighed 132 = .ok (.iand, 1) := by decide +kernel
theorem dX5_weighed_133 : decode cX5_weighed 133 = .ok (.ifCond .ne 26, 3) := by decide +kernel
theorem dX5_weighed_136 : decode cX5_weighed 136 = .ok (.iload 8, 2) := by decide +kernel
theorem dX5_weighed_138 : decode cX5_weighed 138 = .ok (.iload_n 2, 1) := by decide +kernel
theorem dX5_weighed_139 : decode cX5_weighed 139 = .ok (.if_icmp .ne 20, 3) := by decide +kernel
theorem dX5_weighed_142 : decode cX5_weighed 142 = .ok (.iinc 4 1, 3) := by decide +kernel
theorem dX5_weighed_145 : decode cX5_weighed 145 = .ok (.iload 5, 2) := by decide +kernel
theorem dX5_weighed_147 : decode cX5_weighed 147 = .ok (.iload 7, 2) := by decide +kernel
theorem dX5_weighed_149 : decode cX5_weighed 149 = .ok (.iand, 1) := by decide +kernel
theorem dX5_weighed_150 : decode cX5_weighed 150 = .ok (.istore 5, 2) := by decide +kernel
theorem dX5_weighed_152 : decode cX5_weighed 152 = .ok (.iload 6, 2) := by decide +kernel
theorem dX5_weighed_154 : decode cX5_weighed 154 = .ok (.iload 7, 2) := by decide +kernel
theorem dX5_weighed_156 : decode cX5_weighed 156 = .ok (.ior, 1) := by decide +kernel
theorem dX5_weighed_157 : decode cX5_weighed 157 = .ok (.istore 6, 2) := by decide +kernel
theorem dX5_weighed_159 : decode cX5_weighed 159 = .ok (.iinc 7 1, 3) := by decide +kernel
theorem dX5_weighed_162 : decode cX5_weighed 162 = .ok (.goto (-104), 3) := by decide +kernel
theorem dX5_weighed_165 : decode cX5_weighed 165 = .ok (.iload_n 3, 1) := by decide +kernel
theorem dX5_weighed_166 : decode cX5_weighed 166 = .ok (.ifCond .ne 8, 3) := by decide +kernel
theorem dX5_weighed_169 : decode cX5_weighed 169 = .ok (.iload 4, 2) := by decide +kernel
theorem dX5_weighed_171 : decode cX5_weighed 171 = .ok (.goto 29, 3) := by decide +kernel
theorem dX5_weighed_174 : decode cX5_weighed 174 = .ok (.iload 4, 2) := by decide +kernel
theorem dX5_weighed_176 : decode cX5_weighed 176 = .ok (.ifCond .ne 8, 3) := by decide +kernel
theorem dX5_weighed_179 : decode cX5_weighed 179 = .ok (.bipush (-9), 2) := by decide +kernel
theorem dX5_weighed_181 : decode cX5_weighed 181 = .ok (.goto 19, 3) := by decide +kernel
theorem dX5_weighed_184 : decode cX5_weighed 184 = .ok (.iload_n 3, 1) := by decide +kernel
theorem dX5_weighed_185 : decode cX5_weighed 185 = .ok (.iconst 1, 1) := by decide +kernel
theorem dX5_weighed_186 : decode cX5_weighed 186 = .ok (.if_icmp .ne 8, 3) := by decide +kernel
theorem dX5_weighed_189 : decode cX5_weighed 189 = .ok (.iload 5, 2) := by decide +kernel
theorem dX5_weighed_191 : decode cX5_weighed 191 = .ok (.goto 9, 3) := by decide +kernel
theorem dX5_weighed_194 : decode cX5_weighed 194 = .ok (.iload_n 1, 1) := by decide +kernel
theorem dX5_weighed_195 : decode cX5_weighed 195 = .ok (.iload 6, 2) := by decide +kernel
theorem dX5_weighed_197 : decode cX5_weighed 197 = .ok (.iconst (-1), 1) := by decide +kernel
theorem dX5_weighed_198 : decode cX5_weighed 198 = .ok (.ixor, 1) := by decide +kernel
theorem dX5_weighed_199 : decode cX5_weighed 199 = .ok (.iand, 1) := by decide +kernel
theorem dX5_weighed_200 : decode cX5_weighed 200 = .ok (.ireturn, 1) := by decide +kernel
theorem dX5_whose_0 : decode cX5_whose 0 = .ok (.aload_n 0, 1) := by decide +kernel
theorem dX5_whose_1 : decode cX5_whose 1 = .ok (.iconst 0, 1) := by decide +kernel
theorem dX5_whose_2 : decode cX5_whose 2 = .ok (.putfield 41, 3) := by decide +kernel
theorem dX5_whose_5 : decode cX5_whose 5 = .ok (.iload_n 1, 1) := by decide +kernel
theorem dX5_whose_6 : decode cX5_whose 6 = .ok (.i2l, 1) := by decide +kernel
theorem dX5_whose_7 : decode cX5_whose 7 = .ok (.lconst 1, 1) := by decide +kernel
theorem dX5_whose_8 : decode cX5_whose 8 = .ok (.ldc2_w 168, 3) := by decide +kernel
theorem dX5_whose_11 : decode cX5_whose 11 = .ok (.invokestatic 48, 3) := by decide +kernel
theorem dX5_whose_14 : decode cX5_whose 14 = .ok (.ifCond .ne 6, 3) := by decide +kernel
theorem dX5_whose_17 : decode cX5_whose 17 = .ok (.bipush (-2), 2) := by decide +kernel
theorem dX5_whose_19 : decode cX5_whose 19 = .ok (.ireturn, 1) := by decide +kernel
theorem dX5_whose_20 : decode cX5_whose 20 = .ok (.iconst 0, 1) := by decide +kernel
theorem dX5_whose_21 : decode cX5_whose 21 = .ok (.istore_n 2, 1) := by decide +kernel
theorem dX5_whose_22 : decode cX5_whose 22 = .ok (.iconst 0, 1) := by decide +kernel
theorem dX5_whose_23 : decode cX5_whose 23 = .ok (.istore_n 3, 1) := by decide +kernel
theorem dX5_whose_24 : decode cX5_whose 24 = .ok (.iload_n 3, 1) := by decide +kernel
theorem dX5_whose_25 : decode cX5_whose 25 = .ok (.aload_n 0, 1) := by decide +kernel
theorem dX5_whose_26 : decode cX5_whose 26 = .ok (.getfield 45, 3) := by decide +kernel
theorem dX5_whose_29 : decode cX5_whose 29 = .ok (.if_icmp .ge 32, 3) := by decide +kernel
theorem dX5_whose_32 : decode cX5_whose 32 = .ok (.iload_n 2, 1) := by decide +kernel
theorem dX5_whose_33 : decode cX5_whose 33 = .ok (.aload_n 0, 1) := by decide +kernel
theorem dX5_whose_34 : decode cX5_whose 34 = .ok (.aload_n 0, 1) := by decide +kernel
theorem dX5_whose_35 : decode cX5_whose 35 = .ok (.getfield 22, 3) := by decide +kernel
theorem dX5_whose_38 : decode cX5_whose 38 = .ok (.iload_n 3, 1) := by decide +kernel
theorem dX5_whose_39 : decode cX5_whose 39 = .ok (.invokevirtual 97, 3) := by decide +kernel
theorem dX5_whose_42 : decode cX5_whose 42 = .ok (.iload_n 1, 1) := by decide +kernel
theorem dX5_whose_43 : decode cX5_whose 43 = .ok (.if_icmp .ne 9, 3) := by decide +kernel
theorem dX5_whose_46 : decode cX5_whose 46 = .ok (.iconst 1, 1) := by decide +kernel
theorem dX5_whose_47 : decode cX5_whose 47 = .ok (.iload_n 3, 1) := by decide +kernel
theorem dX5_whose_48 : decode cX5_whose 48 = .ok (.ishl, 1) := by decide +kernel
theorem dX5_whose_49 : decode cX5_whose 49 = .ok (.goto 4, 3) := by decide +kernel
theorem dX5_whose_52 : decode cX5_whose 52 = .ok (.iconst 0, 1) := by decide +kernel
theorem dX5_whose_53 : decode cX5_whose 53 = .ok (.ior, 1) := by decide +kernel
theorem dX5_whose_54 : decode cX5_whose 54 = .ok (.istore_n 2, 1) := by decide +kernel
theorem dX5_whose_55 : decode cX5_whose 55 = .ok (.iinc 3 1, 3) := by decide +kernel
theorem dX5_whose_58 : decode cX5_whose 58 = .ok (.goto (-34), 3) := by decide +kernel
theorem dX5_whose_61 : decode cX5_whose 61 = .ok (.iload_n 2, 1) := by decide +kernel
theorem dX5_whose_62 : decode cX5_whose 62 = .ok (.ireturn, 1) := by decide +kernel
theorem dX5_gainOf_0 : decode cX5_gainOf 0 = .ok (.aload_n 0, 1) := by decide +kernel
theorem dX5_gainOf_1 : decode cX5_gainOf 1 = .ok (.aload_n 0, 1) := by decide +kernel
theorem dX5_gainOf_2 : decode cX5_gainOf 2 = .ok (.getfield 22, 3) := by decide +kernel
theorem dX5_gainOf_5 : decode cX5_gainOf 5 = .ok (.iload_n 1, 1) := by decide +kernel
theorem dX5_gainOf_6 : decode cX5_gainOf 6 = .ok (.iload_n 3, 1) := by decide +kernel
theorem dX5_gainOf_7 : decode cX5_gainOf 7 = .ok (.invokevirtual 105, 3) := by decide +kernel
theorem dX5_gainOf_10 : decode cX5_gainOf 10 = .ok (.istore 7, 2) := by decide +kernel
theorem dX5_gainOf_12 : decode cX5_gainOf 12 = .ok (.aload_n 0, 1) := by decide +kernel
theorem dX5_gainOf_13 : decode cX5_gainOf 13 = .ok (.aload_n 0, 1) := by decide +kernel
theorem dX5_gainOf_14 : decode cX5_gainOf 14 = .ok (.getfield 22, 3) := by decide +kernel
theorem dX5_gainOf_17 : decode cX5_gainOf 17 = .ok (.iload_n 2, 1) := by decide +kernel
theorem dX5_gainOf_18 : decode cX5_gainOf 18 = .ok (.iload_n 3, 1) := by decide +kernel
theorem dX5_gainOf_19 : decode cX5_gainOf 19 = .ok (.invokevirtual 105, 3) := by decide +kernel
theorem dX5_gainOf_22 : decode cX5_gainOf 22 = .ok (.istore 8, 2) := by decide +kernel
theorem dX5_gainOf_24 : decode cX5_gainOf 24 = .ok (.iload 4, 2) := by decide +kernel
theorem dX5_gainOf_26 : decode cX5_gainOf 26 = .ok (.iload 5, 2) := by decide +kernel
theorem dX5_gainOf_28 : decode cX5_gainOf 28 = .ok (.if_icmp .gt 15, 3) := by decide +kernel
theorem dX5_gainOf_31 : decode cX5_gainOf 31 = .ok (.iload 4, 2) := by decide +kernel
theorem dX5_gainOf_33 : decode cX5_gainOf 33 = .ok (.iload 5, 2) := by decide +kernel
theorem dX5_gainOf_35 : decode cX5_gainOf 35 = .ok (.if_icmp .ne 12, 3) := by decide +kernel
theorem dX5_gainOf_38 : decode cX5_gainOf 38 = .ok (.iload 6, 2) := by decide +kernel
theorem dX5_gainOf_40 : decode cX5_gainOf 40 = .ok (.ifCond .eq 7, 3) := by decide +kernel
theorem dX5_gainOf_43 : decode cX5_gainOf 43 = .ok (.iconst 1, 1) := by decide +kernel
theorem dX5_gainOf_44 : decode cX5_gainOf 44 = .ok (.goto 4, 3) := by decide +kernel
theorem dX5_gainOf_47 : decode cX5_gainOf 47 = .ok (.iconst 0, 1) := by decide +kernel
theorem dX5_gainOf_48 : decode cX5_gainOf 48 = .ok (.istore 9, 2) := by decide +kernel
theorem dX5_gainOf_50 : decode cX5_gainOf 50 = .ok (.iload 7, 2) := by decide +kernel
theorem dX5_gainOf_52 : decode cX5_gainOf 52 = .ok (.ifCond .eq 17, 3) := by decide +kernel
theorem dX5_gainOf_55 : decode cX5_gainOf 55 = .ok (.iload 9, 2) := by decide +kernel
theorem dX5_gainOf_57 : decode cX5_gainOf 57 = .ok (.ifCond .ne 8, 3) := by decide +kernel
theorem dX5_gainOf_60 : decode cX5_gainOf 60 = .ok (.iload 8, 2) := by decide +kernel
theorem dX5_gainOf_62 : decode cX5_gainOf 62 = .ok (.ifCond .ne 7, 3) := by decide +kernel
theorem dX5_gainOf_65 : decode cX5_gainOf 65 = .ok (.iconst 1, 1) := by decide +kernel
theorem dX5_gainOf_66 : decode cX5_gainOf 66 = .ok (.goto 4, 3) := by decide +kernel
theorem dX5_gainOf_69 : decode cX5_gainOf 69 = .ok (.iconst 0, 1) := by decide +kernel
theorem dX5_gainOf_70 : decode cX5_gainOf 70 = .ok (.istore 10, 2) := by decide +kernel
theorem dX5_gainOf_72 : decode cX5_gainOf 72 = .ok (.iload 10, 2) := by decide +kernel
theorem dX5_gainOf_74 : decode cX5_gainOf 74 = .ok (.ifCond .eq 10, 3) := by decide +kernel
theorem dX5_gainOf_77 : decode cX5_gainOf 77 = .ok (.iconst 3, 1) := by decide +kernel
theorem dX5_gainOf_78 : decode cX5_gainOf 78 = .ok (.iload 4, 2) := by decide +kernel
theorem dX5_gainOf_80 : decode cX5_gainOf 80 = .ok (.isub, 1) := by decide +kernel
theorem dX5_gainOf_81 : decode cX5_gainOf 81 = .ok (.goto 4, 3) := by decide +kernel
theorem dX5_gainOf_84 : decode cX5_gainOf 84 = .ok (.iconst 0, 1) := by decide +kernel
theorem dX5_gainOf_85 : decode cX5_gainOf 85 = .ok (.iload 4, 2) := by decide +kernel
theorem dX5_gainOf_87 : decode cX5_gainOf 87 = .ok (.ifCond .le 12, 3) := by decide +kernel
theorem dX5_gainOf_90 : decode cX5_gainOf 90 = .ok (.iload 7, 2) := by decide +kernel
theorem dX5_gainOf_92 : decode cX5_gainOf 92 = .ok (.ifCond .ne 7, 3) := by decide +kernel
theorem dX5_gainOf_95 : decode cX5_gainOf 95 = .ok (.iconst 1, 1) := by decide +kernel
theorem dX5_gainOf_96 : decode cX5_gainOf 96 = .ok (.goto 4, 3) := by decide +kernel
theorem dX5_gainOf_99 : decode cX5_gainOf 99 = .ok (.iconst 0, 1) := by decide +kernel
theorem dX5_gainOf_100 : decode cX5_gainOf 100 = .ok (.isub, 1) := by decide +kernel
theorem dX5_gainOf_101 : decode cX5_gainOf 101 = .ok (.ireturn, 1) := by decide +kernel
theorem dX5_findRests_0 : decode cX5_findRests 0 = .ok (.aload_n 0, 1) := by decide +kernel
theorem dX5_findRests_1 : decode cX5_findRests 1 = .ok (.iconst 0, 1) := by decide +kernel
theorem dX5_findRests_2 : decode cX5_findRests 2 = .ok (.putfield 170, 3) := by decide +kernel
theorem dX5_findRests_5 : decode cX5_findRests 5 = .ok (.aload_n 0, 1) := by decide +kernel
theorem dX5_findRests_6 : decode cX5_findRests 6 = .ok (.bipush (-9), 2) := by decide +kernel
theorem dX5_findRests_8 : decode cX5_findRests 8 = .ok (.putfield 173, 3) := by decide +kernel
theorem dX5_findRests_11 : decode cX5_findRests 11 = .ok (.iconst 0, 1) := by decide +kernel
theorem dX5_findRests_12 : decode cX5_findRests 12 = .ok (.istore 4, 2) := by decide +kernel
theorem dX5_findRests_14 : decode cX5_findRests 14 = .ok (.iload 4, 2) := by decide +kernel
theorem dX5_findRests_16 : decode cX5_findRests 16 = .ok (.iconst 4, 1) := by decide +kernel
theorem dX5_findRests_17 : decode cX5_findRests 17 = .ok (.if_icmp .ge 166, 3) := by decide +kernel
theorem dX5_findRests_20 : decode cX5_findRests 20 = .ok (.iconst 0, 1) := by decide +kernel
theorem dX5_findRests_21 : decode cX5_findRests 21 = .ok (.istore 5, 2) := by decide +kernel
theorem dX5_findRests_23 : decode cX5_findRests 23 = .ok (.iload 5, 2) := by decide +kernel
theorem dX5_findRests_25 : decode cX5_findRests 25 = .ok (.iconst 4, 1) := by decide +kernel
theorem dX5_findRests_26 : decode cX5_findRests 26 = .ok (.if_icmp .ge 151, 3) := by decide +kernel
theorem dX5_findRests_29 : decode cX5_findRests 29 = .ok (.aload_n 0, 1) := by decide +kernel
theorem dX5_findRests_30 : decode cX5_findRests 30 = .ok (.iload_n 1, 1) := by decide +kernel
theorem dX5_findRests_31 : decode cX5_findRests 31 = .ok (.iload_n 2, 1) := by decide +kernel
theorem dX5_findRests_32 : decode cX5_findRests 32 = .ok (.iload_n 3, 1) := by decide +kernel
theorem dX5_findRests_33 : decode cX5_findRests 33 = .ok (.iload 4, 2) := by decide +kernel
theorem dX5_findRests_35 : decode cX5_findRests 35 = .ok (.iload 5, 2) := by decide +kernel
theorem dX5_findRests_37 : decode cX5_findRests 37 = .ok (.iconst 1, 1) := by decide +kernel
theorem dX5_findRests_38 : decode cX5_findRests 38 = .ok (.invokevirtual 176, 3) := by decide +kernel
theorem dX5_findRests_41 : decode cX5_findRests 41 = .ok (.istore 6, 2) := by decide +kernel
theorem dX5_findRests_43 : decode cX5_findRests 43 = .ok (.aload_n 0, 1) := by decide +kernel
theorem dX5_findRests_44 : decode cX5_findRests 44 = .ok (.iload_n 2, 1) := by decide +kernel
theorem dX5_findRests_45 : decode cX5_findRests 45 = .ok (.iload_n 1, 1) := by decide +kernel
theorem dX5_findRests_46 : decode cX5_findRests 46 = .ok (.iload_n 3, 1) := by decide +kernel
theorem dX5_findRests_47 : decode cX5_findRests 47 = .ok (.iload 5, 2) := by decide +kernel
theorem dX5_findRests_49 : decode cX5_findRests 49 = .ok (.iload 4, 2) := by decide +kernel
theorem dX5_findRests_51 : decode cX5_findRests 51 = .ok (.iconst 0, 1) := by decide +kernel
theorem dX5_findRests_52 : decode cX5_findRests 52 = .ok (.invokevirtual 176, 3) := by decide +kernel
theorem dX5_findRests_55 : decode cX5_findRests 55 = .ok (.istore 7, 2) := by decide +kernel
theorem dX5_findRests_57 : decode cX5_findRests 57 = .ok (.iconst 1, 1) := by decide +kernel
theorem dX5_findRests_58 : decode cX5_findRests 58 = .ok (.istore 8, 2) := by decide +kernel
theorem dX5_findRests_60 : decode cX5_findRests 60 = .ok (.iconst 0, 1) := by decide +kernel
theorem dX5_findRests_61 : decode cX5_findRests 61 = .ok (.istore 9, 2) := by decide +kernel
theorem dX5_findRests_63 : decode cX5_findRests 63 = .ok (.iload 9, 2) := by decide +kernel
theorem dX5_findRests_65 : decode cX5_findRests 65 = .ok (.iconst 4, 1) := by decide +kernel
theorem dX5_findRests_66 : decode cX5_findRests 66 = .ok (.if_icmp .ge 55, 3) := by decide +kernel
theorem dX5_findRests_69 : decode cX5_findRests 69 = .ok (.iload 8, 2) := by decide +kernel
theorem dX5_findRests_71 : decode cX5_findRests 71 = .ok (.ifCond .eq 41, 3) := by decide +kernel
theorem dX5_findRests_74 : decode cX5_findRests 74 = .ok (.aload_n 0, 1) := by decide +kernel
theorem dX5_findRests_75 : decode cX5_findRests 75 = .ok (.iload_n 1, 1) := by decide +kernel
theorem dX5_findRests_76 : decode cX5_findRests 76 = .ok (.iload_n 2, 1) := by decide +kernel
theorem dX5_findRests_77 : decode cX5_findRests 77 = .ok (.iload_n 3, 1) := by decide +kernel
theorem dX5_findRests_78 : decode cX5_findRests 78 = .ok (.iload 9, 2) := by decide +kernel
theorem dX5_findRests_80 : decode cX5_findRests 80 = .ok (.iload 5, 2) := by decide +kernel
theorem dX5_findRests_82 : decode cX5_findRests 82 = .ok (.iconst 1, 1) := by decide +kernel
theorem dX5_findRests_83 : decode cX5_findRests 83 = .ok (.invokevirtual 176, 3) := by decide +kernel
theorem dX5_findRests_86 : decode cX5_findRests 86 = .ok (.iload 6, 2) := by decide +kernel
theorem dX5_findRests_88 : decode cX5_findRests 88 = .ok (.if_icmp .gt 24, 3) := by decide +kernel
theorem dX5_findRests_91 : decode cX5_findRests 91 = .ok (.aload_n 0, 1) := by decide +kernel
theorem dX5_findRests_92 : decode cX5_findRests 92 = .ok (.iload_n 2, 1) := by decide +kernel
theorem dX5_findRests_93 : decode cX5_findRests 93 = .ok (.iload_n 1, 1) := by decide +kernel
theorem dX5_findRests_94 : decode cX5_findRests 94 = .ok (.iload_n 3, 1) := by decide +kernel
theorem dX5_findRests_95 : decode cX5_findRests 95 = .ok (.iload 9, 2) := by decide +kernel
theorem dX5_findRests_97 : decode cX5_findRests 97 = .ok (.iload 4, 2) := by decide +kernel
theorem dX5_findRests_99 : decode cX5_findRests 99 = .ok (.iconst 0, 1) := by decide +kernel
theorem dX5_findRests_100 : decode cX5_findRests 100 = .ok (.invokevirtual 176, 3) := by decide +kernel
theorem dX5_findRests_103 : decode cX5_findRests 103 = .ok (.iload 7, 2) := by decide +kernel
theorem dX5_findRests_105 : decode cX5_findRests 105 = .ok (.if_icmp .gt 7, 3) := by decide +kernel
theorem dX5_findRests_108 : decode cX5_findRests 108 = .ok (.iconst 1, 1) := by decide +kernel
theorem dX5_findRests_109 : decode cX5_findRests 109 = .ok (.goto 4, 3) := by decide +kernel
theorem dX5_findRests_112 : decode cX5_findRests 112 = .ok (.iconst 0, 1) := by decide +kernel
theorem dX5_findRests_113 : decode cX5_findRests 113 = .ok (.istore 8, 2) := by decide +kernel
theorem dX5_findRests_115 : decode cX5_findRests 115 = .ok (.iinc 9 1, 3) := by decide +kernel
theorem dX5_findRests_118 : decode cX5_findRests 118 = .ok (.goto (-55), 3) := by decide +kernel
theorem dX5_findRests_121 : decode cX5_findRests 121 = .ok (.aload_n 0, 1) := by decide +kernel
theorem dX5_findRests_122 : decode cX5_findRests 122 = .ok (.iload 8, 2) := by decide +kernel
theorem dX5_findRests_124 : decode cX5_findRests 124 = .ok (.ifCond .eq 21, 3) := by decide +kernel
theorem dX5_findRests_127 : decode cX5_findRests 127 = .ok (.aload_n 0, 1) := by decide +kernel
theorem dX5_findRests_128 : decode cX5_findRests 128 = .ok (.getfield 170, 3) := by decide +kernel
theorem dX5_findRests_131 : decode cX5_findRests 131 = .ok (.ifCond .ne 14, 3) := by decide +kernel
theorem dX5_findRests_134 : decode cX5_findRests 134 = .ok (.bipush 10, 2) := by decide +kernel
theorem dX5_findRests_136 : decode cX5_findRests 136 = .ok (.iload 4, 2) := by decide +kernel
theorem dX5_findRests_138 : decode cX5_findRests 138 = .ok (.imul, 1) := by decide +kernel
theorem dX5_findRests_139 : decode cX5_findRests 139 = .ok (.iload 5, 2) := by decide +kernel
theorem dX5_findRests_141 : decode cX5_findRests 141 = .ok (.iadd, 1) := by decide +kernel
theorem dX5_findRests_142 : decode cX5_findRests 142 = .ok (.goto 7, 3) := by decide +kernel
theorem dX5_findRests_145 : decode cX5_findRests 145 = .ok (.aload_n 0, 1) := by decide +kernel
theorem dX5_findRests_146 : decode cX5_findRests 146 = .ok (.getfield 173, 3) := by decide +kernel
theorem dX5_findRests_149 : decode cX5_findRests 149 = .ok (.putfield 173, 3) := by decide +kernel
theorem dX5_findRests_152 : decode cX5_findRests 152 = .ok (.aload_n 0, 1) := by decide +kernel
theorem dX5_findRests_153 : decode cX5_findRests 153 = .ok (.dup, 1) := by decide +kernel
theorem dX5_findRests_154 : decode cX5_findRests 154 = .ok (.getfield 170, 3) := by decide +kernel
theorem dX5_findRests_157 : decode cX5_findRests 157 = .ok (.iload 8, 2) := by decide +kernel
theorem dX5_findRests_159 : decode cX5_findRests 159 = .ok (.ifCond .eq 7, 3) := by decide +kernel
theorem dX5_findRests_162 : decode cX5_findRests 162 = .ok (.iconst 1, 1) := by decide +kernel
theorem dX5_findRests_163 : decode cX5_findRests 163 = .ok (.goto 4, 3) := by decide +kernel
theorem dX5_findRests_166 : decode cX5_findRests 166 = .ok (.iconst 0, 1) := by decide +kernel
theorem dX5_findRests_167 : decode cX5_findRests 167 = .ok (.iadd, 1) := by decide +kernel
theorem dX5_findRests_168 : decode cX5_findRests 168 = .ok (.putfield 170, 3) := by decide +kernel
theorem dX5_findRests_171 : decode cX5_findRests 171 = .ok (.iinc 5 1, 3) := by decide +kernel
theorem dX5_findRests_174 : decode cX5_findRests 174 = .ok (.goto (-151), 3) := by decide +kernel
theorem dX5_findRests_177 : decode cX5_findRests 177 = .ok (.iinc 4 1, 3) := by decide +kernel
theorem dX5_findRests_180 : decode cX5_findRests 180 = .ok (.goto (-166), 3) := by decide +kernel
theorem dX5_findRests_183 : decode cX5_findRests 183 = .ok (.return_, 1) := by decide +kernel
theorem dX5_rests_0 : decode cX5_rests 0 = .ok (.aload_n 0, 1) := by decide +kernel
theorem dX5_rests_1 : decode cX5_rests 1 = .ok (.iconst 0, 1) := by decide +kernel
theorem dX5_rests_2 : decode cX5_rests 2 = .ok (.putfield 41, 3) := by decide +kernel
theorem dX5_rests_5 : decode cX5_rests 5 = .ok (.aload_n 0, 1) := by decide +kernel
theorem dX5_rests_6 : decode cX5_rests 6 = .ok (.iload_n 1, 1) := by decide +kernel
theorem dX5_rests_7 : decode cX5_rests 7 = .ok (.invokevirtual 108, 3) := by decide +kernel
theorem dX5_rests_10 : decode cX5_rests 10 = .ok (.ifCond .ne 19, 3) := by decide +kernel
theorem dX5_rests_13 : decode cX5_rests 13 = .ok (.aload_n 0, 1) := by decide +kernel
theorem dX5_rests_14 : decode cX5_rests 14 = .ok (.iload_n 2, 1) := by decide +kernel
theorem dX5_rests_15 : decode cX5_rests 15 = .ok (.invokevirtual 108, 3) := by decide +kernel
theorem dX5_rests_18 : decode cX5_rests 18 = .ok (.ifCond .ne 11, 3) := by decide +kernel
theorem dX5_rests_21 : decode cX5_rests 21 = .ok (.aload_n 0, 1) := by decide +kernel
theorem dX5_rests_22 : decode cX5_rests 22 = .ok (.iload_n 3, 1) := by decide +kernel
theorem dX5_rests_23 : decode cX5_rests 23 = .ok (.invokevirtual 108, 3) := by decide +kernel
theorem dX5_rests_26 : decode cX5_rests 26 = .ok (.ifCond .eq 5, 3) := by decide +kernel
theorem dX5_rests_29 : decode cX5_rests 29 = .ok (.iconst (-1), 1) := by decide +kernel
theorem dX5_rests_30 : decode cX5_rests 30 = .ok (.ireturn, 1) := by decide +kernel
theorem dX5_rests_31 : decode cX5_rests 31 = .ok (.iload_n 1, 1) := by decide +kernel
theorem dX5_rests_32 : decode cX5_rests 32 = .ok (.iload_n 2, 1) := by decide +kernel
theorem dX5_rests_33 : decode cX5_rests 33 = .ok (.if_icmp .eq 24, 3) := by decide +kernel
theorem dX5_rests_36 : decode cX5_rests 36 = .ok (.iload_n 1, 1) := by decide +kernel
end
section
theorem dX5_rests_37 : decode cX5_rests 37 = .ok (.iload_n 3, 1) := by decide +kernel
theorem dX5_rests_38 : decode cX5_rests 38 = .ok (.if_icmp .eq 19, 3) := by decide +kernel
theorem dX5_rests_41 : decode cX5_rests 41 = .ok (.iload_n 2, 1) := by decide +kernel
theorem dX5_rests_42 : decode cX5_rests 42 = .ok (.iload_n 3, 1) := by decide +kernel
theorem dX5_rests_43 : decode cX5_rests 43 = .ok (.if_icmp .eq 14, 3) := by decide +kernel
theorem dX5_rests_46 : decode cX5_rests 46 = .ok (.iload 4, 2) := by decide +kernel
theorem dX5_rests_48 : decode cX5_rests 48 = .ok (.i2l, 1) := by decide +kernel
theorem dX5_rests_49 : decode cX5_rests 49 = .ok (.lconst 0, 1) := by decide +kernel
theorem dX5_rests_50 : decode cX5_rests 50 = .ok (.lconst 1, 1) := by decide +kernel
theorem dX5_rests_51 : decode cX5_rests 51 = .ok (.invokestatic 48, 3) := by decide +kernel
theorem dX5_rests_54 : decode cX5_rests 54 = .ok (.ifCond .ne 6, 3) := by decide +kernel
theorem dX5_rests_57 : decode cX5_rests 57 = .ok (.bipush (-2), 2) := by decide +kernel
theorem dX5_rests_59 : decode cX5_rests 59 = .ok (.ireturn, 1) := by decide +kernel
theorem dX5_rests_60 : decode cX5_rests 60 = .ok (.aload_n 0, 1) := by decide +kernel
theorem dX5_rests_61 : decode cX5_rests 61 = .ok (.getfield 22, 3) := by decide +kernel
theorem dX5_rests_64 : decode cX5_rests 64 = .ok (.bipush 15, 2) := by decide +kernel
theorem dX5_rests_66 : decode cX5_rests 66 = .ok (.iaload, 1) := by decide +kernel
theorem dX5_rests_67 : decode cX5_rests 67 = .ok (.iload_n 3, 1) := by decide +kernel
theorem dX5_rests_68 : decode cX5_rests 68 = .ok (.invokestatic 63, 3) := by decide +kernel
theorem dX5_rests_71 : decode cX5_rests 71 = .ok (.ifCond .ne 6, 3) := by decide +kernel
theorem dX5_rests_74 : decode cX5_rests 74 = .ok (.bipush (-3), 2) := by decide +kernel
theorem dX5_rests_76 : decode cX5_rests 76 = .ok (.ireturn, 1) := by decide +kernel
theorem dX5_rests_77 : decode cX5_rests 77 = .ok (.aload_n 0, 1) := by decide +kernel
theorem dX5_rests_78 : decode cX5_rests 78 = .ok (.iload_n 1, 1) := by decide +kernel
theorem dX5_rests_79 : decode cX5_rests 79 = .ok (.iload_n 2, 1) := by decide +kernel
theorem dX5_rests_80 : decode cX5_rests 80 = .ok (.iload_n 3, 1) := by decide +kernel
theorem dX5_rests_81 : decode cX5_rests 81 = .ok (.invokevirtual 180, 3) := by decide +kernel
theorem dX5_rests_84 : decode cX5_rests 84 = .ok (.iload 4, 2) := by decide +kernel
theorem dX5_rests_86 : decode cX5_rests 86 = .ok (.ifCond .ne 10, 3) := by decide +kernel
theorem dX5_rests_89 : decode cX5_rests 89 = .ok (.aload_n 0, 1) := by decide +kernel
theorem dX5_rests_90 : decode cX5_rests 90 = .ok (.getfield 170, 3) := by decide +kernel
theorem dX5_rests_93 : decode cX5_rests 93 = .ok (.goto 7, 3) := by decide +kernel
theorem dX5_rests_96 : decode cX5_rests 96 = .ok (.aload_n 0, 1) := by decide +kernel
theorem dX5_rests_97 : decode cX5_rests 97 = .ok (.getfield 173, 3) := by decide +kernel
theorem dX5_rests_100 : decode cX5_rests 100 = .ok (.ireturn, 1) := by decide +kernel
theorem dX5_chance_0 : decode cX5_chance 0 = .ok (.aload_n 0, 1) := by decide +kernel
theorem dX5_chance_1 : decode cX5_chance 1 = .ok (.iconst 0, 1) := by decide +kernel
theorem dX5_chance_2 : decode cX5_chance 2 = .ok (.putfield 41, 3) := by decide +kernel
theorem dX5_chance_5 : decode cX5_chance 5 = .ok (.iload_n 1, 1) := by decide +kernel
theorem dX5_chance_6 : decode cX5_chance 6 = .ok (.i2l, 1) := by decide +kernel
theorem dX5_chance_7 : decode cX5_chance 7 = .ok (.lconst 0, 1) := by decide +kernel
theorem dX5_chance_8 : decode cX5_chance 8 = .ok (.ldc2_w 184, 3) := by decide +kernel
theorem dX5_chance_11 : decode cX5_chance 11 = .ok (.invokestatic 48, 3) := by decide +kernel
theorem dX5_chance_14 : decode cX5_chance 14 = .ok (.ifCond .ne 6, 3) := by decide +kernel
theorem dX5_chance_17 : decode cX5_chance 17 = .ok (.bipush (-2), 2) := by decide +kernel
theorem dX5_chance_19 : decode cX5_chance 19 = .ok (.ireturn, 1) := by decide +kernel
theorem dX5_chance_20 : decode cX5_chance 20 = .ok (.aload_n 0, 1) := by decide +kernel
theorem dX5_chance_21 : decode cX5_chance 21 = .ok (.invokevirtual 147, 3) := by decide +kernel
theorem dX5_chance_24 : decode cX5_chance 24 = .ok (.aload_n 0, 1) := by decide +kernel
theorem dX5_chance_25 : decode cX5_chance 25 = .ok (.getfield 22, 3) := by decide +kernel
theorem dX5_chance_28 : decode cX5_chance 28 = .ok (.bipush 15, 2) := by decide +kernel
theorem dX5_chance_30 : decode cX5_chance 30 = .ok (.iaload, 1) := by decide +kernel
theorem dX5_chance_31 : decode cX5_chance 31 = .ok (.iconst (-1), 1) := by decide +kernel
theorem dX5_chance_32 : decode cX5_chance 32 = .ok (.ixor, 1) := by decide +kernel
theorem dX5_chance_33 : decode cX5_chance 33 = .ok (.iand, 1) := by decide +kernel
theorem dX5_chance_34 : decode cX5_chance 34 = .ok (.istore_n 3, 1) := by decide +kernel
theorem dX5_chance_35 : decode cX5_chance 35 = .ok (.iconst 0, 1) := by decide +kernel
theorem dX5_chance_36 : decode cX5_chance 36 = .ok (.istore 4, 2) := by decide +kernel
theorem dX5_chance_38 : decode cX5_chance 38 = .ok (.iconst 0, 1) := by decide +kernel
theorem dX5_chance_39 : decode cX5_chance 39 = .ok (.istore 5, 2) := by decide +kernel
theorem dX5_chance_41 : decode cX5_chance 41 = .ok (.iconst 0, 1) := by decide +kernel
theorem dX5_chance_42 : decode cX5_chance 42 = .ok (.istore 6, 2) := by decide +kernel
theorem dX5_chance_44 : decode cX5_chance 44 = .ok (.iload 6, 2) := by decide +kernel
theorem dX5_chance_46 : decode cX5_chance 46 = .ok (.iload_n 3, 1) := by decide +kernel
theorem dX5_chance_47 : decode cX5_chance 47 = .ok (.if_icmp .gt 142, 3) := by decide +kernel
theorem dX5_chance_50 : decode cX5_chance 50 = .ok (.iload 6, 2) := by decide +kernel
theorem dX5_chance_52 : decode cX5_chance 52 = .ok (.iload_n 3, 1) := by decide +kernel
theorem dX5_chance_53 : decode cX5_chance 53 = .ok (.iconst (-1), 1) := by decide +kernel
theorem dX5_chance_54 : decode cX5_chance 54 = .ok (.ixor, 1) := by decide +kernel
theorem dX5_chance_55 : decode cX5_chance 55 = .ok (.iand, 1) := by decide +kernel
theorem dX5_chance_56 : decode cX5_chance 56 = .ok (.ifCond .ne 127, 3) := by decide +kernel
theorem dX5_chance_59 : decode cX5_chance 59 = .ok (.iconst 1, 1) := by decide +kernel
theorem dX5_chance_60 : decode cX5_chance 60 = .ok (.istore 7, 2) := by decide +kernel
theorem dX5_chance_62 : decode cX5_chance 62 = .ok (.aload_n 0, 1) := by decide +kernel
theorem dX5_chance_63 : decode cX5_chance 63 = .ok (.invokevirtual 153, 3) := by decide +kernel
theorem dX5_chance_66 : decode cX5_chance 66 = .ok (.iconst 0, 1) := by decide +kernel
theorem dX5_chance_67 : decode cX5_chance 67 = .ok (.istore 8, 2) := by decide +kernel
theorem dX5_chance_69 : decode cX5_chance 69 = .ok (.iload 8, 2) := by decide +kernel
theorem dX5_chance_71 : decode cX5_chance 71 = .ok (.aload_n 0, 1) := by decide +kernel
theorem dX5_chance_72 : decode cX5_chance 72 = .ok (.getfield 45, 3) := by decide +kernel
theorem dX5_chance_75 : decode cX5_chance 75 = .ok (.if_icmp .ge 61, 3) := by decide +kernel
theorem dX5_chance_78 : decode cX5_chance 78 = .ok (.iload_n 3, 1) := by decide +kernel
theorem dX5_chance_79 : decode cX5_chance 79 = .ok (.iload 8, 2) := by decide +kernel
theorem dX5_chance_81 : decode cX5_chance 81 = .ok (.invokestatic 63, 3) := by decide +kernel
theorem dX5_chance_84 : decode cX5_chance 84 = .ok (.ifCond .eq 26, 3) := by decide +kernel
theorem dX5_chance_87 : decode cX5_chance 87 = .ok (.iload 7, 2) := by decide +kernel
theorem dX5_chance_89 : decode cX5_chance 89 = .ok (.iload 6, 2) := by decide +kernel
theorem dX5_chance_91 : decode cX5_chance 91 = .ok (.iload 8, 2) := by decide +kernel
theorem dX5_chance_93 : decode cX5_chance 93 = .ok (.invokestatic 63, 3) := by decide +kernel
theorem dX5_chance_96 : decode cX5_chance 96 = .ok (.ifCond .eq 7, 3) := by decide +kernel
theorem dX5_chance_99 : decode cX5_chance 99 = .ok (.iload_n 1, 1) := by decide +kernel
theorem dX5_chance_100 : decode cX5_chance 100 = .ok (.goto 7, 3) := by decide +kernel
theorem dX5_chance_103 : decode cX5_chance 103 = .ok (.bipush 10, 2) := by decide +kernel
theorem dX5_chance_105 : decode cX5_chance 105 = .ok (.iload_n 1, 1) := by decide +kernel
theorem dX5_chance_106 : decode cX5_chance 106 = .ok (.isub, 1) := by decide +kernel
theorem dX5_chance_107 : decode cX5_chance 107 = .ok (.imul, 1) := by decide +kernel
theorem dX5_chance_108 : decode cX5_chance 108 = .ok (.istore 7, 2) := by decide +kernel
theorem dX5_chance_110 : decode cX5_chance 110 = .ok (.iload 6, 2) := by decide +kernel
theorem dX5_chance_112 : decode cX5_chance 112 = .ok (.iload 8, 2) := by decide +kernel
theorem dX5_chance_114 : decode cX5_chance 114 = .ok (.invokestatic 63, 3) := by decide +kernel
theorem dX5_chance_117 : decode cX5_chance 117 = .ok (.ifCond .eq 13, 3) := by decide +kernel
theorem dX5_chance_120 : decode cX5_chance 120 = .ok (.aload_n 0, 1) := by decide +kernel
theorem dX5_chance_121 : decode cX5_chance 121 = .ok (.aload_n 0, 1) := by decide +kernel
theorem dX5_chance_122 : decode cX5_chance 122 = .ok (.getfield 25, 3) := by decide +kernel
theorem dX5_chance_125 : decode cX5_chance 125 = .ok (.iload 8, 2) := by decide +kernel
theorem dX5_chance_127 : decode cX5_chance 127 = .ok (.invokevirtual 118, 3) := by decide +kernel
theorem dX5_chance_130 : decode cX5_chance 130 = .ok (.iinc 8 1, 3) := by decide +kernel
theorem dX5_chance_133 : decode cX5_chance 133 = .ok (.goto (-64), 3) := by decide +kernel
theorem dX5_chance_136 : decode cX5_chance 136 = .ok (.aload_n 0, 1) := by decide +kernel
theorem dX5_chance_137 : decode cX5_chance 137 = .ok (.aload_n 0, 1) := by decide +kernel
theorem dX5_chance_138 : decode cX5_chance 138 = .ok (.getfield 25, 3) := by decide +kernel
theorem dX5_chance_141 : decode cX5_chance 141 = .ok (.aload_n 0, 1) := by decide +kernel
theorem dX5_chance_142 : decode cX5_chance 142 = .ok (.invokevirtual 147, 3) := by decide +kernel
theorem dX5_chance_145 : decode cX5_chance 145 = .ok (.invokevirtual 150, 3) := by decide +kernel
theorem dX5_chance_148 : decode cX5_chance 148 = .ok (.iload 5, 2) := by decide +kernel
theorem dX5_chance_150 : decode cX5_chance 150 = .ok (.iload 7, 2) := by decide +kernel
theorem dX5_chance_152 : decode cX5_chance 152 = .ok (.iadd, 1) := by decide +kernel
theorem dX5_chance_153 : decode cX5_chance 153 = .ok (.istore 5, 2) := by decide +kernel
theorem dX5_chance_155 : decode cX5_chance 155 = .ok (.iload 4, 2) := by decide +kernel
theorem dX5_chance_157 : decode cX5_chance 157 = .ok (.aload_n 0, 1) := by decide +kernel
theorem dX5_chance_158 : decode cX5_chance 158 = .ok (.getfield 133, 3) := by decide +kernel
theorem dX5_chance_161 : decode cX5_chance 161 = .ok (.aload_n 0, 1) := by decide +kernel
theorem dX5_chance_162 : decode cX5_chance 162 = .ok (.getfield 25, 3) := by decide +kernel
theorem dX5_chance_165 : decode cX5_chance 165 = .ok (.bipush 15, 2) := by decide +kernel
theorem dX5_chance_167 : decode cX5_chance 167 = .ok (.iaload, 1) := by decide +kernel
theorem dX5_chance_168 : decode cX5_chance 168 = .ok (.invokestatic 122, 3) := by decide +kernel
theorem dX5_chance_171 : decode cX5_chance 171 = .ok (.if_icmp .ne 8, 3) := by decide +kernel
theorem dX5_chance_174 : decode cX5_chance 174 = .ok (.iload 7, 2) := by decide +kernel
theorem dX5_chance_176 : decode cX5_chance 176 = .ok (.goto 4, 3) := by decide +kernel
theorem dX5_chance_179 : decode cX5_chance 179 = .ok (.iconst 0, 1) := by decide +kernel
theorem dX5_chance_180 : decode cX5_chance 180 = .ok (.iadd, 1) := by decide +kernel
theorem dX5_chance_181 : decode cX5_chance 181 = .ok (.istore 4, 2) := by decide +kernel
theorem dX5_chance_183 : decode cX5_chance 183 = .ok (.iinc 6 1, 3) := by decide +kernel
theorem dX5_chance_186 : decode cX5_chance 186 = .ok (.goto (-142), 3) := by decide +kernel
theorem dX5_chance_189 : decode cX5_chance 189 = .ok (.iload 4, 2) := by decide +kernel
theorem dX5_chance_191 : decode cX5_chance 191 = .ok (.iload 5, 2) := by decide +kernel
theorem dX5_chance_193 : decode cX5_chance 193 = .ok (.iload_n 2, 1) := by decide +kernel
theorem dX5_chance_194 : decode cX5_chance 194 = .ok (.invokestatic 162, 3) := by decide +kernel
theorem dX5_chance_197 : decode cX5_chance 197 = .ok (.ireturn, 1) := by decide +kernel
theorem dX5_seed_0 : decode cX5_seed 0 = .ok (.aload_n 0, 1) := by decide +kernel
theorem dX5_seed_1 : decode cX5_seed 1 = .ok (.iconst 0, 1) := by decide +kernel
theorem dX5_seed_2 : decode cX5_seed 2 = .ok (.putfield 41, 3) := by decide +kernel
theorem dX5_seed_5 : decode cX5_seed 5 = .ok (.aload_n 0, 1) := by decide +kernel
theorem dX5_seed_6 : decode cX5_seed 6 = .ok (.getfield 186, 3) := by decide +kernel
theorem dX5_seed_9 : decode cX5_seed 9 = .ok (.lstore_n 3, 1) := by decide +kernel
theorem dX5_seed_10 : decode cX5_seed 10 = .ok (.aload_n 0, 1) := by decide +kernel
theorem dX5_seed_11 : decode cX5_seed 11 = .ok (.lload_n 1, 1) := by decide +kernel
theorem dX5_seed_12 : decode cX5_seed 12 = .ok (.putfield 186, 3) := by decide +kernel
theorem dX5_seed_15 : decode cX5_seed 15 = .ok (.lload_n 3, 1) := by decide +kernel
theorem dX5_seed_16 : decode cX5_seed 16 = .ok (.lreturn, 1) := by decide +kernel
theorem dX5_years_0 : decode cX5_years 0 = .ok (.aload_n 0, 1) := by decide +kernel
theorem dX5_years_1 : decode cX5_years 1 = .ok (.iconst 0, 1) := by decide +kernel
theorem dX5_years_2 : decode cX5_years 2 = .ok (.putfield 41, 3) := by decide +kernel
theorem dX5_years_5 : decode cX5_years 5 = .ok (.iload_n 1, 1) := by decide +kernel
theorem dX5_years_6 : decode cX5_years 6 = .ok (.i2l, 1) := by decide +kernel
theorem dX5_years_7 : decode cX5_years 7 = .ok (.lconst 1, 1) := by decide +kernel
theorem dX5_years_8 : decode cX5_years 8 = .ok (.ldc2_w 190, 3) := by decide +kernel
theorem dX5_years_11 : decode cX5_years 11 = .ok (.invokestatic 48, 3) := by decide +kernel
theorem dX5_years_14 : decode cX5_years 14 = .ok (.ifCond .ne 6, 3) := by decide +kernel
theorem dX5_years_17 : decode cX5_years 17 = .ok (.bipush (-2), 2) := by decide +kernel
theorem dX5_years_19 : decode cX5_years 19 = .ok (.ireturn, 1) := by decide +kernel
theorem dX5_years_20 : decode cX5_years 20 = .ok (.aload_n 0, 1) := by decide +kernel
theorem dX5_years_21 : decode cX5_years 21 = .ok (.invokevirtual 153, 3) := by decide +kernel
theorem dX5_years_24 : decode cX5_years 24 = .ok (.iconst 0, 1) := by decide +kernel
theorem dX5_years_25 : decode cX5_years 25 = .ok (.istore_n 2, 1) := by decide +kernel
theorem dX5_years_26 : decode cX5_years 26 = .ok (.iconst 0, 1) := by decide +kernel
theorem dX5_years_27 : decode cX5_years 27 = .ok (.istore_n 3, 1) := by decide +kernel
theorem dX5_years_28 : decode cX5_years 28 = .ok (.iload_n 3, 1) := by decide +kernel
theorem dX5_years_29 : decode cX5_years 29 = .ok (.iload_n 1, 1) := by decide +kernel
theorem dX5_years_30 : decode cX5_years 30 = .ok (.if_icmp .ge 144, 3) := by decide +kernel
theorem dX5_years_33 : decode cX5_years 33 = .ok (.aload_n 0, 1) := by decide +kernel
theorem dX5_years_34 : decode cX5_years 34 = .ok (.aload_n 0, 1) := by decide +kernel
theorem dX5_years_35 : decode cX5_years 35 = .ok (.getfield 186, 3) := by decide +kernel
theorem dX5_years_38 : decode cX5_years 38 = .ok (.ldc2_w 192, 3) := by decide +kernel
theorem dX5_years_41 : decode cX5_years 41 = .ok (.lmul, 1) := by decide +kernel
theorem dX5_years_42 : decode cX5_years 42 = .ok (.ldc2_w 194, 3) := by decide +kernel
theorem dX5_years_45 : decode cX5_years 45 = .ok (.ladd, 1) := by decide +kernel
theorem dX5_years_46 : decode cX5_years 46 = .ok (.putfield 186, 3) := by decide +kernel
theorem dX5_years_49 : decode cX5_years 49 = .ok (.aload_n 0, 1) := by decide +kernel
theorem dX5_years_50 : decode cX5_years 50 = .ok (.getfield 186, 3) := by decide +kernel
theorem dX5_years_53 : decode cX5_years 53 = .ok (.bipush 33, 2) := by decide +kernel
theorem dX5_years_55 : decode cX5_years 55 = .ok (.lushr, 1) := by decide +kernel
theorem dX5_years_56 : decode cX5_years 56 = .ok (.ldc2_w 196, 3) := by decide +kernel
theorem dX5_years_59 : decode cX5_years 59 = .ok (.lrem, 1) := by decide +kernel
theorem dX5_years_60 : decode cX5_years 60 = .ok (.l2i, 1) := by decide +kernel
theorem dX5_years_61 : decode cX5_years 61 = .ok (.istore 4, 2) := by decide +kernel
theorem dX5_years_63 : decode cX5_years 63 = .ok (.iload 4, 2) := by decide +kernel
theorem dX5_years_65 : decode cX5_years 65 = .ok (.bipush 10, 2) := by decide +kernel
theorem dX5_years_67 : decode cX5_years 67 = .ok (.idiv, 1) := by decide +kernel
theorem dX5_years_68 : decode cX5_years 68 = .ok (.istore 5, 2) := by decide +kernel
theorem dX5_years_70 : decode cX5_years 70 = .ok (.iload 4, 2) := by decide +kernel
theorem dX5_years_72 : decode cX5_years 72 = .ok (.bipush 10, 2) := by decide +kernel
theorem dX5_years_74 : decode cX5_years 74 = .ok (.irem, 1) := by decide +kernel
theorem dX5_years_75 : decode cX5_years 75 = .ok (.istore 6, 2) := by decide +kernel
theorem dX5_years_77 : decode cX5_years 77 = .ok (.aload_n 0, 1) := by decide +kernel
theorem dX5_years_78 : decode cX5_years 78 = .ok (.iload 5, 2) := by decide +kernel
theorem dX5_years_80 : decode cX5_years 80 = .ok (.invokevirtual 108, 3) := by decide +kernel
theorem dX5_years_83 : decode cX5_years 83 = .ok (.ifCond .ne 28, 3) := by decide +kernel
theorem dX5_years_86 : decode cX5_years 86 = .ok (.aload_n 0, 1) := by decide +kernel
theorem dX5_years_87 : decode cX5_years 87 = .ok (.getfield 25, 3) := by decide +kernel
theorem dX5_years_90 : decode cX5_years 90 = .ok (.bipush 15, 2) := by decide +kernel
theorem dX5_years_92 : decode cX5_years 92 = .ok (.iaload, 1) := by decide +kernel
theorem dX5_years_93 : decode cX5_years 93 = .ok (.iload 5, 2) := by decide +kernel
theorem dX5_years_95 : decode cX5_years 95 = .ok (.invokestatic 63, 3) := by decide +kernel
theorem dX5_years_98 : decode cX5_years 98 = .ok (.ifCond .ne 13, 3) := by decide +kernel
theorem dX5_years_101 : decode cX5_years 101 = .ok (.aload_n 0, 1) := by decide +kernel
theorem dX5_years_102 : decode cX5_years 102 = .ok (.aload_n 0, 1) := by decide +kernel
theorem dX5_years_103 : decode cX5_years 103 = .ok (.getfield 25, 3) := by decide +kernel
theorem dX5_years_106 : decode cX5_years 106 = .ok (.iload 5, 2) := by decide +kernel
theorem dX5_years_108 : decode cX5_years 108 = .ok (.invokevirtual 118, 3) := by decide +kernel
theorem dX5_years_111 : decode cX5_years 111 = .ok (.aload_n 0, 1) := by decide +kernel
theorem dX5_years_112 : decode cX5_years 112 = .ok (.iload 5, 2) := by decide +kernel
theorem dX5_years_114 : decode cX5_years 114 = .ok (.invokevirtual 108, 3) := by decide +kernel
theorem dX5_years_117 : decode cX5_years 117 = .ok (.ifCond .ne 43, 3) := by decide +kernel
theorem dX5_years_120 : decode cX5_years 120 = .ok (.aload_n 0, 1) := by decide +kernel
theorem dX5_years_121 : decode cX5_years 121 = .ok (.iload 6, 2) := by decide +kernel
theorem dX5_years_123 : decode cX5_years 123 = .ok (.invokevirtual 108, 3) := by decide +kernel
theorem dX5_years_126 : decode cX5_years 126 = .ok (.ifCond .ne 34, 3) := by decide +kernel
theorem dX5_years_129 : decode cX5_years 129 = .ok (.aload_n 0, 1) := by decide +kernel
theorem dX5_years_130 : decode cX5_years 130 = .ok (.aload_n 0, 1) := by decide +kernel
theorem dX5_years_131 : decode cX5_years 131 = .ok (.getfield 25, 3) := by decide +kernel
theorem dX5_years_134 : decode cX5_years 134 = .ok (.iload 6, 2) := by decide +kernel
theorem dX5_years_136 : decode cX5_years 136 = .ok (.iload 5, 2) := by decide +kernel
theorem dX5_years_138 : decode cX5_years 138 = .ok (.invokevirtual 105, 3) := by decide +kernel
theorem dX5_years_141 : decode cX5_years 141 = .ok (.ifCond .eq 19, 3) := by decide +kernel
theorem dX5_years_144 : decode cX5_years 144 = .ok (.aload_n 0, 1) := by decide +kernel
theorem dX5_years_145 : decode cX5_years 145 = .ok (.aload_n 0, 1) := by decide +kernel
theorem dX5_years_146 : decode cX5_years 146 = .ok (.getfield 25, 3) := by decide +kernel
theorem dX5_years_149 : decode cX5_years 149 = .ok (.iload 6, 2) := by decide +kernel
theorem dX5_years_151 : decode cX5_years 151 = .ok (.iload 5, 2) := by decide +kernel
theorem dX5_years_153 : decode cX5_years 153 = .ok (.invokevirtual 125, 3) := by decide +kernel
theorem dX5_years_156 : decode cX5_years 156 = .ok (.pop, 1) := by decide +kernel
theorem dX5_years_157 : decode cX5_years 157 = .ok (.iinc 2 1, 3) := by decide +kernel
theorem dX5_years_160 : decode cX5_years 160 = .ok (.aload_n 0, 1) := by decide +kernel
theorem dX5_years_161 : decode cX5_years 161 = .ok (.aload_n 0, 1) := by decide +kernel
theorem dX5_years_162 : decode cX5_years 162 = .ok (.getfield 25, 3) := by decide +kernel
theorem dX5_years_165 : decode cX5_years 165 = .ok (.invokevirtual 129, 3) := by decide +kernel
theorem dX5_years_168 : decode cX5_years 168 = .ok (.iinc 3 1, 3) := by decide +kernel
theorem dX5_years_171 : decode cX5_years 171 = .ok (.goto (-143), 3) := by decide +kernel
theorem dX5_years_174 : decode cX5_years 174 = .ok (.iload_n 2, 1) := by decide +kernel
theorem dX5_years_175 : decode cX5_years 175 = .ok (.ireturn, 1) := by decide +kernel
theorem dX5_keep_0 : decode cX5_keep 0 = .ok (.aload_n 0, 1) := by decide +kernel
theorem dX5_keep_1 : decode cX5_keep 1 = .ok (.iconst 0, 1) := by decide +kernel
theorem dX5_keep_2 : decode cX5_keep 2 = .ok (.putfield 41, 3) := by decide +kernel
theorem dX5_keep_5 : decode cX5_keep 5 = .ok (.iload_n 1, 1) := by decide +kernel
theorem dX5_keep_6 : decode cX5_keep 6 = .ok (.i2l, 1) := by decide +kernel
theorem dX5_keep_7 : decode cX5_keep 7 = .ok (.lconst 0, 1) := by decide +kernel
theorem dX5_keep_8 : decode cX5_keep 8 = .ok (.lconst 1, 1) := by decide +kernel
theorem dX5_keep_9 : decode cX5_keep 9 = .ok (.invokestatic 48, 3) := by decide +kernel
theorem dX5_keep_12 : decode cX5_keep 12 = .ok (.ifCond .ne 5, 3) := by decide +kernel
theorem dX5_keep_15 : decode cX5_keep 15 = .ok (.iconst (-1), 1) := by decide +kernel
theorem dX5_keep_16 : decode cX5_keep 16 = .ok (.ireturn, 1) := by decide +kernel
theorem dX5_keep_17 : decode cX5_keep 17 = .ok (.aload_n 0, 1) := by decide +kernel
theorem dX5_keep_18 : decode cX5_keep 18 = .ok (.getfield 34, 3) := by decide +kernel
theorem dX5_keep_21 : decode cX5_keep 21 = .ok (.iload_n 1, 1) := by decide +kernel
theorem dX5_keep_22 : decode cX5_keep 22 = .ok (.iconst 1, 1) := by decide +kernel
theorem dX5_keep_23 : decode cX5_keep 23 = .ok (.bastore, 1) := by decide +kernel
theorem dX5_keep_24 : decode cX5_keep 24 = .ok (.iconst 0, 1) := by decide +kernel
theorem dX5_keep_25 : decode cX5_keep 25 = .ok (.istore_n 2, 1) := by decide +kernel
theorem dX5_keep_26 : decode cX5_keep 26 = .ok (.iload_n 2, 1) := by decide +kernel
theorem dX5_keep_27 : decode cX5_keep 27 = .ok (.bipush 43, 2) := by decide +kernel
theorem dX5_keep_29 : decode cX5_keep 29 = .ok (.if_icmp .ge 26, 3) := by decide +kernel
theorem dX5_keep_32 : decode cX5_keep 32 = .ok (.aload_n 0, 1) := by decide +kernel
theorem dX5_keep_33 : decode cX5_keep 33 = .ok (.getfield 31, 3) := by decide +kernel
theorem dX5_keep_36 : decode cX5_keep 36 = .ok (.bipush 43, 2) := by decide +kernel
theorem dX5_keep_38 : decode cX5_keep 38 = .ok (.iload_n 1, 1) := by decide +kernel
theorem dX5_keep_39 : decode cX5_keep 39 = .ok (.imul, 1) := by decide +kernel
theorem dX5_keep_40 : decode cX5_keep 40 = .ok (.iload_n 2, 1) := by decide +kernel
theorem dX5_keep_41 : decode cX5_keep 41 = .ok (.iadd, 1) := by decide +kernel
theorem dX5_keep_42 : decode cX5_keep 42 = .ok (.aload_n 0, 1) := by decide +kernel
theorem dX5_keep_43 : decode cX5_keep 43 = .ok (.getfield 22, 3) := by decide +kernel
theorem dX5_keep_46 : decode cX5_keep 46 = .ok (.iload_n 2, 1) := by decide +kernel
theorem dX5_keep_47 : decode cX5_keep 47 = .ok (.iaload, 1) := by decide +kernel
theorem dX5_keep_48 : decode cX5_keep 48 = .ok (.iastore, 1) := by decide +kernel
theorem dX5_keep_49 : decode cX5_keep 49 = .ok (.iinc 2 1, 3) := by decide +kernel
theorem dX5_keep_52 : decode cX5_keep 52 = .ok (.goto (-26), 3) := by decide +kernel
theorem dX5_keep_55 : decode cX5_keep 55 = .ok (.aload_n 0, 1) := by decide +kernel
theorem dX5_keep_56 : decode cX5_keep 56 = .ok (.getfield 22, 3) := by decide +kernel
theorem dX5_keep_59 : decode cX5_keep 59 = .ok (.bipush 42, 2) := by decide +kernel
theorem dX5_keep_61 : decode cX5_keep 61 = .ok (.iaload, 1) := by decide +kernel
theorem dX5_keep_62 : decode cX5_keep 62 = .ok (.ireturn, 1) := by decide +kernel
theorem dX5_again_0 : decode cX5_again 0 = .ok (.aload_n 0, 1) := by decide +kernel
theorem dX5_again_1 : decode cX5_again 1 = .ok (.iconst 0, 1) := by decide +kernel
theorem dX5_again_2 : decode cX5_again 2 = .ok (.putfield 41, 3) := by decide +kernel
theorem dX5_again_5 : decode cX5_again 5 = .ok (.iload_n 1, 1) := by decide +kernel
theorem dX5_again_6 : decode cX5_again 6 = .ok (.i2l, 1) := by decide +kernel
theorem dX5_again_7 : decode cX5_again 7 = .ok (.lconst 0, 1) := by decide +kernel
theorem dX5_again_8 : decode cX5_again 8 = .ok (.lconst 1, 1) := by decide +kernel
theorem dX5_again_9 : decode cX5_again 9 = .ok (.invokestatic 48, 3) := by decide +kernel
theorem dX5_again_12 : decode cX5_again 12 = .ok (.ifCond .ne 5, 3) := by decide +kernel
theorem dX5_again_15 : decode cX5_again 15 = .ok (.iconst (-1), 1) := by decide +kernel
theorem dX5_again_16 : decode cX5_again 16 = .ok (.ireturn, 1) := by decide +kernel
theorem dX5_again_17 : decode cX5_again 17 = .ok (.aload_n 0, 1) := by decide +kernel
theorem dX5_again_18 : decode cX5_again 18 = .ok (.getfield 34, 3) := by decide +kernel
theorem dX5_again_21 : decode cX5_again 21 = .ok (.iload_n 1, 1) := by decide +kernel
theorem dX5_again_22 : decode cX5_again 22 = .ok (.baload, 1) := by decide +kernel
theorem dX5_again_23 : decode cX5_again 23 = .ok (.ifCond .ne 6, 3) := by decide +kernel
theorem dX5_again_26 : decode cX5_again 26 = .ok (.bipush (-3), 2) := by decide +kernel
theorem dX5_again_28 : decode cX5_again 28 = .ok (.ireturn, 1) := by decide +kernel
theorem dX5_again_29 : decode cX5_again 29 = .ok (.iconst 0, 1) := by decide +kernel
theorem dX5_again_30 : decode cX5_again 30 = .ok (.istore_n 2, 1) := by decide +kernel
theorem dX5_again_31 : decode cX5_again 31 = .ok (.iload_n 2, 1) := by decide +kernel
theorem dX5_again_32 : decode cX5_again 32 = .ok (.bipush 43, 2) := by decide +kernel
theorem dX5_again_34 : decode cX5_again 34 = .ok (.if_icmp .ge 26, 3) := by decide +kernel
theorem dX5_again_37 : decode cX5_again 37 = .ok (.aload_n 0, 1) := by decide +kernel
theorem dX5_again_38 : decode cX5_again 38 = .ok (.getfield 22, 3) := by decide +kernel
theorem dX5_again_41 : decode cX5_again 41 = .ok (.iload_n 2, 1) := by decide +kernel
theorem dX5_again_42 : decode cX5_again 42 = .ok (.aload_n 0, 1) := by decide +kernel
theorem dX5_again_43 : decode cX5_again 43 = .ok (.getfield 31, 3) := by decide +kernel
theorem dX5_again_46 : decode cX5_again 46 = .ok (.bipush 43, 2) := by decide +kernel
theorem dX5_again_48 : decode cX5_again 48 = .ok (.iload_n 1, 1) := by decide +kernel
theorem dX5_again_49 : decode cX5_again 49 = .ok (.imul, 1) := by decide +kernel
theorem dX5_again_50 : decode cX5_again 50 = .ok (.iload_n 2, 1) := by decide +kernel
theorem dX5_again_51 : decode cX5_again 51 = .ok (.iadd, 1) := by decide +kernel
theorem dX5_again_52 : decode cX5_again 52 = .ok (.iaload, 1) := by decide +kernel
theorem dX5_again_53 : decode cX5_again 53 = .ok (.iastore, 1) := by decide +kernel
theorem dX5_again_54 : decode cX5_again 54 = .ok (.iinc 2 1, 3) := by decide +kernel
theorem dX5_again_57 : decode cX5_again 57 = .ok (.goto (-26), 3) := by decide +kernel
theorem dX5_again_60 : decode cX5_again 60 = .ok (.aload_n 0, 1) := by decide +kernel
theorem dX5_again_61 : decode cX5_again 61 = .ok (.iconst 0, 1) := by decide +kernel
theorem dX5_again_62 : decode cX5_again 62 = .ok (.putfield 90, 3) := by decide +kernel
theorem dX5_again_65 : decode cX5_again 65 = .ok (.aload_n 0, 1) := by decide +kernel
theorem dX5_again_66 : decode cX5_again 66 = .ok (.getfield 22, 3) := by decide +kernel
theorem dX5_again_69 : decode cX5_again 69 = .ok (.bipush 42, 2) := by decide +kernel
theorem dX5_again_71 : decode cX5_again 71 = .ok (.iaload, 1) := by decide +kernel
theorem dX5_again_72 : decode cX5_again 72 = .ok (.ireturn, 1) := by decide +kernel
theorem dL_law_0 : decode cL_law 0 = .ok (.new 7, 3) := by decide +kernel
theorem dL_law_3 : decode cL_law 3 = .ok (.dup, 1) := by decide +kernel
theorem dL_law_4 : decode cL_law 4 = .ok (.invokespecial 9, 3) := by decide +kernel
theorem dL_law_7 : decode cL_law 7 = .ok (.astore_n 1, 1) := by decide +kernel
theorem dL_law_8 : decode cL_law 8 = .ok (.new 10, 3) := by decide +kernel
theorem dL_law_11 : decode cL_law 11 = .ok (.dup, 1) := by decide +kernel
theorem dL_law_12 : decode cL_law 12 = .ok (.invokespecial 12, 3) := by decide +kernel
theorem dL_law_15 : decode cL_law 15 = .ok (.astore_n 2, 1) := by decide +kernel
theorem dL_law_16 : decode cL_law 16 = .ok (.iconst 0, 1) := by decide +kernel
theorem dL_law_17 : decode cL_law 17 = .ok (.istore_n 3, 1) := by decide +kernel
theorem dL_law_18 : decode cL_law 18 = .ok (.iload_n 3, 1) := by decide +kernel
theorem dL_law_19 : decode cL_law 19 = .ok (.aload_n 0, 1) := by decide +kernel
theorem dL_law_20 : decode cL_law 20 = .ok (.arraylength, 1) := by decide +kernel
theorem dL_law_21 : decode cL_law 21 = .ok (.iconst 5, 1) := by decide +kernel
theorem dL_law_22 : decode cL_law 22 = .ok (.isub, 1) := by decide +kernel
theorem dL_law_23 : decode cL_law 23 = .ok (.if_icmp .gt 856, 3) := by decide +kernel
theorem dL_law_26 : decode cL_law 26 = .ok (.aload_n 0, 1) := by decide +kernel
theorem dL_law_27 : decode cL_law 27 = .ok (.iload_n 3, 1) := by decide +kernel
theorem dL_law_28 : decode cL_law 28 = .ok (.iaload, 1) := by decide +kernel
theorem dL_law_29 : decode cL_law 29 = .ok (.bipush 31, 2) := by decide +kernel
theorem dL_law_31 : decode cL_law 31 = .ok (.iand, 1) := by decide +kernel
theorem dL_law_32 : decode cL_law 32 = .ok (.tableswitch 841 0 25 #[120, 143, 156, 169, 182, 205, 238, 271, 294, 327, 360, 373, 386, 409, 432, 465, 488, 501, 550, 593, 616, 669, 718, 772, 795, 818], 120) := by decide +kernel
theorem dL_law_152 : decode cL_law 152 = .ok (.aload_n 1, 1) := by decide +kernel
theorem dL_law_153 : decode cL_law 153 = .ok (.aload_n 0, 1) := by decide +kernel
theorem dL_law_154 : decode cL_law 154 = .ok (.iload_n 3, 1) := by decide +kernel
theorem dL_law_155 : decode cL_law 155 = .ok (.iconst 1, 1) := by decide +kernel
theorem dL_law_156 : decode cL_law 156 = .ok (.iadd, 1) := by decide +kernel
theorem dL_law_157 : decode cL_law 157 = .ok (.iaload, 1) := by decide +kernel
theorem dL_law_158 : decode cL_law 158 = .ok (.invokevirtual 13, 3) := by decide +kernel
theorem dL_law_161 : decode cL_law 161 = .ok (.aload_n 2, 1) := by decide +kernel
theorem dL_law_162 : decode cL_law 162 = .ok (.aload_n 0, 1) := by decide +kernel
theorem dL_law_163 : decode cL_law 163 = .ok (.iload_n 3, 1) := by decide +kernel
theorem dL_law_164 : decode cL_law 164 = .ok (.iconst 1, 1) := by decide +kernel
theorem dL_law_165 : decode cL_law 165 = .ok (.iadd, 1) := by decide +kernel
theorem dL_law_166 : decode cL_law 166 = .ok (.iaload, 1) := by decide +kernel
theorem dL_law_167 : decode cL_law 167 = .ok (.invokevirtual 17, 3) := by decide +kernel
theorem dL_law_170 : decode cL_law 170 = .ok (.if_icmp .eq 703, 3) := by decide +kernel
theorem dL_law_173 : decode cL_law 173 = .ok (.iconst 0, 1) := by decide +kernel
theorem dL_law_174 : decode cL_law 174 = .ok (.ireturn, 1) := by decide +kernel
theorem dL_law_175 : decode cL_law 175 = .ok (.aload_n 1, 1) := by decide +kernel
theorem dL_law_176 : decode cL_law 176 = .ok (.invokevirtual 18, 3) := by decide +kernel
theorem dL_law_179 : decode cL_law 179 = .ok (.aload_n 2, 1) := by decide +kernel
theorem dL_law_180 : decode cL_law 180 = .ok (.invokevirtual 22, 3) := by decide +kernel
theorem dL_law_183 : decode cL_law 183 = .ok (.if_icmp .eq 690, 3) := by decide +kernel
theorem dL_law_186 : decode cL_law 186 = .ok (.iconst 0, 1) := by decide +kernel
theorem dL_law_187 : decode cL_law 187 = .ok (.ireturn, 1) := by decide +kernel
theorem dL_law_188 : decode cL_law 188 = .ok (.aload_n 1, 1) := by decide +kernel
theorem dL_law_189 : decode cL_law 189 = .ok (.invokevirtual 23, 3) := by decide +kernel
theorem dL_law_192 : decode cL_law 192 = .ok (.aload_n 2, 1) := by decide +kernel
theorem dL_law_193 : decode cL_law 193 = .ok (.invokevirtual 26, 3) := by decide +kernel
theorem dL_law_196 : decode cL_law 196 = .ok (.if_icmp .eq 677, 3) := by decide +kernel
theorem dL_law_199 : decode cL_law 199 = .ok (.iconst 0, 1) := by decide +kernel
theorem dL_law_200 : decode cL_law 200 = .ok (.ireturn, 1) := by decide +kernel
theorem dL_law_201 : decode cL_law 201 = .ok (.aload_n 1, 1) := by decide +kernel
theorem dL_law_202 : decode cL_law 202 = .ok (.invokevirtual 27, 3) := by decide +kernel
theorem dL_law_205 : decode cL_law 205 = .ok (.aload_n 2, 1) := by decide +kernel
theorem dL_law_206 : decode cL_law 206 = .ok (.invokevirtual 30, 3) := by decide +kernel
theorem dL_law_209 : decode cL_law 209 = .ok (.if_icmp .eq 664, 3) := by decide +kernel
theorem dL_law_212 : decode cL_law 212 = .ok (.iconst 0, 1) := by decide +kernel
theorem dL_law_213 : decode cL_law 213 = .ok (.ireturn, 1) := by decide +kernel
theorem dL_law_214 : decode cL_law 214 = .ok (.aload_n 1, 1) := by decide +kernel
theorem dL_law_215 : decode cL_law 215 = .ok (.aload_n 0, 1) := by decide +kernel
theorem dL_law_216 : decode cL_law 216 = .ok (.iload_n 3, 1) := by decide +kernel
theorem dL_law_217 : decode cL_law 217 = .ok (.iconst 1, 1) := by decide +kernel
theorem dL_law_218 : decode cL_law 218 = .ok (.iadd, 1) := by decide +kernel
theorem dL_law_219 : decode cL_law 219 = .ok (.iaload, 1) := by decide +kernel
theorem dL_law_220 : decode cL_law 220 = .ok (.invokevirtual 31, 3) := by decide +kernel
theorem dL_law_223 : decode cL_law 223 = .ok (.aload_n 2, 1) := by decide +kernel
theorem dL_law_224 : decode cL_law 224 = .ok (.aload_n 0, 1) := by decide +kernel
theorem dL_law_225 : decode cL_law 225 = .ok (.iload_n 3, 1) := by decide +kernel
theorem dL_law_226 : decode cL_law 226 = .ok (.iconst 1, 1) := by decide +kernel
theorem dL_law_227 : decode cL_law 227 = .ok (.iadd, 1) := by decide +kernel
theorem dL_law_228 : decode cL_law 228 = .ok (.iaload, 1) := by decide +kernel
theorem dL_law_229 : decode cL_law 229 = .ok (.invokevirtual 34, 3) := by decide +kernel
theorem dL_law_232 : decode cL_law 232 = .ok (.if_icmp .eq 641, 3) := by decide +kernel
theorem dL_law_235 : decode cL_law 235 = .ok (.iconst 0, 1) := by decide +kernel
theorem dL_law_236 : decode cL_law 236 = .ok (.ireturn, 1) := by decide +kernel
theorem dL_law_237 : decode cL_law 237 = .ok (.aload_n 1, 1) := by decide +kernel
theorem dL_law_238 : decode cL_law 238 = .ok (.aload_n 0, 1) := by decide +kernel
theorem dL_law_239 : decode cL_law 239 = .ok (.iload_n 3, 1) := by decide +kernel
theorem dL_law_240 : decode cL_law 240 = .ok (.iconst 1, 1) := by decide +kernel
theorem dL_law_241 : decode cL_law 241 = .ok (.iadd, 1) := by decide +kernel
theorem dL_law_242 : decode cL_law 242 = .ok (.iaload, 1) := by decide +kernel
theorem dL_law_243 : decode cL_law 243 = .ok (.aload_n 0, 1) := by decide +kernel
theorem dL_law_244 : decode cL_law 244 = .ok (.iload_n 3, 1) := by decide +kernel
theorem dL_law_245 : decode cL_law 245 = .ok (.iconst 2, 1) := by decide +kernel
theorem dL_law_246 : decode cL_law 246 = .ok (.iadd, 1) := by decide +kernel
theorem dL_law_247 : decode cL_law 247 = .ok (.iaload, 1) := by decide +kernel
theorem dL_law_248 : decode cL_law 248 = .ok (.invokevirtual 35, 3) := by decide +kernel
theorem dL_law_251 : decode cL_law 251 = .ok (.aload_n 2, 1) := by decide +kernel
theorem dL_law_252 : decode cL_law 252 = .ok (.aload_n 0, 1) := by decide +kernel
theorem dL_law_253 : decode cL_law 253 = .ok (.iload_n 3, 1) := by decide +kernel
theorem dL_law_254 : decode cL_law 254 = .ok (.iconst 1, 1) := by decide +kernel
theorem dL_law_255 : decode cL_law 255 = .ok (.iadd, 1) := by decide +kernel
theorem dL_law_256 : decode cL_law 256 = .ok (.iaload, 1) := by decide +kernel
theorem dL_law_257 : decode cL_law 257 = .ok (.aload_n 0, 1) := by decide +kernel
theorem dL_law_258 : decode cL_law 258 = .ok (.iload_n 3, 1) := by decide +kernel
theorem dL_law_259 : decode cL_law 259 = .ok (.iconst 2, 1) := by decide +kernel
theorem dL_law_260 : decode cL_law 260 = .ok (.iadd, 1) := by decide +kernel
theorem dL_law_261 : decode cL_law 261 = .ok (.iaload, 1) := by decide +kernel
theorem dL_law_262 : decode cL_law 262 = .ok (.invokevirtual 39, 3) := by decide +kernel
theorem dL_law_265 : decode cL_law 265 = .ok (.if_icmp .eq 608, 3) := by decide +kernel
theorem dL_law_268 : decode cL_law 268 = .ok (.iconst 0, 1) := by decide +kernel
theorem dL_law_269 : decode cL_law 269 = .ok (.ireturn, 1) := by decide +kernel
theorem dL_law_270 : decode cL_law 270 = .ok (.aload_n 1, 1) := by decide +kernel
theorem dL_law_271 : decode cL_law 271 = .ok (.aload_n 0, 1) := by decide +kernel
theorem dL_law_272 : decode cL_law 272 = .ok (.iload_n 3, 1) := by decide +kernel
theorem dL_law_273 : decode cL_law 273 = .ok (.iconst 1, 1) := by decide +kernel
theorem dL_law_274 : decode cL_law 274 = .ok (.iadd, 1) := by decide +kernel
theorem dL_law_275 : decode cL_law 275 = .ok (.iaload, 1) := by decide +kernel
theorem dL_law_276 : decode cL_law 276 = .ok (.aload_n 0, 1) := by decide +kernel
theorem dL_law_277 : decode cL_law 277 = .ok (.iload_n 3, 1) := by decide +kernel
theorem dL_law_278 : decode cL_law 278 = .ok (.iconst 2, 1) := by decide +kernel
theorem dL_law_279 : decode cL_law 279 = .ok (.iadd, 1) := by decide +kernel
theorem dL_law_280 : decode cL_law 280 = .ok (.iaload, 1) := by decide +kernel
theorem dL_law_281 : decode cL_law 281 = .ok (.invokevirtual 40, 3) := by decide +kernel
theorem dL_law_284 : decode cL_law 284 = .ok (.aload_n 2, 1) := by decide +kernel
theorem dL_law_285 : decode cL_law 285 = .ok (.aload_n 0, 1) := by decide +kernel
theorem dL_law_286 : decode cL_law 286 = .ok (.iload_n 3, 1) := by decide +kernel
theorem dL_law_287 : decode cL_law 287 = .ok (.iconst 1, 1) := by decide +kernel
theorem dL_law_288 : decode cL_law 288 = .ok (.iadd, 1) := by decide +kernel
theorem dL_law_289 : decode cL_law 289 = .ok (.iaload, 1) := by decide +kernel
theorem dL_law_290 : decode cL_law 290 = .ok (.aload_n 0, 1) := by decide +kernel
theorem dL_law_291 : decode cL_law 291 = .ok (.iload_n 3, 1) := by decide +kernel
theorem dL_law_292 : decode cL_law 292 = .ok (.iconst 2, 1) := by decide +kernel
theorem dL_law_293 : decode cL_law 293 = .ok (.iadd, 1) := by decide +kernel
theorem dL_law_294 : decode cL_law 294 = .ok (.iaload, 1) := by decide +kernel
theorem dL_law_295 : decode cL_law 295 = .ok (.invokevirtual 43, 3) := by decide +kernel
theorem dL_law_298 : decode cL_law 298 = .ok (.if_icmp .eq 575, 3) := by decide +kernel
theorem dL_law_301 : decode cL_law 301 = .ok (.iconst 0, 1) := by decide +kernel
theorem dL_law_302 : decode cL_law 302 = .ok (.ireturn, 1) := by decide +kernel
theorem dL_law_303 : decode cL_law 303 = .ok (.aload_n 1, 1) := by decide +kernel
theorem dL_law_304 : decode cL_law 304 = .ok (.aload_n 0, 1) := by decide +kernel
theorem dL_law_305 : decode cL_law 305 = .ok (.iload_n 3, 1) := by decide +kernel
theorem dL_law_306 : decode cL_law 306 = .ok (.iconst 1, 1) := by decide +kernel
theorem dL_law_307 : decode cL_law 307 = .ok (.iadd, 1) := by decide +kernel
theorem dL_law_308 : decode cL_law 308 = .ok (.iaload, 1) := by decide +kernel
theorem dL_law_309 : decode cL_law 309 = .ok (.invokevirtual 44, 3) := by decide +kernel
theorem dL_law_312 : decode cL_law 312 = .ok (.aload_n 2, 1) := by decide +kernel
theorem dL_law_313 : decode cL_law 313 = .ok (.aload_n 0, 1) := by decide +kernel
theorem dL_law_314 : decode cL_law 314 = .ok (.iload_n 3, 1) := by decide +kernel
theorem dL_law_315 : decode cL_law 315 = .ok (.iconst 1, 1) := by decide +kernel
theorem dL_law_316 : decode cL_law 316 = .ok (.iadd, 1) := by decide +kernel
theorem dL_law_317 : decode cL_law 317 = .ok (.iaload, 1) := by decide +kernel
theorem dL_law_318 : decode cL_law 318 = .ok (.invokevirtual 47, 3) := by decide +kernel
theorem dL_law_321 : decode cL_law 321 = .ok (.if_icmp .eq 552, 3) := by decide +kernel
theorem dL_law_324 : decode cL_law 324 = .ok (.iconst 0, 1) := by decide +kernel
theorem dL_law_325 : decode cL_law 325 = .ok (.ireturn, 1) := by decide +kernel
theorem dL_law_326 : decode cL_law 326 = .ok (.aload_n 1, 1) := by decide +kernel
theorem dL_law_327 : decode cL_law 327 = .ok (.aload_n 0, 1) := by decide +kernel
theorem dL_law_328 : decode cL_law 328 = .ok (.iload_n 3, 1) := by decide +kernel
theorem dL_law_329 : decode cL_law 329 = .ok (.iconst 1, 1) := by decide +kernel
theorem dL_law_330 : decode cL_law 330 = .ok (.iadd, 1) := by decide +kernel
theorem dL_law_331 : decode cL_law 331 = .ok (.iaload, 1) := by decide +kernel
theorem dL_law_332 : decode cL_law 332 = .ok (.aload_n 0, 1) := by decide +kernel
theorem dL_law_333 : decode cL_law 333 = .ok (.iload_n 3, 1) := by decide +kernel
theorem dL_law_334 : decode cL_law 334 = .ok (.iconst 2, 1) := by decide +kernel
theorem dL_law_335 : decode cL_law 335 = .ok (.iadd, 1) := by decide +kernel
theorem dL_law_336 : decode cL_law 336 = .ok (.iaload, 1) := by decide +kernel
theorem dL_law_337 : decode cL_law 337 = .ok (.invokevirtual 48, 3) := by decide +kernel
theorem dL_law_340 : decode cL_law 340 = .ok (.aload_n 2, 1) := by decide +kernel
theorem dL_law_341 : decode cL_law 341 = .ok (.aload_n 0, 1) := by decide +kernel
theorem dL_law_342 : decode cL_law 342 = .ok (.iload_n 3, 1) := by decide +kernel
theorem dL_law_343 : decode cL_law 343 = .ok (.iconst 1, 1) := by decide +kernel
theorem dL_law_344 : decode cL_law 344 = .ok (.iadd, 1) := by decide +kernel
theorem dL_law_345 : decode cL_law 345 = .ok (.iaload, 1) := by decide +kernel
theorem dL_law_346 : decode cL_law 346 = .ok (.aload_n 0, 1) := by decide +kernel
theorem dL_law_347 : decode cL_law 347 = .ok (.iload_n 3, 1) := by decide +kernel
theorem dL_law_348 : decode cL_law 348 = .ok (.iconst 2, 1) := by decide +kernel
theorem dL_law_349 : decode cL_law 349 = .ok (.iadd, 1) := by decide +kernel
theorem dL_law_350 : decode cL_law 350 = .ok (.iaload, 1) := by decide +kernel
theorem dL_law_351 : decode cL_law 351 = .ok (.invokevirtual 51, 3) := by decide +kernel
theorem dL_law_354 : decode cL_law 354 = .ok (.if_icmp .eq 519, 3) := by decide +kernel
theorem dL_law_357 : decode cL_law 357 = .ok (.iconst 0, 1) := by decide +kernel
theorem dL_law_358 : decode cL_law 358 = .ok (.ireturn, 1) := by decide +kernel
theorem dL_law_359 : decode cL_law 359 = .ok (.aload_n 1, 1) := by decide +kernel
theorem dL_law_360 : decode cL_law 360 = .ok (.aload_n 0, 1) := by decide +kernel
theorem dL_law_361 : decode cL_law 361 = .ok (.iload_n 3, 1) := by decide +kernel
theorem dL_law_362 : decode cL_law 362 = .ok (.iconst 1, 1) := by decide +kernel
theorem dL_law_363 : decode cL_law 363 = .ok (.iadd, 1) := by decide +kernel
theorem dL_law_364 : decode cL_law 364 = .ok (.iaload, 1) := by decide +kernel
theorem dL_law_365 : decode cL_law 365 = .ok (.aload_n 0, 1) := by decide +kernel
theorem dL_law_366 : decode cL_law 366 = .ok (.iload_n 3, 1) := by decide +kernel
theorem dL_law_367 : decode cL_law 367 = .ok (.iconst 2, 1) := by decide +kernel
theorem dL_law_368 : decode cL_law 368 = .ok (.iadd, 1) := by decide +kernel
theorem dL_law_369 : decode cL_law 369 = .ok (.iaload, 1) := by decide +kernel
theorem dL_law_370 : decode cL_law 370 = .ok (.invokevirtual 52, 3) := by decide +kernel
theorem dL_law_373 : decode cL_law 373 = .ok (.aload_n 2, 1) := by decide +kernel
theorem dL_law_374 : decode cL_law 374 = .ok (.aload_n 0, 1) := by decide +kernel
theorem dL_law_375 : decode cL_law 375 = .ok (.iload_n 3, 1) := by decide +kernel
theorem dL_law_376 : decode cL_law 376 = .ok (.iconst 1, 1) := by decide +kernel
theorem dL_law_377 : decode cL_law 377 = .ok (.iadd, 1) := by decide +kernel
theorem dL_law_378 : decode cL_law 378 = .ok (.iaload, 1) := by decide +kernel
theorem dL_law_379 : decode cL_law 379 = .ok (.aload_n 0, 1) := by decide +kernel
theorem dL_law_380 : decode cL_law 380 = .ok (.iload_n 3, 1) := by decide +kernel
theorem dL_law_381 : decode cL_law 381 = .ok (.iconst 2, 1) := by decide +kernel
theorem dL_law_382 : decode cL_law 382 = .ok (.iadd, 1) := by decide +kernel
theorem dL_law_383 : decode cL_law 383 = .ok (.iaload, 1) := by decide +kernel
theorem dL_law_384 : decode cL_law 384 = .ok (.invokevirtual 55, 3) := by decide +kernel
theorem dL_law_387 : decode cL_law 387 = .ok (.if_icmp .eq 486, 3) := by decide +kernel
theorem dL_law_390 : decode cL_law 390 = .ok (.iconst 0, 1) := by decide +kernel
theorem dL_law_391 : decode cL_law 391 = .ok (.ireturn, 1) := by decide +kernel
theorem dL_law_392 : decode cL_law 392 = .ok (.aload_n 1, 1) := by decide +kernel
theorem dL_law_393 : decode cL_law 393 = .ok (.invokevirtual 56, 3) := by decide +kernel
theorem dL_law_396 : decode cL_law 396 = .ok (.aload_n 2, 1) := by decide +kernel
theorem dL_law_397 : decode cL_law 397 = .ok (.invokevirtual 59, 3) := by decide +kernel
theorem dL_law_400 : decode cL_law 400 = .ok (.if_icmp .eq 473, 3) := by decide +kernel
theorem dL_law_403 : decode cL_law 403 = .ok (.iconst 0, 1) := by decide +kernel
theorem dL_law_404 : decode cL_law 404 = .ok (.ireturn, 1) := by decide +kernel
theorem dL_law_405 : decode cL_law 405 = .ok (.aload_n 1, 1) := by decide +kernel
theorem dL_law_406 : decode cL_law 406 = .ok (.invokevirtual 60, 3) := by decide +kernel
theorem dL_law_409 : decode cL_law 409 = .ok (.aload_n 2, 1) := by decide +kernel
theorem dL_law_410 : decode cL_law 410 = .ok (.invokevirtual 63, 3) := by decide +kernel
theorem dL_law_413 : decode cL_law 413 = .ok (.if_icmp .eq 460, 3) := by decide +kernel
theorem dL_law_416 : decode cL_law 416 = .ok (.iconst 0, 1) := by decide +kernel
theorem dL_law_417 : decode cL_law 417 = .ok (.ireturn, 1) := by decide +kernel
theorem dL_law_418 : decode cL_law 418 = .ok (.aload_n 1, 1) := by decide +kernel
theorem dL_law_419 : decode cL_law 419 = .ok (.aload_n 0, 1) := by decide +kernel
theorem dL_law_420 : decode cL_law 420 = .ok (.iload_n 3, 1) := by decide +kernel
theorem dL_law_421 : decode cL_law 421 = .ok (.iconst 1, 1) := by decide +kernel
theorem dL_law_422 : decode cL_law 422 = .ok (.iadd, 1) := by decide +kernel
theorem dL_law_423 : decode cL_law 423 = .ok (.iaload, 1) := by decide +kernel
theorem dL_law_424 : decode cL_law 424 = .ok (.invokevirtual 64, 3) := by decide +kernel
theorem dL_law_427 : decode cL_law 427 = .ok (.aload_n 2, 1) := by decide +kernel
theorem dL_law_428 : decode cL_law 428 = .ok (.aload_n 0, 1) := by decide +kernel
theorem dL_law_429 : decode cL_law 429 = .ok (.iload_n 3, 1) := by decide +kernel
theorem dL_law_430 : decode cL_law 430 = .ok (.iconst 1, 1) := by decide +kernel
theorem dL_law_431 : decode cL_law 431 = .ok (.iadd, 1) := by decide +kernel
theorem dL_law_432 : decode cL_law 432 = .ok (.iaload, 1) := by decide +kernel
theorem dL_law_433 : decode cL_law 433 = .ok (.invokevirtual 67, 3) := by decide +kernel
theorem dL_law_436 : decode cL_law 436 = .ok (.if_icmp .eq 437, 3) := by decide +kernel
theorem dL_law_439 : decode cL_law 439 = .ok (.iconst 0, 1) := by decide +kernel
theorem dL_law_440 : decode cL_law 440 = .ok (.ireturn, 1) := by decide +kernel
theorem dL_law_441 : decode cL_law 441 = .ok (.aload_n 1, 1) := by decide +kernel
theorem dL_law_442 : decode cL_law 442 = .ok (.aload_n 0, 1) := by decide +kernel
theorem dL_law_443 : decode cL_law 443 = .ok (.iload_n 3, 1) := by decide +kernel
theorem dL_law_444 : decode cL_law 444 = .ok (.iconst 1, 1) := by decide +kernel
theorem dL_law_445 : decode cL_law 445 = .ok (.iadd, 1) := by decide +kernel
theorem dL_law_446 : decode cL_law 446 = .ok (.iaload, 1) := by decide +kernel
theorem dL_law_447 : decode cL_law 447 = .ok (.invokevirtual 68, 3) := by decide +kernel
theorem dL_law_450 : decode cL_law 450 = .ok (.aload_n 2, 1) := by decide +kernel
theorem dL_law_451 : decode cL_law 451 = .ok (.aload_n 0, 1) := by decide +kernel
theorem dL_law_452 : decode cL_law 452 = .ok (.iload_n 3, 1) := by decide +kernel
theorem dL_law_453 : decode cL_law 453 = .ok (.iconst 1, 1) := by decide +kernel
theorem dL_law_454 : decode cL_law 454 = .ok (.iadd, 1) := by decide +kernel
theorem dL_law_455 : decode cL_law 455 = .ok (.iaload, 1) := by decide +kernel
theorem dL_law_456 : decode cL_law 456 = .ok (.invokevirtual 71, 3) := by decide +kernel
theorem dL_law_459 : decode cL_law 459 = .ok (.if_icmp .eq 414, 3) := by decide +kernel
theorem dL_law_462 : decode cL_law 462 = .ok (.iconst 0, 1) := by decide +kernel
theorem dL_law_463 : decode cL_law 463 = .ok (.ireturn, 1) := by decide +kernel
theorem dL_law_464 : decode cL_law 464 = .ok (.aload_n 1, 1) := by decide +kernel
theorem dL_law_465 : decode cL_law 465 = .ok (.aload_n 0, 1) := by decide +kernel
theorem dL_law_466 : decode cL_law 466 = .ok (.iload_n 3, 1) := by decide +kernel
theorem dL_law_467 : decode cL_law 467 = .ok (.iconst 1, 1) := by decide +kernel
theorem dL_law_468 : decode cL_law 468 = .ok (.iadd, 1) := by decide +kernel
theorem dL_law_469 : decode cL_law 469 = .ok (.iaload, 1) := by decide +kernel
theorem dL_law_470 : decode cL_law 470 = .ok (.aload_n 0, 1) := by decide +kernel
theorem dL_law_471 : decode cL_law 471 = .ok (.iload_n 3, 1) := by decide +kernel
theorem dL_law_472 : decode cL_law 472 = .ok (.iconst 2, 1) := by decide +kernel
theorem dL_law_473 : decode cL_law 473 = .ok (.iadd, 1) := by decide +kernel
theorem dL_law_474 : decode cL_law 474 = .ok (.iaload, 1) := by decide +kernel
theorem dL_law_475 : decode cL_law 475 = .ok (.invokevirtual 72, 3) := by decide +kernel
theorem dL_law_478 : decode cL_law 478 = .ok (.aload_n 2, 1) := by decide +kernel
theorem dL_law_479 : decode cL_law 479 = .ok (.aload_n 0, 1) := by decide +kernel
theorem dL_law_480 : decode cL_law 480 = .ok (.iload_n 3, 1) := by decide +kernel
theorem dL_law_481 : decode cL_law 481 = .ok (.iconst 1, 1) := by decide +kernel
theorem dL_law_482 : decode cL_law 482 = .ok (.iadd, 1) := by decide +kernel
theorem dL_law_483 : decode cL_law 483 = .ok (.iaload, 1) := by decide +kernel
theorem dL_law_484 : decode cL_law 484 = .ok (.aload_n 0, 1) := by decide +kernel
theorem dL_law_485 : decode cL_law 485 = .ok (.iload_n 3, 1) := by decide +kernel
theorem dL_law_486 : decode cL_law 486 = .ok (.iconst 2, 1) := by decide +kernel
theorem dL_law_487 : decode cL_law 487 = .ok (.iadd, 1) := by decide +kernel
theorem dL_law_488 : decode cL_law 488 = .ok (.iaload, 1) := by decide +kernel
theorem dL_law_489 : decode cL_law 489 = .ok (.invokevirtual 75, 3) := by decide +kernel
theorem dL_law_492 : decode cL_law 492 = .ok (.if_icmp .eq 381, 3) := by decide +kernel
theorem dL_law_495 : decode cL_law 495 = .ok (.iconst 0, 1) := by decide +kernel
theorem dL_law_496 : decode cL_law 496 = .ok (.ireturn, 1) := by decide +kernel
theorem dL_law_497 : decode cL_law 497 = .ok (.aload_n 1, 1) := by decide +kernel
theorem dL_law_498 : decode cL_law 498 = .ok (.aload_n 0, 1) := by decide +kernel
theorem dL_law_499 : decode cL_law 499 = .ok (.iload_n 3, 1) := by decide +kernel
theorem dL_law_500 : decode cL_law 500 = .ok (.iconst 1, 1) := by decide +kernel
theorem dL_law_501 : decode cL_law 501 = .ok (.iadd, 1) := by decide +kernel
theorem dL_law_502 : decode cL_law 502 = .ok (.iaload, 1) := by decide +kernel
theorem dL_law_503 : decode cL_law 503 = .ok (.invokevirtual 76, 3) := by decide +kernel
theorem dL_law_506 : decode cL_law 506 = .ok (.aload_n 2, 1) := by decide +kernel
theorem dL_law_507 : decode cL_law 507 = .ok (.aload_n 0, 1) := by decide +kernel
theorem dL_law_508 : decode cL_law 508 = .ok (.iload_n 3, 1) := by decide +kernel
theorem dL_law_509 : decode cL_law 509 = .ok (.iconst 1, 1) := by decide +kernel
theorem dL_law_510 : decode cL_law 510 = .ok (.iadd, 1) := by decide +kernel
theorem dL_law_511 : decode cL_law 511 = .ok (.iaload, 1) := by decide +kernel
theorem dL_law_512 : decode cL_law 512 = .ok (.invokevirtual 79, 3) := by decide +kernel
theorem dL_law_515 : decode cL_law 515 = .ok (.if_icmp .eq 358, 3) := by decide +kernel
theorem dL_law_518 : decode cL_law 518 = .ok (.iconst 0, 1) := by decide +kernel
theorem dL_law_519 : decode cL_law 519 = .ok (.ireturn, 1) := by decide +kernel
theorem dL_law_520 : decode cL_law 520 = .ok (.aload_n 1, 1) := by decide +kernel
theorem dL_law_521 : decode cL_law 521 = .ok (.invokevirtual 80, 3) := by decide +kernel
theorem dL_law_524 : decode cL_law 524 = .ok (.aload_n 2, 1) := by decide +kernel
theorem dL_law_525 : decode cL_law 525 = .ok (.invokevirtual 83, 3) := by decide +kernel
theorem dL_law_528 : decode cL_law 528 = .ok (.if_icmp .eq 345, 3) := by decide +kernel
theorem dL_law_531 : decode cL_law 531 = .ok (.iconst 0, 1) := by decide +kernel
theorem dL_law_532 : decode cL_law 532 = .ok (.ireturn, 1) := by decide +kernel
theorem dL_law_533 : decode cL_law 533 = .ok (.aload_n 1, 1) := by decide +kernel
theorem dL_law_534 : decode cL_law 534 = .ok (.aload_n 0, 1) := by decide +kernel
theorem dL_law_535 : decode cL_law 535 = .ok (.iload_n 3, 1) := by decide +kernel
theorem dL_law_536 : decode cL_law 536 = .ok (.iconst 1, 1) := by decide +kernel
theorem dL_law_537 : decode cL_law 537 = .ok (.iadd, 1) := by decide +kernel
theorem dL_law_538 : decode cL_law 538 = .ok (.iaload, 1) := by decide +kernel
theorem dL_law_539 : decode cL_law 539 = .ok (.aload_n 0, 1) := by decide +kernel
theorem dL_law_540 : decode cL_law 540 = .ok (.iload_n 3, 1) := by decide +kernel
theorem dL_law_541 : decode cL_law 541 = .ok (.iconst 2, 1) := by decide +kernel
theorem dL_law_542 : decode cL_law 542 = .ok (.iadd, 1) := by decide +kernel
theorem dL_law_543 : decode cL_law 543 = .ok (.iaload, 1) := by decide +kernel
theorem dL_law_544 : decode cL_law 544 = .ok (.ifCond .eq 7, 3) := by decide +kernel
theorem dL_law_547 : decode cL_law 547 = .ok (.iconst 1, 1) := by decide +kernel
theorem dL_law_548 : decode cL_law 548 = .ok (.goto 4, 3) := by decide +kernel
theorem dL_law_551 : decode cL_law 551 = .ok (.iconst 0, 1) := by decide +kernel
theorem dL_law_552 : decode cL_law 552 = .ok (.invokevirtual 84, 3) := by decide +kernel
theorem dL_law_555 : decode cL_law 555 = .ok (.aload_n 2, 1) := by decide +kernel
theorem dL_law_556 : decode cL_law 556 = .ok (.aload_n 0, 1) := by decide +kernel
theorem dL_law_557 : decode cL_law 557 = .ok (.iload_n 3, 1) := by decide +kernel
theorem dL_law_558 : decode cL_law 558 = .ok (.iconst 1, 1) := by decide +kernel
theorem dL_law_559 : decode cL_law 559 = .ok (.iadd, 1) := by decide +kernel
theorem dL_law_560 : decode cL_law 560 = .ok (.iaload, 1) := by decide +kernel
theorem dL_law_561 : decode cL_law 561 = .ok (.aload_n 0, 1) := by decide +kernel
theorem dL_law_562 : decode cL_law 562 = .ok (.iload_n 3, 1) := by decide +kernel
theorem dL_law_563 : decode cL_law 563 = .ok (.iconst 2, 1) := by decide +kernel
theorem dL_law_564 : decode cL_law 564 = .ok (.iadd, 1) := by decide +kernel
theorem dL_law_565 : decode cL_law 565 = .ok (.iaload, 1) := by decide +kernel
theorem dL_law_566 : decode cL_law 566 = .ok (.ifCond .eq 7, 3) := by decide +kernel
theorem dL_law_569 : decode cL_law 569 = .ok (.iconst 1, 1) := by decide +kernel
theorem dL_law_570 : decode cL_law 570 = .ok (.goto 4, 3) := by decide +kernel
theorem dL_law_573 : decode cL_law 573 = .ok (.iconst 0, 1) := by decide +kernel
theorem dL_law_574 : decode cL_law 574 = .ok (.invokevirtual 88, 3) := by decide +kernel
theorem dL_law_577 : decode cL_law 577 = .ok (.if_icmp .eq 296, 3) := by decide +kernel
theorem dL_law_580 : decode cL_law 580 = .ok (.iconst 0, 1) := by decide +kernel
theorem dL_law_581 : decode cL_law 581 = .ok (.ireturn, 1) := by decide +kernel
theorem dL_law_582 : decode cL_law 582 = .ok (.aload_n 1, 1) := by decide +kernel
theorem dL_law_583 : decode cL_law 583 = .ok (.aload_n 0, 1) := by decide +kernel
theorem dL_law_584 : decode cL_law 584 = .ok (.iload_n 3, 1) := by decide +kernel
theorem dL_law_585 : decode cL_law 585 = .ok (.iconst 1, 1) := by decide +kernel
theorem dL_law_586 : decode cL_law 586 = .ok (.iadd, 1) := by decide +kernel
theorem dL_law_587 : decode cL_law 587 = .ok (.iaload, 1) := by decide +kernel
theorem dL_law_588 : decode cL_law 588 = .ok (.aload_n 0, 1) := by decide +kernel
theorem dL_law_589 : decode cL_law 589 = .ok (.iload_n 3, 1) := by decide +kernel
theorem dL_law_590 : decode cL_law 590 = .ok (.iconst 2, 1) := by decide +kernel
theorem dL_law_591 : decode cL_law 591 = .ok (.iadd, 1) := by decide +kernel
theorem dL_law_592 : decode cL_law 592 = .ok (.iaload, 1) := by decide +kernel
theorem dL_law_593 : decode cL_law 593 = .ok (.aload_n 0, 1) := by decide +kernel
theorem dL_law_594 : decode cL_law 594 = .ok (.iload_n 3, 1) := by decide +kernel
theorem dL_law_595 : decode cL_law 595 = .ok (.iconst 3, 1) := by decide +kernel
theorem dL_law_596 : decode cL_law 596 = .ok (.iadd, 1) := by decide +kernel
theorem dL_law_597 : decode cL_law 597 = .ok (.iaload, 1) := by decide +kernel
theorem dL_law_598 : decode cL_law 598 = .ok (.invokevirtual 89, 3) := by decide +kernel
theorem dL_law_601 : decode cL_law 601 = .ok (.aload_n 2, 1) := by decide +kernel
theorem dL_law_602 : decode cL_law 602 = .ok (.aload_n 0, 1) := by decide +kernel
theorem dL_law_603 : decode cL_law 603 = .ok (.iload_n 3, 1) := by decide +kernel
theorem dL_law_604 : decode cL_law 604 = .ok (.iconst 1, 1) := by decide +kernel
theorem dL_law_605 : decode cL_law 605 = .ok (.iadd, 1) := by decide +kernel
theorem dL_law_606 : decode cL_law 606 = .ok (.iaload, 1) := by decide +kernel
theorem dL_law_607 : decode cL_law 607 = .ok (.aload_n 0, 1) := by decide +kernel
theorem dL_law_608 : decode cL_law 608 = .ok (.iload_n 3, 1) := by decide +kernel
theorem dL_law_609 : decode cL_law 609 = .ok (.iconst 2, 1) := by decide +kernel
theorem dL_law_610 : decode cL_law 610 = .ok (.iadd, 1) := by decide +kernel
theorem dL_law_611 : decode cL_law 611 = .ok (.iaload, 1) := by decide +kernel
theorem dL_law_612 : decode cL_law 612 = .ok (.aload_n 0, 1) := by decide +kernel
theorem dL_law_613 : decode cL_law 613 = .ok (.iload_n 3, 1) := by decide +kernel
theorem dL_law_614 : decode cL_law 614 = .ok (.iconst 3, 1) := by decide +kernel
theorem dL_law_615 : decode cL_law 615 = .ok (.iadd, 1) := by decide +kernel
theorem dL_law_616 : decode cL_law 616 = .ok (.iaload, 1) := by decide +kernel
theorem dL_law_617 : decode cL_law 617 = .ok (.invokevirtual 93, 3) := by decide +kernel
theorem dL_law_620 : decode cL_law 620 = .ok (.if_icmp .eq 253, 3) := by decide +kernel
theorem dL_law_623 : decode cL_law 623 = .ok (.iconst 0, 1) := by decide +kernel
theorem dL_law_624 : decode cL_law 624 = .ok (.ireturn, 1) := by decide +kernel
theorem dL_law_625 : decode cL_law 625 = .ok (.aload_n 1, 1) := by decide +kernel
theorem dL_law_626 : decode cL_law 626 = .ok (.aload_n 0, 1) := by decide +kernel
theorem dL_law_627 : decode cL_law 627 = .ok (.iload_n 3, 1) := by decide +kernel
theorem dL_law_628 : decode cL_law 628 = .ok (.iconst 1, 1) := by decide +kernel
theorem dL_law_629 : decode cL_law 629 = .ok (.iadd, 1) := by decide +kernel
theorem dL_law_630 : decode cL_law 630 = .ok (.iaload, 1) := by decide +kernel
theorem dL_law_631 : decode cL_law 631 = .ok (.invokevirtual 94, 3) := by decide +kernel
theorem dL_law_634 : decode cL_law 634 = .ok (.aload_n 2, 1) := by decide +kernel
theorem dL_law_635 : decode cL_law 635 = .ok (.aload_n 0, 1) := by decide +kernel
theorem dL_law_636 : decode cL_law 636 = .ok (.iload_n 3, 1) := by decide +kernel
theorem dL_law_637 : decode cL_law 637 = .ok (.iconst 1, 1) := by decide +kernel
theorem dL_law_638 : decode cL_law 638 = .ok (.iadd, 1) := by decide +kernel
theorem dL_law_639 : decode cL_law 639 = .ok (.iaload, 1) := by decide +kernel
theorem dL_law_640 : decode cL_law 640 = .ok (.invokevirtual 97, 3) := by decide +kernel
theorem dL_law_643 : decode cL_law 643 = .ok (.if_icmp .eq 230, 3) := by decide +kernel
theorem dL_law_646 : decode cL_law 646 = .ok (.iconst 0, 1) := by decide +kernel
theorem dL_law_647 : decode cL_law 647 = .ok (.ireturn, 1) := by decide +kernel
theorem dL_law_648 : decode cL_law 648 = .ok (.aload_n 1, 1) := by decide +kernel
theorem dL_law_649 : decode cL_law 649 = .ok (.aload_n 0, 1) := by decide +kernel
theorem dL_law_650 : decode cL_law 650 = .ok (.iload_n 3, 1) := by decide +kernel
theorem dL_law_651 : decode cL_law 651 = .ok (.iconst 1, 1) := by decide +kernel
theorem dL_law_652 : decode cL_law 652 = .ok (.iadd, 1) := by decide +kernel
theorem dL_law_653 : decode cL_law 653 = .ok (.iaload, 1) := by decide +kernel
theorem dL_law_654 : decode cL_law 654 = .ok (.aload_n 0, 1) := by decide +kernel
theorem dL_law_655 : decode cL_law 655 = .ok (.iload_n 3, 1) := by decide +kernel
theorem dL_law_656 : decode cL_law 656 = .ok (.iconst 2, 1) := by decide +kernel
theorem dL_law_657 : decode cL_law 657 = .ok (.iadd, 1) := by decide +kernel
theorem dL_law_658 : decode cL_law 658 = .ok (.iaload, 1) := by decide +kernel
theorem dL_law_659 : decode cL_law 659 = .ok (.aload_n 0, 1) := by decide +kernel
theorem dL_law_660 : decode cL_law 660 = .ok (.iload_n 3, 1) := by decide +kernel
theorem dL_law_661 : decode cL_law 661 = .ok (.iconst 3, 1) := by decide +kernel
theorem dL_law_662 : decode cL_law 662 = .ok (.iadd, 1) := by decide +kernel
theorem dL_law_663 : decode cL_law 663 = .ok (.iaload, 1) := by decide +kernel
theorem dL_law_664 : decode cL_law 664 = .ok (.aload_n 0, 1) := by decide +kernel
theorem dL_law_665 : decode cL_law 665 = .ok (.iload_n 3, 1) := by decide +kernel
theorem dL_law_666 : decode cL_law 666 = .ok (.iconst 4, 1) := by decide +kernel
theorem dL_law_667 : decode cL_law 667 = .ok (.iadd, 1) := by decide +kernel
theorem dL_law_668 : decode cL_law 668 = .ok (.iaload, 1) := by decide +kernel
theorem dL_law_669 : decode cL_law 669 = .ok (.invokevirtual 98, 3) := by decide +kernel
theorem dL_law_672 : decode cL_law 672 = .ok (.aload_n 2, 1) := by decide +kernel
theorem dL_law_673 : decode cL_law 673 = .ok (.aload_n 0, 1) := by decide +kernel
theorem dL_law_674 : decode cL_law 674 = .ok (.iload_n 3, 1) := by decide +kernel
theorem dL_law_675 : decode cL_law 675 = .ok (.iconst 1, 1) := by decide +kernel
theorem dL_law_676 : decode cL_law 676 = .ok (.iadd, 1) := by decide +kernel
theorem dL_law_677 : decode cL_law 677 = .ok (.iaload, 1) := by decide +kernel
theorem dL_law_678 : decode cL_law 678 = .ok (.aload_n 0, 1) := by decide +kernel
theorem dL_law_679 : decode cL_law 679 = .ok (.iload_n 3, 1) := by decide +kernel
theorem dL_law_680 : decode cL_law 680 = .ok (.iconst 2, 1) := by decide +kernel
theorem dL_law_681 : decode cL_law 681 = .ok (.iadd, 1) := by decide +kernel
theorem dL_law_682 : decode cL_law 682 = .ok (.iaload, 1) := by decide +kernel
theorem dL_law_683 : decode cL_law 683 = .ok (.aload_n 0, 1) := by decide +kernel
theorem dL_law_684 : decode cL_law 684 = .ok (.iload_n 3, 1) := by decide +kernel
theorem dL_law_685 : decode cL_law 685 = .ok (.iconst 3, 1) := by decide +kernel
theorem dL_law_686 : decode cL_law 686 = .ok (.iadd, 1) := by decide +kernel
theorem dL_law_687 : decode cL_law 687 = .ok (.iaload, 1) := by decide +kernel
theorem dL_law_688 : decode cL_law 688 = .ok (.aload_n 0, 1) := by decide +kernel
theorem dL_law_689 : decode cL_law 689 = .ok (.iload_n 3, 1) := by decide +kernel
theorem dL_law_690 : decode cL_law 690 = .ok (.iconst 4, 1) := by decide +kernel
theorem dL_law_691 : decode cL_law 691 = .ok (.iadd, 1) := by decide +kernel
theorem dL_law_692 : decode cL_law 692 = .ok (.iaload, 1) := by decide +kernel
theorem dL_law_693 : decode cL_law 693 = .ok (.invokevirtual 102, 3) := by decide +kernel
theorem dL_law_696 : decode cL_law 696 = .ok (.if_icmp .eq 177, 3) := by decide +kernel
theorem dL_law_699 : decode cL_law 699 = .ok (.iconst 0, 1) := by decide +kernel
theorem dL_law_700 : decode cL_law 700 = .ok (.ireturn, 1) := by decide +kernel
theorem dL_law_701 : decode cL_law 701 = .ok (.aload_n 1, 1) := by decide +kernel
theorem dL_law_702 : decode cL_law 702 = .ok (.aload_n 0, 1) := by decide +kernel
theorem dL_law_703 : decode cL_law 703 = .ok (.iload_n 3, 1) := by decide +kernel
theorem dL_law_704 : decode cL_law 704 = .ok (.iconst 1, 1) := by decide +kernel
theorem dL_law_705 : decode cL_law 705 = .ok (.iadd, 1) := by decide +kernel
theorem dL_law_706 : decode cL_law 706 = .ok (.iaload, 1) := by decide +kernel
theorem dL_law_707 : decode cL_law 707 = .ok (.aload_n 0, 1) := by decide +kernel
theorem dL_law_708 : decode cL_law 708 = .ok (.iload_n 3, 1) := by decide +kernel
theorem dL_law_709 : decode cL_law 709 = .ok (.iconst 2, 1) := by decide +kernel
theorem dL_law_710 : decode cL_law 710 = .ok (.iadd, 1) := by decide +kernel
theorem dL_law_711 : decode cL_law 711 = .ok (.iaload, 1) := by decide +kernel
theorem dL_law_712 : decode cL_law 712 = .ok (.ifCond .eq 7, 3) := by decide +kernel
theorem dL_law_715 : decode cL_law 715 = .ok (.iconst 1, 1) := by decide +kernel
theorem dL_law_716 : decode cL_law 716 = .ok (.goto 4, 3) := by decide +kernel
theorem dL_law_719 : decode cL_law 719 = .ok (.iconst 0, 1) := by decide +kernel
theorem dL_law_720 : decode cL_law 720 = .ok (.invokevirtual 103, 3) := by decide +kernel
theorem dL_law_723 : decode cL_law 723 = .ok (.aload_n 2, 1) := by decide +kernel
theorem dL_law_724 : decode cL_law 724 = .ok (.aload_n 0, 1) := by decide +kernel
theorem dL_law_725 : decode cL_law 725 = .ok (.iload_n 3, 1) := by decide +kernel
theorem dL_law_726 : decode cL_law 726 = .ok (.iconst 1, 1) := by decide +kernel
theorem dL_law_727 : decode cL_law 727 = .ok (.iadd, 1) := by decide +kernel
theorem dL_law_728 : decode cL_law 728 = .ok (.iaload, 1) := by decide +kernel
theorem dL_law_729 : decode cL_law 729 = .ok (.aload_n 0, 1) := by decide +kernel
theorem dL_law_730 : decode cL_law 730 = .ok (.iload_n 3, 1) := by decide +kernel
theorem dL_law_731 : decode cL_law 731 = .ok (.iconst 2, 1) := by decide +kernel
theorem dL_law_732 : decode cL_law 732 = .ok (.iadd, 1) := by decide +kernel
theorem dL_law_733 : decode cL_law 733 = .ok (.iaload, 1) := by decide +kernel
theorem dL_law_734 : decode cL_law 734 = .ok (.ifCond .eq 7, 3) := by decide +kernel
theorem dL_law_737 : decode cL_law 737 = .ok (.iconst 1, 1) := by decide +kernel
theorem dL_law_738 : decode cL_law 738 = .ok (.goto 4, 3) := by decide +kernel
theorem dL_law_741 : decode cL_law 741 = .ok (.iconst 0, 1) := by decide +kernel
theorem dL_law_742 : decode cL_law 742 = .ok (.invokevirtual 106, 3) := by decide +kernel
theorem dL_law_745 : decode cL_law 745 = .ok (.if_icmp .eq 128, 3) := by decide +kernel
theorem dL_law_748 : decode cL_law 748 = .ok (.iconst 0, 1) := by decide +kernel
theorem dL_law_749 : decode cL_law 749 = .ok (.ireturn, 1) := by decide +kernel
theorem dL_law_750 : decode cL_law 750 = .ok (.aload_n 1, 1) := by decide +kernel
theorem dL_law_751 : decode cL_law 751 = .ok (.aload_n 0, 1) := by decide +kernel
theorem dL_law_752 : decode cL_law 752 = .ok (.iload_n 3, 1) := by decide +kernel
theorem dL_law_753 : decode cL_law 753 = .ok (.iconst 1, 1) := by decide +kernel
theorem dL_law_754 : decode cL_law 754 = .ok (.iadd, 1) := by decide +kernel
theorem dL_law_755 : decode cL_law 755 = .ok (.iaload, 1) := by decide +kernel
theorem dL_law_756 : decode cL_law 756 = .ok (.i2l, 1) := by decide +kernel
theorem dL_law_757 : decode cL_law 757 = .ok (.bipush 32, 2) := by decide +kernel
theorem dL_law_759 : decode cL_law 759 = .ok (.lshl, 1) := by decide +kernel
theorem dL_law_760 : decode cL_law 760 = .ok (.aload_n 0, 1) := by decide +kernel
theorem dL_law_761 : decode cL_law 761 = .ok (.iload_n 3, 1) := by decide +kernel
theorem dL_law_762 : decode cL_law 762 = .ok (.iconst 2, 1) := by decide +kernel
theorem dL_law_763 : decode cL_law 763 = .ok (.iadd, 1) := by decide +kernel
theorem dL_law_764 : decode cL_law 764 = .ok (.iaload, 1) := by decide +kernel
theorem dL_law_765 : decode cL_law 765 = .ok (.i2l, 1) := by decide +kernel
theorem dL_law_766 : decode cL_law 766 = .ok (.ldc2_w 107, 3) := by decide +kernel
theorem dL_law_769 : decode cL_law 769 = .ok (.land, 1) := by decide +kernel
theorem dL_law_770 : decode cL_law 770 = .ok (.lor, 1) := by decide +kernel
theorem dL_law_771 : decode cL_law 771 = .ok (.invokevirtual 109, 3) := by decide +kernel
theorem dL_law_774 : decode cL_law 774 = .ok (.aload_n 2, 1) := by decide +kernel
theorem dL_law_775 : decode cL_law 775 = .ok (.aload_n 0, 1) := by decide +kernel
theorem dL_law_776 : decode cL_law 776 = .ok (.iload_n 3, 1) := by decide +kernel
theorem dL_law_777 : decode cL_law 777 = .ok (.iconst 1, 1) := by decide +kernel
theorem dL_law_778 : decode cL_law 778 = .ok (.iadd, 1) := by decide +kernel
theorem dL_law_779 : decode cL_law 779 = .ok (.iaload, 1) := by decide +kernel
theorem dL_law_780 : decode cL_law 780 = .ok (.i2l, 1) := by decide +kernel
theorem dL_law_781 : decode cL_law 781 = .ok (.bipush 32, 2) := by decide +kernel
theorem dL_law_783 : decode cL_law 783 = .ok (.lshl, 1) := by decide +kernel
theorem dL_law_784 : decode cL_law 784 = .ok (.aload_n 0, 1) := by decide +kernel
theorem dL_law_785 : decode cL_law 785 = .ok (.iload_n 3, 1) := by decide +kernel
theorem dL_law_786 : decode cL_law 786 = .ok (.iconst 2, 1) := by decide +kernel
theorem dL_law_787 : decode cL_law 787 = .ok (.iadd, 1) := by decide +kernel
theorem dL_law_788 : decode cL_law 788 = .ok (.iaload, 1) := by decide +kernel
theorem dL_law_789 : decode cL_law 789 = .ok (.i2l, 1) := by decide +kernel
theorem dL_law_790 : decode cL_law 790 = .ok (.ldc2_w 107, 3) := by decide +kernel
theorem dL_law_793 : decode cL_law 793 = .ok (.land, 1) := by decide +kernel
theorem dL_law_794 : decode cL_law 794 = .ok (.lor, 1) := by decide +kernel
theorem dL_law_795 : decode cL_law 795 = .ok (.invokevirtual 113, 3) := by decide +kernel
theorem dL_law_798 : decode cL_law 798 = .ok (.lcmp, 1) := by decide +kernel
theorem dL_law_799 : decode cL_law 799 = .ok (.ifCond .eq 74, 3) := by decide +kernel
theorem dL_law_802 : decode cL_law 802 = .ok (.iconst 0, 1) := by decide +kernel
theorem dL_law_803 : decode cL_law 803 = .ok (.ireturn, 1) := by decide +kernel
theorem dL_law_804 : decode cL_law 804 = .ok (.aload_n 1, 1) := by decide +kernel
theorem dL_law_805 : decode cL_law 805 = .ok (.aload_n 0, 1) := by decide +kernel
theorem dL_law_806 : decode cL_law 806 = .ok (.iload_n 3, 1) := by decide +kernel
theorem dL_law_807 : decode cL_law 807 = .ok (.iconst 1, 1) := by decide +kernel
theorem dL_law_808 : decode cL_law 808 = .ok (.iadd, 1) := by decide +kernel
theorem dL_law_809 : decode cL_law 809 = .ok (.iaload, 1) := by decide +kernel
theorem dL_law_810 : decode cL_law 810 = .ok (.invokevirtual 114, 3) := by decide +kernel
theorem dL_law_813 : decode cL_law 813 = .ok (.aload_n 2, 1) := by decide +kernel
theorem dL_law_814 : decode cL_law 814 = .ok (.aload_n 0, 1) := by decide +kernel
theorem dL_law_815 : decode cL_law 815 = .ok (.iload_n 3, 1) := by decide +kernel
theorem dL_law_816 : decode cL_law 816 = .ok (.iconst 1, 1) := by decide +kernel
theorem dL_law_817 : decode cL_law 817 = .ok (.iadd, 1) := by decide +kernel
theorem dL_law_818 : decode cL_law 818 = .ok (.iaload, 1) := by decide +kernel
theorem dL_law_819 : decode cL_law 819 = .ok (.invokevirtual 117, 3) := by decide +kernel
theorem dL_law_822 : decode cL_law 822 = .ok (.if_icmp .eq 51, 3) := by decide +kernel
theorem dL_law_825 : decode cL_law 825 = .ok (.iconst 0, 1) := by decide +kernel
theorem dL_law_826 : decode cL_law 826 = .ok (.ireturn, 1) := by decide +kernel
theorem dL_law_827 : decode cL_law 827 = .ok (.aload_n 1, 1) := by decide +kernel
theorem dL_law_828 : decode cL_law 828 = .ok (.aload_n 0, 1) := by decide +kernel
theorem dL_law_829 : decode cL_law 829 = .ok (.iload_n 3, 1) := by decide +kernel
theorem dL_law_830 : decode cL_law 830 = .ok (.iconst 1, 1) := by decide +kernel
theorem dL_law_831 : decode cL_law 831 = .ok (.iadd, 1) := by decide +kernel
theorem dL_law_832 : decode cL_law 832 = .ok (.iaload, 1) := by decide +kernel
theorem dL_law_833 : decode cL_law 833 = .ok (.invokevirtual 118, 3) := by decide +kernel
theorem dL_law_836 : decode cL_law 836 = .ok (.aload_n 2, 1) := by decide +kernel
theorem dL_law_837 : decode cL_law 837 = .ok (.aload_n 0, 1) := by decide +kernel
theorem dL_law_838 : decode cL_law 838 = .ok (.iload_n 3, 1) := by decide +kernel
theorem dL_law_839 : decode cL_law 839 = .ok (.iconst 1, 1) := by decide +kernel
theorem dL_law_840 : decode cL_law 840 = .ok (.iadd, 1) := by decide +kernel
theorem dL_law_841 : decode cL_law 841 = .ok (.iaload, 1) := by decide +kernel
theorem dL_law_842 : decode cL_law 842 = .ok (.invokevirtual 121, 3) := by decide +kernel
theorem dL_law_845 : decode cL_law 845 = .ok (.if_icmp .eq 28, 3) := by decide +kernel
theorem dL_law_848 : decode cL_law 848 = .ok (.iconst 0, 1) := by decide +kernel
theorem dL_law_849 : decode cL_law 849 = .ok (.ireturn, 1) := by decide +kernel
theorem dL_law_850 : decode cL_law 850 = .ok (.aload_n 1, 1) := by decide +kernel
theorem dL_law_851 : decode cL_law 851 = .ok (.aload_n 0, 1) := by decide +kernel
theorem dL_law_852 : decode cL_law 852 = .ok (.iload_n 3, 1) := by decide +kernel
theorem dL_law_853 : decode cL_law 853 = .ok (.iconst 1, 1) := by decide +kernel
theorem dL_law_854 : decode cL_law 854 = .ok (.iadd, 1) := by decide +kernel
theorem dL_law_855 : decode cL_law 855 = .ok (.iaload, 1) := by decide +kernel
theorem dL_law_856 : decode cL_law 856 = .ok (.invokevirtual 122, 3) := by decide +kernel
theorem dL_law_859 : decode cL_law 859 = .ok (.aload_n 2, 1) := by decide +kernel
theorem dL_law_860 : decode cL_law 860 = .ok (.aload_n 0, 1) := by decide +kernel
theorem dL_law_861 : decode cL_law 861 = .ok (.iload_n 3, 1) := by decide +kernel
theorem dL_law_862 : decode cL_law 862 = .ok (.iconst 1, 1) := by decide +kernel
theorem dL_law_863 : decode cL_law 863 = .ok (.iadd, 1) := by decide +kernel
theorem dL_law_864 : decode cL_law 864 = .ok (.iaload, 1) := by decide +kernel
theorem dL_law_865 : decode cL_law 865 = .ok (.invokevirtual 125, 3) := by decide +kernel
theorem dL_law_868 : decode cL_law 868 = .ok (.if_icmp .eq 5, 3) := by decide +kernel
theorem dL_law_871 : decode cL_law 871 = .ok (.iconst 0, 1) := by decide +kernel
theorem dL_law_872 : decode cL_law 872 = .ok (.ireturn, 1) := by decide +kernel
theorem dL_law_873 : decode cL_law 873 = .ok (.iinc 3 5, 3) := by decide +kernel
theorem dL_law_876 : decode cL_law 876 = .ok (.goto (-858), 3) := by decide +kernel
theorem dL_law_879 : decode cL_law 879 = .ok (.iconst 1, 1) := by decide +kernel
theorem dL_law_880 : decode cL_law 880 = .ok (.ireturn, 1) := by decide +kernel
end
section
def kx_nst : List Cond := [.methodLinkNest RX4 9 yX1_init RX4, .methodLinkNest RX1 17 yX2_init RX4, .methodLinkNest RX4 18 yX2_init RX4, .methodLinkNest RX0 17 yX2_init RX4, .methodLinkNest RX4 43 yX3_init RX4, .methodLinkNest RX1 56 yX4_hasBit RX4, .methodLinkNest RX2 50 yX4_hasBit RX4, .methodLinkNest RX3 32 yX4_hasBit RX4]
theorem kx_nst_ok : ∀ w ∈ kx_nst, ∃ (a : String) (i : Nat) (x : MethodName) (b : String), w = .methodLinkNest a i x b := by
  intro w hw
  simp only [kx_nst, List.mem_cons, List.not_mem_nil, or_false] at hw
  rcases hw with h | h | h | h | h | h | h | h <;> exact ⟨_, _, _, _, h⟩
theorem kx_nst_in : ∀ w ∈ kx_nst, w ∈ lw_tbl := by decide +kernel
end
section
/-! ===== my own judgement over the machine: a heap as a partial function of real addresses, answers told ahead ===== -/
abbrev kx_Y : Type := MethodName × ByteArray × Nat × Option FieldType
abbrev kx_H : Type := Nat → Option va_E
abbrev kx_G : Type := Nat × (Nat → Option (Nat × (Nat → Int32)))
abbrev kx_R : Type := Option Value × Nat × kx_H
def kx_tbl : List Cond := lw_tbl.filter goodWord
theorem kx_in {w : Cond} (h : w ∈ lw_tbl) (hg : goodWord w = true) : w ∈ kx_tbl := List.mem_filter.mpr ⟨h, hg⟩
theorem kx_good : ∀ w ∈ kx_tbl, (w.onTables && w.keeps) = true ∨ ∃ ty, w = .arrayClass ty := fun w h => good_of_word (List.mem_filter.mp h).2
def kx_re (κ : Nat → ClassId) (e : va_E) : va_E := match e with
  | .inl q => .inl (κ q.1, q.2)
  | .inr o => .inr o
def kx_Hold (D : va_G) (κ : Nat → ClassId) (h : kx_H) (H : Heap) : Prop := ∀ (a : Nat) (e : va_E), h a = some e → va_at D vwCl (a, kx_re κ e) H
abbrev kx_tys (κ : Nat → ClassId) : List (ClassId × FieldType) := [(κ 0, .int), (κ 1, .boolean), (κ 2, .object RX2)]
def kx_St (G : kx_G) (A : Nat → Prop) (U : State) (H : Heap) : Prop := va_Z "BorrowedTears" "FACTORIALS" "[I" (.ref G.1) A U H ∧ ∀ (a L : Nat) (f : Nat → Int32), G.2 a = some (L, f) → va_T .int a L (fun j => .int (f j)) A U H
/-- what the tables say that words of a method can't carry -/
def kx_X (nst : List Cond) (U : State) : Prop := va_AO RX2 U ∧ ∀ w ∈ nst, va_Nw w U
def kx_up (h : kx_H) (a : Nat) (e : va_E) : kx_H := fun q => if q = a then some e else h q
def kx_dom (h : kx_H) (N : Nat) : Nat → Prop := fun q => h q ≠ none ∨ N ≤ q
def kx_rop : Option FieldType → Instr
  | none => .return_
  | some .long => .lreturn
  | some _ => .ireturn
def kx_fit : Option FieldType → Option Value → Prop
  | none, none => True
  | some .int, some (.int _) => True
  | some .boolean, some (.int v) => narrow .boolean (.int v) = .int v
  | some .long, some (.long _) => True
  | _, _ => False
def kx_C (Y : kx_Y) (d kc ks : Nat) (G : kx_G) (D : va_G) (κ : Nat → ClassId) (A : Nat → Prop) (p : Program) (R : Room) (s : State) (m : MethodId) (args : Array Value) (meth : Method) (c : Code) : Prop :=
  p.tables.exec = Jvm.exec ∧ c.code = Y.2.1 ∧ meth.sig.returnType = Y.2.2.2 ∧ c.maxLocals = Y.2.2.1 ∧ s.vm.findClass Y.1.cls = some m.cls ∧ (∀ w ∈ kx_tbl, w.before args s = true) ∧ meth.locks = false ∧ (Y.1.name = "<init>" → meth.name = "<init>") ∧ (d ≤ R.frames ∧ 40 * d ≤ R.locals ∧ kc ≤ R.cells ∧ ks ≤ R.slots) ∧ va_K D vwCl (kx_tys κ) s ∧ kx_St G A s s.heap ∧ (∀ q : Nat, s.heap.size ≤ q → A q) ∧ kx_X kx_nst s
def kx_Wd (Y : kx_Y) (D : va_G) (κ : Nat → ClassId) (A : Nat → Prop) (s : State) (H : Heap) (locs : List Loc) (ls : Array Slot) (lv : List (Nat × Value)) (N : Nat) (h : kx_H) : Prop :=
  H.size = N ∧ kx_Hold D κ h H ∧ (∀ a e, h a = some e → A a) ∧ va_S A s.heap H locs ∧ lv_has ls Y.2.2.1 lv
def kx_F (Y : kx_Y) (D : va_G) (κ : Nat → ClassId) (A : Nat → Prop) (kc ks : Nat) (p : Program) (l : Launch) (e : Env) (R : Room) (s : State) (m : MethodId) (args : Array Value) (below : List Frame) (meth : Method) (c : Code) (Z : State → Prop) (res : kx_R) : Prop :=
  ∀ (H : Heap) (locs : List Loc) (ls : Array Slot) (pc : Nat), H.size = res.2.1 → kx_Hold D κ res.2.2 H → (∀ a e, res.2.2 a = some e → A a) → va_S A s.heap H locs → decode Y.2.1 pc = .ok (kx_rop Y.2.2.2, 1) → kx_fit Y.2.2.2 res.1 → W p l e R s m args below meth c H locs kc ks Z (F0 m pc ls res.1.toList)
/-- from here the method comes to its end, with this answer, this heap -/
def kx_Ok (Y : kx_Y) (d kc ks : Nat) (G : kx_G) (cs ss pc : Nat) (lv : List (Nat × Value)) (st : List Value) (N : Nat) (h : kx_H) (res : kx_R) : Prop :=
  ∀ (p : Program) (l : Launch) (e : Env) (R : Room) (s : State) (m : MethodId) (args : Array Value) (below : List Frame) (meth : Method) (c : Code) (D : va_G) (κ : Nat → ClassId) (A : Nat → Prop) (Z : State → Prop) (H : Heap) (locs : List Loc) (ls : Array Slot),
    kx_C Y d kc ks G D κ A p R s m args meth c → kx_Wd Y D κ A s H locs ls lv N h → kx_F Y D κ A kc ks p l e R s m args below meth c Z res → W p l e R s m args below meth c H locs cs ss Z (F0 m pc ls st)
abbrev kx_ws (Y : kx_Y) : List Cond := Cond.code Y.1 Y.2.1 Y.2.2.1 Y.2.2.2 :: kx_tbl
abbrev kx_rm (d kc ks : Nat) : Room := { frames := d, cells := kc, slots := ks, locals := 40 * d }
def kx_Pc (D : va_G) (κ : Nat → ClassId) (G : kx_G) (N : Nat) (h : kx_H) (U : State) : Prop := U.heap.size = N ∧ kx_Hold D κ h U.heap ∧ va_K D vwCl (kx_tys κ) U ∧ kx_St G (kx_dom h N) U U.heap ∧ kx_X kx_nst U
def kx_Q (D : va_G) (κ : Nat → ClassId) (N : Nat) (h : kx_H) (res : kx_R) : Array Value → State → Outcome → State → Prop := fun _ st oc t => oc = .returned res.1 ∧ t.heap.size = res.2.1 ∧ kx_Hold D κ res.2.2 t.heap ∧ (∀ a e, res.2.2 a = some e → kx_dom h N a) ∧ va_F (kx_dom h N) st t
/-- a method's contract: these arguments, this heap; this answer, that heap -/
def kx_Fn (Y : kx_Y) (d kc ks : Nat) (G : kx_G) (av : List Value) (N : Nat) (h : kx_H) (res : kx_R) : Prop :=
  ∀ (l : Launch) (D : va_G) (κ : Nat → ClassId), Met l Y.1 (kx_ws Y) (kx_rm d kc ks) (va_Pc av (kx_Pc D κ G N h)) (kx_Q D κ N h res) kc ks (kx_dom h N)

theorem kx_St.moved {G : kx_G} {A : Nat → Prop} {u U : State} {H : Heap} (hvm : u.vm.Alike U.vm) (h : kx_St G A u H) : kx_St G A U H := ⟨h.1.moved hvm, fun a L f e => (h.2 a L f e).moved hvm⟩
theorem kx_St.kept {G : kx_G} {A : Nat → Prop} {U : State} {H H1 : Heap} (h : kx_St G A U H) (hq : ∀ a : Nat, a < H.size → ¬ A a → H1[a]? = H[a]?) : kx_St G A U H1 := ⟨h.1.kept hq, fun a L f e => (h.2 a L f e).kept hq⟩
theorem kx_St.narrow {G : kx_G} {A B : Nat → Prop} {U : State} {H : Heap} (h : kx_St G A U H) (hAB : ∀ q, B q → A q) : kx_St G B U H := ⟨h.1.narrow hAB, fun a L f e => (h.2 a L f e).narrow hAB⟩
theorem kx_X.warm {s U : State} (hW : s.WarmedH U.vm) (h : kx_X kx_nst s) : kx_X kx_nst U := ⟨h.1.moved hW.alike, fun w hw => by
  obtain ⟨a, i, x, b, rfl⟩ := kx_nst_ok w hw
  exact va_Nw.warmM hW (h.2 _ hw)⟩
theorem kx_X.same {s U : State} (hv : s.vm = U.vm) (h : kx_X kx_nst s) : kx_X kx_nst U := ⟨va_AO.moved (by rw [hv]; exact Vm.Alike.refl _) h.1, fun w hw => by
  obtain ⟨a, i, x, b, rfl⟩ := kx_nst_ok w hw
  exact va_tabs rfl hv (h.2 _ hw)⟩
theorem kx_dom_le {h : kx_H} {N : Nat} {A : Nat → Prop} (hA : ∀ a e, h a = some e → A a) (hN : ∀ q, N ≤ q → A q) : ∀ q, kx_dom h N q → A q := by
  intro q hq
  rcases hq with hq | hq
  · cases he : h q with
    | none => exact absurd he hq
    | some e => exact hA q e he
  · exact hN q hq
theorem kx_Hold.lt {D : va_G} {κ : Nat → ClassId} {h : kx_H} {H : Heap} (hH : kx_Hold D κ h H) {a : Nat} {e : va_E} (he : h a = some e) : a < H.size := (hH a e he).lt
/-- one cell of the heap, as the kit's rows read it -/
theorem kx_Hold.one {D : va_G} {κ : Nat → ClassId} {h : kx_H} {H : Heap} (hH : kx_Hold D κ h H) {a : Nat} {e : va_E} (he : h a = some e) : va_P D vwCl [(a, kx_re κ e)] H := fun k q hk => by
  cases k with
  | zero => cases hk; exact hH a e he
  | succ k => simp at hk
theorem kx_Hold.put {D : va_G} {κ : Nat → ClassId} {h : kx_H} {H H1 : Heap} (hH : kx_Hold D κ h H) {a : Nat} {e : va_E} (h1 : va_at D vwCl (a, kx_re κ e) H1) (oq : ∀ q : Nat, q ≠ a → H1[q]? = H[q]?) : kx_Hold D κ (kx_up h a e) H1 := by
  intro b e' he'
  by_cases hb : b = a
  · subst hb
    simp only [kx_up, if_true] at he'
    cases he'
    exact h1
  · simp only [kx_up, if_neg hb] at he'
    exact (hH b e' he').kept (oq b hb)
theorem kx_Wd.put {Y : kx_Y} {D : va_G} {κ : Nat → ClassId} {A : Nat → Prop} {s : State} {H H1 : Heap} {locs : List Loc} {ls : Array Slot} {lv : List (Nat × Value)} {N k : Nat} {h : kx_H} (w : kx_Wd Y D κ A s H locs ls lv N h) {a : Nat} {e0 e : va_E} (he : h a = some e0) (h1 : va_at D vwCl (a, kx_re κ e) H1) (z : H1.size = H.size) (oq : ∀ q : Nat, q ≠ a → H1[q]? = H[q]?) : kx_Wd Y D κ A s H1 (locs ++ [⟨a, k⟩]) ls lv N (kx_up h a e) := by
  obtain ⟨w1, w2, w3, w4, w5⟩ := w
  refine ⟨z.trans w1, w2.put h1 oq, fun b e' hb => ?_, w4.put z oq (w3 a e0 he), w5⟩
  by_cases hba : b = a
  · subst hba; exact w3 b e0 he
  · simp only [kx_up, if_neg hba] at hb; exact w3 b e' hb

set_option maxHeartbeats 1000000 in
theorem kx_Fn_of {Y : kx_Y} {d kc ks : Nat} {G : kx_G} {av : List Value} {lv : List (Nat × Value)} {N : Nat} {h : kx_H} {res : kx_R} (hpl : plainName Y.1.cls = true) (hlen : (lg_sl av).length ≤ Y.2.2.1) (hlv : lv_args 0 av = lv) (hok : kx_Ok Y d kc ks G 0 0 0 lv [] N h res) (hdom : ∀ a e, res.2.2 a = some e → kx_dom h N a) : kx_Fn Y d kc ks G av N h res := by
  intro l D κ
  refine Met.ofW (cc := Y.2.1) (maxL := Y.2.2.1) (ret := Y.2.2.2) hpl rfl ?_
  intro p e s m args below meth c s₁ B hml hv
  obtain ⟨rfl, hsz, hH, hK, hSt, hX⟩ := hv
  have hts := atoms_spec (ws := kx_ws Y) B.pre
  have hA : ∀ q : Nat, s.heap.size ≤ q → kx_dom h N q := fun q hq => Or.inr (by rw [← hsz]; exact hq)
  have hl := lv_entry av hlen
  rw [lg_entry_eq]
  generalize (lg_sl av ++ List.replicate (Y.2.2.1 - (lg_sl av).length) Slot.unset).toArray = ls at hl ⊢
  rw [hlv] at hl
  have hlocks := B.notSynchronized
  refine hok p l e (kx_rm d kc ks) s m av.toArray below meth c D κ (kx_dom h N) _ s.heap [] ls ⟨B.exec, B.bytes, B.returns, hml, findClass_of_methodNamed B.named, fun w hw => hts w (List.mem_cons_of_mem _ hw), B.notSynchronized, fun hn => (name_of_methodNamed B.named B.method).1.trans hn, ⟨Nat.le_refl _, Nat.le_refl _, Nat.le_refl _, Nat.le_refl _⟩, hK, hSt, hA, hX⟩ ⟨hsz, hH, fun a e' ha => Or.inl (by rw [ha]; exact fun z => by cases z), va_S.rf, hl⟩ ?_
  intro H locs ls pc z1 z2 z3 z4 hdg hfit
  have hq : ∀ t : State, t.heap = H → s.WarmedH t.vm → kx_Q D κ N h res av.toArray s (.returned res.1) t := fun t ht hW => ⟨rfl, by rw [ht]; exact z1, by rw [ht]; exact z2, hdom, z4.F ht⟩
  have hr := B.returns
  obtain ⟨y, cc, mL, rt⟩ := Y
  obtain ⟨rv, N', h'⟩ := res
  cases rt with
  | none =>
    cases rv with
    | none => exact W.vret B.exec B.bytes hr hq z4.2.2 hdg
    | some v => exact hfit.elim
  | some ty =>
    cases ty with
    | int =>
      cases rv with
      | none => exact hfit.elim
      | some v =>
        cases v with
        | int v => exact W.iret B.exec B.bytes hr hq z4.2.2 hdg
        | _ => exact hfit.elim
    | boolean =>
      cases rv with
      | none => exact hfit.elim
      | some v =>
        cases v with
        | int v => exact W.zret B.exec B.bytes hr hfit hq z4.2.2 hdg
        | _ => exact hfit.elim
    | long =>
      cases rv with
      | none => exact hfit.elim
      | some v =>
        cases v with
        | long v => exact W.lret B.exec B.bytes hr hq z4.2.2 hdg
        | _ => exact hfit.elim
    | _ => cases rv <;> exact hfit.elim
/-! ===== which rows of the tables stand behind a field access, a call ===== -/
def kx_cls (ci : Nat) (C : String) (T : u_T) (NN : Nat) : Prop := vwCl[ci]? = some (C, T, NN) ∧ (∀ w ∈ u_ws C T NN, w ∈ kx_tbl) ∧ ∃ ty : Nat → FieldType, (∀ k, k < NN → parseFieldDescriptor (T k).2.2.1 = some (ty k)) ∧ ∀ a, a < NN → ∀ b, b < NN → a ≠ b → (T a).2.1 ≠ (T b).2.1
def kx_fl (own : String) (idx ci k : Nat) (fin : Bool) (ty : FieldType) : Prop := ∃ (C : String) (T : u_T) (NN : Nat), kx_cls ci C T NN ∧ k < NN ∧ Cond.fieldLink own idx C (T k).2.1 (T k).2.2.1 ∈ kx_tbl ∧ (T k).1 = C ∧ (T k).2.2.2 = fin ∧ parseFieldDescriptor (T k).2.2.1 = some ty
def kx_lb (m : kx_Y) (n : Nat) : Prop := Cond.code m.1 m.2.1 m.2.2.1 m.2.2.2 ∈ kx_tbl ∧ Cond.initialized m.1.cls ∈ kx_tbl ∧ m.1.cls ≠ "java/lang/invoke/MethodHandle" ∧ m.1.cls ≠ "java/lang/invoke/VarHandle" ∧ (parseMethodDescriptor m.1.desc).map (fun d => d.parameters.length) = some n ∧ m.2.2.1 ≤ 21
def kx_lV (own : String) (idx : Nat) (m : kx_Y) (n : Nat) : Prop := kx_lb m n ∧ Cond.methodLink own idx m.1 ∈ kx_tbl ∧ Cond.instanceMethod m.1 ∈ kx_tbl ∧ Cond.selects m.1.cls m.1 m.1 ∈ kx_tbl
def kx_lS (own : String) (idx : Nat) (m : kx_Y) (n : Nat) : Prop := kx_lb m n ∧ Cond.methodLink own idx m.1 ∈ kx_tbl ∧ Cond.static m.1 ∈ kx_tbl
def kx_lI (own : String) (idx : Nat) (m : kx_Y) (n : Nat) : Prop := kx_lb m n ∧ Cond.methodLink own idx m.1 ∈ kx_tbl ∧ Cond.instanceMethod m.1 ∈ kx_tbl ∧ m.1.name = "<init>"
def kx_lVN (own : String) (idx : Nat) (m : kx_Y) (n : Nat) : Prop := kx_lb m n ∧ (∃ host, Cond.methodLinkNest own idx m.1 host ∈ kx_nst) ∧ Cond.instanceMethod m.1 ∈ kx_tbl ∧ Cond.selects m.1.cls m.1 m.1 ∈ kx_tbl
def kx_lSN (own : String) (idx : Nat) (m : kx_Y) (n : Nat) : Prop := kx_lb m n ∧ (∃ host, Cond.methodLinkNest own idx m.1 host ∈ kx_nst) ∧ Cond.static m.1 ∈ kx_tbl
def kx_lIN (own : String) (idx : Nat) (m : kx_Y) (n : Nat) : Prop := kx_lb m n ∧ (∃ host, Cond.methodLinkNest own idx m.1 host ∈ kx_nst) ∧ Cond.instanceMethod m.1 ∈ kx_tbl ∧ m.1.name = "<init>"
end
section
section KO
variable {Y : kx_Y} {d kc ks : Nat} {G : kx_G} {cs ss pc : Nat} {lv : List (Nat × Value)} {st : List Value} {N : Nat} {h : kx_H} {res : kx_R}
theorem ko_iadd {x y : Int32} (hdg : decode Y.2.1 pc = .ok (.iadd, 1))  (k : kx_Ok Y d kc ks G cs ss (pc + 1) lv (.int (x + y) :: st) N h res) : kx_Ok Y d kc ks G cs ss pc lv (.int y :: .int x :: st) N h res := by
  intro p l e R s m args below meth c D κ A Z H locs ls hC hW hF
  exact lv_iadd hC.1 hC.2.1 hdg  (k p l e R s m args below meth c D κ A Z H locs ls hC hW hF)
theorem ko_isub {x y : Int32} (hdg : decode Y.2.1 pc = .ok (.isub, 1))  (k : kx_Ok Y d kc ks G cs ss (pc + 1) lv (.int (x - y) :: st) N h res) : kx_Ok Y d kc ks G cs ss pc lv (.int y :: .int x :: st) N h res := by
  intro p l e R s m args below meth c D κ A Z H locs ls hC hW hF
  exact lv_isub hC.1 hC.2.1 hdg  (k p l e R s m args below meth c D κ A Z H locs ls hC hW hF)
theorem ko_imul {x y : Int32} (hdg : decode Y.2.1 pc = .ok (.imul, 1))  (k : kx_Ok Y d kc ks G cs ss (pc + 1) lv (.int (x * y) :: st) N h res) : kx_Ok Y d kc ks G cs ss pc lv (.int y :: .int x :: st) N h res := by
  intro p l e R s m args below meth c D κ A Z H locs ls hC hW hF
  exact lv_imul hC.1 hC.2.1 hdg  (k p l e R s m args below meth c D κ A Z H locs ls hC hW hF)
theorem ko_iand {x y : Int32} (hdg : decode Y.2.1 pc = .ok (.iand, 1))  (k : kx_Ok Y d kc ks G cs ss (pc + 1) lv (.int (x &&& y) :: st) N h res) : kx_Ok Y d kc ks G cs ss pc lv (.int y :: .int x :: st) N h res := by
  intro p l e R s m args below meth c D κ A Z H locs ls hC hW hF
  exact lv_iand hC.1 hC.2.1 hdg  (k p l e R s m args below meth c D κ A Z H locs ls hC hW hF)
theorem ko_ior {x y : Int32} (hdg : decode Y.2.1 pc = .ok (.ior, 1))  (k : kx_Ok Y d kc ks G cs ss (pc + 1) lv (.int (x ||| y) :: st) N h res) : kx_Ok Y d kc ks G cs ss pc lv (.int y :: .int x :: st) N h res := by
  intro p l e R s m args below meth c D κ A Z H locs ls hC hW hF
  exact lv_ior hC.1 hC.2.1 hdg  (k p l e R s m args below meth c D κ A Z H locs ls hC hW hF)
theorem ko_ixor {x y : Int32} (hdg : decode Y.2.1 pc = .ok (.ixor, 1))  (k : kx_Ok Y d kc ks G cs ss (pc + 1) lv (.int (x ^^^ y) :: st) N h res) : kx_Ok Y d kc ks G cs ss pc lv (.int y :: .int x :: st) N h res := by
  intro p l e R s m args below meth c D κ A Z H locs ls hC hW hF
  exact lv_ixor hC.1 hC.2.1 hdg  (k p l e R s m args below meth c D κ A Z H locs ls hC hW hF)
theorem ko_ishl {x y : Int32} (hdg : decode Y.2.1 pc = .ok (.ishl, 1))  (k : kx_Ok Y d kc ks G cs ss (pc + 1) lv (.int (x <<< (y &&& 31)) :: st) N h res) : kx_Ok Y d kc ks G cs ss pc lv (.int y :: .int x :: st) N h res := by
  intro p l e R s m args below meth c D κ A Z H locs ls hC hW hF
  exact lv_ishl hC.1 hC.2.1 hdg  (k p l e R s m args below meth c D κ A Z H locs ls hC hW hF)
theorem ko_ishr {x y : Int32} (hdg : decode Y.2.1 pc = .ok (.ishr, 1))  (k : kx_Ok Y d kc ks G cs ss (pc + 1) lv (.int (x >>> (y &&& 31)) :: st) N h res) : kx_Ok Y d kc ks G cs ss pc lv (.int y :: .int x :: st) N h res := by
  intro p l e R s m args below meth c D κ A Z H locs ls hC hW hF
  exact lv_ishr hC.1 hC.2.1 hdg  (k p l e R s m args below meth c D κ A Z H locs ls hC hW hF)
theorem ko_idiv {x y : Int32} (hdg : decode Y.2.1 pc = .ok (.idiv, 1)) (hne : ¬ y = 0) (k : kx_Ok Y d kc ks G cs ss (pc + 1) lv (.int (x / y) :: st) N h res) : kx_Ok Y d kc ks G cs ss pc lv (.int y :: .int x :: st) N h res := by
  intro p l e R s m args below meth c D κ A Z H locs ls hC hW hF
  exact lv_idiv hC.1 hC.2.1 hdg hne (k p l e R s m args below meth c D κ A Z H locs ls hC hW hF)
theorem ko_irem {x y : Int32} (hdg : decode Y.2.1 pc = .ok (.irem, 1)) (hne : ¬ y = 0) (k : kx_Ok Y d kc ks G cs ss (pc + 1) lv (.int (x - x / y * y) :: st) N h res) : kx_Ok Y d kc ks G cs ss pc lv (.int y :: .int x :: st) N h res := by
  intro p l e R s m args below meth c D κ A Z H locs ls hC hW hF
  exact lv_irem hC.1 hC.2.1 hdg hne (k p l e R s m args below meth c D κ A Z H locs ls hC hW hF)
theorem ko_ladd {x y : Int64} (hdg : decode Y.2.1 pc = .ok (.ladd, 1))  (k : kx_Ok Y d kc ks G cs ss (pc + 1) lv (.long (x + y) :: st) N h res) : kx_Ok Y d kc ks G cs ss pc lv (.long y :: .long x :: st) N h res := by
  intro p l e R s m args below meth c D κ A Z H locs ls hC hW hF
  exact lv_ladd hC.1 hC.2.1 hdg  (k p l e R s m args below meth c D κ A Z H locs ls hC hW hF)
theorem ko_lmul {x y : Int64} (hdg : decode Y.2.1 pc = .ok (.lmul, 1))  (k : kx_Ok Y d kc ks G cs ss (pc + 1) lv (.long (x * y) :: st) N h res) : kx_Ok Y d kc ks G cs ss pc lv (.long y :: .long x :: st) N h res := by
  intro p l e R s m args below meth c D κ A Z H locs ls hC hW hF
  exact lv_lmul hC.1 hC.2.1 hdg  (k p l e R s m args below meth c D κ A Z H locs ls hC hW hF)
theorem ko_land {x y : Int64} (hdg : decode Y.2.1 pc = .ok (.land, 1))  (k : kx_Ok Y d kc ks G cs ss (pc + 1) lv (.long (x &&& y) :: st) N h res) : kx_Ok Y d kc ks G cs ss pc lv (.long y :: .long x :: st) N h res := by
  intro p l e R s m args below meth c D κ A Z H locs ls hC hW hF
  exact lv_land hC.1 hC.2.1 hdg  (k p l e R s m args below meth c D κ A Z H locs ls hC hW hF)
theorem ko_lor {x y : Int64} (hdg : decode Y.2.1 pc = .ok (.lor, 1))  (k : kx_Ok Y d kc ks G cs ss (pc + 1) lv (.long (x ||| y) :: st) N h res) : kx_Ok Y d kc ks G cs ss pc lv (.long y :: .long x :: st) N h res := by
  intro p l e R s m args below meth c D κ A Z H locs ls hC hW hF
  exact lv_lor hC.1 hC.2.1 hdg  (k p l e R s m args below meth c D κ A Z H locs ls hC hW hF)
theorem ko_lrem {x y : Int64} (hdg : decode Y.2.1 pc = .ok (.lrem, 1)) (hne : ¬ y = 0) (k : kx_Ok Y d kc ks G cs ss (pc + 1) lv (.long (x - x / y * y) :: st) N h res) : kx_Ok Y d kc ks G cs ss pc lv (.long y :: .long x :: st) N h res := by
  intro p l e R s m args below meth c D κ A Z H locs ls hC hW hF
  exact lv_lrem hC.1 hC.2.1 hdg hne (k p l e R s m args below meth c D κ A Z H locs ls hC hW hF)
theorem ko_ineg {x : Int32} (hdg : decode Y.2.1 pc = .ok (.ineg, 1)) (k : kx_Ok Y d kc ks G cs ss (pc + 1) lv (.int (-x) :: st) N h res) : kx_Ok Y d kc ks G cs ss pc lv (.int x :: st) N h res := by
  intro p l e R s m args below meth c D κ A Z H locs ls hC hW hF
  exact lv_ineg hC.1 hC.2.1 hdg (k p l e R s m args below meth c D κ A Z H locs ls hC hW hF)
theorem ko_i2l {x : Int32} (hdg : decode Y.2.1 pc = .ok (.i2l, 1)) (k : kx_Ok Y d kc ks G cs ss (pc + 1) lv (.long x.toInt64 :: st) N h res) : kx_Ok Y d kc ks G cs ss pc lv (.int x :: st) N h res := by
  intro p l e R s m args below meth c D κ A Z H locs ls hC hW hF
  exact lv_i2l hC.1 hC.2.1 hdg rfl (k p l e R s m args below meth c D κ A Z H locs ls hC hW hF)
theorem ko_l2i {x : Int64} (hdg : decode Y.2.1 pc = .ok (.l2i, 1)) (k : kx_Ok Y d kc ks G cs ss (pc + 1) lv (.int x.toInt32 :: st) N h res) : kx_Ok Y d kc ks G cs ss pc lv (.long x :: st) N h res := by
  intro p l e R s m args below meth c D κ A Z H locs ls hC hW hF
  exact lv_l2i hC.1 hC.2.1 hdg rfl (k p l e R s m args below meth c D κ A Z H locs ls hC hW hF)
theorem ko_lushr {x : Int64} {y : Int32} (hdg : decode Y.2.1 pc = .ok (.lushr, 1)) (k : kx_Ok Y d kc ks G cs ss (pc + 1) lv (.long (x.toUInt64 >>> (y.toInt64.toUInt64 &&& Int64.toUInt64 63)).toInt64 :: st) N h res) : kx_Ok Y d kc ks G cs ss pc lv (.int y :: .long x :: st) N h res := by
  intro p l e R s m args below meth c D κ A Z H locs ls hC hW hF
  exact lv_lushr hC.1 hC.2.1 hdg rfl (k p l e R s m args below meth c D κ A Z H locs ls hC hW hF)
theorem ko_iushr {x y : Int32} (hdg : decode Y.2.1 pc = .ok (.iushr, 1)) (k : kx_Ok Y d kc ks G cs ss (pc + 1) lv (.int (x.toUInt32 >>> (y.toUInt32 &&& Int32.toUInt32 31)).toInt32 :: st) N h res) : kx_Ok Y d kc ks G cs ss pc lv (.int y :: .int x :: st) N h res := by
  intro p l e R s m args below meth c D κ A Z H locs ls hC hW hF
  exact lv_iushr hC.1 hC.2.1 hdg rfl (k p l e R s m args below meth c D κ A Z H locs ls hC hW hF)
theorem ko_ldcw {v : Int32} {index : Nat} (hw : Cond.constant Y.1.cls index v ∈ kx_tbl) (hdg : decode Y.2.1 pc = .ok (.ldc_w index, 3)) (k : kx_Ok Y d kc ks G cs ss (pc + 3) lv (.int v :: st) N h res) : kx_Ok Y d kc ks G cs ss pc lv (st) N h res := by
  intro p l e R s m args below meth c D κ A Z H locs ls hC hW hF
  exact lv_ldcw hC.1 hC.2.1 hC.2.2.2.2.1 (hC.2.2.2.2.2.1 _ hw) hdg (k p l e R s m args below meth c D κ A Z H locs ls hC hW hF)
theorem ko_lshl {x : Int64} {y : Int32} (hdg : decode Y.2.1 pc = .ok (.lshl, 1)) (k : kx_Ok Y d kc ks G cs ss (pc + 1) lv (.long (x <<< (y.toInt64 &&& 63)) :: st) N h res) : kx_Ok Y d kc ks G cs ss pc lv (.int y :: .long x :: st) N h res := by
  intro p l e R s m args below meth c D κ A Z H locs ls hC hW hF
  exact lv_lshl hC.1 hC.2.1 hdg rfl (k p l e R s m args below meth c D κ A Z H locs ls hC hW hF)
theorem ko_iconst {n : Int} {v : Int32} (hdg : decode Y.2.1 pc = .ok (.iconst n, 1)) (hv : Int32.ofInt n = v) (k : kx_Ok Y d kc ks G cs ss (pc + 1) lv (.int v :: st) N h res) : kx_Ok Y d kc ks G cs ss pc lv (st) N h res := by
  intro p l e R s m args below meth c D κ A Z H locs ls hC hW hF
  exact lv_iconst hC.1 hC.2.1 hdg hv (k p l e R s m args below meth c D κ A Z H locs ls hC hW hF)
theorem ko_bipush {n : Int} {v : Int32} (hdg : decode Y.2.1 pc = .ok (.bipush n, 2)) (hv : (Int8.ofInt n).toInt32 = v) (k : kx_Ok Y d kc ks G cs ss (pc + 2) lv (.int v :: st) N h res) : kx_Ok Y d kc ks G cs ss pc lv (st) N h res := by
  intro p l e R s m args below meth c D κ A Z H locs ls hC hW hF
  exact lv_bipush hC.1 hC.2.1 hdg hv (k p l e R s m args below meth c D κ A Z H locs ls hC hW hF)
theorem ko_sipush {n : Int} {v : Int32} (hdg : decode Y.2.1 pc = .ok (.sipush n, 3)) (hv : (Int16.ofInt n).toInt32 = v) (k : kx_Ok Y d kc ks G cs ss (pc + 3) lv (.int v :: st) N h res) : kx_Ok Y d kc ks G cs ss pc lv (st) N h res := by
  intro p l e R s m args below meth c D κ A Z H locs ls hC hW hF
  exact lv_sipush hC.1 hC.2.1 hdg hv (k p l e R s m args below meth c D κ A Z H locs ls hC hW hF)
theorem ko_lconst {n : Fin 2} {v : Int64} (hdg : decode Y.2.1 pc = .ok (.lconst n, 1)) (hv : Int64.ofNat (n : Nat) = v) (k : kx_Ok Y d kc ks G cs ss (pc + 1) lv (.long v :: st) N h res) : kx_Ok Y d kc ks G cs ss pc lv (st) N h res := by
  intro p l e R s m args below meth c D κ A Z H locs ls hC hW hF
  exact lv_lconst hC.1 hC.2.1 hdg hv (k p l e R s m args below meth c D κ A Z H locs ls hC hW hF)
theorem ko_ldc2 {v : Int64} {index : Nat} (hdg : decode Y.2.1 pc = .ok (.ldc2_w index, 3)) (hw : Cond.constantLong Y.1.cls index v ∈ kx_tbl) (k : kx_Ok Y d kc ks G cs ss (pc + 3) lv (.long v :: st) N h res) : kx_Ok Y d kc ks G cs ss pc lv (st) N h res := by
  intro p l e R s m args below meth c D κ A Z H locs ls hC hW hF
  exact lv_ldc2 hC.1 hC.2.1 hC.2.2.2.2.1 (hC.2.2.2.2.2.1 _ hw) hdg (k p l e R s m args below meth c D κ A Z H locs ls hC hW hF)
theorem ko_dup {v : Value} (hdg : decode Y.2.1 pc = .ok (.dup, 1)) (hv : v.category = 1) (k : kx_Ok Y d kc ks G cs ss (pc + 1) lv (v :: v :: st) N h res) : kx_Ok Y d kc ks G cs ss pc lv (v :: st) N h res := by
  intro p l e R s m args below meth c D κ A Z H locs ls hC hW hF
  exact lv_dup hC.1 hC.2.1 hdg hv (k p l e R s m args below meth c D κ A Z H locs ls hC hW hF)
theorem ko_pop {v : Value} (hdg : decode Y.2.1 pc = .ok (.pop, 1)) (hv : v.category = 1) (k : kx_Ok Y d kc ks G cs ss (pc + 1) lv (st) N h res) : kx_Ok Y d kc ks G cs ss pc lv (v :: st) N h res := by
  intro p l e R s m args below meth c D κ A Z H locs ls hC hW hF
  exact lv_pop hC.1 hC.2.1 hdg hv (k p l e R s m args below meth c D κ A Z H locs ls hC hW hF)
theorem ko_dup2 {v w : Value} (hdg : decode Y.2.1 pc = .ok (.dup2, 1)) (hv : v.category = 1) (hw : w.category = 1) (k : kx_Ok Y d kc ks G cs ss (pc + 1) lv (v :: w :: v :: w :: st) N h res) : kx_Ok Y d kc ks G cs ss pc lv (v :: w :: st) N h res := by
  intro p l e R s m args below meth c D κ A Z H locs ls hC hW hF
  exact lv_dup2_11 hC.1 hC.2.1 hdg hv hw (k p l e R s m args below meth c D κ A Z H locs ls hC hW hF)
theorem ko_dup2L {v : Value} (hdg : decode Y.2.1 pc = .ok (.dup2, 1)) (hv : v.category = 2) (k : kx_Ok Y d kc ks G cs ss (pc + 1) lv (v :: v :: st) N h res) : kx_Ok Y d kc ks G cs ss pc lv (v :: st) N h res := by
  intro p l e R s m args below meth c D κ A Z H locs ls hC hW hF
  exact lv_dup2_2 hC.1 hC.2.1 hdg hv (k p l e R s m args below meth c D κ A Z H locs ls hC hW hF)
theorem ko_goto {off : Int} {tgt : Nat} (hdg : decode Y.2.1 pc = .ok (.goto off, 3)) (ht : (pc : Int) + off = (tgt : Int)) (k : kx_Ok Y d kc ks G cs ss (tgt) lv (st) N h res) : kx_Ok Y d kc ks G cs ss pc lv (st) N h res := by
  intro p l e R s m args below meth c D κ A Z H locs ls hC hW hF
  exact lv_goto hC.1 hC.2.1 hdg ht (k p l e R s m args below meth c D κ A Z H locs ls hC hW hF)
def kx_lk : List (Nat × Value) → Nat → Option Value
  | [], _ => none
  | q :: r, i => bif Nat.beq q.1 i then some q.2 else kx_lk r i
def kx_set : List (Nat × Value) → Nat → Value → List (Nat × Value)
  | [], i, v => [(i, v)]
  | q :: r, i, v => bif Nat.beq q.1 i then (i, v) :: r else q :: kx_set r i v
/-- no long stands half in place i, and each place stands once -/
def kx_nl : List (Nat × Value) → Nat → Bool
  | [], _ => true
  | q :: r, i => (bif Nat.beq (q.1 + 1) i then Nat.beq q.2.category 1 else true) && kx_nl r i
def kx_on : List (Nat × Value) → Bool
  | [] => true
  | q :: r => (kx_lk r q.1).isNone && kx_on r
def kx_keep (lv : List (Nat × Value)) (ks : List Nat) : List (Nat × Value) := ks.filterMap (fun k => (kx_lk lv k).map (fun v => (k, v)))
theorem kx_lk_mem : ∀ {lv : List (Nat × Value)} {i : Nat} {v : Value}, kx_lk lv i = some v → (i, v) ∈ lv
  | [], _, _, h => by cases h
  | q :: r, i, v, h => by
    unfold kx_lk at h
    cases hb : Nat.beq q.1 i with
    | true =>
      rw [hb] at h
      have e1 : q.1 = i := Nat.eq_of_beq_eq_true hb
      have e2 : q.2 = v := Option.some.inj h
      subst e1; subst e2
      exact List.mem_cons_self
    | false =>
      rw [hb] at h
      exact List.mem_cons_of_mem _ (kx_lk_mem h)
theorem kx_lk_at {ls : Array Slot} {n : Nat} {lv : List (Nat × Value)} {i : Nat} {v : Value} (hl : lv_has ls n lv) (h : kx_lk lv i = some v) : ls[i]? = some (.val v) := hl.2.2 (i, v) (kx_lk_mem h)
theorem kx_lk_none : ∀ {r : List (Nat × Value)} {i : Nat}, kx_lk r i = none → ∀ q ∈ r, q.1 = i → False
  | [], _, _, q, hq, _ => by cases hq
  | x :: r, i, h, q, hq, e => by
    unfold kx_lk at h
    cases hb : Nat.beq x.1 i with
    | true => rw [hb] at h; cases h
    | false =>
      rw [hb] at h
      rcases List.mem_cons.mp hq with hq | hq
      · subst hq; rw [e, Nat.beq_refl] at hb; cases hb
      · exact kx_lk_none h q hq e
theorem kx_set_mem : ∀ {lv : List (Nat × Value)} {i : Nat} {v : Value} {q : Nat × Value}, kx_on lv = true → q ∈ kx_set lv i v → q = (i, v) ∨ (q ∈ lv ∧ q.1 ≠ i)
  | [], i, v, q, _, h => Or.inl (List.mem_singleton.mp h)
  | x :: r, i, v, q, ho, h => by
    unfold kx_on at ho
    rw [Bool.and_eq_true] at ho
    unfold kx_set at h
    cases hb : Nat.beq x.1 i with
    | true =>
      rw [hb] at h
      rcases List.mem_cons.mp h with h | h
      · exact Or.inl h
      · refine Or.inr ⟨List.mem_cons_of_mem _ h, fun e => ?_⟩
        have e1 : x.1 = i := Nat.eq_of_beq_eq_true hb
        have hn : kx_lk r x.1 = none := Option.isNone_iff_eq_none.mp ho.1
        rw [e1, ← e] at hn
        exact kx_lk_none hn q h rfl
    | false =>
      rw [hb] at h
      rcases List.mem_cons.mp h with h | h
      · subst h
        exact Or.inr ⟨List.mem_cons_self, fun e => by rw [e, Nat.beq_refl] at hb; cases hb⟩
      · rcases kx_set_mem ho.2 h with h | h
        · exact Or.inl h
        · exact Or.inr ⟨List.mem_cons_of_mem _ h.1, h.2⟩
theorem kx_nl_spec : ∀ {lv : List (Nat × Value)} {i : Nat}, kx_nl lv i = true → ∀ q ∈ lv, q.1 + 1 = i → q.2.category = 1
  | [], _, _, q, hq, _ => by cases hq
  | x :: r, i, h, q, hq, e => by
    unfold kx_nl at h
    rw [Bool.and_eq_true] at h
    rcases List.mem_cons.mp hq with hq | hq
    · subst hq
      have h1 := h.1
      rw [e, Nat.beq_refl] at h1
      exact Nat.eq_of_beq_eq_true h1
    · exact kx_nl_spec h.2 q hq e
theorem kx_set_has {ls : Array Slot} {n i : Nat} {v : Value} {lv : List (Nat × Value)} (hs : kx_nl lv i = true) (ho : kx_on lv = true) (hl : lv_has ls n ((i, v) :: lv.filter (fun q => !(q.1 == i) && !(q.1 + 1 == i && q.2.category == 2)))) : lv_has ls n (kx_set lv i v) := by
  refine ⟨hl.1, hl.2.1, fun q hq => hl.2.2 q ?_⟩
  rcases kx_set_mem ho hq with h | ⟨h, hne⟩
  · rw [h]; exact List.mem_cons_self
  · refine List.mem_cons_of_mem _ (List.mem_filter.mpr ⟨h, ?_⟩)
    simp only [Bool.and_eq_true, Bool.not_eq_true', beq_eq_false_iff_ne, ne_eq, Bool.and_eq_false_iff]
    refine ⟨hne, ?_⟩
    by_cases e : q.1 + 1 = i
    · right
      rw [kx_nl_spec hs q h e]
      decide
    · left; exact e
theorem kx_Wd.ls {Y : kx_Y} {D : va_G} {κ : Nat → ClassId} {A : Nat → Prop} {s : State} {H : Heap} {locs : List Loc} {ls ls' : Array Slot} {lv lv' : List (Nat × Value)} {N : Nat} {h : kx_H} (w : kx_Wd Y D κ A s H locs ls lv N h) (h' : lv_has ls' Y.2.2.1 lv') : kx_Wd Y D κ A s H locs ls' lv' N h := ⟨w.1, w.2.1, w.2.2.1, w.2.2.2.1, h'⟩
/-- only these places, in this order -/
theorem ko_keep (kk : List Nat) {lv' : List (Nat × Value)} (e : kx_keep lv kk = lv') (k : kx_Ok Y d kc ks G cs ss pc lv' st N h res) : kx_Ok Y d kc ks G cs ss pc lv st N h res := by
  intro p l e0 R s m args below meth c D κ A Z H locs ls hC hW hF
  refine k p l e0 R s m args below meth c D κ A Z H locs ls hC (hW.ls ⟨hW.2.2.2.2.1, hW.2.2.2.2.2.1, fun q hq => ?_⟩) hF
  rw [← e] at hq
  obtain ⟨j, -, hj⟩ := List.mem_filterMap.mp hq
  cases hv : kx_lk lv j with
  | none => rw [hv] at hj; cases hj
  | some v =>
    rw [hv] at hj
    cases hj
    exact kx_lk_at hW.2.2.2.2 hv
theorem ko_iload_n {j : Fin 4} {i : Nat} {x : Int32} (hdg : decode Y.2.1 pc = .ok (.iload_n j, 1)) (hi : (j : Nat) = i) (hx : kx_lk lv i = some (.int x)) (k : kx_Ok Y d kc ks G cs ss (pc + 1) lv (.int x :: st) N h res) : kx_Ok Y d kc ks G cs ss pc lv (st) N h res := by
  intro p l e R s m args below meth c D κ A Z H locs ls hC hW hF
  exact lv_iload_n hC.1 hC.2.1 hdg hi (kx_lk_at hW.2.2.2.2 hx) (k p l e R s m args below meth c D κ A Z H locs ls hC hW hF)
theorem ko_iload {i : Nat} {x : Int32} (hdg : decode Y.2.1 pc = .ok (.iload i, 2)) (hx : kx_lk lv i = some (.int x)) (k : kx_Ok Y d kc ks G cs ss (pc + 2) lv (.int x :: st) N h res) : kx_Ok Y d kc ks G cs ss pc lv (st) N h res := by
  intro p l e R s m args below meth c D κ A Z H locs ls hC hW hF
  exact lv_iload hC.1 hC.2.1 hdg (kx_lk_at hW.2.2.2.2 hx) (k p l e R s m args below meth c D κ A Z H locs ls hC hW hF)
theorem ko_lload_n {j : Fin 4} {i : Nat} {x : Int64} (hdg : decode Y.2.1 pc = .ok (.lload_n j, 1)) (hi : (j : Nat) = i) (hx : kx_lk lv i = some (.long x)) (k : kx_Ok Y d kc ks G cs ss (pc + 1) lv (.long x :: st) N h res) : kx_Ok Y d kc ks G cs ss pc lv (st) N h res := by
  intro p l e R s m args below meth c D κ A Z H locs ls hC hW hF
  exact lv_lload_n hC.1 hC.2.1 hdg hi (kx_lk_at hW.2.2.2.2 hx) (k p l e R s m args below meth c D κ A Z H locs ls hC hW hF)
theorem ko_lload {i : Nat} {x : Int64} (hdg : decode Y.2.1 pc = .ok (.lload i, 2)) (hx : kx_lk lv i = some (.long x)) (k : kx_Ok Y d kc ks G cs ss (pc + 2) lv (.long x :: st) N h res) : kx_Ok Y d kc ks G cs ss pc lv (st) N h res := by
  intro p l e R s m args below meth c D κ A Z H locs ls hC hW hF
  exact lv_lload hC.1 hC.2.1 hdg (kx_lk_at hW.2.2.2.2 hx) (k p l e R s m args below meth c D κ A Z H locs ls hC hW hF)
theorem ko_aload_n {j : Fin 4} {i : Nat} {x : Nat} (hdg : decode Y.2.1 pc = .ok (.aload_n j, 1)) (hi : (j : Nat) = i) (hx : kx_lk lv i = some (.ref x)) (k : kx_Ok Y d kc ks G cs ss (pc + 1) lv (.ref x :: st) N h res) : kx_Ok Y d kc ks G cs ss pc lv (st) N h res := by
  intro p l e R s m args below meth c D κ A Z H locs ls hC hW hF
  exact lv_aload_n hC.1 hC.2.1 hdg hi (kx_lk_at hW.2.2.2.2 hx) (k p l e R s m args below meth c D κ A Z H locs ls hC hW hF)
theorem ko_aload {i : Nat} {x : Nat} (hdg : decode Y.2.1 pc = .ok (.aload i, 2)) (hx : kx_lk lv i = some (.ref x)) (k : kx_Ok Y d kc ks G cs ss (pc + 2) lv (.ref x :: st) N h res) : kx_Ok Y d kc ks G cs ss pc lv (st) N h res := by
  intro p l e R s m args below meth c D κ A Z H locs ls hC hW hF
  exact lv_aload hC.1 hC.2.1 hdg (kx_lk_at hW.2.2.2.2 hx) (k p l e R s m args below meth c D κ A Z H locs ls hC hW hF)
theorem ko_istore_n {j : Fin 4} {i : Nat} {x : Int32} {lv' : List (Nat × Value)} (hdg : decode Y.2.1 pc = .ok (.istore_n j, 1)) (hi : (j : Nat) = i) (hb : i < Y.2.2.1) (hs : kx_nl lv i = true) (ho : kx_on lv = true) (he : kx_set lv i (.int x) = lv') (k : kx_Ok Y d kc ks G cs ss (pc + 1) lv' st N h res) : kx_Ok Y d kc ks G cs ss pc lv (.int x :: st) N h res := by
  intro p l e R s m args below meth c D κ A Z H locs ls hC hW hF
  exact lv_istore_n hC.1 hC.2.1 hdg hi hW.2.2.2.2 hb rfl (fun ls' hl => k p l e R s m args below meth c D κ A Z H locs ls' hC (hW.ls (he ▸ kx_set_has hs ho hl)) hF)
theorem ko_istore {i : Nat} {x : Int32} {lv' : List (Nat × Value)} (hdg : decode Y.2.1 pc = .ok (.istore i, 2)) (hb : i < Y.2.2.1) (hs : kx_nl lv i = true) (ho : kx_on lv = true) (he : kx_set lv i (.int x) = lv') (k : kx_Ok Y d kc ks G cs ss (pc + 2) lv' st N h res) : kx_Ok Y d kc ks G cs ss pc lv (.int x :: st) N h res := by
  intro p l e R s m args below meth c D κ A Z H locs ls hC hW hF
  exact lv_istore hC.1 hC.2.1 hdg hW.2.2.2.2 hb rfl (fun ls' hl => k p l e R s m args below meth c D κ A Z H locs ls' hC (hW.ls (he ▸ kx_set_has hs ho hl)) hF)
theorem ko_astore_n {j : Fin 4} {i : Nat} {x : Nat} {lv' : List (Nat × Value)} (hdg : decode Y.2.1 pc = .ok (.astore_n j, 1)) (hi : (j : Nat) = i) (hb : i < Y.2.2.1) (hs : kx_nl lv i = true) (ho : kx_on lv = true) (he : kx_set lv i (.ref x) = lv') (k : kx_Ok Y d kc ks G cs ss (pc + 1) lv' st N h res) : kx_Ok Y d kc ks G cs ss pc lv (.ref x :: st) N h res := by
  intro p l e R s m args below meth c D κ A Z H locs ls hC hW hF
  exact lv_astore_n hC.1 hC.2.1 hdg hi hW.2.2.2.2 hb rfl (fun ls' hl => k p l e R s m args below meth c D κ A Z H locs ls' hC (hW.ls (he ▸ kx_set_has hs ho hl)) hF)
theorem ko_astore {i : Nat} {x : Nat} {lv' : List (Nat × Value)} (hdg : decode Y.2.1 pc = .ok (.astore i, 2)) (hb : i < Y.2.2.1) (hs : kx_nl lv i = true) (ho : kx_on lv = true) (he : kx_set lv i (.ref x) = lv') (k : kx_Ok Y d kc ks G cs ss (pc + 2) lv' st N h res) : kx_Ok Y d kc ks G cs ss pc lv (.ref x :: st) N h res := by
  intro p l e R s m args below meth c D κ A Z H locs ls hC hW hF
  exact lv_astore hC.1 hC.2.1 hdg hW.2.2.2.2 hb rfl (fun ls' hl => k p l e R s m args below meth c D κ A Z H locs ls' hC (hW.ls (he ▸ kx_set_has hs ho hl)) hF)
theorem ko_lstore_n {j : Fin 4} {i : Nat} {x : Int64} {lv' : List (Nat × Value)} (hdg : decode Y.2.1 pc = .ok (.lstore_n j, 1)) (hi : (j : Nat) = i) (hb : i + 1 < Y.2.2.1) (he : (i, Value.long x) :: lv.filter (fun q => !(q.1 == i) && (!(q.1 == i + 1) && !(q.1 + 1 == i && q.2.category == 2))) = lv') (k : kx_Ok Y d kc ks G cs ss (pc + 1) lv' st N h res) : kx_Ok Y d kc ks G cs ss pc lv (.long x :: st) N h res := by
  intro p l e R s m args below meth c D κ A Z H locs ls hC hW hF
  exact lv_lstore_n hC.1 hC.2.1 hdg hi hW.2.2.2.2 hb he (fun ls' hl => k p l e R s m args below meth c D κ A Z H locs ls' hC (hW.ls hl) hF)
theorem ko_iinc {i : Nat} {n : Int} {x v : Int32} {lv' : List (Nat × Value)} (hdg : decode Y.2.1 pc = .ok (.iinc i n, 3)) (hx : kx_lk lv i = some (.int x)) (hv : x + Int32.ofInt n = v) (hb : i < Y.2.2.1) (hs : kx_nl lv i = true) (ho : kx_on lv = true) (he : kx_set lv i (.int v) = lv') (k : kx_Ok Y d kc ks G cs ss (pc + 3) lv' st N h res) : kx_Ok Y d kc ks G cs ss pc lv st N h res := by
  intro p l e R s m args below meth c D κ A Z H locs ls hC hW hF
  obtain ⟨j, hj⟩ := List.getElem?_of_mem (kx_lk_mem hx)
  exact lv_iinc hC.1 hC.2.1 hdg hW.2.2.2.2 hj hv hb rfl (fun ls' hl => k p l e R s m args below meth c D κ A Z H locs ls' hC (hW.ls (he ▸ kx_set_has hs ho hl)) hF)
theorem ko_if_eq {x : Int32} {off : Int} {tgt : Nat} (hdg : decode Y.2.1 pc = .ok (.ifCond .eq off, 3)) (ht : (pc : Int) + off = (tgt : Int)) (kt : x = 0 → kx_Ok Y d kc ks G cs ss tgt lv st N h res) (kf : ¬ x = 0 → kx_Ok Y d kc ks G cs ss (pc + 3) lv st N h res) : kx_Ok Y d kc ks G cs ss pc lv (.int x :: st) N h res := by
  intro p l e R s m args below meth c D κ A Z H locs ls hC hW hF
  exact lv_if_eq hC.1 hC.2.1 hdg ht (fun z => kt z p l e R s m args below meth c D κ A Z H locs ls hC hW hF) (fun z => kf z p l e R s m args below meth c D κ A Z H locs ls hC hW hF)
theorem ko_icmp_eq {x y : Int32} {off : Int} {tgt : Nat} (hdg : decode Y.2.1 pc = .ok (.if_icmp .eq off, 3)) (ht : (pc : Int) + off = (tgt : Int)) (kt : x = y → kx_Ok Y d kc ks G cs ss tgt lv st N h res) (kf : ¬ x = y → kx_Ok Y d kc ks G cs ss (pc + 3) lv st N h res) : kx_Ok Y d kc ks G cs ss pc lv (.int y :: .int x :: st) N h res := by
  intro p l e R s m args below meth c D κ A Z H locs ls hC hW hF
  exact lv_icmp_eq hC.1 hC.2.1 hdg ht (fun z => kt z p l e R s m args below meth c D κ A Z H locs ls hC hW hF) (fun z => kf z p l e R s m args below meth c D κ A Z H locs ls hC hW hF)
theorem ko_if_ne {x : Int32} {off : Int} {tgt : Nat} (hdg : decode Y.2.1 pc = .ok (.ifCond .ne off, 3)) (ht : (pc : Int) + off = (tgt : Int)) (kt : ¬ x = 0 → kx_Ok Y d kc ks G cs ss tgt lv st N h res) (kf : x = 0 → kx_Ok Y d kc ks G cs ss (pc + 3) lv st N h res) : kx_Ok Y d kc ks G cs ss pc lv (.int x :: st) N h res := by
  intro p l e R s m args below meth c D κ A Z H locs ls hC hW hF
  exact lv_if_ne hC.1 hC.2.1 hdg ht (fun z => kt z p l e R s m args below meth c D κ A Z H locs ls hC hW hF) (fun z => kf z p l e R s m args below meth c D κ A Z H locs ls hC hW hF)
theorem ko_icmp_ne {x y : Int32} {off : Int} {tgt : Nat} (hdg : decode Y.2.1 pc = .ok (.if_icmp .ne off, 3)) (ht : (pc : Int) + off = (tgt : Int)) (kt : ¬ x = y → kx_Ok Y d kc ks G cs ss tgt lv st N h res) (kf : x = y → kx_Ok Y d kc ks G cs ss (pc + 3) lv st N h res) : kx_Ok Y d kc ks G cs ss pc lv (.int y :: .int x :: st) N h res := by
  intro p l e R s m args below meth c D κ A Z H locs ls hC hW hF
  exact lv_icmp_ne hC.1 hC.2.1 hdg ht (fun z => kt z p l e R s m args below meth c D κ A Z H locs ls hC hW hF) (fun z => kf z p l e R s m args below meth c D κ A Z H locs ls hC hW hF)
theorem ko_if_lt {x : Int32} {off : Int} {tgt : Nat} (hdg : decode Y.2.1 pc = .ok (.ifCond .lt off, 3)) (ht : (pc : Int) + off = (tgt : Int)) (kt : x < 0 → kx_Ok Y d kc ks G cs ss tgt lv st N h res) (kf : ¬ x < 0 → kx_Ok Y d kc ks G cs ss (pc + 3) lv st N h res) : kx_Ok Y d kc ks G cs ss pc lv (.int x :: st) N h res := by
  intro p l e R s m args below meth c D κ A Z H locs ls hC hW hF
  exact lv_if_lt hC.1 hC.2.1 hdg ht (fun z => kt z p l e R s m args below meth c D κ A Z H locs ls hC hW hF) (fun z => kf z p l e R s m args below meth c D κ A Z H locs ls hC hW hF)
theorem ko_icmp_lt {x y : Int32} {off : Int} {tgt : Nat} (hdg : decode Y.2.1 pc = .ok (.if_icmp .lt off, 3)) (ht : (pc : Int) + off = (tgt : Int)) (kt : x < y → kx_Ok Y d kc ks G cs ss tgt lv st N h res) (kf : ¬ x < y → kx_Ok Y d kc ks G cs ss (pc + 3) lv st N h res) : kx_Ok Y d kc ks G cs ss pc lv (.int y :: .int x :: st) N h res := by
  intro p l e R s m args below meth c D κ A Z H locs ls hC hW hF
  exact lv_icmp_lt hC.1 hC.2.1 hdg ht (fun z => kt z p l e R s m args below meth c D κ A Z H locs ls hC hW hF) (fun z => kf z p l e R s m args below meth c D κ A Z H locs ls hC hW hF)
theorem ko_if_ge {x : Int32} {off : Int} {tgt : Nat} (hdg : decode Y.2.1 pc = .ok (.ifCond .ge off, 3)) (ht : (pc : Int) + off = (tgt : Int)) (kt : 0 ≤ x → kx_Ok Y d kc ks G cs ss tgt lv st N h res) (kf : ¬ 0 ≤ x → kx_Ok Y d kc ks G cs ss (pc + 3) lv st N h res) : kx_Ok Y d kc ks G cs ss pc lv (.int x :: st) N h res := by
  intro p l e R s m args below meth c D κ A Z H locs ls hC hW hF
  exact lv_if_ge hC.1 hC.2.1 hdg ht (fun z => kt z p l e R s m args below meth c D κ A Z H locs ls hC hW hF) (fun z => kf z p l e R s m args below meth c D κ A Z H locs ls hC hW hF)
theorem ko_icmp_ge {x y : Int32} {off : Int} {tgt : Nat} (hdg : decode Y.2.1 pc = .ok (.if_icmp .ge off, 3)) (ht : (pc : Int) + off = (tgt : Int)) (kt : y ≤ x → kx_Ok Y d kc ks G cs ss tgt lv st N h res) (kf : ¬ y ≤ x → kx_Ok Y d kc ks G cs ss (pc + 3) lv st N h res) : kx_Ok Y d kc ks G cs ss pc lv (.int y :: .int x :: st) N h res := by
  intro p l e R s m args below meth c D κ A Z H locs ls hC hW hF
  exact lv_icmp_ge hC.1 hC.2.1 hdg ht (fun z => kt z p l e R s m args below meth c D κ A Z H locs ls hC hW hF) (fun z => kf z p l e R s m args below meth c D κ A Z H locs ls hC hW hF)
theorem ko_if_gt {x : Int32} {off : Int} {tgt : Nat} (hdg : decode Y.2.1 pc = .ok (.ifCond .gt off, 3)) (ht : (pc : Int) + off = (tgt : Int)) (kt : 0 < x → kx_Ok Y d kc ks G cs ss tgt lv st N h res) (kf : ¬ 0 < x → kx_Ok Y d kc ks G cs ss (pc + 3) lv st N h res) : kx_Ok Y d kc ks G cs ss pc lv (.int x :: st) N h res := by
  intro p l e R s m args below meth c D κ A Z H locs ls hC hW hF
  exact lv_if_gt hC.1 hC.2.1 hdg ht (fun z => kt z p l e R s m args below meth c D κ A Z H locs ls hC hW hF) (fun z => kf z p l e R s m args below meth c D κ A Z H locs ls hC hW hF)
theorem ko_icmp_gt {x y : Int32} {off : Int} {tgt : Nat} (hdg : decode Y.2.1 pc = .ok (.if_icmp .gt off, 3)) (ht : (pc : Int) + off = (tgt : Int)) (kt : y < x → kx_Ok Y d kc ks G cs ss tgt lv st N h res) (kf : ¬ y < x → kx_Ok Y d kc ks G cs ss (pc + 3) lv st N h res) : kx_Ok Y d kc ks G cs ss pc lv (.int y :: .int x :: st) N h res := by
  intro p l e R s m args below meth c D κ A Z H locs ls hC hW hF
  exact lv_icmp_gt hC.1 hC.2.1 hdg ht (fun z => kt z p l e R s m args below meth c D κ A Z H locs ls hC hW hF) (fun z => kf z p l e R s m args below meth c D κ A Z H locs ls hC hW hF)
theorem ko_if_le {x : Int32} {off : Int} {tgt : Nat} (hdg : decode Y.2.1 pc = .ok (.ifCond .le off, 3)) (ht : (pc : Int) + off = (tgt : Int)) (kt : x ≤ 0 → kx_Ok Y d kc ks G cs ss tgt lv st N h res) (kf : ¬ x ≤ 0 → kx_Ok Y d kc ks G cs ss (pc + 3) lv st N h res) : kx_Ok Y d kc ks G cs ss pc lv (.int x :: st) N h res := by
  intro p l e R s m args below meth c D κ A Z H locs ls hC hW hF
  exact lv_if_le hC.1 hC.2.1 hdg ht (fun z => kt z p l e R s m args below meth c D κ A Z H locs ls hC hW hF) (fun z => kf z p l e R s m args below meth c D κ A Z H locs ls hC hW hF)
theorem ko_icmp_le {x y : Int32} {off : Int} {tgt : Nat} (hdg : decode Y.2.1 pc = .ok (.if_icmp .le off, 3)) (ht : (pc : Int) + off = (tgt : Int)) (kt : x ≤ y → kx_Ok Y d kc ks G cs ss tgt lv st N h res) (kf : ¬ x ≤ y → kx_Ok Y d kc ks G cs ss (pc + 3) lv st N h res) : kx_Ok Y d kc ks G cs ss pc lv (.int y :: .int x :: st) N h res := by
  intro p l e R s m args below meth c D κ A Z H locs ls hC hW hF
  exact lv_icmp_le hC.1 hC.2.1 hdg ht (fun z => kt z p l e R s m args below meth c D κ A Z H locs ls hC hW hF) (fun z => kf z p l e R s m args below meth c D κ A Z H locs ls hC hW hF)
theorem ko_lcmp {x y : Int64} (hdg : decode Y.2.1 pc = .ok (.lcmp, 1)) (k : kx_Ok Y d kc ks G cs ss (pc + 1) lv (.int (lg_cmp x y) :: st) N h res) : kx_Ok Y d kc ks G cs ss pc lv (.long y :: .long x :: st) N h res := by
  intro p l e R s m args below meth c D κ A Z H locs ls hC hW hF
  exact W.lcmp hC.1 hC.2.1 hdg (k p l e R s m args below meth c D κ A Z H locs ls hC hW hF)
theorem ko_tableOut {dflt lo hi : Int} {offs : Array Int} {len tgt : Nat} {x : Int32} (hdg : decode Y.2.1 pc = .ok (.tableswitch dflt lo hi offs, len)) (hx : x.toInt < lo ∨ hi < x.toInt) (ht : (pc : Int) + dflt = (tgt : Int)) (k : kx_Ok Y d kc ks G cs ss tgt lv st N h res) : kx_Ok Y d kc ks G cs ss pc lv (.int x :: st) N h res := by
  intro p l e R s m args below meth c D κ A Z H locs ls hC hW hF
  exact lv_tableOut hC.1 hC.2.1 hdg hx ht (k p l e R s m args below meth c D κ A Z H locs ls hC hW hF)
theorem ko_tableIn {dflt lo hi : Int} {offs : Array Int} {len tgt : Nat} {x : Int32} {off : Int} (hdg : decode Y.2.1 pc = .ok (.tableswitch dflt lo hi offs, len)) (h1 : ¬ x.toInt < lo) (h2 : ¬ hi < x.toInt) (hof : offs[(x.toInt - lo).toNat]? = some off) (ht : (pc : Int) + off = (tgt : Int)) (k : kx_Ok Y d kc ks G cs ss tgt lv st N h res) : kx_Ok Y d kc ks G cs ss pc lv (.int x :: st) N h res := by
  intro p l e R s m args below meth c D κ A Z H locs ls hC hW hF
  exact lv_tableIn hC.1 hC.2.1 hdg h1 h2 hof ht (k p l e R s m args below meth c D κ A Z H locs ls hC hW hF)
theorem ko_iret {v : Int32} (hdg : decode Y.2.1 pc = .ok (.ireturn, 1)) (hr : Y.2.2.2 = some .int) (h1 : cs ≤ kc) (h2 : ss ≤ ks) (he : res = (some (.int v), N, h)) : kx_Ok Y d kc ks G cs ss pc lv [.int v] N h res := by
  intro p l e R s m args below meth c D κ A Z H locs ls hC hW hF
  subst he
  have hdg' : decode Y.2.1 pc = .ok (kx_rop Y.2.2.2, 1) := by rw [hr]; exact hdg
  have hfit : kx_fit Y.2.2.2 (some (.int v)) := by rw [hr]; exact trivial
  exact W.widen h1 h2 (hF H locs ls pc hW.1 hW.2.1 hW.2.2.1 hW.2.2.2.1 hdg' hfit)
theorem ko_zret {v : Int32} (hdg : decode Y.2.1 pc = .ok (.ireturn, 1)) (hr : Y.2.2.2 = some .boolean) (hz : narrow .boolean (.int v) = .int v) (h1 : cs ≤ kc) (h2 : ss ≤ ks) (he : res = (some (.int v), N, h)) : kx_Ok Y d kc ks G cs ss pc lv [.int v] N h res := by
  intro p l e R s m args below meth c D κ A Z H locs ls hC hW hF
  subst he
  have hdg' : decode Y.2.1 pc = .ok (kx_rop Y.2.2.2, 1) := by rw [hr]; exact hdg
  have hfit : kx_fit Y.2.2.2 (some (.int v)) := by rw [hr]; exact hz
  exact W.widen h1 h2 (hF H locs ls pc hW.1 hW.2.1 hW.2.2.1 hW.2.2.2.1 hdg' hfit)
theorem ko_lret {v : Int64} (hdg : decode Y.2.1 pc = .ok (.lreturn, 1)) (hr : Y.2.2.2 = some .long) (h1 : cs ≤ kc) (h2 : ss ≤ ks) (he : res = (some (.long v), N, h)) : kx_Ok Y d kc ks G cs ss pc lv [.long v] N h res := by
  intro p l e R s m args below meth c D κ A Z H locs ls hC hW hF
  subst he
  have hdg' : decode Y.2.1 pc = .ok (kx_rop Y.2.2.2, 1) := by rw [hr]; exact hdg
  have hfit : kx_fit Y.2.2.2 (some (.long v)) := by rw [hr]; exact trivial
  exact W.widen h1 h2 (hF H locs ls pc hW.1 hW.2.1 hW.2.2.1 hW.2.2.2.1 hdg' hfit)
theorem ko_vret (hdg : decode Y.2.1 pc = .ok (.return_, 1)) (hr : Y.2.2.2 = none) (h1 : cs ≤ kc) (h2 : ss ≤ ks) (he : res = (none, N, h)) : kx_Ok Y d kc ks G cs ss pc lv [] N h res := by
  intro p l e R s m args below meth c D κ A Z H locs ls hC hW hF
  subst he
  have hdg' : decode Y.2.1 pc = .ok (kx_rop Y.2.2.2, 1) := by rw [hr]; exact hdg
  have hfit : kx_fit Y.2.2.2 (none) := by rw [hr]; exact trivial
  exact W.widen h1 h2 (hF H locs ls pc hW.1 hW.2.1 hW.2.2.1 hW.2.2.2.1 hdg' hfit)
end KO
end
section
/-! ===== which word stands where: laid by program (wip/whole/gen/links.py) ===== -/
abbrev mX4_init : kx_Y := (yX4_init, cX4_init, 2, none)
abbrev mX1_init : kx_Y := (yX1_init, cX1_init, 1, none)
abbrev mX2_init : kx_Y := (yX2_init, cX2_init, 1, none)
abbrev mX0_init : kx_Y := (yX0_init, cX0_init, 2, none)
abbrev mX3_init : kx_Y := (yX3_init, cX3_init, 1, none)
abbrev mX4_write : kx_Y := (yX4_write, cX4_write, 2, some .int)
abbrev mX1_append : kx_Y := (yX1_append, cX1_append, 2, some .boolean)
abbrev mX4_wipe : kx_Y := (yX4_wipe, cX4_wipe, 2, some .int)
abbrev mX4_fault : kx_Y := (yX4_fault, cX4_fault, 1, some .int)
abbrev mX1_readLand : kx_Y := (yX1_readLand, cX1_readLand, 4, some .int)
abbrev mX2_clear : kx_Y := (yX2_clear, cX2_clear, 2, none)
abbrev mX1_letterAt : kx_Y := (yX1_letterAt, cX1_letterAt, 2, some .int)
abbrev mX1_readPerson : kx_Y := (yX1_readPerson, cX1_readPerson, 5, some .int)
abbrev mX1_digitAt : kx_Y := (yX1_digitAt, cX1_digitAt, 3, some .int)
abbrev mX2_add : kx_Y := (yX2_add, cX2_add, 4, none)
abbrev mX1_readKin : kx_Y := (yX1_readKin, cX1_readKin, 5, some .int)
abbrev mX1_isPairLeft : kx_Y := (yX1_isPairLeft, cX1_isPairLeft, 2, some .boolean)
abbrev mX2_laterStrangers : kx_Y := (yX2_laterStrangers, cX2_laterStrangers, 2, some .int)
abbrev mX2_has : kx_Y := (yX2_has, cX2_has, 2, some .boolean)
abbrev mX2_everyone : kx_Y := (yX2_everyone, cX2_everyone, 1, some .int)
abbrev mX4_hasBit : kx_Y := (yX4_hasBit, cX4_hasBit, 2, some .boolean)
abbrev mX2_makeKin : kx_Y := (yX2_makeKin, cX2_makeKin, 3, none)
abbrev mX4_land : kx_Y := (yX4_land, cX4_land, 2, some .int)
abbrev mX2_copyFrom : kx_Y := (yX2_copyFrom, cX2_copyFrom, 2, none)
abbrev mX0_forgetAll : kx_Y := (yX0_forgetAll, cX0_forgetAll, 1, none)
abbrev mX4_about : kx_Y := (yX4_about, cX4_about, 2, some .int)
abbrev mX2_allSorrow : kx_Y := (yX2_allSorrow, cX2_allSorrow, 3, some .int)
abbrev mX4_person : kx_Y := (yX4_person, cX4_person, 3, some .int)
abbrev mX2_ounces : kx_Y := (yX2_ounces, cX2_ounces, 2, some .int)
abbrev mX2_thoseToWeepFor : kx_Y := (yX2_thoseToWeepFor, cX2_thoseToWeepFor, 4, some .int)
abbrev mX2_mayWeep : kx_Y := (yX2_mayWeep, cX2_mayWeep, 3, some .boolean)
abbrev mX2_isOpen : kx_Y := (yX2_isOpen, cX2_isOpen, 2, some .boolean)
abbrev mX2_isFitFor : kx_Y := (yX2_isFitFor, cX2_isFitFor, 3, some .boolean)
abbrev mX2_areKin : kx_Y := (yX2_areKin, cX2_areKin, 3, some .boolean)
abbrev mX4_owes : kx_Y := (yX4_owes, cX4_owes, 3, some .int)
abbrev mX2_debt : kx_Y := (yX2_debt, cX2_debt, 3, some .int)
abbrev mX4_funeral : kx_Y := (yX4_funeral, cX4_funeral, 2, some .int)
abbrev mX0_remember : kx_Y := (yX0_remember, cX0_remember, 2, none)
abbrev mX2_bereave : kx_Y := (yX2_bereave, cX2_bereave, 2, none)
abbrev mX4_weep : kx_Y := (yX4_weep, cX4_weep, 3, some .int)
abbrev mX2_weepFor : kx_Y := (yX2_weepFor, cX2_weepFor, 4, some .int)
abbrev mX2_settle : kx_Y := (yX2_settle, cX2_settle, 3, none)
abbrev mX4_onions : kx_Y := (yX4_onions, cX4_onions, 3, some .int)
abbrev mX2_mayUseOnions : kx_Y := (yX2_mayUseOnions, cX2_mayUseOnions, 3, some .boolean)
abbrev mX2_useOnions : kx_Y := (yX2_useOnions, cX2_useOnions, 3, none)
abbrev mX4_week : kx_Y := (yX4_week, cX4_week, 1, some .int)
abbrev mX2_passWeek : kx_Y := (yX2_passWeek, cX2_passWeek, 2, none)
abbrev mX4_undo : kx_Y := (yX4_undo, cX4_undo, 1, some .int)
abbrev mX0_takeLast : kx_Y := (yX0_takeLast, cX0_takeLast, 2, none)
abbrev mX4_served : kx_Y := (yX4_served, cX4_served, 2, some .int)
abbrev mX2_unbereaved : kx_Y := (yX2_unbereaved, cX2_unbereaved, 1, some .int)
abbrev mX3_search : kx_Y := (yX3_search, cX3_search, 4, some .int)
abbrev mX3_give : kx_Y := (yX3_give, cX3_give, 10, none)
abbrev mX3_compare : kx_Y := (yX3_compare, cX3_compare, 4, none)
abbrev mX4_nobody : kx_Y := (yX4_nobody, cX4_nobody, 2, some .int)
abbrev mX2_unweptBits : kx_Y := (yX2_unweptBits, cX2_unweptBits, 3, some .int)
abbrev mX2_kinToAllBits : kx_Y := (yX2_kinToAllBits, cX2_kinToAllBits, 3, some .int)
abbrev mX4_till : kx_Y := (yX4_till, cX4_till, 4, some .int)
abbrev mX4_net : kx_Y := (yX4_net, cX4_net, 4, some .int)
abbrev mX4_ring : kx_Y := (yX4_ring, cX4_ring, 3, some .int)
abbrev mX2_reachedByDebts : kx_Y := (yX2_reachedByDebts, cX2_reachedByDebts, 5, some .int)
abbrev mX2_creditors : kx_Y := (yX2_creditors, cX2_creditors, 4, some .int)
abbrev mX4_share : kx_Y := (yX4_share, cX4_share, 9, some .int)
abbrev mX4_fraction : kx_Y := (yX4_fraction, cX4_fraction, 7, some .int)
abbrev mX4_factorial : kx_Y := (yX4_factorial, cX4_factorial, 1, some .int)
abbrev mX4_gain : kx_Y := (yX4_gain, cX4_gain, 4, some .int)
abbrev mX4_weighed : kx_Y := (yX4_weighed, cX4_weighed, 8, some .int)
abbrev mX4_weight : kx_Y := (yX4_weight, cX4_weight, 5, some .int)
abbrev mX4_whose : kx_Y := (yX4_whose, cX4_whose, 4, some .int)
abbrev mX4_rests : kx_Y := (yX4_rests, cX4_rests, 11, some .int)
abbrev mX4_isAtRest : kx_Y := (yX4_isAtRest, cX4_isAtRest, 7, some .boolean)
abbrev mX4_gotByOne : kx_Y := (yX4_gotByOne, cX4_gotByOne, 4, some .int)
abbrev mX4_oneWeeps : kx_Y := (yX4_oneWeeps, cX4_oneWeeps, 4, some .boolean)
abbrev mX4_got : kx_Y := (yX4_got, cX4_got, 3, some .int)
abbrev mX4_gotByOther : kx_Y := (yX4_gotByOther, cX4_gotByOther, 5, some .int)
abbrev mX4_chance : kx_Y := (yX4_chance, cX4_chance, 8, some .int)
abbrev mX4_allServed : kx_Y := (yX4_allServed, cX4_allServed, 2, some .boolean)
abbrev mX4_power : kx_Y := (yX4_power, cX4_power, 4, some .int)
abbrev mX4_seed : kx_Y := (yX4_seed, cX4_seed, 5, some .long)
abbrev mX4_years : kx_Y := (yX4_years, cX4_years, 5, some .int)
abbrev mX4_keep : kx_Y := (yX4_keep, cX4_keep, 2, some .int)
abbrev mX4_again : kx_Y := (yX4_again, cX4_again, 2, some .int)
abbrev mX5_init : kx_Y := (yX5_init, cX5_init, 1, none)
abbrev mX5_write : kx_Y := (yX5_write, cX5_write, 2, some .int)
abbrev mX5_in : kx_Y := (yX5_in, cX5_in, 6, some .boolean)
abbrev mX5_wipe : kx_Y := (yX5_wipe, cX5_wipe, 2, some .int)
abbrev mX5_fault : kx_Y := (yX5_fault, cX5_fault, 1, some .int)
abbrev mX5_readLand : kx_Y := (yX5_readLand, cX5_readLand, 1, some .int)
abbrev mX5_readPart : kx_Y := (yX5_readPart, cX5_readPart, 2, some .boolean)
abbrev mX5_readPerson : kx_Y := (yX5_readPerson, cX5_readPerson, 4, some .boolean)
abbrev mX5_figure : kx_Y := (yX5_figure, cX5_figure, 3, some .int)
abbrev mX5_arePairs : kx_Y := (yX5_arePairs, cX5_arePairs, 3, some .boolean)
abbrev mX5_pairsOf : kx_Y := (yX5_pairsOf, cX5_pairsOf, 4, some .int)
abbrev mX5_has : kx_Y := (yX5_has, cX5_has, 2, some .boolean)
abbrev mX5_readKin : kx_Y := (yX5_readKin, cX5_readKin, 3, some .boolean)
abbrev mX5_land : kx_Y := (yX5_land, cX5_land, 2, some .int)
abbrev mX5_about : kx_Y := (yX5_about, cX5_about, 4, some .int)
abbrev mX5_person : kx_Y := (yX5_person, cX5_person, 3, some .int)
abbrev mX5_noPerson : kx_Y := (yX5_noPerson, cX5_noPerson, 2, some .boolean)
abbrev mX5_ouncesOf : kx_Y := (yX5_ouncesOf, cX5_ouncesOf, 5, some .int)
abbrev mX5_mayFor : kx_Y := (yX5_mayFor, cX5_mayFor, 4, some .int)
abbrev mX5_mayWeep : kx_Y := (yX5_mayWeep, cX5_mayWeep, 4, some .boolean)
abbrev mX5_isFree : kx_Y := (yX5_isFree, cX5_isFree, 4, some .boolean)
abbrev mX5_owes : kx_Y := (yX5_owes, cX5_owes, 3, some .int)
abbrev mX5_funeral : kx_Y := (yX5_funeral, cX5_funeral, 2, some .int)
abbrev mX5_note : kx_Y := (yX5_note, cX5_note, 2, none)
abbrev mX5_open : kx_Y := (yX5_open, cX5_open, 3, none)
abbrev mX5_many : kx_Y := (yX5_many, cX5_many, 3, some .int)
abbrev mX5_weep : kx_Y := (yX5_weep, cX5_weep, 3, some .int)
abbrev mX5_goWeep : kx_Y := (yX5_goWeep, cX5_goWeep, 5, some .int)
abbrev mX5_close : kx_Y := (yX5_close, cX5_close, 4, none)
abbrev mX5_onions : kx_Y := (yX5_onions, cX5_onions, 3, some .int)
abbrev mX5_week : kx_Y := (yX5_week, cX5_week, 1, some .int)
abbrev mX5_goWeek : kx_Y := (yX5_goWeek, cX5_goWeek, 3, none)
abbrev mX5_undo : kx_Y := (yX5_undo, cX5_undo, 2, some .int)
abbrev mX5_served : kx_Y := (yX5_served, cX5_served, 2, some .int)
abbrev mX5_everyone : kx_Y := (yX5_everyone, cX5_everyone, 1, some .int)
abbrev mX5_findServed : kx_Y := (yX5_findServed, cX5_findServed, 15, none)
abbrev mX5_power : kx_Y := (yX5_power, cX5_power, 4, some .int)
abbrev mX5_nobody : kx_Y := (yX5_nobody, cX5_nobody, 6, some .int)
abbrev mX5_till : kx_Y := (yX5_till, cX5_till, 4, some .int)
abbrev mX5_begin : kx_Y := (yX5_begin, cX5_begin, 2, none)
abbrev mX5_net : kx_Y := (yX5_net, cX5_net, 4, some .int)
abbrev mX5_ring : kx_Y := (yX5_ring, cX5_ring, 8, some .int)
abbrev mX5_share : kx_Y := (yX5_share, cX5_share, 8, some .int)
abbrev mX5_orders : kx_Y := (yX5_orders, cX5_orders, 3, some .int)
abbrev mX5_fraction : kx_Y := (yX5_fraction, cX5_fraction, 4, some .int)
abbrev mX5_divisor : kx_Y := (yX5_divisor, cX5_divisor, 5, some .int)
abbrev mX5_weighed : kx_Y := (yX5_weighed, cX5_weighed, 10, some .int)
abbrev mX5_whose : kx_Y := (yX5_whose, cX5_whose, 4, some .int)
abbrev mX5_rests : kx_Y := (yX5_rests, cX5_rests, 5, some .int)
abbrev mX5_findRests : kx_Y := (yX5_findRests, cX5_findRests, 10, none)
abbrev mX5_gainOf : kx_Y := (yX5_gainOf, cX5_gainOf, 11, some .int)
abbrev mX5_chance : kx_Y := (yX5_chance, cX5_chance, 9, some .int)
abbrev mX5_seed : kx_Y := (yX5_seed, cX5_seed, 5, some .long)
abbrev mX5_years : kx_Y := (yX5_years, cX5_years, 7, some .int)
abbrev mX5_keep : kx_Y := (yX5_keep, cX5_keep, 3, some .int)
abbrev mX5_again : kx_Y := (yX5_again, cX5_again, 3, some .int)
/-- a class of the worlds: its row, its fields' words -/
theorem kc_in0 : ∀ w ∈ u_ws RX0 TX0 3, w ∈ kx_tbl := by
  have h : ∀ w ∈ u_ws RX0 TX0 3, w ∈ lw_tbl := by decide +kernel
  have g : ∀ w ∈ u_ws RX0 TX0 3, goodWord w = true := by decide +kernel
  exact fun w hw => kx_in (h w hw) (g w hw)
theorem kc_0 : kx_cls 0 RX0 TX0 3 := ⟨rfl, kc_in0, tyX0, tyX0_ok, nmX0⟩
theorem kc_in1 : ∀ w ∈ u_ws RX1 TX1 3, w ∈ kx_tbl := by
  have h : ∀ w ∈ u_ws RX1 TX1 3, w ∈ lw_tbl := by decide +kernel
  have g : ∀ w ∈ u_ws RX1 TX1 3, goodWord w = true := by decide +kernel
  exact fun w hw => kx_in (h w hw) (g w hw)
theorem kc_1 : kx_cls 1 RX1 TX1 3 := ⟨rfl, kc_in1, tyX1, tyX1_ok, nmX1⟩
theorem kc_in2 : ∀ w ∈ u_ws RX2 TX2 9, w ∈ kx_tbl := by
  have h : ∀ w ∈ u_ws RX2 TX2 9, w ∈ lw_tbl := by decide +kernel
  have g : ∀ w ∈ u_ws RX2 TX2 9, goodWord w = true := by decide +kernel
  exact fun w hw => kx_in (h w hw) (g w hw)
theorem kc_2 : kx_cls 2 RX2 TX2 9 := ⟨rfl, kc_in2, tyX2, tyX2_ok, nmX2⟩
theorem kc_in3 : ∀ w ∈ u_ws RX3 TX3 4, w ∈ kx_tbl := by
  have h : ∀ w ∈ u_ws RX3 TX3 4, w ∈ lw_tbl := by decide +kernel
  have g : ∀ w ∈ u_ws RX3 TX3 4, goodWord w = true := by decide +kernel
  exact fun w hw => kx_in (h w hw) (g w hw)
theorem kc_3 : kx_cls 3 RX3 TX3 4 := ⟨rfl, kc_in3, tyX3, tyX3_ok, nmX3⟩
theorem kc_in4 : ∀ w ∈ u_ws RX4 TX4 8, w ∈ kx_tbl := by
  have h : ∀ w ∈ u_ws RX4 TX4 8, w ∈ lw_tbl := by decide +kernel
  have g : ∀ w ∈ u_ws RX4 TX4 8, goodWord w = true := by decide +kernel
  exact fun w hw => kx_in (h w hw) (g w hw)
theorem kc_4 : kx_cls 4 RX4 TX4 8 := ⟨rfl, kc_in4, tyX4, tyX4_ok, nmX4⟩
theorem kc_in5 : ∀ w ∈ u_ws RX5 TX5 22, w ∈ kx_tbl := by
  have h : ∀ w ∈ u_ws RX5 TX5 22, w ∈ lw_tbl := by decide +kernel
  have g : ∀ w ∈ u_ws RX5 TX5 22, goodWord w = true := by decide +kernel
  exact fun w hw => kx_in (h w hw) (g w hw)
theorem kc_5 : kx_cls 5 RX5 TX5 22 := ⟨rfl, kc_in5, tyX5, tyX5_ok, nmX5⟩
theorem wi_RL : Cond.initialized RL ∈ kx_tbl := kx_in (List.mem_of_getElem? (i := 33) (by decide +kernel)) (by decide +kernel)
theorem wi_RX4 : Cond.initialized RX4 ∈ kx_tbl := kx_in (List.mem_of_getElem? (i := 34) (by decide +kernel)) (by decide +kernel)
theorem wi_RX1 : Cond.initialized RX1 ∈ kx_tbl := kx_in (List.mem_of_getElem? (i := 35) (by decide +kernel)) (by decide +kernel)
theorem wi_RX2 : Cond.initialized RX2 ∈ kx_tbl := kx_in (List.mem_of_getElem? (i := 36) (by decide +kernel)) (by decide +kernel)
theorem wi_RX0 : Cond.initialized RX0 ∈ kx_tbl := kx_in (List.mem_of_getElem? (i := 37) (by decide +kernel)) (by decide +kernel)
theorem wi_RX3 : Cond.initialized RX3 ∈ kx_tbl := kx_in (List.mem_of_getElem? (i := 38) (by decide +kernel)) (by decide +kernel)
theorem wi_RX5 : Cond.initialized RX5 ∈ kx_tbl := kx_in (List.mem_of_getElem? (i := 39) (by decide +kernel)) (by decide +kernel)
theorem wi_sys : Cond.initialized "java/lang/System" ∈ kx_tbl := kx_in (List.mem_of_getElem? (i := 40) (by decide +kernel)) (by decide +kernel)
theorem wc_X4_init : Cond.code mX4_init.1 mX4_init.2.1 mX4_init.2.2.1 mX4_init.2.2.2 ∈ kx_tbl := kx_in (List.mem_of_getElem? (i := 47) (by decide +kernel)) (by decide +kernel)
theorem wm_X4_init : Cond.instanceMethod yX4_init ∈ kx_tbl := kx_in (List.mem_of_getElem? (i := 46) (by decide +kernel)) (by decide +kernel)
theorem wc_X1_init : Cond.code mX1_init.1 mX1_init.2.1 mX1_init.2.2.1 mX1_init.2.2.2 ∈ kx_tbl := kx_in (List.mem_of_getElem? (i := 55) (by decide +kernel)) (by decide +kernel)
theorem wm_X1_init : Cond.instanceMethod yX1_init ∈ kx_tbl := kx_in (List.mem_of_getElem? (i := 54) (by decide +kernel)) (by decide +kernel)
theorem wc_X2_init : Cond.code mX2_init.1 mX2_init.2.1 mX2_init.2.2.1 mX2_init.2.2.2 ∈ kx_tbl := kx_in (List.mem_of_getElem? (i := 61) (by decide +kernel)) (by decide +kernel)
theorem wm_X2_init : Cond.instanceMethod yX2_init ∈ kx_tbl := kx_in (List.mem_of_getElem? (i := 60) (by decide +kernel)) (by decide +kernel)
theorem wc_X0_init : Cond.code mX0_init.1 mX0_init.2.1 mX0_init.2.2.1 mX0_init.2.2.2 ∈ kx_tbl := kx_in (List.mem_of_getElem? (i := 119) (by decide +kernel)) (by decide +kernel)
theorem wm_X0_init : Cond.instanceMethod yX0_init ∈ kx_tbl := kx_in (List.mem_of_getElem? (i := 118) (by decide +kernel)) (by decide +kernel)
theorem wc_X3_init : Cond.code mX3_init.1 mX3_init.2.1 mX3_init.2.2.1 mX3_init.2.2.2 ∈ kx_tbl := kx_in (List.mem_of_getElem? (i := 139) (by decide +kernel)) (by decide +kernel)
theorem wm_X3_init : Cond.instanceMethod yX3_init ∈ kx_tbl := kx_in (List.mem_of_getElem? (i := 138) (by decide +kernel)) (by decide +kernel)
theorem wc_X4_write : Cond.code mX4_write.1 mX4_write.2.1 mX4_write.2.2.1 mX4_write.2.2.2 ∈ kx_tbl := kx_in (List.mem_of_getElem? (i := 186) (by decide +kernel)) (by decide +kernel)
theorem wm_X4_write : Cond.instanceMethod yX4_write ∈ kx_tbl := kx_in (List.mem_of_getElem? (i := 184) (by decide +kernel)) (by decide +kernel)
theorem ww_X4_write : Cond.selects yX4_write.cls yX4_write yX4_write ∈ kx_tbl := kx_in (List.mem_of_getElem? (i := 185) (by decide +kernel)) (by decide +kernel)
theorem wc_X1_append : Cond.code mX1_append.1 mX1_append.2.1 mX1_append.2.2.1 mX1_append.2.2.2 ∈ kx_tbl := kx_in (List.mem_of_getElem? (i := 190) (by decide +kernel)) (by decide +kernel)
theorem wm_X1_append : Cond.instanceMethod yX1_append ∈ kx_tbl := kx_in (List.mem_of_getElem? (i := 188) (by decide +kernel)) (by decide +kernel)
theorem ww_X1_append : Cond.selects yX1_append.cls yX1_append yX1_append ∈ kx_tbl := kx_in (List.mem_of_getElem? (i := 189) (by decide +kernel)) (by decide +kernel)
theorem wc_X4_wipe : Cond.code mX4_wipe.1 mX4_wipe.2.1 mX4_wipe.2.2.1 mX4_wipe.2.2.2 ∈ kx_tbl := kx_in (List.mem_of_getElem? (i := 194) (by decide +kernel)) (by decide +kernel)
theorem wm_X4_wipe : Cond.instanceMethod yX4_wipe ∈ kx_tbl := kx_in (List.mem_of_getElem? (i := 192) (by decide +kernel)) (by decide +kernel)
theorem ww_X4_wipe : Cond.selects yX4_wipe.cls yX4_wipe yX4_wipe ∈ kx_tbl := kx_in (List.mem_of_getElem? (i := 193) (by decide +kernel)) (by decide +kernel)
theorem wc_X4_fault : Cond.code mX4_fault.1 mX4_fault.2.1 mX4_fault.2.2.1 mX4_fault.2.2.2 ∈ kx_tbl := kx_in (List.mem_of_getElem? (i := 198) (by decide +kernel)) (by decide +kernel)
theorem wm_X4_fault : Cond.instanceMethod yX4_fault ∈ kx_tbl := kx_in (List.mem_of_getElem? (i := 196) (by decide +kernel)) (by decide +kernel)
theorem ww_X4_fault : Cond.selects yX4_fault.cls yX4_fault yX4_fault ∈ kx_tbl := kx_in (List.mem_of_getElem? (i := 197) (by decide +kernel)) (by decide +kernel)
theorem wc_X1_readLand : Cond.code mX1_readLand.1 mX1_readLand.2.1 mX1_readLand.2.2.1 mX1_readLand.2.2.2 ∈ kx_tbl := kx_in (List.mem_of_getElem? (i := 202) (by decide +kernel)) (by decide +kernel)
theorem wm_X1_readLand : Cond.instanceMethod yX1_readLand ∈ kx_tbl := kx_in (List.mem_of_getElem? (i := 200) (by decide +kernel)) (by decide +kernel)
theorem ww_X1_readLand : Cond.selects yX1_readLand.cls yX1_readLand yX1_readLand ∈ kx_tbl := kx_in (List.mem_of_getElem? (i := 201) (by decide +kernel)) (by decide +kernel)
theorem wc_X2_clear : Cond.code mX2_clear.1 mX2_clear.2.1 mX2_clear.2.2.1 mX2_clear.2.2.2 ∈ kx_tbl := kx_in (List.mem_of_getElem? (i := 206) (by decide +kernel)) (by decide +kernel)
theorem wm_X2_clear : Cond.instanceMethod yX2_clear ∈ kx_tbl := kx_in (List.mem_of_getElem? (i := 204) (by decide +kernel)) (by decide +kernel)
theorem ww_X2_clear : Cond.selects yX2_clear.cls yX2_clear yX2_clear ∈ kx_tbl := kx_in (List.mem_of_getElem? (i := 205) (by decide +kernel)) (by decide +kernel)
theorem wc_X1_letterAt : Cond.code mX1_letterAt.1 mX1_letterAt.2.1 mX1_letterAt.2.2.1 mX1_letterAt.2.2.2 ∈ kx_tbl := kx_in (List.mem_of_getElem? (i := 210) (by decide +kernel)) (by decide +kernel)
theorem wm_X1_letterAt : Cond.instanceMethod yX1_letterAt ∈ kx_tbl := kx_in (List.mem_of_getElem? (i := 209) (by decide +kernel)) (by decide +kernel)
theorem ww_X1_letterAt : Cond.selects yX1_letterAt.cls yX1_letterAt yX1_letterAt ∈ kx_tbl := kx_in (List.mem_of_getElem? (i := 0) (by decide +kernel)) (by decide +kernel)
theorem wc_X1_readPerson : Cond.code mX1_readPerson.1 mX1_readPerson.2.1 mX1_readPerson.2.2.1 mX1_readPerson.2.2.2 ∈ kx_tbl := kx_in (List.mem_of_getElem? (i := 214) (by decide +kernel)) (by decide +kernel)
theorem wm_X1_readPerson : Cond.instanceMethod yX1_readPerson ∈ kx_tbl := kx_in (List.mem_of_getElem? (i := 213) (by decide +kernel)) (by decide +kernel)
theorem ww_X1_readPerson : Cond.selects yX1_readPerson.cls yX1_readPerson yX1_readPerson ∈ kx_tbl := kx_in (List.mem_of_getElem? (i := 1) (by decide +kernel)) (by decide +kernel)
theorem wc_X1_digitAt : Cond.code mX1_digitAt.1 mX1_digitAt.2.1 mX1_digitAt.2.2.1 mX1_digitAt.2.2.2 ∈ kx_tbl := kx_in (List.mem_of_getElem? (i := 218) (by decide +kernel)) (by decide +kernel)
theorem wm_X1_digitAt : Cond.instanceMethod yX1_digitAt ∈ kx_tbl := kx_in (List.mem_of_getElem? (i := 217) (by decide +kernel)) (by decide +kernel)
theorem ww_X1_digitAt : Cond.selects yX1_digitAt.cls yX1_digitAt yX1_digitAt ∈ kx_tbl := kx_in (List.mem_of_getElem? (i := 2) (by decide +kernel)) (by decide +kernel)
theorem wc_X2_add : Cond.code mX2_add.1 mX2_add.2.1 mX2_add.2.2.1 mX2_add.2.2.2 ∈ kx_tbl := kx_in (List.mem_of_getElem? (i := 222) (by decide +kernel)) (by decide +kernel)
theorem wm_X2_add : Cond.instanceMethod yX2_add ∈ kx_tbl := kx_in (List.mem_of_getElem? (i := 220) (by decide +kernel)) (by decide +kernel)
theorem ww_X2_add : Cond.selects yX2_add.cls yX2_add yX2_add ∈ kx_tbl := kx_in (List.mem_of_getElem? (i := 221) (by decide +kernel)) (by decide +kernel)
theorem wc_X1_readKin : Cond.code mX1_readKin.1 mX1_readKin.2.1 mX1_readKin.2.2.1 mX1_readKin.2.2.2 ∈ kx_tbl := kx_in (List.mem_of_getElem? (i := 226) (by decide +kernel)) (by decide +kernel)
theorem wm_X1_readKin : Cond.instanceMethod yX1_readKin ∈ kx_tbl := kx_in (List.mem_of_getElem? (i := 225) (by decide +kernel)) (by decide +kernel)
theorem ww_X1_readKin : Cond.selects yX1_readKin.cls yX1_readKin yX1_readKin ∈ kx_tbl := kx_in (List.mem_of_getElem? (i := 3) (by decide +kernel)) (by decide +kernel)
theorem wc_X1_isPairLeft : Cond.code mX1_isPairLeft.1 mX1_isPairLeft.2.1 mX1_isPairLeft.2.2.1 mX1_isPairLeft.2.2.2 ∈ kx_tbl := kx_in (List.mem_of_getElem? (i := 230) (by decide +kernel)) (by decide +kernel)
theorem wm_X1_isPairLeft : Cond.instanceMethod yX1_isPairLeft ∈ kx_tbl := kx_in (List.mem_of_getElem? (i := 229) (by decide +kernel)) (by decide +kernel)
theorem ww_X1_isPairLeft : Cond.selects yX1_isPairLeft.cls yX1_isPairLeft yX1_isPairLeft ∈ kx_tbl := kx_in (List.mem_of_getElem? (i := 4) (by decide +kernel)) (by decide +kernel)
theorem wc_X2_laterStrangers : Cond.code mX2_laterStrangers.1 mX2_laterStrangers.2.1 mX2_laterStrangers.2.2.1 mX2_laterStrangers.2.2.2 ∈ kx_tbl := kx_in (List.mem_of_getElem? (i := 234) (by decide +kernel)) (by decide +kernel)
theorem wm_X2_laterStrangers : Cond.instanceMethod yX2_laterStrangers ∈ kx_tbl := kx_in (List.mem_of_getElem? (i := 232) (by decide +kernel)) (by decide +kernel)
theorem ww_X2_laterStrangers : Cond.selects yX2_laterStrangers.cls yX2_laterStrangers yX2_laterStrangers ∈ kx_tbl := kx_in (List.mem_of_getElem? (i := 233) (by decide +kernel)) (by decide +kernel)
theorem wc_X2_has : Cond.code mX2_has.1 mX2_has.2.1 mX2_has.2.2.1 mX2_has.2.2.2 ∈ kx_tbl := kx_in (List.mem_of_getElem? (i := 238) (by decide +kernel)) (by decide +kernel)
theorem wm_X2_has : Cond.instanceMethod yX2_has ∈ kx_tbl := kx_in (List.mem_of_getElem? (i := 236) (by decide +kernel)) (by decide +kernel)
theorem ww_X2_has : Cond.selects yX2_has.cls yX2_has yX2_has ∈ kx_tbl := kx_in (List.mem_of_getElem? (i := 237) (by decide +kernel)) (by decide +kernel)
theorem wc_X2_everyone : Cond.code mX2_everyone.1 mX2_everyone.2.1 mX2_everyone.2.2.1 mX2_everyone.2.2.2 ∈ kx_tbl := kx_in (List.mem_of_getElem? (i := 242) (by decide +kernel)) (by decide +kernel)
theorem wm_X2_everyone : Cond.instanceMethod yX2_everyone ∈ kx_tbl := kx_in (List.mem_of_getElem? (i := 240) (by decide +kernel)) (by decide +kernel)
theorem ww_X2_everyone : Cond.selects yX2_everyone.cls yX2_everyone yX2_everyone ∈ kx_tbl := kx_in (List.mem_of_getElem? (i := 241) (by decide +kernel)) (by decide +kernel)
theorem wc_X4_hasBit : Cond.code mX4_hasBit.1 mX4_hasBit.2.1 mX4_hasBit.2.2.1 mX4_hasBit.2.2.2 ∈ kx_tbl := kx_in (List.mem_of_getElem? (i := 245) (by decide +kernel)) (by decide +kernel)
theorem wt_X4_hasBit : Cond.static yX4_hasBit ∈ kx_tbl := kx_in (List.mem_of_getElem? (i := 244) (by decide +kernel)) (by decide +kernel)
theorem wc_X2_makeKin : Cond.code mX2_makeKin.1 mX2_makeKin.2.1 mX2_makeKin.2.2.1 mX2_makeKin.2.2.2 ∈ kx_tbl := kx_in (List.mem_of_getElem? (i := 249) (by decide +kernel)) (by decide +kernel)
theorem wm_X2_makeKin : Cond.instanceMethod yX2_makeKin ∈ kx_tbl := kx_in (List.mem_of_getElem? (i := 247) (by decide +kernel)) (by decide +kernel)
theorem ww_X2_makeKin : Cond.selects yX2_makeKin.cls yX2_makeKin yX2_makeKin ∈ kx_tbl := kx_in (List.mem_of_getElem? (i := 248) (by decide +kernel)) (by decide +kernel)
theorem wc_X4_land : Cond.code mX4_land.1 mX4_land.2.1 mX4_land.2.2.1 mX4_land.2.2.2 ∈ kx_tbl := kx_in (List.mem_of_getElem? (i := 253) (by decide +kernel)) (by decide +kernel)
theorem wm_X4_land : Cond.instanceMethod yX4_land ∈ kx_tbl := kx_in (List.mem_of_getElem? (i := 251) (by decide +kernel)) (by decide +kernel)
theorem ww_X4_land : Cond.selects yX4_land.cls yX4_land yX4_land ∈ kx_tbl := kx_in (List.mem_of_getElem? (i := 252) (by decide +kernel)) (by decide +kernel)
theorem wc_X2_copyFrom : Cond.code mX2_copyFrom.1 mX2_copyFrom.2.1 mX2_copyFrom.2.2.1 mX2_copyFrom.2.2.2 ∈ kx_tbl := kx_in (List.mem_of_getElem? (i := 257) (by decide +kernel)) (by decide +kernel)
theorem wm_X2_copyFrom : Cond.instanceMethod yX2_copyFrom ∈ kx_tbl := kx_in (List.mem_of_getElem? (i := 255) (by decide +kernel)) (by decide +kernel)
theorem ww_X2_copyFrom : Cond.selects yX2_copyFrom.cls yX2_copyFrom yX2_copyFrom ∈ kx_tbl := kx_in (List.mem_of_getElem? (i := 256) (by decide +kernel)) (by decide +kernel)
theorem wc_X0_forgetAll : Cond.code mX0_forgetAll.1 mX0_forgetAll.2.1 mX0_forgetAll.2.2.1 mX0_forgetAll.2.2.2 ∈ kx_tbl := kx_in (List.mem_of_getElem? (i := 264) (by decide +kernel)) (by decide +kernel)
theorem wm_X0_forgetAll : Cond.instanceMethod yX0_forgetAll ∈ kx_tbl := kx_in (List.mem_of_getElem? (i := 262) (by decide +kernel)) (by decide +kernel)
theorem ww_X0_forgetAll : Cond.selects yX0_forgetAll.cls yX0_forgetAll yX0_forgetAll ∈ kx_tbl := kx_in (List.mem_of_getElem? (i := 263) (by decide +kernel)) (by decide +kernel)
theorem wc_X4_about : Cond.code mX4_about.1 mX4_about.2.1 mX4_about.2.2.1 mX4_about.2.2.2 ∈ kx_tbl := kx_in (List.mem_of_getElem? (i := 268) (by decide +kernel)) (by decide +kernel)
theorem wm_X4_about : Cond.instanceMethod yX4_about ∈ kx_tbl := kx_in (List.mem_of_getElem? (i := 266) (by decide +kernel)) (by decide +kernel)
theorem ww_X4_about : Cond.selects yX4_about.cls yX4_about yX4_about ∈ kx_tbl := kx_in (List.mem_of_getElem? (i := 267) (by decide +kernel)) (by decide +kernel)
theorem wc_X2_allSorrow : Cond.code mX2_allSorrow.1 mX2_allSorrow.2.1 mX2_allSorrow.2.2.1 mX2_allSorrow.2.2.2 ∈ kx_tbl := kx_in (List.mem_of_getElem? (i := 272) (by decide +kernel)) (by decide +kernel)
theorem wm_X2_allSorrow : Cond.instanceMethod yX2_allSorrow ∈ kx_tbl := kx_in (List.mem_of_getElem? (i := 270) (by decide +kernel)) (by decide +kernel)
theorem ww_X2_allSorrow : Cond.selects yX2_allSorrow.cls yX2_allSorrow yX2_allSorrow ∈ kx_tbl := kx_in (List.mem_of_getElem? (i := 271) (by decide +kernel)) (by decide +kernel)
theorem wc_X4_person : Cond.code mX4_person.1 mX4_person.2.1 mX4_person.2.2.1 mX4_person.2.2.2 ∈ kx_tbl := kx_in (List.mem_of_getElem? (i := 276) (by decide +kernel)) (by decide +kernel)
theorem wm_X4_person : Cond.instanceMethod yX4_person ∈ kx_tbl := kx_in (List.mem_of_getElem? (i := 274) (by decide +kernel)) (by decide +kernel)
theorem ww_X4_person : Cond.selects yX4_person.cls yX4_person yX4_person ∈ kx_tbl := kx_in (List.mem_of_getElem? (i := 275) (by decide +kernel)) (by decide +kernel)
theorem wc_X2_ounces : Cond.code mX2_ounces.1 mX2_ounces.2.1 mX2_ounces.2.2.1 mX2_ounces.2.2.2 ∈ kx_tbl := kx_in (List.mem_of_getElem? (i := 281) (by decide +kernel)) (by decide +kernel)
theorem wm_X2_ounces : Cond.instanceMethod yX2_ounces ∈ kx_tbl := kx_in (List.mem_of_getElem? (i := 279) (by decide +kernel)) (by decide +kernel)
theorem ww_X2_ounces : Cond.selects yX2_ounces.cls yX2_ounces yX2_ounces ∈ kx_tbl := kx_in (List.mem_of_getElem? (i := 280) (by decide +kernel)) (by decide +kernel)
theorem wc_X2_thoseToWeepFor : Cond.code mX2_thoseToWeepFor.1 mX2_thoseToWeepFor.2.1 mX2_thoseToWeepFor.2.2.1 mX2_thoseToWeepFor.2.2.2 ∈ kx_tbl := kx_in (List.mem_of_getElem? (i := 285) (by decide +kernel)) (by decide +kernel)
theorem wm_X2_thoseToWeepFor : Cond.instanceMethod yX2_thoseToWeepFor ∈ kx_tbl := kx_in (List.mem_of_getElem? (i := 283) (by decide +kernel)) (by decide +kernel)
theorem ww_X2_thoseToWeepFor : Cond.selects yX2_thoseToWeepFor.cls yX2_thoseToWeepFor yX2_thoseToWeepFor ∈ kx_tbl := kx_in (List.mem_of_getElem? (i := 284) (by decide +kernel)) (by decide +kernel)
theorem wc_X2_mayWeep : Cond.code mX2_mayWeep.1 mX2_mayWeep.2.1 mX2_mayWeep.2.2.1 mX2_mayWeep.2.2.2 ∈ kx_tbl := kx_in (List.mem_of_getElem? (i := 289) (by decide +kernel)) (by decide +kernel)
theorem wm_X2_mayWeep : Cond.instanceMethod yX2_mayWeep ∈ kx_tbl := kx_in (List.mem_of_getElem? (i := 287) (by decide +kernel)) (by decide +kernel)
theorem ww_X2_mayWeep : Cond.selects yX2_mayWeep.cls yX2_mayWeep yX2_mayWeep ∈ kx_tbl := kx_in (List.mem_of_getElem? (i := 288) (by decide +kernel)) (by decide +kernel)
theorem wc_X2_isOpen : Cond.code mX2_isOpen.1 mX2_isOpen.2.1 mX2_isOpen.2.2.1 mX2_isOpen.2.2.2 ∈ kx_tbl := kx_in (List.mem_of_getElem? (i := 293) (by decide +kernel)) (by decide +kernel)
theorem wm_X2_isOpen : Cond.instanceMethod yX2_isOpen ∈ kx_tbl := kx_in (List.mem_of_getElem? (i := 291) (by decide +kernel)) (by decide +kernel)
theorem ww_X2_isOpen : Cond.selects yX2_isOpen.cls yX2_isOpen yX2_isOpen ∈ kx_tbl := kx_in (List.mem_of_getElem? (i := 292) (by decide +kernel)) (by decide +kernel)
theorem wc_X2_isFitFor : Cond.code mX2_isFitFor.1 mX2_isFitFor.2.1 mX2_isFitFor.2.2.1 mX2_isFitFor.2.2.2 ∈ kx_tbl := kx_in (List.mem_of_getElem? (i := 298) (by decide +kernel)) (by decide +kernel)
theorem wm_X2_isFitFor : Cond.instanceMethod yX2_isFitFor ∈ kx_tbl := kx_in (List.mem_of_getElem? (i := 296) (by decide +kernel)) (by decide +kernel)
theorem ww_X2_isFitFor : Cond.selects yX2_isFitFor.cls yX2_isFitFor yX2_isFitFor ∈ kx_tbl := kx_in (List.mem_of_getElem? (i := 297) (by decide +kernel)) (by decide +kernel)
theorem wc_X2_areKin : Cond.code mX2_areKin.1 mX2_areKin.2.1 mX2_areKin.2.2.1 mX2_areKin.2.2.2 ∈ kx_tbl := kx_in (List.mem_of_getElem? (i := 303) (by decide +kernel)) (by decide +kernel)
theorem wm_X2_areKin : Cond.instanceMethod yX2_areKin ∈ kx_tbl := kx_in (List.mem_of_getElem? (i := 301) (by decide +kernel)) (by decide +kernel)
theorem ww_X2_areKin : Cond.selects yX2_areKin.cls yX2_areKin yX2_areKin ∈ kx_tbl := kx_in (List.mem_of_getElem? (i := 302) (by decide +kernel)) (by decide +kernel)
theorem wc_X4_owes : Cond.code mX4_owes.1 mX4_owes.2.1 mX4_owes.2.2.1 mX4_owes.2.2.2 ∈ kx_tbl := kx_in (List.mem_of_getElem? (i := 307) (by decide +kernel)) (by decide +kernel)
theorem wm_X4_owes : Cond.instanceMethod yX4_owes ∈ kx_tbl := kx_in (List.mem_of_getElem? (i := 305) (by decide +kernel)) (by decide +kernel)
theorem ww_X4_owes : Cond.selects yX4_owes.cls yX4_owes yX4_owes ∈ kx_tbl := kx_in (List.mem_of_getElem? (i := 306) (by decide +kernel)) (by decide +kernel)
theorem wc_X2_debt : Cond.code mX2_debt.1 mX2_debt.2.1 mX2_debt.2.2.1 mX2_debt.2.2.2 ∈ kx_tbl := kx_in (List.mem_of_getElem? (i := 311) (by decide +kernel)) (by decide +kernel)
theorem wm_X2_debt : Cond.instanceMethod yX2_debt ∈ kx_tbl := kx_in (List.mem_of_getElem? (i := 309) (by decide +kernel)) (by decide +kernel)
theorem ww_X2_debt : Cond.selects yX2_debt.cls yX2_debt yX2_debt ∈ kx_tbl := kx_in (List.mem_of_getElem? (i := 310) (by decide +kernel)) (by decide +kernel)
theorem wc_X4_funeral : Cond.code mX4_funeral.1 mX4_funeral.2.1 mX4_funeral.2.2.1 mX4_funeral.2.2.2 ∈ kx_tbl := kx_in (List.mem_of_getElem? (i := 315) (by decide +kernel)) (by decide +kernel)
theorem wm_X4_funeral : Cond.instanceMethod yX4_funeral ∈ kx_tbl := kx_in (List.mem_of_getElem? (i := 313) (by decide +kernel)) (by decide +kernel)
theorem ww_X4_funeral : Cond.selects yX4_funeral.cls yX4_funeral yX4_funeral ∈ kx_tbl := kx_in (List.mem_of_getElem? (i := 314) (by decide +kernel)) (by decide +kernel)
theorem wc_X0_remember : Cond.code mX0_remember.1 mX0_remember.2.1 mX0_remember.2.2.1 mX0_remember.2.2.2 ∈ kx_tbl := kx_in (List.mem_of_getElem? (i := 320) (by decide +kernel)) (by decide +kernel)
theorem wm_X0_remember : Cond.instanceMethod yX0_remember ∈ kx_tbl := kx_in (List.mem_of_getElem? (i := 318) (by decide +kernel)) (by decide +kernel)
theorem ww_X0_remember : Cond.selects yX0_remember.cls yX0_remember yX0_remember ∈ kx_tbl := kx_in (List.mem_of_getElem? (i := 319) (by decide +kernel)) (by decide +kernel)
theorem wc_X2_bereave : Cond.code mX2_bereave.1 mX2_bereave.2.1 mX2_bereave.2.2.1 mX2_bereave.2.2.2 ∈ kx_tbl := kx_in (List.mem_of_getElem? (i := 325) (by decide +kernel)) (by decide +kernel)
theorem wm_X2_bereave : Cond.instanceMethod yX2_bereave ∈ kx_tbl := kx_in (List.mem_of_getElem? (i := 323) (by decide +kernel)) (by decide +kernel)
theorem ww_X2_bereave : Cond.selects yX2_bereave.cls yX2_bereave yX2_bereave ∈ kx_tbl := kx_in (List.mem_of_getElem? (i := 324) (by decide +kernel)) (by decide +kernel)
theorem wc_X4_weep : Cond.code mX4_weep.1 mX4_weep.2.1 mX4_weep.2.2.1 mX4_weep.2.2.2 ∈ kx_tbl := kx_in (List.mem_of_getElem? (i := 335) (by decide +kernel)) (by decide +kernel)
theorem wm_X4_weep : Cond.instanceMethod yX4_weep ∈ kx_tbl := kx_in (List.mem_of_getElem? (i := 333) (by decide +kernel)) (by decide +kernel)
theorem ww_X4_weep : Cond.selects yX4_weep.cls yX4_weep yX4_weep ∈ kx_tbl := kx_in (List.mem_of_getElem? (i := 334) (by decide +kernel)) (by decide +kernel)
theorem wc_X2_weepFor : Cond.code mX2_weepFor.1 mX2_weepFor.2.1 mX2_weepFor.2.2.1 mX2_weepFor.2.2.2 ∈ kx_tbl := kx_in (List.mem_of_getElem? (i := 340) (by decide +kernel)) (by decide +kernel)
theorem wm_X2_weepFor : Cond.instanceMethod yX2_weepFor ∈ kx_tbl := kx_in (List.mem_of_getElem? (i := 338) (by decide +kernel)) (by decide +kernel)
theorem ww_X2_weepFor : Cond.selects yX2_weepFor.cls yX2_weepFor yX2_weepFor ∈ kx_tbl := kx_in (List.mem_of_getElem? (i := 339) (by decide +kernel)) (by decide +kernel)
theorem wc_X2_settle : Cond.code mX2_settle.1 mX2_settle.2.1 mX2_settle.2.2.1 mX2_settle.2.2.2 ∈ kx_tbl := kx_in (List.mem_of_getElem? (i := 344) (by decide +kernel)) (by decide +kernel)
theorem wm_X2_settle : Cond.instanceMethod yX2_settle ∈ kx_tbl := kx_in (List.mem_of_getElem? (i := 343) (by decide +kernel)) (by decide +kernel)
theorem ww_X2_settle : Cond.selects yX2_settle.cls yX2_settle yX2_settle ∈ kx_tbl := kx_in (List.mem_of_getElem? (i := 5) (by decide +kernel)) (by decide +kernel)
theorem wc_X4_onions : Cond.code mX4_onions.1 mX4_onions.2.1 mX4_onions.2.2.1 mX4_onions.2.2.2 ∈ kx_tbl := kx_in (List.mem_of_getElem? (i := 349) (by decide +kernel)) (by decide +kernel)
theorem wm_X4_onions : Cond.instanceMethod yX4_onions ∈ kx_tbl := kx_in (List.mem_of_getElem? (i := 347) (by decide +kernel)) (by decide +kernel)
theorem ww_X4_onions : Cond.selects yX4_onions.cls yX4_onions yX4_onions ∈ kx_tbl := kx_in (List.mem_of_getElem? (i := 348) (by decide +kernel)) (by decide +kernel)
theorem wc_X2_mayUseOnions : Cond.code mX2_mayUseOnions.1 mX2_mayUseOnions.2.1 mX2_mayUseOnions.2.2.1 mX2_mayUseOnions.2.2.2 ∈ kx_tbl := kx_in (List.mem_of_getElem? (i := 353) (by decide +kernel)) (by decide +kernel)
theorem wm_X2_mayUseOnions : Cond.instanceMethod yX2_mayUseOnions ∈ kx_tbl := kx_in (List.mem_of_getElem? (i := 351) (by decide +kernel)) (by decide +kernel)
theorem ww_X2_mayUseOnions : Cond.selects yX2_mayUseOnions.cls yX2_mayUseOnions yX2_mayUseOnions ∈ kx_tbl := kx_in (List.mem_of_getElem? (i := 352) (by decide +kernel)) (by decide +kernel)
theorem wc_X2_useOnions : Cond.code mX2_useOnions.1 mX2_useOnions.2.1 mX2_useOnions.2.2.1 mX2_useOnions.2.2.2 ∈ kx_tbl := kx_in (List.mem_of_getElem? (i := 357) (by decide +kernel)) (by decide +kernel)
theorem wm_X2_useOnions : Cond.instanceMethod yX2_useOnions ∈ kx_tbl := kx_in (List.mem_of_getElem? (i := 355) (by decide +kernel)) (by decide +kernel)
theorem ww_X2_useOnions : Cond.selects yX2_useOnions.cls yX2_useOnions yX2_useOnions ∈ kx_tbl := kx_in (List.mem_of_getElem? (i := 356) (by decide +kernel)) (by decide +kernel)
theorem wc_X4_week : Cond.code mX4_week.1 mX4_week.2.1 mX4_week.2.2.1 mX4_week.2.2.2 ∈ kx_tbl := kx_in (List.mem_of_getElem? (i := 362) (by decide +kernel)) (by decide +kernel)
theorem wm_X4_week : Cond.instanceMethod yX4_week ∈ kx_tbl := kx_in (List.mem_of_getElem? (i := 360) (by decide +kernel)) (by decide +kernel)
theorem ww_X4_week : Cond.selects yX4_week.cls yX4_week yX4_week ∈ kx_tbl := kx_in (List.mem_of_getElem? (i := 361) (by decide +kernel)) (by decide +kernel)
theorem wc_X2_passWeek : Cond.code mX2_passWeek.1 mX2_passWeek.2.1 mX2_passWeek.2.2.1 mX2_passWeek.2.2.2 ∈ kx_tbl := kx_in (List.mem_of_getElem? (i := 366) (by decide +kernel)) (by decide +kernel)
theorem wm_X2_passWeek : Cond.instanceMethod yX2_passWeek ∈ kx_tbl := kx_in (List.mem_of_getElem? (i := 364) (by decide +kernel)) (by decide +kernel)
theorem ww_X2_passWeek : Cond.selects yX2_passWeek.cls yX2_passWeek yX2_passWeek ∈ kx_tbl := kx_in (List.mem_of_getElem? (i := 365) (by decide +kernel)) (by decide +kernel)
theorem wc_X4_undo : Cond.code mX4_undo.1 mX4_undo.2.1 mX4_undo.2.2.1 mX4_undo.2.2.2 ∈ kx_tbl := kx_in (List.mem_of_getElem? (i := 376) (by decide +kernel)) (by decide +kernel)
theorem wm_X4_undo : Cond.instanceMethod yX4_undo ∈ kx_tbl := kx_in (List.mem_of_getElem? (i := 374) (by decide +kernel)) (by decide +kernel)
theorem ww_X4_undo : Cond.selects yX4_undo.cls yX4_undo yX4_undo ∈ kx_tbl := kx_in (List.mem_of_getElem? (i := 375) (by decide +kernel)) (by decide +kernel)
theorem wc_X0_takeLast : Cond.code mX0_takeLast.1 mX0_takeLast.2.1 mX0_takeLast.2.2.1 mX0_takeLast.2.2.2 ∈ kx_tbl := kx_in (List.mem_of_getElem? (i := 380) (by decide +kernel)) (by decide +kernel)
theorem wm_X0_takeLast : Cond.instanceMethod yX0_takeLast ∈ kx_tbl := kx_in (List.mem_of_getElem? (i := 378) (by decide +kernel)) (by decide +kernel)
theorem ww_X0_takeLast : Cond.selects yX0_takeLast.cls yX0_takeLast yX0_takeLast ∈ kx_tbl := kx_in (List.mem_of_getElem? (i := 379) (by decide +kernel)) (by decide +kernel)
theorem wc_X4_served : Cond.code mX4_served.1 mX4_served.2.1 mX4_served.2.2.1 mX4_served.2.2.2 ∈ kx_tbl := kx_in (List.mem_of_getElem? (i := 384) (by decide +kernel)) (by decide +kernel)
theorem wm_X4_served : Cond.instanceMethod yX4_served ∈ kx_tbl := kx_in (List.mem_of_getElem? (i := 382) (by decide +kernel)) (by decide +kernel)
theorem ww_X4_served : Cond.selects yX4_served.cls yX4_served yX4_served ∈ kx_tbl := kx_in (List.mem_of_getElem? (i := 383) (by decide +kernel)) (by decide +kernel)
theorem wc_X2_unbereaved : Cond.code mX2_unbereaved.1 mX2_unbereaved.2.1 mX2_unbereaved.2.2.1 mX2_unbereaved.2.2.2 ∈ kx_tbl := kx_in (List.mem_of_getElem? (i := 388) (by decide +kernel)) (by decide +kernel)
theorem wm_X2_unbereaved : Cond.instanceMethod yX2_unbereaved ∈ kx_tbl := kx_in (List.mem_of_getElem? (i := 386) (by decide +kernel)) (by decide +kernel)
theorem ww_X2_unbereaved : Cond.selects yX2_unbereaved.cls yX2_unbereaved yX2_unbereaved ∈ kx_tbl := kx_in (List.mem_of_getElem? (i := 387) (by decide +kernel)) (by decide +kernel)
theorem wc_X3_search : Cond.code mX3_search.1 mX3_search.2.1 mX3_search.2.2.1 mX3_search.2.2.2 ∈ kx_tbl := kx_in (List.mem_of_getElem? (i := 392) (by decide +kernel)) (by decide +kernel)
theorem wm_X3_search : Cond.instanceMethod yX3_search ∈ kx_tbl := kx_in (List.mem_of_getElem? (i := 390) (by decide +kernel)) (by decide +kernel)
theorem ww_X3_search : Cond.selects yX3_search.cls yX3_search yX3_search ∈ kx_tbl := kx_in (List.mem_of_getElem? (i := 391) (by decide +kernel)) (by decide +kernel)
theorem wc_X3_give : Cond.code mX3_give.1 mX3_give.2.1 mX3_give.2.2.1 mX3_give.2.2.2 ∈ kx_tbl := kx_in (List.mem_of_getElem? (i := 395) (by decide +kernel)) (by decide +kernel)
theorem wt_X3_give : Cond.static yX3_give ∈ kx_tbl := kx_in (List.mem_of_getElem? (i := 394) (by decide +kernel)) (by decide +kernel)
theorem wc_X3_compare : Cond.code mX3_compare.1 mX3_compare.2.1 mX3_compare.2.2.1 mX3_compare.2.2.2 ∈ kx_tbl := kx_in (List.mem_of_getElem? (i := 399) (by decide +kernel)) (by decide +kernel)
theorem wm_X3_compare : Cond.instanceMethod yX3_compare ∈ kx_tbl := kx_in (List.mem_of_getElem? (i := 398) (by decide +kernel)) (by decide +kernel)
theorem ww_X3_compare : Cond.selects yX3_compare.cls yX3_compare yX3_compare ∈ kx_tbl := kx_in (List.mem_of_getElem? (i := 6) (by decide +kernel)) (by decide +kernel)
theorem wc_X4_nobody : Cond.code mX4_nobody.1 mX4_nobody.2.1 mX4_nobody.2.2.1 mX4_nobody.2.2.2 ∈ kx_tbl := kx_in (List.mem_of_getElem? (i := 406) (by decide +kernel)) (by decide +kernel)
theorem wm_X4_nobody : Cond.instanceMethod yX4_nobody ∈ kx_tbl := kx_in (List.mem_of_getElem? (i := 404) (by decide +kernel)) (by decide +kernel)
theorem ww_X4_nobody : Cond.selects yX4_nobody.cls yX4_nobody yX4_nobody ∈ kx_tbl := kx_in (List.mem_of_getElem? (i := 405) (by decide +kernel)) (by decide +kernel)
theorem wc_X2_unweptBits : Cond.code mX2_unweptBits.1 mX2_unweptBits.2.1 mX2_unweptBits.2.2.1 mX2_unweptBits.2.2.2 ∈ kx_tbl := kx_in (List.mem_of_getElem? (i := 410) (by decide +kernel)) (by decide +kernel)
theorem wm_X2_unweptBits : Cond.instanceMethod yX2_unweptBits ∈ kx_tbl := kx_in (List.mem_of_getElem? (i := 408) (by decide +kernel)) (by decide +kernel)
theorem ww_X2_unweptBits : Cond.selects yX2_unweptBits.cls yX2_unweptBits yX2_unweptBits ∈ kx_tbl := kx_in (List.mem_of_getElem? (i := 409) (by decide +kernel)) (by decide +kernel)
theorem wc_X2_kinToAllBits : Cond.code mX2_kinToAllBits.1 mX2_kinToAllBits.2.1 mX2_kinToAllBits.2.2.1 mX2_kinToAllBits.2.2.2 ∈ kx_tbl := kx_in (List.mem_of_getElem? (i := 415) (by decide +kernel)) (by decide +kernel)
theorem wm_X2_kinToAllBits : Cond.instanceMethod yX2_kinToAllBits ∈ kx_tbl := kx_in (List.mem_of_getElem? (i := 413) (by decide +kernel)) (by decide +kernel)
theorem ww_X2_kinToAllBits : Cond.selects yX2_kinToAllBits.cls yX2_kinToAllBits yX2_kinToAllBits ∈ kx_tbl := kx_in (List.mem_of_getElem? (i := 414) (by decide +kernel)) (by decide +kernel)
theorem wc_X4_till : Cond.code mX4_till.1 mX4_till.2.1 mX4_till.2.2.1 mX4_till.2.2.2 ∈ kx_tbl := kx_in (List.mem_of_getElem? (i := 419) (by decide +kernel)) (by decide +kernel)
theorem wm_X4_till : Cond.instanceMethod yX4_till ∈ kx_tbl := kx_in (List.mem_of_getElem? (i := 417) (by decide +kernel)) (by decide +kernel)
theorem ww_X4_till : Cond.selects yX4_till.cls yX4_till yX4_till ∈ kx_tbl := kx_in (List.mem_of_getElem? (i := 418) (by decide +kernel)) (by decide +kernel)
theorem wc_X4_net : Cond.code mX4_net.1 mX4_net.2.1 mX4_net.2.2.1 mX4_net.2.2.2 ∈ kx_tbl := kx_in (List.mem_of_getElem? (i := 423) (by decide +kernel)) (by decide +kernel)
theorem wm_X4_net : Cond.instanceMethod yX4_net ∈ kx_tbl := kx_in (List.mem_of_getElem? (i := 421) (by decide +kernel)) (by decide +kernel)
theorem ww_X4_net : Cond.selects yX4_net.cls yX4_net yX4_net ∈ kx_tbl := kx_in (List.mem_of_getElem? (i := 422) (by decide +kernel)) (by decide +kernel)
theorem wc_X4_ring : Cond.code mX4_ring.1 mX4_ring.2.1 mX4_ring.2.2.1 mX4_ring.2.2.2 ∈ kx_tbl := kx_in (List.mem_of_getElem? (i := 427) (by decide +kernel)) (by decide +kernel)
theorem wm_X4_ring : Cond.instanceMethod yX4_ring ∈ kx_tbl := kx_in (List.mem_of_getElem? (i := 425) (by decide +kernel)) (by decide +kernel)
theorem ww_X4_ring : Cond.selects yX4_ring.cls yX4_ring yX4_ring ∈ kx_tbl := kx_in (List.mem_of_getElem? (i := 426) (by decide +kernel)) (by decide +kernel)
theorem wc_X2_reachedByDebts : Cond.code mX2_reachedByDebts.1 mX2_reachedByDebts.2.1 mX2_reachedByDebts.2.2.1 mX2_reachedByDebts.2.2.2 ∈ kx_tbl := kx_in (List.mem_of_getElem? (i := 431) (by decide +kernel)) (by decide +kernel)
theorem wm_X2_reachedByDebts : Cond.instanceMethod yX2_reachedByDebts ∈ kx_tbl := kx_in (List.mem_of_getElem? (i := 429) (by decide +kernel)) (by decide +kernel)
theorem ww_X2_reachedByDebts : Cond.selects yX2_reachedByDebts.cls yX2_reachedByDebts yX2_reachedByDebts ∈ kx_tbl := kx_in (List.mem_of_getElem? (i := 430) (by decide +kernel)) (by decide +kernel)
theorem wc_X2_creditors : Cond.code mX2_creditors.1 mX2_creditors.2.1 mX2_creditors.2.2.1 mX2_creditors.2.2.2 ∈ kx_tbl := kx_in (List.mem_of_getElem? (i := 435) (by decide +kernel)) (by decide +kernel)
theorem wm_X2_creditors : Cond.instanceMethod yX2_creditors ∈ kx_tbl := kx_in (List.mem_of_getElem? (i := 434) (by decide +kernel)) (by decide +kernel)
theorem ww_X2_creditors : Cond.selects yX2_creditors.cls yX2_creditors yX2_creditors ∈ kx_tbl := kx_in (List.mem_of_getElem? (i := 7) (by decide +kernel)) (by decide +kernel)
theorem wc_X4_share : Cond.code mX4_share.1 mX4_share.2.1 mX4_share.2.2.1 mX4_share.2.2.2 ∈ kx_tbl := kx_in (List.mem_of_getElem? (i := 440) (by decide +kernel)) (by decide +kernel)
theorem wm_X4_share : Cond.instanceMethod yX4_share ∈ kx_tbl := kx_in (List.mem_of_getElem? (i := 438) (by decide +kernel)) (by decide +kernel)
theorem ww_X4_share : Cond.selects yX4_share.cls yX4_share yX4_share ∈ kx_tbl := kx_in (List.mem_of_getElem? (i := 439) (by decide +kernel)) (by decide +kernel)
theorem wc_X4_fraction : Cond.code mX4_fraction.1 mX4_fraction.2.1 mX4_fraction.2.2.1 mX4_fraction.2.2.2 ∈ kx_tbl := kx_in (List.mem_of_getElem? (i := 443) (by decide +kernel)) (by decide +kernel)
theorem wt_X4_fraction : Cond.static yX4_fraction ∈ kx_tbl := kx_in (List.mem_of_getElem? (i := 442) (by decide +kernel)) (by decide +kernel)
theorem wc_X4_factorial : Cond.code mX4_factorial.1 mX4_factorial.2.1 mX4_factorial.2.2.1 mX4_factorial.2.2.2 ∈ kx_tbl := kx_in (List.mem_of_getElem? (i := 446) (by decide +kernel)) (by decide +kernel)
theorem wt_X4_factorial : Cond.static yX4_factorial ∈ kx_tbl := kx_in (List.mem_of_getElem? (i := 445) (by decide +kernel)) (by decide +kernel)
theorem wc_X4_gain : Cond.code mX4_gain.1 mX4_gain.2.1 mX4_gain.2.2.1 mX4_gain.2.2.2 ∈ kx_tbl := kx_in (List.mem_of_getElem? (i := 452) (by decide +kernel)) (by decide +kernel)
theorem wm_X4_gain : Cond.instanceMethod yX4_gain ∈ kx_tbl := kx_in (List.mem_of_getElem? (i := 451) (by decide +kernel)) (by decide +kernel)
theorem ww_X4_gain : Cond.selects yX4_gain.cls yX4_gain yX4_gain ∈ kx_tbl := kx_in (List.mem_of_getElem? (i := 8) (by decide +kernel)) (by decide +kernel)
theorem wc_X4_weighed : Cond.code mX4_weighed.1 mX4_weighed.2.1 mX4_weighed.2.2.1 mX4_weighed.2.2.2 ∈ kx_tbl := kx_in (List.mem_of_getElem? (i := 456) (by decide +kernel)) (by decide +kernel)
theorem wm_X4_weighed : Cond.instanceMethod yX4_weighed ∈ kx_tbl := kx_in (List.mem_of_getElem? (i := 454) (by decide +kernel)) (by decide +kernel)
theorem ww_X4_weighed : Cond.selects yX4_weighed.cls yX4_weighed yX4_weighed ∈ kx_tbl := kx_in (List.mem_of_getElem? (i := 455) (by decide +kernel)) (by decide +kernel)
theorem wc_X4_weight : Cond.code mX4_weight.1 mX4_weight.2.1 mX4_weight.2.2.1 mX4_weight.2.2.2 ∈ kx_tbl := kx_in (List.mem_of_getElem? (i := 461) (by decide +kernel)) (by decide +kernel)
theorem wm_X4_weight : Cond.instanceMethod yX4_weight ∈ kx_tbl := kx_in (List.mem_of_getElem? (i := 460) (by decide +kernel)) (by decide +kernel)
theorem ww_X4_weight : Cond.selects yX4_weight.cls yX4_weight yX4_weight ∈ kx_tbl := kx_in (List.mem_of_getElem? (i := 9) (by decide +kernel)) (by decide +kernel)
theorem wc_X4_whose : Cond.code mX4_whose.1 mX4_whose.2.1 mX4_whose.2.2.1 mX4_whose.2.2.2 ∈ kx_tbl := kx_in (List.mem_of_getElem? (i := 466) (by decide +kernel)) (by decide +kernel)
theorem wm_X4_whose : Cond.instanceMethod yX4_whose ∈ kx_tbl := kx_in (List.mem_of_getElem? (i := 464) (by decide +kernel)) (by decide +kernel)
theorem ww_X4_whose : Cond.selects yX4_whose.cls yX4_whose yX4_whose ∈ kx_tbl := kx_in (List.mem_of_getElem? (i := 465) (by decide +kernel)) (by decide +kernel)
theorem wc_X4_rests : Cond.code mX4_rests.1 mX4_rests.2.1 mX4_rests.2.2.1 mX4_rests.2.2.2 ∈ kx_tbl := kx_in (List.mem_of_getElem? (i := 470) (by decide +kernel)) (by decide +kernel)
theorem wm_X4_rests : Cond.instanceMethod yX4_rests ∈ kx_tbl := kx_in (List.mem_of_getElem? (i := 468) (by decide +kernel)) (by decide +kernel)
theorem ww_X4_rests : Cond.selects yX4_rests.cls yX4_rests yX4_rests ∈ kx_tbl := kx_in (List.mem_of_getElem? (i := 469) (by decide +kernel)) (by decide +kernel)
theorem wc_X4_isAtRest : Cond.code mX4_isAtRest.1 mX4_isAtRest.2.1 mX4_isAtRest.2.2.1 mX4_isAtRest.2.2.2 ∈ kx_tbl := kx_in (List.mem_of_getElem? (i := 473) (by decide +kernel)) (by decide +kernel)
theorem wt_X4_isAtRest : Cond.static yX4_isAtRest ∈ kx_tbl := kx_in (List.mem_of_getElem? (i := 472) (by decide +kernel)) (by decide +kernel)
theorem wc_X4_gotByOne : Cond.code mX4_gotByOne.1 mX4_gotByOne.2.1 mX4_gotByOne.2.2.1 mX4_gotByOne.2.2.2 ∈ kx_tbl := kx_in (List.mem_of_getElem? (i := 476) (by decide +kernel)) (by decide +kernel)
theorem wt_X4_gotByOne : Cond.static yX4_gotByOne ∈ kx_tbl := kx_in (List.mem_of_getElem? (i := 475) (by decide +kernel)) (by decide +kernel)
theorem wc_X4_oneWeeps : Cond.code mX4_oneWeeps.1 mX4_oneWeeps.2.1 mX4_oneWeeps.2.2.1 mX4_oneWeeps.2.2.2 ∈ kx_tbl := kx_in (List.mem_of_getElem? (i := 479) (by decide +kernel)) (by decide +kernel)
theorem wt_X4_oneWeeps : Cond.static yX4_oneWeeps ∈ kx_tbl := kx_in (List.mem_of_getElem? (i := 478) (by decide +kernel)) (by decide +kernel)
theorem wc_X4_got : Cond.code mX4_got.1 mX4_got.2.1 mX4_got.2.2.1 mX4_got.2.2.2 ∈ kx_tbl := kx_in (List.mem_of_getElem? (i := 482) (by decide +kernel)) (by decide +kernel)
theorem wt_X4_got : Cond.static yX4_got ∈ kx_tbl := kx_in (List.mem_of_getElem? (i := 481) (by decide +kernel)) (by decide +kernel)
theorem wc_X4_gotByOther : Cond.code mX4_gotByOther.1 mX4_gotByOther.2.1 mX4_gotByOther.2.2.1 mX4_gotByOther.2.2.2 ∈ kx_tbl := kx_in (List.mem_of_getElem? (i := 485) (by decide +kernel)) (by decide +kernel)
theorem wt_X4_gotByOther : Cond.static yX4_gotByOther ∈ kx_tbl := kx_in (List.mem_of_getElem? (i := 484) (by decide +kernel)) (by decide +kernel)
theorem wc_X4_chance : Cond.code mX4_chance.1 mX4_chance.2.1 mX4_chance.2.2.1 mX4_chance.2.2.2 ∈ kx_tbl := kx_in (List.mem_of_getElem? (i := 489) (by decide +kernel)) (by decide +kernel)
theorem wm_X4_chance : Cond.instanceMethod yX4_chance ∈ kx_tbl := kx_in (List.mem_of_getElem? (i := 487) (by decide +kernel)) (by decide +kernel)
theorem ww_X4_chance : Cond.selects yX4_chance.cls yX4_chance yX4_chance ∈ kx_tbl := kx_in (List.mem_of_getElem? (i := 488) (by decide +kernel)) (by decide +kernel)
theorem wc_X4_allServed : Cond.code mX4_allServed.1 mX4_allServed.2.1 mX4_allServed.2.2.1 mX4_allServed.2.2.2 ∈ kx_tbl := kx_in (List.mem_of_getElem? (i := 493) (by decide +kernel)) (by decide +kernel)
theorem wm_X4_allServed : Cond.instanceMethod yX4_allServed ∈ kx_tbl := kx_in (List.mem_of_getElem? (i := 492) (by decide +kernel)) (by decide +kernel)
theorem ww_X4_allServed : Cond.selects yX4_allServed.cls yX4_allServed yX4_allServed ∈ kx_tbl := kx_in (List.mem_of_getElem? (i := 10) (by decide +kernel)) (by decide +kernel)
theorem wc_X4_power : Cond.code mX4_power.1 mX4_power.2.1 mX4_power.2.2.1 mX4_power.2.2.2 ∈ kx_tbl := kx_in (List.mem_of_getElem? (i := 496) (by decide +kernel)) (by decide +kernel)
theorem wt_X4_power : Cond.static yX4_power ∈ kx_tbl := kx_in (List.mem_of_getElem? (i := 495) (by decide +kernel)) (by decide +kernel)
theorem wc_X4_seed : Cond.code mX4_seed.1 mX4_seed.2.1 mX4_seed.2.2.1 mX4_seed.2.2.2 ∈ kx_tbl := kx_in (List.mem_of_getElem? (i := 500) (by decide +kernel)) (by decide +kernel)
theorem wm_X4_seed : Cond.instanceMethod yX4_seed ∈ kx_tbl := kx_in (List.mem_of_getElem? (i := 498) (by decide +kernel)) (by decide +kernel)
theorem ww_X4_seed : Cond.selects yX4_seed.cls yX4_seed yX4_seed ∈ kx_tbl := kx_in (List.mem_of_getElem? (i := 499) (by decide +kernel)) (by decide +kernel)
theorem wc_X4_years : Cond.code mX4_years.1 mX4_years.2.1 mX4_years.2.2.1 mX4_years.2.2.2 ∈ kx_tbl := kx_in (List.mem_of_getElem? (i := 504) (by decide +kernel)) (by decide +kernel)
theorem wm_X4_years : Cond.instanceMethod yX4_years ∈ kx_tbl := kx_in (List.mem_of_getElem? (i := 502) (by decide +kernel)) (by decide +kernel)
theorem ww_X4_years : Cond.selects yX4_years.cls yX4_years yX4_years ∈ kx_tbl := kx_in (List.mem_of_getElem? (i := 503) (by decide +kernel)) (by decide +kernel)
theorem wc_X4_keep : Cond.code mX4_keep.1 mX4_keep.2.1 mX4_keep.2.2.1 mX4_keep.2.2.2 ∈ kx_tbl := kx_in (List.mem_of_getElem? (i := 511) (by decide +kernel)) (by decide +kernel)
theorem wm_X4_keep : Cond.instanceMethod yX4_keep ∈ kx_tbl := kx_in (List.mem_of_getElem? (i := 509) (by decide +kernel)) (by decide +kernel)
theorem ww_X4_keep : Cond.selects yX4_keep.cls yX4_keep yX4_keep ∈ kx_tbl := kx_in (List.mem_of_getElem? (i := 510) (by decide +kernel)) (by decide +kernel)
theorem wc_X4_again : Cond.code mX4_again.1 mX4_again.2.1 mX4_again.2.2.1 mX4_again.2.2.2 ∈ kx_tbl := kx_in (List.mem_of_getElem? (i := 515) (by decide +kernel)) (by decide +kernel)
theorem wm_X4_again : Cond.instanceMethod yX4_again ∈ kx_tbl := kx_in (List.mem_of_getElem? (i := 513) (by decide +kernel)) (by decide +kernel)
theorem ww_X4_again : Cond.selects yX4_again.cls yX4_again yX4_again ∈ kx_tbl := kx_in (List.mem_of_getElem? (i := 514) (by decide +kernel)) (by decide +kernel)
theorem wc_X5_init : Cond.code mX5_init.1 mX5_init.2.1 mX5_init.2.2.1 mX5_init.2.2.2 ∈ kx_tbl := kx_in (List.mem_of_getElem? (i := 520) (by decide +kernel)) (by decide +kernel)
theorem wm_X5_init : Cond.instanceMethod yX5_init ∈ kx_tbl := kx_in (List.mem_of_getElem? (i := 519) (by decide +kernel)) (by decide +kernel)
theorem wc_X5_write : Cond.code mX5_write.1 mX5_write.2.1 mX5_write.2.2.1 mX5_write.2.2.2 ∈ kx_tbl := kx_in (List.mem_of_getElem? (i := 592) (by decide +kernel)) (by decide +kernel)
theorem wm_X5_write : Cond.instanceMethod yX5_write ∈ kx_tbl := kx_in (List.mem_of_getElem? (i := 590) (by decide +kernel)) (by decide +kernel)
theorem ww_X5_write : Cond.selects yX5_write.cls yX5_write yX5_write ∈ kx_tbl := kx_in (List.mem_of_getElem? (i := 591) (by decide +kernel)) (by decide +kernel)
theorem wc_X5_in : Cond.code mX5_in.1 mX5_in.2.1 mX5_in.2.2.1 mX5_in.2.2.2 ∈ kx_tbl := kx_in (List.mem_of_getElem? (i := 596) (by decide +kernel)) (by decide +kernel)
theorem wt_X5_in : Cond.static yX5_in ∈ kx_tbl := kx_in (List.mem_of_getElem? (i := 595) (by decide +kernel)) (by decide +kernel)
theorem wc_X5_wipe : Cond.code mX5_wipe.1 mX5_wipe.2.1 mX5_wipe.2.2.1 mX5_wipe.2.2.2 ∈ kx_tbl := kx_in (List.mem_of_getElem? (i := 600) (by decide +kernel)) (by decide +kernel)
theorem wm_X5_wipe : Cond.instanceMethod yX5_wipe ∈ kx_tbl := kx_in (List.mem_of_getElem? (i := 598) (by decide +kernel)) (by decide +kernel)
theorem ww_X5_wipe : Cond.selects yX5_wipe.cls yX5_wipe yX5_wipe ∈ kx_tbl := kx_in (List.mem_of_getElem? (i := 599) (by decide +kernel)) (by decide +kernel)
theorem wc_X5_fault : Cond.code mX5_fault.1 mX5_fault.2.1 mX5_fault.2.2.1 mX5_fault.2.2.2 ∈ kx_tbl := kx_in (List.mem_of_getElem? (i := 604) (by decide +kernel)) (by decide +kernel)
theorem wm_X5_fault : Cond.instanceMethod yX5_fault ∈ kx_tbl := kx_in (List.mem_of_getElem? (i := 602) (by decide +kernel)) (by decide +kernel)
theorem ww_X5_fault : Cond.selects yX5_fault.cls yX5_fault yX5_fault ∈ kx_tbl := kx_in (List.mem_of_getElem? (i := 603) (by decide +kernel)) (by decide +kernel)
theorem wc_X5_readLand : Cond.code mX5_readLand.1 mX5_readLand.2.1 mX5_readLand.2.2.1 mX5_readLand.2.2.2 ∈ kx_tbl := kx_in (List.mem_of_getElem? (i := 608) (by decide +kernel)) (by decide +kernel)
theorem wm_X5_readLand : Cond.instanceMethod yX5_readLand ∈ kx_tbl := kx_in (List.mem_of_getElem? (i := 607) (by decide +kernel)) (by decide +kernel)
theorem ww_X5_readLand : Cond.selects yX5_readLand.cls yX5_readLand yX5_readLand ∈ kx_tbl := kx_in (List.mem_of_getElem? (i := 11) (by decide +kernel)) (by decide +kernel)
theorem wc_X5_readPart : Cond.code mX5_readPart.1 mX5_readPart.2.1 mX5_readPart.2.2.1 mX5_readPart.2.2.2 ∈ kx_tbl := kx_in (List.mem_of_getElem? (i := 612) (by decide +kernel)) (by decide +kernel)
theorem wm_X5_readPart : Cond.instanceMethod yX5_readPart ∈ kx_tbl := kx_in (List.mem_of_getElem? (i := 611) (by decide +kernel)) (by decide +kernel)
theorem ww_X5_readPart : Cond.selects yX5_readPart.cls yX5_readPart yX5_readPart ∈ kx_tbl := kx_in (List.mem_of_getElem? (i := 12) (by decide +kernel)) (by decide +kernel)
theorem wc_X5_readPerson : Cond.code mX5_readPerson.1 mX5_readPerson.2.1 mX5_readPerson.2.2.1 mX5_readPerson.2.2.2 ∈ kx_tbl := kx_in (List.mem_of_getElem? (i := 616) (by decide +kernel)) (by decide +kernel)
theorem wm_X5_readPerson : Cond.instanceMethod yX5_readPerson ∈ kx_tbl := kx_in (List.mem_of_getElem? (i := 615) (by decide +kernel)) (by decide +kernel)
theorem ww_X5_readPerson : Cond.selects yX5_readPerson.cls yX5_readPerson yX5_readPerson ∈ kx_tbl := kx_in (List.mem_of_getElem? (i := 13) (by decide +kernel)) (by decide +kernel)
theorem wc_X5_figure : Cond.code mX5_figure.1 mX5_figure.2.1 mX5_figure.2.2.1 mX5_figure.2.2.2 ∈ kx_tbl := kx_in (List.mem_of_getElem? (i := 620) (by decide +kernel)) (by decide +kernel)
theorem wm_X5_figure : Cond.instanceMethod yX5_figure ∈ kx_tbl := kx_in (List.mem_of_getElem? (i := 619) (by decide +kernel)) (by decide +kernel)
theorem ww_X5_figure : Cond.selects yX5_figure.cls yX5_figure yX5_figure ∈ kx_tbl := kx_in (List.mem_of_getElem? (i := 14) (by decide +kernel)) (by decide +kernel)
theorem wc_X5_arePairs : Cond.code mX5_arePairs.1 mX5_arePairs.2.1 mX5_arePairs.2.2.1 mX5_arePairs.2.2.2 ∈ kx_tbl := kx_in (List.mem_of_getElem? (i := 624) (by decide +kernel)) (by decide +kernel)
theorem wm_X5_arePairs : Cond.instanceMethod yX5_arePairs ∈ kx_tbl := kx_in (List.mem_of_getElem? (i := 623) (by decide +kernel)) (by decide +kernel)
theorem ww_X5_arePairs : Cond.selects yX5_arePairs.cls yX5_arePairs yX5_arePairs ∈ kx_tbl := kx_in (List.mem_of_getElem? (i := 15) (by decide +kernel)) (by decide +kernel)
theorem wc_X5_pairsOf : Cond.code mX5_pairsOf.1 mX5_pairsOf.2.1 mX5_pairsOf.2.2.1 mX5_pairsOf.2.2.2 ∈ kx_tbl := kx_in (List.mem_of_getElem? (i := 628) (by decide +kernel)) (by decide +kernel)
theorem wm_X5_pairsOf : Cond.instanceMethod yX5_pairsOf ∈ kx_tbl := kx_in (List.mem_of_getElem? (i := 627) (by decide +kernel)) (by decide +kernel)
theorem ww_X5_pairsOf : Cond.selects yX5_pairsOf.cls yX5_pairsOf yX5_pairsOf ∈ kx_tbl := kx_in (List.mem_of_getElem? (i := 16) (by decide +kernel)) (by decide +kernel)
theorem wc_X5_has : Cond.code mX5_has.1 mX5_has.2.1 mX5_has.2.2.1 mX5_has.2.2.2 ∈ kx_tbl := kx_in (List.mem_of_getElem? (i := 631) (by decide +kernel)) (by decide +kernel)
theorem wt_X5_has : Cond.static yX5_has ∈ kx_tbl := kx_in (List.mem_of_getElem? (i := 630) (by decide +kernel)) (by decide +kernel)
theorem wc_X5_readKin : Cond.code mX5_readKin.1 mX5_readKin.2.1 mX5_readKin.2.2.1 mX5_readKin.2.2.2 ∈ kx_tbl := kx_in (List.mem_of_getElem? (i := 635) (by decide +kernel)) (by decide +kernel)
theorem wm_X5_readKin : Cond.instanceMethod yX5_readKin ∈ kx_tbl := kx_in (List.mem_of_getElem? (i := 634) (by decide +kernel)) (by decide +kernel)
theorem ww_X5_readKin : Cond.selects yX5_readKin.cls yX5_readKin yX5_readKin ∈ kx_tbl := kx_in (List.mem_of_getElem? (i := 17) (by decide +kernel)) (by decide +kernel)
theorem wc_X5_land : Cond.code mX5_land.1 mX5_land.2.1 mX5_land.2.2.1 mX5_land.2.2.2 ∈ kx_tbl := kx_in (List.mem_of_getElem? (i := 639) (by decide +kernel)) (by decide +kernel)
theorem wm_X5_land : Cond.instanceMethod yX5_land ∈ kx_tbl := kx_in (List.mem_of_getElem? (i := 637) (by decide +kernel)) (by decide +kernel)
theorem ww_X5_land : Cond.selects yX5_land.cls yX5_land yX5_land ∈ kx_tbl := kx_in (List.mem_of_getElem? (i := 638) (by decide +kernel)) (by decide +kernel)
theorem wc_X5_about : Cond.code mX5_about.1 mX5_about.2.1 mX5_about.2.2.1 mX5_about.2.2.2 ∈ kx_tbl := kx_in (List.mem_of_getElem? (i := 643) (by decide +kernel)) (by decide +kernel)
theorem wm_X5_about : Cond.instanceMethod yX5_about ∈ kx_tbl := kx_in (List.mem_of_getElem? (i := 641) (by decide +kernel)) (by decide +kernel)
theorem ww_X5_about : Cond.selects yX5_about.cls yX5_about yX5_about ∈ kx_tbl := kx_in (List.mem_of_getElem? (i := 642) (by decide +kernel)) (by decide +kernel)
theorem wc_X5_person : Cond.code mX5_person.1 mX5_person.2.1 mX5_person.2.2.1 mX5_person.2.2.2 ∈ kx_tbl := kx_in (List.mem_of_getElem? (i := 647) (by decide +kernel)) (by decide +kernel)
theorem wm_X5_person : Cond.instanceMethod yX5_person ∈ kx_tbl := kx_in (List.mem_of_getElem? (i := 645) (by decide +kernel)) (by decide +kernel)
theorem ww_X5_person : Cond.selects yX5_person.cls yX5_person yX5_person ∈ kx_tbl := kx_in (List.mem_of_getElem? (i := 646) (by decide +kernel)) (by decide +kernel)
theorem wc_X5_noPerson : Cond.code mX5_noPerson.1 mX5_noPerson.2.1 mX5_noPerson.2.2.1 mX5_noPerson.2.2.2 ∈ kx_tbl := kx_in (List.mem_of_getElem? (i := 651) (by decide +kernel)) (by decide +kernel)
theorem wm_X5_noPerson : Cond.instanceMethod yX5_noPerson ∈ kx_tbl := kx_in (List.mem_of_getElem? (i := 650) (by decide +kernel)) (by decide +kernel)
theorem ww_X5_noPerson : Cond.selects yX5_noPerson.cls yX5_noPerson yX5_noPerson ∈ kx_tbl := kx_in (List.mem_of_getElem? (i := 18) (by decide +kernel)) (by decide +kernel)
theorem wc_X5_ouncesOf : Cond.code mX5_ouncesOf.1 mX5_ouncesOf.2.1 mX5_ouncesOf.2.2.1 mX5_ouncesOf.2.2.2 ∈ kx_tbl := kx_in (List.mem_of_getElem? (i := 655) (by decide +kernel)) (by decide +kernel)
theorem wm_X5_ouncesOf : Cond.instanceMethod yX5_ouncesOf ∈ kx_tbl := kx_in (List.mem_of_getElem? (i := 654) (by decide +kernel)) (by decide +kernel)
theorem ww_X5_ouncesOf : Cond.selects yX5_ouncesOf.cls yX5_ouncesOf yX5_ouncesOf ∈ kx_tbl := kx_in (List.mem_of_getElem? (i := 19) (by decide +kernel)) (by decide +kernel)
theorem wc_X5_mayFor : Cond.code mX5_mayFor.1 mX5_mayFor.2.1 mX5_mayFor.2.2.1 mX5_mayFor.2.2.2 ∈ kx_tbl := kx_in (List.mem_of_getElem? (i := 659) (by decide +kernel)) (by decide +kernel)
theorem wm_X5_mayFor : Cond.instanceMethod yX5_mayFor ∈ kx_tbl := kx_in (List.mem_of_getElem? (i := 658) (by decide +kernel)) (by decide +kernel)
theorem ww_X5_mayFor : Cond.selects yX5_mayFor.cls yX5_mayFor yX5_mayFor ∈ kx_tbl := kx_in (List.mem_of_getElem? (i := 20) (by decide +kernel)) (by decide +kernel)
theorem wc_X5_mayWeep : Cond.code mX5_mayWeep.1 mX5_mayWeep.2.1 mX5_mayWeep.2.2.1 mX5_mayWeep.2.2.2 ∈ kx_tbl := kx_in (List.mem_of_getElem? (i := 663) (by decide +kernel)) (by decide +kernel)
theorem wm_X5_mayWeep : Cond.instanceMethod yX5_mayWeep ∈ kx_tbl := kx_in (List.mem_of_getElem? (i := 662) (by decide +kernel)) (by decide +kernel)
theorem ww_X5_mayWeep : Cond.selects yX5_mayWeep.cls yX5_mayWeep yX5_mayWeep ∈ kx_tbl := kx_in (List.mem_of_getElem? (i := 21) (by decide +kernel)) (by decide +kernel)
theorem wc_X5_isFree : Cond.code mX5_isFree.1 mX5_isFree.2.1 mX5_isFree.2.2.1 mX5_isFree.2.2.2 ∈ kx_tbl := kx_in (List.mem_of_getElem? (i := 667) (by decide +kernel)) (by decide +kernel)
theorem wm_X5_isFree : Cond.instanceMethod yX5_isFree ∈ kx_tbl := kx_in (List.mem_of_getElem? (i := 666) (by decide +kernel)) (by decide +kernel)
theorem ww_X5_isFree : Cond.selects yX5_isFree.cls yX5_isFree yX5_isFree ∈ kx_tbl := kx_in (List.mem_of_getElem? (i := 22) (by decide +kernel)) (by decide +kernel)
theorem wc_X5_owes : Cond.code mX5_owes.1 mX5_owes.2.1 mX5_owes.2.2.1 mX5_owes.2.2.2 ∈ kx_tbl := kx_in (List.mem_of_getElem? (i := 671) (by decide +kernel)) (by decide +kernel)
theorem wm_X5_owes : Cond.instanceMethod yX5_owes ∈ kx_tbl := kx_in (List.mem_of_getElem? (i := 669) (by decide +kernel)) (by decide +kernel)
theorem ww_X5_owes : Cond.selects yX5_owes.cls yX5_owes yX5_owes ∈ kx_tbl := kx_in (List.mem_of_getElem? (i := 670) (by decide +kernel)) (by decide +kernel)
theorem wc_X5_funeral : Cond.code mX5_funeral.1 mX5_funeral.2.1 mX5_funeral.2.2.1 mX5_funeral.2.2.2 ∈ kx_tbl := kx_in (List.mem_of_getElem? (i := 675) (by decide +kernel)) (by decide +kernel)
theorem wm_X5_funeral : Cond.instanceMethod yX5_funeral ∈ kx_tbl := kx_in (List.mem_of_getElem? (i := 673) (by decide +kernel)) (by decide +kernel)
theorem ww_X5_funeral : Cond.selects yX5_funeral.cls yX5_funeral yX5_funeral ∈ kx_tbl := kx_in (List.mem_of_getElem? (i := 674) (by decide +kernel)) (by decide +kernel)
theorem wc_X5_note : Cond.code mX5_note.1 mX5_note.2.1 mX5_note.2.2.1 mX5_note.2.2.2 ∈ kx_tbl := kx_in (List.mem_of_getElem? (i := 679) (by decide +kernel)) (by decide +kernel)
theorem wm_X5_note : Cond.instanceMethod yX5_note ∈ kx_tbl := kx_in (List.mem_of_getElem? (i := 678) (by decide +kernel)) (by decide +kernel)
theorem ww_X5_note : Cond.selects yX5_note.cls yX5_note yX5_note ∈ kx_tbl := kx_in (List.mem_of_getElem? (i := 23) (by decide +kernel)) (by decide +kernel)
theorem wc_X5_open : Cond.code mX5_open.1 mX5_open.2.1 mX5_open.2.2.1 mX5_open.2.2.2 ∈ kx_tbl := kx_in (List.mem_of_getElem? (i := 683) (by decide +kernel)) (by decide +kernel)
theorem wm_X5_open : Cond.instanceMethod yX5_open ∈ kx_tbl := kx_in (List.mem_of_getElem? (i := 682) (by decide +kernel)) (by decide +kernel)
theorem ww_X5_open : Cond.selects yX5_open.cls yX5_open yX5_open ∈ kx_tbl := kx_in (List.mem_of_getElem? (i := 24) (by decide +kernel)) (by decide +kernel)
theorem wc_X5_many : Cond.code mX5_many.1 mX5_many.2.1 mX5_many.2.2.1 mX5_many.2.2.2 ∈ kx_tbl := kx_in (List.mem_of_getElem? (i := 686) (by decide +kernel)) (by decide +kernel)
theorem wt_X5_many : Cond.static yX5_many ∈ kx_tbl := kx_in (List.mem_of_getElem? (i := 685) (by decide +kernel)) (by decide +kernel)
theorem wc_X5_weep : Cond.code mX5_weep.1 mX5_weep.2.1 mX5_weep.2.2.1 mX5_weep.2.2.2 ∈ kx_tbl := kx_in (List.mem_of_getElem? (i := 690) (by decide +kernel)) (by decide +kernel)
theorem wm_X5_weep : Cond.instanceMethod yX5_weep ∈ kx_tbl := kx_in (List.mem_of_getElem? (i := 688) (by decide +kernel)) (by decide +kernel)
theorem ww_X5_weep : Cond.selects yX5_weep.cls yX5_weep yX5_weep ∈ kx_tbl := kx_in (List.mem_of_getElem? (i := 689) (by decide +kernel)) (by decide +kernel)
theorem wc_X5_goWeep : Cond.code mX5_goWeep.1 mX5_goWeep.2.1 mX5_goWeep.2.2.1 mX5_goWeep.2.2.2 ∈ kx_tbl := kx_in (List.mem_of_getElem? (i := 694) (by decide +kernel)) (by decide +kernel)
theorem wm_X5_goWeep : Cond.instanceMethod yX5_goWeep ∈ kx_tbl := kx_in (List.mem_of_getElem? (i := 693) (by decide +kernel)) (by decide +kernel)
theorem ww_X5_goWeep : Cond.selects yX5_goWeep.cls yX5_goWeep yX5_goWeep ∈ kx_tbl := kx_in (List.mem_of_getElem? (i := 25) (by decide +kernel)) (by decide +kernel)
theorem wc_X5_close : Cond.code mX5_close.1 mX5_close.2.1 mX5_close.2.2.1 mX5_close.2.2.2 ∈ kx_tbl := kx_in (List.mem_of_getElem? (i := 698) (by decide +kernel)) (by decide +kernel)
theorem wm_X5_close : Cond.instanceMethod yX5_close ∈ kx_tbl := kx_in (List.mem_of_getElem? (i := 697) (by decide +kernel)) (by decide +kernel)
theorem ww_X5_close : Cond.selects yX5_close.cls yX5_close yX5_close ∈ kx_tbl := kx_in (List.mem_of_getElem? (i := 26) (by decide +kernel)) (by decide +kernel)
theorem wc_X5_onions : Cond.code mX5_onions.1 mX5_onions.2.1 mX5_onions.2.2.1 mX5_onions.2.2.2 ∈ kx_tbl := kx_in (List.mem_of_getElem? (i := 702) (by decide +kernel)) (by decide +kernel)
theorem wm_X5_onions : Cond.instanceMethod yX5_onions ∈ kx_tbl := kx_in (List.mem_of_getElem? (i := 700) (by decide +kernel)) (by decide +kernel)
theorem ww_X5_onions : Cond.selects yX5_onions.cls yX5_onions yX5_onions ∈ kx_tbl := kx_in (List.mem_of_getElem? (i := 701) (by decide +kernel)) (by decide +kernel)
theorem wc_X5_week : Cond.code mX5_week.1 mX5_week.2.1 mX5_week.2.2.1 mX5_week.2.2.2 ∈ kx_tbl := kx_in (List.mem_of_getElem? (i := 706) (by decide +kernel)) (by decide +kernel)
theorem wm_X5_week : Cond.instanceMethod yX5_week ∈ kx_tbl := kx_in (List.mem_of_getElem? (i := 704) (by decide +kernel)) (by decide +kernel)
theorem ww_X5_week : Cond.selects yX5_week.cls yX5_week yX5_week ∈ kx_tbl := kx_in (List.mem_of_getElem? (i := 705) (by decide +kernel)) (by decide +kernel)
theorem wc_X5_goWeek : Cond.code mX5_goWeek.1 mX5_goWeek.2.1 mX5_goWeek.2.2.1 mX5_goWeek.2.2.2 ∈ kx_tbl := kx_in (List.mem_of_getElem? (i := 710) (by decide +kernel)) (by decide +kernel)
theorem wm_X5_goWeek : Cond.instanceMethod yX5_goWeek ∈ kx_tbl := kx_in (List.mem_of_getElem? (i := 709) (by decide +kernel)) (by decide +kernel)
theorem ww_X5_goWeek : Cond.selects yX5_goWeek.cls yX5_goWeek yX5_goWeek ∈ kx_tbl := kx_in (List.mem_of_getElem? (i := 27) (by decide +kernel)) (by decide +kernel)
theorem wc_X5_undo : Cond.code mX5_undo.1 mX5_undo.2.1 mX5_undo.2.2.1 mX5_undo.2.2.2 ∈ kx_tbl := kx_in (List.mem_of_getElem? (i := 714) (by decide +kernel)) (by decide +kernel)
theorem wm_X5_undo : Cond.instanceMethod yX5_undo ∈ kx_tbl := kx_in (List.mem_of_getElem? (i := 712) (by decide +kernel)) (by decide +kernel)
theorem ww_X5_undo : Cond.selects yX5_undo.cls yX5_undo yX5_undo ∈ kx_tbl := kx_in (List.mem_of_getElem? (i := 713) (by decide +kernel)) (by decide +kernel)
theorem wc_X5_served : Cond.code mX5_served.1 mX5_served.2.1 mX5_served.2.2.1 mX5_served.2.2.2 ∈ kx_tbl := kx_in (List.mem_of_getElem? (i := 718) (by decide +kernel)) (by decide +kernel)
theorem wm_X5_served : Cond.instanceMethod yX5_served ∈ kx_tbl := kx_in (List.mem_of_getElem? (i := 716) (by decide +kernel)) (by decide +kernel)
theorem ww_X5_served : Cond.selects yX5_served.cls yX5_served yX5_served ∈ kx_tbl := kx_in (List.mem_of_getElem? (i := 717) (by decide +kernel)) (by decide +kernel)
theorem wc_X5_everyone : Cond.code mX5_everyone.1 mX5_everyone.2.1 mX5_everyone.2.2.1 mX5_everyone.2.2.2 ∈ kx_tbl := kx_in (List.mem_of_getElem? (i := 723) (by decide +kernel)) (by decide +kernel)
theorem wm_X5_everyone : Cond.instanceMethod yX5_everyone ∈ kx_tbl := kx_in (List.mem_of_getElem? (i := 722) (by decide +kernel)) (by decide +kernel)
theorem ww_X5_everyone : Cond.selects yX5_everyone.cls yX5_everyone yX5_everyone ∈ kx_tbl := kx_in (List.mem_of_getElem? (i := 28) (by decide +kernel)) (by decide +kernel)
theorem wc_X5_findServed : Cond.code mX5_findServed.1 mX5_findServed.2.1 mX5_findServed.2.2.1 mX5_findServed.2.2.2 ∈ kx_tbl := kx_in (List.mem_of_getElem? (i := 727) (by decide +kernel)) (by decide +kernel)
theorem wm_X5_findServed : Cond.instanceMethod yX5_findServed ∈ kx_tbl := kx_in (List.mem_of_getElem? (i := 726) (by decide +kernel)) (by decide +kernel)
theorem ww_X5_findServed : Cond.selects yX5_findServed.cls yX5_findServed yX5_findServed ∈ kx_tbl := kx_in (List.mem_of_getElem? (i := 29) (by decide +kernel)) (by decide +kernel)
theorem wc_X5_power : Cond.code mX5_power.1 mX5_power.2.1 mX5_power.2.2.1 mX5_power.2.2.2 ∈ kx_tbl := kx_in (List.mem_of_getElem? (i := 730) (by decide +kernel)) (by decide +kernel)
theorem wt_X5_power : Cond.static yX5_power ∈ kx_tbl := kx_in (List.mem_of_getElem? (i := 729) (by decide +kernel)) (by decide +kernel)
theorem wc_X5_nobody : Cond.code mX5_nobody.1 mX5_nobody.2.1 mX5_nobody.2.2.1 mX5_nobody.2.2.2 ∈ kx_tbl := kx_in (List.mem_of_getElem? (i := 734) (by decide +kernel)) (by decide +kernel)
theorem wm_X5_nobody : Cond.instanceMethod yX5_nobody ∈ kx_tbl := kx_in (List.mem_of_getElem? (i := 732) (by decide +kernel)) (by decide +kernel)
theorem ww_X5_nobody : Cond.selects yX5_nobody.cls yX5_nobody yX5_nobody ∈ kx_tbl := kx_in (List.mem_of_getElem? (i := 733) (by decide +kernel)) (by decide +kernel)
theorem wc_X5_till : Cond.code mX5_till.1 mX5_till.2.1 mX5_till.2.2.1 mX5_till.2.2.2 ∈ kx_tbl := kx_in (List.mem_of_getElem? (i := 738) (by decide +kernel)) (by decide +kernel)
theorem wm_X5_till : Cond.instanceMethod yX5_till ∈ kx_tbl := kx_in (List.mem_of_getElem? (i := 736) (by decide +kernel)) (by decide +kernel)
theorem ww_X5_till : Cond.selects yX5_till.cls yX5_till yX5_till ∈ kx_tbl := kx_in (List.mem_of_getElem? (i := 737) (by decide +kernel)) (by decide +kernel)
theorem wc_X5_begin : Cond.code mX5_begin.1 mX5_begin.2.1 mX5_begin.2.2.1 mX5_begin.2.2.2 ∈ kx_tbl := kx_in (List.mem_of_getElem? (i := 742) (by decide +kernel)) (by decide +kernel)
theorem wm_X5_begin : Cond.instanceMethod yX5_begin ∈ kx_tbl := kx_in (List.mem_of_getElem? (i := 741) (by decide +kernel)) (by decide +kernel)
theorem ww_X5_begin : Cond.selects yX5_begin.cls yX5_begin yX5_begin ∈ kx_tbl := kx_in (List.mem_of_getElem? (i := 30) (by decide +kernel)) (by decide +kernel)
theorem wc_X5_net : Cond.code mX5_net.1 mX5_net.2.1 mX5_net.2.2.1 mX5_net.2.2.2 ∈ kx_tbl := kx_in (List.mem_of_getElem? (i := 746) (by decide +kernel)) (by decide +kernel)
theorem wm_X5_net : Cond.instanceMethod yX5_net ∈ kx_tbl := kx_in (List.mem_of_getElem? (i := 744) (by decide +kernel)) (by decide +kernel)
theorem ww_X5_net : Cond.selects yX5_net.cls yX5_net yX5_net ∈ kx_tbl := kx_in (List.mem_of_getElem? (i := 745) (by decide +kernel)) (by decide +kernel)
theorem wc_X5_ring : Cond.code mX5_ring.1 mX5_ring.2.1 mX5_ring.2.2.1 mX5_ring.2.2.2 ∈ kx_tbl := kx_in (List.mem_of_getElem? (i := 750) (by decide +kernel)) (by decide +kernel)
theorem wm_X5_ring : Cond.instanceMethod yX5_ring ∈ kx_tbl := kx_in (List.mem_of_getElem? (i := 748) (by decide +kernel)) (by decide +kernel)
theorem ww_X5_ring : Cond.selects yX5_ring.cls yX5_ring yX5_ring ∈ kx_tbl := kx_in (List.mem_of_getElem? (i := 749) (by decide +kernel)) (by decide +kernel)
theorem wc_X5_share : Cond.code mX5_share.1 mX5_share.2.1 mX5_share.2.2.1 mX5_share.2.2.2 ∈ kx_tbl := kx_in (List.mem_of_getElem? (i := 754) (by decide +kernel)) (by decide +kernel)
theorem wm_X5_share : Cond.instanceMethod yX5_share ∈ kx_tbl := kx_in (List.mem_of_getElem? (i := 752) (by decide +kernel)) (by decide +kernel)
theorem ww_X5_share : Cond.selects yX5_share.cls yX5_share yX5_share ∈ kx_tbl := kx_in (List.mem_of_getElem? (i := 753) (by decide +kernel)) (by decide +kernel)
theorem wc_X5_orders : Cond.code mX5_orders.1 mX5_orders.2.1 mX5_orders.2.2.1 mX5_orders.2.2.2 ∈ kx_tbl := kx_in (List.mem_of_getElem? (i := 757) (by decide +kernel)) (by decide +kernel)
theorem wt_X5_orders : Cond.static yX5_orders ∈ kx_tbl := kx_in (List.mem_of_getElem? (i := 756) (by decide +kernel)) (by decide +kernel)
theorem wc_X5_fraction : Cond.code mX5_fraction.1 mX5_fraction.2.1 mX5_fraction.2.2.1 mX5_fraction.2.2.2 ∈ kx_tbl := kx_in (List.mem_of_getElem? (i := 760) (by decide +kernel)) (by decide +kernel)
theorem wt_X5_fraction : Cond.static yX5_fraction ∈ kx_tbl := kx_in (List.mem_of_getElem? (i := 759) (by decide +kernel)) (by decide +kernel)
theorem wc_X5_divisor : Cond.code mX5_divisor.1 mX5_divisor.2.1 mX5_divisor.2.2.1 mX5_divisor.2.2.2 ∈ kx_tbl := kx_in (List.mem_of_getElem? (i := 763) (by decide +kernel)) (by decide +kernel)
theorem wt_X5_divisor : Cond.static yX5_divisor ∈ kx_tbl := kx_in (List.mem_of_getElem? (i := 762) (by decide +kernel)) (by decide +kernel)
theorem wc_X5_weighed : Cond.code mX5_weighed.1 mX5_weighed.2.1 mX5_weighed.2.2.1 mX5_weighed.2.2.2 ∈ kx_tbl := kx_in (List.mem_of_getElem? (i := 767) (by decide +kernel)) (by decide +kernel)
theorem wm_X5_weighed : Cond.instanceMethod yX5_weighed ∈ kx_tbl := kx_in (List.mem_of_getElem? (i := 765) (by decide +kernel)) (by decide +kernel)
theorem ww_X5_weighed : Cond.selects yX5_weighed.cls yX5_weighed yX5_weighed ∈ kx_tbl := kx_in (List.mem_of_getElem? (i := 766) (by decide +kernel)) (by decide +kernel)
theorem wc_X5_whose : Cond.code mX5_whose.1 mX5_whose.2.1 mX5_whose.2.2.1 mX5_whose.2.2.2 ∈ kx_tbl := kx_in (List.mem_of_getElem? (i := 772) (by decide +kernel)) (by decide +kernel)
theorem wm_X5_whose : Cond.instanceMethod yX5_whose ∈ kx_tbl := kx_in (List.mem_of_getElem? (i := 770) (by decide +kernel)) (by decide +kernel)
theorem ww_X5_whose : Cond.selects yX5_whose.cls yX5_whose yX5_whose ∈ kx_tbl := kx_in (List.mem_of_getElem? (i := 771) (by decide +kernel)) (by decide +kernel)
theorem wc_X5_rests : Cond.code mX5_rests.1 mX5_rests.2.1 mX5_rests.2.2.1 mX5_rests.2.2.2 ∈ kx_tbl := kx_in (List.mem_of_getElem? (i := 777) (by decide +kernel)) (by decide +kernel)
theorem wm_X5_rests : Cond.instanceMethod yX5_rests ∈ kx_tbl := kx_in (List.mem_of_getElem? (i := 775) (by decide +kernel)) (by decide +kernel)
theorem ww_X5_rests : Cond.selects yX5_rests.cls yX5_rests yX5_rests ∈ kx_tbl := kx_in (List.mem_of_getElem? (i := 776) (by decide +kernel)) (by decide +kernel)
theorem wc_X5_findRests : Cond.code mX5_findRests.1 mX5_findRests.2.1 mX5_findRests.2.2.1 mX5_findRests.2.2.2 ∈ kx_tbl := kx_in (List.mem_of_getElem? (i := 781) (by decide +kernel)) (by decide +kernel)
theorem wm_X5_findRests : Cond.instanceMethod yX5_findRests ∈ kx_tbl := kx_in (List.mem_of_getElem? (i := 780) (by decide +kernel)) (by decide +kernel)
theorem ww_X5_findRests : Cond.selects yX5_findRests.cls yX5_findRests yX5_findRests ∈ kx_tbl := kx_in (List.mem_of_getElem? (i := 31) (by decide +kernel)) (by decide +kernel)
theorem wc_X5_gainOf : Cond.code mX5_gainOf.1 mX5_gainOf.2.1 mX5_gainOf.2.2.1 mX5_gainOf.2.2.2 ∈ kx_tbl := kx_in (List.mem_of_getElem? (i := 785) (by decide +kernel)) (by decide +kernel)
theorem wm_X5_gainOf : Cond.instanceMethod yX5_gainOf ∈ kx_tbl := kx_in (List.mem_of_getElem? (i := 784) (by decide +kernel)) (by decide +kernel)
theorem ww_X5_gainOf : Cond.selects yX5_gainOf.cls yX5_gainOf yX5_gainOf ∈ kx_tbl := kx_in (List.mem_of_getElem? (i := 32) (by decide +kernel)) (by decide +kernel)
theorem wc_X5_chance : Cond.code mX5_chance.1 mX5_chance.2.1 mX5_chance.2.2.1 mX5_chance.2.2.2 ∈ kx_tbl := kx_in (List.mem_of_getElem? (i := 789) (by decide +kernel)) (by decide +kernel)
theorem wm_X5_chance : Cond.instanceMethod yX5_chance ∈ kx_tbl := kx_in (List.mem_of_getElem? (i := 787) (by decide +kernel)) (by decide +kernel)
theorem ww_X5_chance : Cond.selects yX5_chance.cls yX5_chance yX5_chance ∈ kx_tbl := kx_in (List.mem_of_getElem? (i := 788) (by decide +kernel)) (by decide +kernel)
theorem wc_X5_seed : Cond.code mX5_seed.1 mX5_seed.2.1 mX5_seed.2.2.1 mX5_seed.2.2.2 ∈ kx_tbl := kx_in (List.mem_of_getElem? (i := 794) (by decide +kernel)) (by decide +kernel)
theorem wm_X5_seed : Cond.instanceMethod yX5_seed ∈ kx_tbl := kx_in (List.mem_of_getElem? (i := 792) (by decide +kernel)) (by decide +kernel)
theorem ww_X5_seed : Cond.selects yX5_seed.cls yX5_seed yX5_seed ∈ kx_tbl := kx_in (List.mem_of_getElem? (i := 793) (by decide +kernel)) (by decide +kernel)
theorem wc_X5_years : Cond.code mX5_years.1 mX5_years.2.1 mX5_years.2.2.1 mX5_years.2.2.2 ∈ kx_tbl := kx_in (List.mem_of_getElem? (i := 798) (by decide +kernel)) (by decide +kernel)
theorem wm_X5_years : Cond.instanceMethod yX5_years ∈ kx_tbl := kx_in (List.mem_of_getElem? (i := 796) (by decide +kernel)) (by decide +kernel)
theorem ww_X5_years : Cond.selects yX5_years.cls yX5_years yX5_years ∈ kx_tbl := kx_in (List.mem_of_getElem? (i := 797) (by decide +kernel)) (by decide +kernel)
theorem wc_X5_keep : Cond.code mX5_keep.1 mX5_keep.2.1 mX5_keep.2.2.1 mX5_keep.2.2.2 ∈ kx_tbl := kx_in (List.mem_of_getElem? (i := 806) (by decide +kernel)) (by decide +kernel)
theorem wm_X5_keep : Cond.instanceMethod yX5_keep ∈ kx_tbl := kx_in (List.mem_of_getElem? (i := 804) (by decide +kernel)) (by decide +kernel)
theorem ww_X5_keep : Cond.selects yX5_keep.cls yX5_keep yX5_keep ∈ kx_tbl := kx_in (List.mem_of_getElem? (i := 805) (by decide +kernel)) (by decide +kernel)
theorem wc_X5_again : Cond.code mX5_again.1 mX5_again.2.1 mX5_again.2.2.1 mX5_again.2.2.2 ∈ kx_tbl := kx_in (List.mem_of_getElem? (i := 810) (by decide +kernel)) (by decide +kernel)
theorem wm_X5_again : Cond.instanceMethod yX5_again ∈ kx_tbl := kx_in (List.mem_of_getElem? (i := 808) (by decide +kernel)) (by decide +kernel)
theorem ww_X5_again : Cond.selects yX5_again.cls yX5_again yX5_again ∈ kx_tbl := kx_in (List.mem_of_getElem? (i := 809) (by decide +kernel)) (by decide +kernel)
theorem fl_X2_9 : kx_fl RX2 9 2 0 true (.array (.int)) := ⟨RX2, TX2, 9, kc_2, by decide, kx_in (List.mem_of_getElem? (i := 63) (by decide +kernel)) (by decide +kernel), rfl, rfl, by decide +kernel⟩
theorem fl_X4_93 : kx_fl RX4 93 2 0 true (.array (.int)) := ⟨RX2, TX2, 9, kc_2, by decide, kx_in (List.mem_of_getElem? (i := 64) (by decide +kernel)) (by decide +kernel), rfl, rfl, by decide +kernel⟩
theorem fl_X2_15 : kx_fl RX2 15 2 1 true (.array (.int)) := ⟨RX2, TX2, 9, kc_2, by decide, kx_in (List.mem_of_getElem? (i := 65) (by decide +kernel)) (by decide +kernel), rfl, rfl, by decide +kernel⟩
theorem fl_X4_97 : kx_fl RX4 97 2 1 true (.array (.int)) := ⟨RX2, TX2, 9, kc_2, by decide, kx_in (List.mem_of_getElem? (i := 66) (by decide +kernel)) (by decide +kernel), rfl, rfl, by decide +kernel⟩
theorem fl_X2_18 : kx_fl RX2 18 2 2 true (.array (.int)) := ⟨RX2, TX2, 9, kc_2, by decide, kx_in (List.mem_of_getElem? (i := 67) (by decide +kernel)) (by decide +kernel), rfl, rfl, by decide +kernel⟩
theorem fl_X4_100 : kx_fl RX4 100 2 2 true (.array (.int)) := ⟨RX2, TX2, 9, kc_2, by decide, kx_in (List.mem_of_getElem? (i := 68) (by decide +kernel)) (by decide +kernel), rfl, rfl, by decide +kernel⟩
theorem fl_X2_21 : kx_fl RX2 21 2 3 true (.array (.int)) := ⟨RX2, TX2, 9, kc_2, by decide, kx_in (List.mem_of_getElem? (i := 69) (by decide +kernel)) (by decide +kernel), rfl, rfl, by decide +kernel⟩
theorem fl_X4_103 : kx_fl RX4 103 2 3 true (.array (.int)) := ⟨RX2, TX2, 9, kc_2, by decide, kx_in (List.mem_of_getElem? (i := 70) (by decide +kernel)) (by decide +kernel), rfl, rfl, by decide +kernel⟩
theorem fl_X2_24 : kx_fl RX2 24 2 4 true (.array (.int)) := ⟨RX2, TX2, 9, kc_2, by decide, kx_in (List.mem_of_getElem? (i := 71) (by decide +kernel)) (by decide +kernel), rfl, rfl, by decide +kernel⟩
theorem fl_X2_33 : kx_fl RX2 33 2 5 false (.int) := ⟨RX2, TX2, 9, kc_2, by decide, kx_in (List.mem_of_getElem? (i := 72) (by decide +kernel)) (by decide +kernel), rfl, rfl, by decide +kernel⟩
theorem fl_X4_74 : kx_fl RX4 74 2 5 false (.int) := ⟨RX2, TX2, 9, kc_2, by decide, kx_in (List.mem_of_getElem? (i := 73) (by decide +kernel)) (by decide +kernel), rfl, rfl, by decide +kernel⟩
theorem fl_X1_39 : kx_fl RX1 39 2 5 false (.int) := ⟨RX2, TX2, 9, kc_2, by decide, kx_in (List.mem_of_getElem? (i := 74) (by decide +kernel)) (by decide +kernel), rfl, rfl, by decide +kernel⟩
theorem fl_X2_37 : kx_fl RX2 37 2 6 false (.int) := ⟨RX2, TX2, 9, kc_2, by decide, kx_in (List.mem_of_getElem? (i := 75) (by decide +kernel)) (by decide +kernel), rfl, rfl, by decide +kernel⟩
theorem fl_X4_77 : kx_fl RX4 77 2 6 false (.int) := ⟨RX2, TX2, 9, kc_2, by decide, kx_in (List.mem_of_getElem? (i := 76) (by decide +kernel)) (by decide +kernel), rfl, rfl, by decide +kernel⟩
theorem fl_X2_40 : kx_fl RX2 40 2 7 false (.int) := ⟨RX2, TX2, 9, kc_2, by decide, kx_in (List.mem_of_getElem? (i := 77) (by decide +kernel)) (by decide +kernel), rfl, rfl, by decide +kernel⟩
theorem fl_X4_83 : kx_fl RX4 83 2 7 false (.int) := ⟨RX2, TX2, 9, kc_2, by decide, kx_in (List.mem_of_getElem? (i := 78) (by decide +kernel)) (by decide +kernel), rfl, rfl, by decide +kernel⟩
theorem fl_X2_43 : kx_fl RX2 43 2 8 false (.int) := ⟨RX2, TX2, 9, kc_2, by decide, kx_in (List.mem_of_getElem? (i := 79) (by decide +kernel)) (by decide +kernel), rfl, rfl, by decide +kernel⟩
theorem fl_X4_80 : kx_fl RX4 80 2 8 false (.int) := ⟨RX2, TX2, 9, kc_2, by decide, kx_in (List.mem_of_getElem? (i := 80) (by decide +kernel)) (by decide +kernel), rfl, rfl, by decide +kernel⟩
theorem fl_X1_9 : kx_fl RX1 9 1 0 true (.array (.int)) := ⟨RX1, TX1, 3, kc_1, by decide, kx_in (List.mem_of_getElem? (i := 101) (by decide +kernel)) (by decide +kernel), rfl, rfl, by decide +kernel⟩
theorem fl_X1_18 : kx_fl RX1 18 1 1 true (.object "BorrowedTears$People") := ⟨RX1, TX1, 3, kc_1, by decide, kx_in (List.mem_of_getElem? (i := 102) (by decide +kernel)) (by decide +kernel), rfl, rfl, by decide +kernel⟩
theorem fl_X4_64 : kx_fl RX4 64 1 1 true (.object "BorrowedTears$People") := ⟨RX1, TX1, 3, kc_1, by decide, kx_in (List.mem_of_getElem? (i := 103) (by decide +kernel)) (by decide +kernel), rfl, rfl, by decide +kernel⟩
theorem fl_X1_22 : kx_fl RX1 22 1 2 false (.int) := ⟨RX1, TX1, 3, kc_1, by decide, kx_in (List.mem_of_getElem? (i := 104) (by decide +kernel)) (by decide +kernel), rfl, rfl, by decide +kernel⟩
theorem fl_X4_56 : kx_fl RX4 56 1 2 false (.int) := ⟨RX1, TX1, 3, kc_1, by decide, kx_in (List.mem_of_getElem? (i := 105) (by decide +kernel)) (by decide +kernel), rfl, rfl, by decide +kernel⟩
theorem fl_X0_11 : kx_fl RX0 11 0 0 true (.array (.object "BorrowedTears$People")) := ⟨RX0, TX0, 3, kc_0, by decide, kx_in (List.mem_of_getElem? (i := 124) (by decide +kernel)) (by decide +kernel), rfl, rfl, by decide +kernel⟩
theorem fl_X0_18 : kx_fl RX0 18 0 1 false (.int) := ⟨RX0, TX0, 3, kc_0, by decide, kx_in (List.mem_of_getElem? (i := 125) (by decide +kernel)) (by decide +kernel), rfl, rfl, by decide +kernel⟩
theorem fl_X0_22 : kx_fl RX0 22 0 2 false (.int) := ⟨RX0, TX0, 3, kc_0, by decide, kx_in (List.mem_of_getElem? (i := 126) (by decide +kernel)) (by decide +kernel), rfl, rfl, by decide +kernel⟩
theorem fl_X4_86 : kx_fl RX4 86 0 2 false (.int) := ⟨RX0, TX0, 3, kc_0, by decide, kx_in (List.mem_of_getElem? (i := 127) (by decide +kernel)) (by decide +kernel), rfl, rfl, by decide +kernel⟩
theorem fl_X3_9 : kx_fl RX3 9 3 0 false (.int) := ⟨RX3, TX3, 4, kc_3, by decide, kx_in (List.mem_of_getElem? (i := 141) (by decide +kernel)) (by decide +kernel), rfl, rfl, by decide +kernel⟩
theorem fl_X3_15 : kx_fl RX3 15 3 1 false (.int) := ⟨RX3, TX3, 4, kc_3, by decide, kx_in (List.mem_of_getElem? (i := 142) (by decide +kernel)) (by decide +kernel), rfl, rfl, by decide +kernel⟩
theorem fl_X4_159 : kx_fl RX4 159 3 1 false (.int) := ⟨RX3, TX3, 4, kc_3, by decide, kx_in (List.mem_of_getElem? (i := 143) (by decide +kernel)) (by decide +kernel), rfl, rfl, by decide +kernel⟩
theorem fl_X3_18 : kx_fl RX3 18 3 2 false (.int) := ⟨RX3, TX3, 4, kc_3, by decide, kx_in (List.mem_of_getElem? (i := 144) (by decide +kernel)) (by decide +kernel), rfl, rfl, by decide +kernel⟩
theorem fl_X4_162 : kx_fl RX4 162 3 2 false (.int) := ⟨RX3, TX3, 4, kc_3, by decide, kx_in (List.mem_of_getElem? (i := 145) (by decide +kernel)) (by decide +kernel), rfl, rfl, by decide +kernel⟩
theorem fl_X3_21 : kx_fl RX3 21 3 3 false (.int) := ⟨RX3, TX3, 4, kc_3, by decide, kx_in (List.mem_of_getElem? (i := 146) (by decide +kernel)) (by decide +kernel), rfl, rfl, by decide +kernel⟩
theorem fl_X4_164 : kx_fl RX4 164 3 3 false (.int) := ⟨RX3, TX3, 4, kc_3, by decide, kx_in (List.mem_of_getElem? (i := 147) (by decide +kernel)) (by decide +kernel), rfl, rfl, by decide +kernel⟩
theorem fl_X4_10 : kx_fl RX4 10 4 0 true (.object "BorrowedTears$LandText") := ⟨RX4, TX4, 8, kc_4, by decide, kx_in (List.mem_of_getElem? (i := 158) (by decide +kernel)) (by decide +kernel), rfl, rfl, by decide +kernel⟩
theorem fl_X4_19 : kx_fl RX4 19 4 1 true (.object "BorrowedTears$People") := ⟨RX4, TX4, 8, kc_4, by decide, kx_in (List.mem_of_getElem? (i := 159) (by decide +kernel)) (by decide +kernel), rfl, rfl, by decide +kernel⟩
theorem fl_X4_23 : kx_fl RX4 23 4 2 true (.object "BorrowedTears$People") := ⟨RX4, TX4, 8, kc_4, by decide, kx_in (List.mem_of_getElem? (i := 160) (by decide +kernel)) (by decide +kernel), rfl, rfl, by decide +kernel⟩
theorem fl_X4_29 : kx_fl RX4 29 4 3 true (.object "BorrowedTears$Acts") := ⟨RX4, TX4, 8, kc_4, by decide, kx_in (List.mem_of_getElem? (i := 161) (by decide +kernel)) (by decide +kernel), rfl, rfl, by decide +kernel⟩
theorem fl_X4_33 : kx_fl RX4 33 4 4 true (.array (.object "BorrowedTears$People")) := ⟨RX4, TX4, 8, kc_4, by decide, kx_in (List.mem_of_getElem? (i := 162) (by decide +kernel)) (by decide +kernel), rfl, rfl, by decide +kernel⟩
theorem fl_X4_37 : kx_fl RX4 37 4 5 true (.array (.boolean)) := ⟨RX4, TX4, 8, kc_4, by decide, kx_in (List.mem_of_getElem? (i := 163) (by decide +kernel)) (by decide +kernel), rfl, rfl, by decide +kernel⟩
theorem fl_X4_44 : kx_fl RX4 44 4 6 true (.object "BorrowedTears$Service") := ⟨RX4, TX4, 8, kc_4, by decide, kx_in (List.mem_of_getElem? (i := 164) (by decide +kernel)) (by decide +kernel), rfl, rfl, by decide +kernel⟩
theorem fl_X4_48 : kx_fl RX4 48 4 7 false (.long) := ⟨RX4, TX4, 8, kc_4, by decide, kx_in (List.mem_of_getElem? (i := 165) (by decide +kernel)) (by decide +kernel), rfl, rfl, by decide +kernel⟩
theorem fs_X4_225 : Cond.fieldLink RX4 225 "BorrowedTears" "FACTORIALS" "[I" ∈ kx_tbl := kx_in (List.mem_of_getElem? (i := 447) (by decide +kernel)) (by decide +kernel)
theorem fl_X5_41 : kx_fl RX5 41 5 0 false (.int) := ⟨RX5, TX5, 22, kc_5, by decide, kx_in (List.mem_of_getElem? (i := 522) (by decide +kernel)) (by decide +kernel), rfl, rfl, by decide +kernel⟩
theorem fl_X5_7 : kx_fl RX5 7 5 1 true (.array (.int)) := ⟨RX5, TX5, 22, kc_5, by decide, kx_in (List.mem_of_getElem? (i := 523) (by decide +kernel)) (by decide +kernel), rfl, rfl, by decide +kernel⟩
theorem fl_X5_54 : kx_fl RX5 54 5 2 false (.int) := ⟨RX5, TX5, 22, kc_5, by decide, kx_in (List.mem_of_getElem? (i := 524) (by decide +kernel)) (by decide +kernel), rfl, rfl, by decide +kernel⟩
theorem fl_X5_57 : kx_fl RX5 57 5 3 false (.int) := ⟨RX5, TX5, 22, kc_5, by decide, kx_in (List.mem_of_getElem? (i := 525) (by decide +kernel)) (by decide +kernel), rfl, rfl, by decide +kernel⟩
theorem fl_X5_45 : kx_fl RX5 45 5 4 false (.int) := ⟨RX5, TX5, 22, kc_5, by decide, kx_in (List.mem_of_getElem? (i := 526) (by decide +kernel)) (by decide +kernel), rfl, rfl, by decide +kernel⟩
theorem fl_X5_13 : kx_fl RX5 13 5 5 true (.array (.int)) := ⟨RX5, TX5, 22, kc_5, by decide, kx_in (List.mem_of_getElem? (i := 527) (by decide +kernel)) (by decide +kernel), rfl, rfl, by decide +kernel⟩
theorem fl_X5_60 : kx_fl RX5 60 5 6 false (.int) := ⟨RX5, TX5, 22, kc_5, by decide, kx_in (List.mem_of_getElem? (i := 528) (by decide +kernel)) (by decide +kernel), rfl, rfl, by decide +kernel⟩
theorem fl_X5_16 : kx_fl RX5 16 5 7 true (.array (.int)) := ⟨RX5, TX5, 22, kc_5, by decide, kx_in (List.mem_of_getElem? (i := 529) (by decide +kernel)) (by decide +kernel), rfl, rfl, by decide +kernel⟩
theorem fl_X5_19 : kx_fl RX5 19 5 8 true (.array (.int)) := ⟨RX5, TX5, 22, kc_5, by decide, kx_in (List.mem_of_getElem? (i := 530) (by decide +kernel)) (by decide +kernel), rfl, rfl, by decide +kernel⟩
theorem fl_X5_22 : kx_fl RX5 22 5 9 true (.array (.int)) := ⟨RX5, TX5, 22, kc_5, by decide, kx_in (List.mem_of_getElem? (i := 531) (by decide +kernel)) (by decide +kernel), rfl, rfl, by decide +kernel⟩
theorem fl_X5_25 : kx_fl RX5 25 5 10 true (.array (.int)) := ⟨RX5, TX5, 22, kc_5, by decide, kx_in (List.mem_of_getElem? (i := 532) (by decide +kernel)) (by decide +kernel), rfl, rfl, by decide +kernel⟩
theorem fl_X5_28 : kx_fl RX5 28 5 11 true (.array (.int)) := ⟨RX5, TX5, 22, kc_5, by decide, kx_in (List.mem_of_getElem? (i := 533) (by decide +kernel)) (by decide +kernel), rfl, rfl, by decide +kernel⟩
theorem fl_X5_90 : kx_fl RX5 90 5 12 false (.int) := ⟨RX5, TX5, 22, kc_5, by decide, kx_in (List.mem_of_getElem? (i := 534) (by decide +kernel)) (by decide +kernel), rfl, rfl, by decide +kernel⟩
theorem fl_X5_31 : kx_fl RX5 31 5 13 true (.array (.int)) := ⟨RX5, TX5, 22, kc_5, by decide, kx_in (List.mem_of_getElem? (i := 535) (by decide +kernel)) (by decide +kernel), rfl, rfl, by decide +kernel⟩
theorem fl_X5_34 : kx_fl RX5 34 5 14 true (.array (.boolean)) := ⟨RX5, TX5, 22, kc_5, by decide, kx_in (List.mem_of_getElem? (i := 536) (by decide +kernel)) (by decide +kernel), rfl, rfl, by decide +kernel⟩
theorem fl_X5_186 : kx_fl RX5 186 5 15 false (.long) := ⟨RX5, TX5, 22, kc_5, by decide, kx_in (List.mem_of_getElem? (i := 537) (by decide +kernel)) (by decide +kernel), rfl, rfl, by decide +kernel⟩
theorem fl_X5_133 : kx_fl RX5 133 5 16 false (.int) := ⟨RX5, TX5, 22, kc_5, by decide, kx_in (List.mem_of_getElem? (i := 538) (by decide +kernel)) (by decide +kernel), rfl, rfl, by decide +kernel⟩
theorem fl_X5_136 : kx_fl RX5 136 5 17 false (.int) := ⟨RX5, TX5, 22, kc_5, by decide, kx_in (List.mem_of_getElem? (i := 539) (by decide +kernel)) (by decide +kernel), rfl, rfl, by decide +kernel⟩
theorem fl_X5_139 : kx_fl RX5 139 5 18 false (.int) := ⟨RX5, TX5, 22, kc_5, by decide, kx_in (List.mem_of_getElem? (i := 540) (by decide +kernel)) (by decide +kernel), rfl, rfl, by decide +kernel⟩
theorem fl_X5_38 : kx_fl RX5 38 5 19 true (.array (.int)) := ⟨RX5, TX5, 22, kc_5, by decide, kx_in (List.mem_of_getElem? (i := 541) (by decide +kernel)) (by decide +kernel), rfl, rfl, by decide +kernel⟩
theorem fl_X5_170 : kx_fl RX5 170 5 20 false (.int) := ⟨RX5, TX5, 22, kc_5, by decide, kx_in (List.mem_of_getElem? (i := 542) (by decide +kernel)) (by decide +kernel), rfl, rfl, by decide +kernel⟩
theorem fl_X5_173 : kx_fl RX5 173 5 21 false (.int) := ⟨RX5, TX5, 22, kc_5, by decide, kx_in (List.mem_of_getElem? (i := 543) (by decide +kernel)) (by decide +kernel), rfl, rfl, by decide +kernel⟩
theorem fc_X4_202 : Cond.constantLong RX4 202 6364136223846793005 ∈ kx_tbl := kx_in (List.mem_of_getElem? (i := 505) (by decide +kernel)) (by decide +kernel)
theorem fc_X4_204 : Cond.constantLong RX4 204 1442695040888963407 ∈ kx_tbl := kx_in (List.mem_of_getElem? (i := 506) (by decide +kernel)) (by decide +kernel)
theorem fc_X4_206 : Cond.constantLong RX4 206 50 ∈ kx_tbl := kx_in (List.mem_of_getElem? (i := 507) (by decide +kernel)) (by decide +kernel)
theorem fc_X5_52 : Cond.constantLong RX5 52 255 ∈ kx_tbl := kx_in (List.mem_of_getElem? (i := 593) (by decide +kernel)) (by decide +kernel)
theorem fc_X5_145 : Cond.constantLong RX5 145 2 ∈ kx_tbl := kx_in (List.mem_of_getElem? (i := 719) (by decide +kernel)) (by decide +kernel)
theorem fc_X5_166 : Cond.constantLong RX5 166 45 ∈ kx_tbl := kx_in (List.mem_of_getElem? (i := 768) (by decide +kernel)) (by decide +kernel)
theorem fc_X5_168 : Cond.constantLong RX5 168 9 ∈ kx_tbl := kx_in (List.mem_of_getElem? (i := 773) (by decide +kernel)) (by decide +kernel)
theorem fc_X5_184 : Cond.constantLong RX5 184 10 ∈ kx_tbl := kx_in (List.mem_of_getElem? (i := 790) (by decide +kernel)) (by decide +kernel)
theorem fc_X5_190 : Cond.constantLong RX5 190 20 ∈ kx_tbl := kx_in (List.mem_of_getElem? (i := 799) (by decide +kernel)) (by decide +kernel)
theorem fc_X5_192 : Cond.constantLong RX5 192 6364136223846793005 ∈ kx_tbl := kx_in (List.mem_of_getElem? (i := 800) (by decide +kernel)) (by decide +kernel)
theorem fc_X5_194 : Cond.constantLong RX5 194 1442695040888963407 ∈ kx_tbl := kx_in (List.mem_of_getElem? (i := 801) (by decide +kernel)) (by decide +kernel)
theorem fc_X5_196 : Cond.constantLong RX5 196 50 ∈ kx_tbl := kx_in (List.mem_of_getElem? (i := 802) (by decide +kernel)) (by decide +kernel)
theorem fc_L_107 : Cond.constantLong RL 107 4294967295 ∈ kx_tbl := kx_in (List.mem_of_getElem? (i := 811) (by decide +kernel)) (by decide +kernel)
theorem lk_L_9 : kx_lI RL 9 mX4_init 0 := ⟨⟨wc_X4_init, wi_RX4, by decide +kernel, by decide +kernel, by decide +kernel, by decide⟩, kx_in (List.mem_of_getElem? (i := 45) (by decide +kernel)) (by decide +kernel), wm_X4_init, rfl⟩
theorem lk_X4_28 : kx_lI RX4 28 mX0_init 0 := ⟨⟨wc_X0_init, wi_RX0, by decide +kernel, by decide +kernel, by decide +kernel, by decide⟩, kx_in (List.mem_of_getElem? (i := 117) (by decide +kernel)) (by decide +kernel), wm_X0_init, rfl⟩
theorem lk_L_13 : kx_lV RL 13 mX4_write 1 := ⟨⟨wc_X4_write, wi_RX4, by decide +kernel, by decide +kernel, by decide +kernel, by decide⟩, kx_in (List.mem_of_getElem? (i := 183) (by decide +kernel)) (by decide +kernel), wm_X4_write, ww_X4_write⟩
theorem lk_X4_52 : kx_lV RX4 52 mX1_append 1 := ⟨⟨wc_X1_append, wi_RX1, by decide +kernel, by decide +kernel, by decide +kernel, by decide⟩, kx_in (List.mem_of_getElem? (i := 187) (by decide +kernel)) (by decide +kernel), wm_X1_append, ww_X1_append⟩
theorem lk_L_18 : kx_lV RL 18 mX4_wipe 0 := ⟨⟨wc_X4_wipe, wi_RX4, by decide +kernel, by decide +kernel, by decide +kernel, by decide⟩, kx_in (List.mem_of_getElem? (i := 191) (by decide +kernel)) (by decide +kernel), wm_X4_wipe, ww_X4_wipe⟩
theorem lk_L_23 : kx_lV RL 23 mX4_fault 0 := ⟨⟨wc_X4_fault, wi_RX4, by decide +kernel, by decide +kernel, by decide +kernel, by decide⟩, kx_in (List.mem_of_getElem? (i := 195) (by decide +kernel)) (by decide +kernel), wm_X4_fault, ww_X4_fault⟩
theorem lk_X4_60 : kx_lV RX4 60 mX1_readLand 0 := ⟨⟨wc_X1_readLand, wi_RX1, by decide +kernel, by decide +kernel, by decide +kernel, by decide⟩, kx_in (List.mem_of_getElem? (i := 199) (by decide +kernel)) (by decide +kernel), wm_X1_readLand, ww_X1_readLand⟩
theorem lk_X1_26 : kx_lV RX1 26 mX2_clear 0 := ⟨⟨wc_X2_clear, wi_RX2, by decide +kernel, by decide +kernel, by decide +kernel, by decide⟩, kx_in (List.mem_of_getElem? (i := 203) (by decide +kernel)) (by decide +kernel), wm_X2_clear, ww_X2_clear⟩
theorem lk_X1_29 : kx_lV RX1 29 mX1_letterAt 1 := ⟨⟨wc_X1_letterAt, wi_RX1, by decide +kernel, by decide +kernel, by decide +kernel, by decide⟩, kx_in (List.mem_of_getElem? (i := 207) (by decide +kernel)) (by decide +kernel), wm_X1_letterAt, ww_X1_letterAt⟩
theorem lk_X1_33 : kx_lV RX1 33 mX1_readPerson 1 := ⟨⟨wc_X1_readPerson, wi_RX1, by decide +kernel, by decide +kernel, by decide +kernel, by decide⟩, kx_in (List.mem_of_getElem? (i := 211) (by decide +kernel)) (by decide +kernel), wm_X1_readPerson, ww_X1_readPerson⟩
theorem lk_X1_42 : kx_lV RX1 42 mX1_digitAt 1 := ⟨⟨wc_X1_digitAt, wi_RX1, by decide +kernel, by decide +kernel, by decide +kernel, by decide⟩, kx_in (List.mem_of_getElem? (i := 215) (by decide +kernel)) (by decide +kernel), wm_X1_digitAt, ww_X1_digitAt⟩
theorem lk_X1_45 : kx_lV RX1 45 mX2_add 3 := ⟨⟨wc_X2_add, wi_RX2, by decide +kernel, by decide +kernel, by decide +kernel, by decide⟩, kx_in (List.mem_of_getElem? (i := 219) (by decide +kernel)) (by decide +kernel), wm_X2_add, ww_X2_add⟩
theorem lk_X1_36 : kx_lV RX1 36 mX1_readKin 1 := ⟨⟨wc_X1_readKin, wi_RX1, by decide +kernel, by decide +kernel, by decide +kernel, by decide⟩, kx_in (List.mem_of_getElem? (i := 223) (by decide +kernel)) (by decide +kernel), wm_X1_readKin, ww_X1_readKin⟩
theorem lk_X1_49 : kx_lV RX1 49 mX1_isPairLeft 0 := ⟨⟨wc_X1_isPairLeft, wi_RX1, by decide +kernel, by decide +kernel, by decide +kernel, by decide⟩, kx_in (List.mem_of_getElem? (i := 227) (by decide +kernel)) (by decide +kernel), wm_X1_isPairLeft, ww_X1_isPairLeft⟩
theorem lk_X1_53 : kx_lV RX1 53 mX2_laterStrangers 1 := ⟨⟨wc_X2_laterStrangers, wi_RX2, by decide +kernel, by decide +kernel, by decide +kernel, by decide⟩, kx_in (List.mem_of_getElem? (i := 231) (by decide +kernel)) (by decide +kernel), wm_X2_laterStrangers, ww_X2_laterStrangers⟩
theorem lk_X2_54 : kx_lV RX2 54 mX2_has 1 := ⟨⟨wc_X2_has, wi_RX2, by decide +kernel, by decide +kernel, by decide +kernel, by decide⟩, kx_in (List.mem_of_getElem? (i := 235) (by decide +kernel)) (by decide +kernel), wm_X2_has, ww_X2_has⟩
theorem lk_X2_46 : kx_lV RX2 46 mX2_everyone 0 := ⟨⟨wc_X2_everyone, wi_RX2, by decide +kernel, by decide +kernel, by decide +kernel, by decide⟩, kx_in (List.mem_of_getElem? (i := 239) (by decide +kernel)) (by decide +kernel), wm_X2_everyone, ww_X2_everyone⟩
theorem lk_X1_60 : kx_lV RX1 60 mX2_makeKin 2 := ⟨⟨wc_X2_makeKin, wi_RX2, by decide +kernel, by decide +kernel, by decide +kernel, by decide⟩, kx_in (List.mem_of_getElem? (i := 246) (by decide +kernel)) (by decide +kernel), wm_X2_makeKin, ww_X2_makeKin⟩
theorem lk_L_27 : kx_lV RL 27 mX4_land 0 := ⟨⟨wc_X4_land, wi_RX4, by decide +kernel, by decide +kernel, by decide +kernel, by decide⟩, kx_in (List.mem_of_getElem? (i := 250) (by decide +kernel)) (by decide +kernel), wm_X4_land, ww_X4_land⟩
theorem lk_X4_67 : kx_lV RX4 67 mX2_copyFrom 1 := ⟨⟨wc_X2_copyFrom, wi_RX2, by decide +kernel, by decide +kernel, by decide +kernel, by decide⟩, kx_in (List.mem_of_getElem? (i := 254) (by decide +kernel)) (by decide +kernel), wm_X2_copyFrom, ww_X2_copyFrom⟩
theorem lk_X4_71 : kx_lV RX4 71 mX0_forgetAll 0 := ⟨⟨wc_X0_forgetAll, wi_RX0, by decide +kernel, by decide +kernel, by decide +kernel, by decide⟩, kx_in (List.mem_of_getElem? (i := 261) (by decide +kernel)) (by decide +kernel), wm_X0_forgetAll, ww_X0_forgetAll⟩
theorem lk_L_31 : kx_lV RL 31 mX4_about 1 := ⟨⟨wc_X4_about, wi_RX4, by decide +kernel, by decide +kernel, by decide +kernel, by decide⟩, kx_in (List.mem_of_getElem? (i := 265) (by decide +kernel)) (by decide +kernel), wm_X4_about, ww_X4_about⟩
theorem lk_X4_87 : kx_lV RX4 87 mX2_allSorrow 0 := ⟨⟨wc_X2_allSorrow, wi_RX2, by decide +kernel, by decide +kernel, by decide +kernel, by decide⟩, kx_in (List.mem_of_getElem? (i := 269) (by decide +kernel)) (by decide +kernel), wm_X2_allSorrow, ww_X2_allSorrow⟩
theorem lk_L_35 : kx_lV RL 35 mX4_person 2 := ⟨⟨wc_X4_person, wi_RX4, by decide +kernel, by decide +kernel, by decide +kernel, by decide⟩, kx_in (List.mem_of_getElem? (i := 273) (by decide +kernel)) (by decide +kernel), wm_X4_person, ww_X4_person⟩
theorem lk_X4_90 : kx_lV RX4 90 mX2_has 1 := ⟨⟨wc_X2_has, wi_RX2, by decide +kernel, by decide +kernel, by decide +kernel, by decide⟩, kx_in (List.mem_of_getElem? (i := 277) (by decide +kernel)) (by decide +kernel), wm_X2_has, ww_X2_has⟩
theorem lk_X4_106 : kx_lV RX4 106 mX2_ounces 1 := ⟨⟨wc_X2_ounces, wi_RX2, by decide +kernel, by decide +kernel, by decide +kernel, by decide⟩, kx_in (List.mem_of_getElem? (i := 278) (by decide +kernel)) (by decide +kernel), wm_X2_ounces, ww_X2_ounces⟩
theorem lk_X4_110 : kx_lV RX4 110 mX2_thoseToWeepFor 1 := ⟨⟨wc_X2_thoseToWeepFor, wi_RX2, by decide +kernel, by decide +kernel, by decide +kernel, by decide⟩, kx_in (List.mem_of_getElem? (i := 282) (by decide +kernel)) (by decide +kernel), wm_X2_thoseToWeepFor, ww_X2_thoseToWeepFor⟩
theorem lk_X2_71 : kx_lV RX2 71 mX2_mayWeep 2 := ⟨⟨wc_X2_mayWeep, wi_RX2, by decide +kernel, by decide +kernel, by decide +kernel, by decide⟩, kx_in (List.mem_of_getElem? (i := 286) (by decide +kernel)) (by decide +kernel), wm_X2_mayWeep, ww_X2_mayWeep⟩
theorem lk_X2_65 : kx_lV RX2 65 mX2_isOpen 1 := ⟨⟨wc_X2_isOpen, wi_RX2, by decide +kernel, by decide +kernel, by decide +kernel, by decide⟩, kx_in (List.mem_of_getElem? (i := 290) (by decide +kernel)) (by decide +kernel), wm_X2_isOpen, ww_X2_isOpen⟩
theorem lk_X2_68 : kx_lV RX2 68 mX2_isFitFor 2 := ⟨⟨wc_X2_isFitFor, wi_RX2, by decide +kernel, by decide +kernel, by decide +kernel, by decide⟩, kx_in (List.mem_of_getElem? (i := 295) (by decide +kernel)) (by decide +kernel), wm_X2_isFitFor, ww_X2_isFitFor⟩
theorem lk_X2_58 : kx_lV RX2 58 mX2_ounces 1 := ⟨⟨wc_X2_ounces, wi_RX2, by decide +kernel, by decide +kernel, by decide +kernel, by decide⟩, kx_in (List.mem_of_getElem? (i := 299) (by decide +kernel)) (by decide +kernel), wm_X2_ounces, ww_X2_ounces⟩
theorem lk_X2_62 : kx_lV RX2 62 mX2_areKin 2 := ⟨⟨wc_X2_areKin, wi_RX2, by decide +kernel, by decide +kernel, by decide +kernel, by decide⟩, kx_in (List.mem_of_getElem? (i := 300) (by decide +kernel)) (by decide +kernel), wm_X2_areKin, ww_X2_areKin⟩
theorem lk_L_40 : kx_lV RL 40 mX4_owes 2 := ⟨⟨wc_X4_owes, wi_RX4, by decide +kernel, by decide +kernel, by decide +kernel, by decide⟩, kx_in (List.mem_of_getElem? (i := 304) (by decide +kernel)) (by decide +kernel), wm_X4_owes, ww_X4_owes⟩
theorem lk_X4_113 : kx_lV RX4 113 mX2_debt 2 := ⟨⟨wc_X2_debt, wi_RX2, by decide +kernel, by decide +kernel, by decide +kernel, by decide⟩, kx_in (List.mem_of_getElem? (i := 308) (by decide +kernel)) (by decide +kernel), wm_X2_debt, ww_X2_debt⟩
theorem lk_L_44 : kx_lV RL 44 mX4_funeral 1 := ⟨⟨wc_X4_funeral, wi_RX4, by decide +kernel, by decide +kernel, by decide +kernel, by decide⟩, kx_in (List.mem_of_getElem? (i := 312) (by decide +kernel)) (by decide +kernel), wm_X4_funeral, ww_X4_funeral⟩
theorem lk_X4_117 : kx_lV RX4 117 mX2_isOpen 1 := ⟨⟨wc_X2_isOpen, wi_RX2, by decide +kernel, by decide +kernel, by decide +kernel, by decide⟩, kx_in (List.mem_of_getElem? (i := 316) (by decide +kernel)) (by decide +kernel), wm_X2_isOpen, ww_X2_isOpen⟩
theorem lk_X4_120 : kx_lV RX4 120 mX0_remember 1 := ⟨⟨wc_X0_remember, wi_RX0, by decide +kernel, by decide +kernel, by decide +kernel, by decide⟩, kx_in (List.mem_of_getElem? (i := 317) (by decide +kernel)) (by decide +kernel), wm_X0_remember, ww_X0_remember⟩
theorem lk_X0_25 : kx_lV RX0 25 mX2_copyFrom 1 := ⟨⟨wc_X2_copyFrom, wi_RX2, by decide +kernel, by decide +kernel, by decide +kernel, by decide⟩, kx_in (List.mem_of_getElem? (i := 321) (by decide +kernel)) (by decide +kernel), wm_X2_copyFrom, ww_X2_copyFrom⟩
theorem lk_X4_123 : kx_lV RX4 123 mX2_bereave 1 := ⟨⟨wc_X2_bereave, wi_RX2, by decide +kernel, by decide +kernel, by decide +kernel, by decide⟩, kx_in (List.mem_of_getElem? (i := 322) (by decide +kernel)) (by decide +kernel), wm_X2_bereave, ww_X2_bereave⟩
theorem lk_L_48 : kx_lV RL 48 mX4_weep 2 := ⟨⟨wc_X4_weep, wi_RX4, by decide +kernel, by decide +kernel, by decide +kernel, by decide⟩, kx_in (List.mem_of_getElem? (i := 332) (by decide +kernel)) (by decide +kernel), wm_X4_weep, ww_X4_weep⟩
theorem lk_X4_132 : kx_lV RX4 132 mX2_mayWeep 2 := ⟨⟨wc_X2_mayWeep, wi_RX2, by decide +kernel, by decide +kernel, by decide +kernel, by decide⟩, kx_in (List.mem_of_getElem? (i := 336) (by decide +kernel)) (by decide +kernel), wm_X2_mayWeep, ww_X2_mayWeep⟩
theorem lk_X4_136 : kx_lV RX4 136 mX2_weepFor 2 := ⟨⟨wc_X2_weepFor, wi_RX2, by decide +kernel, by decide +kernel, by decide +kernel, by decide⟩, kx_in (List.mem_of_getElem? (i := 337) (by decide +kernel)) (by decide +kernel), wm_X2_weepFor, ww_X2_weepFor⟩
theorem lk_X2_84 : kx_lV RX2 84 mX2_settle 2 := ⟨⟨wc_X2_settle, wi_RX2, by decide +kernel, by decide +kernel, by decide +kernel, by decide⟩, kx_in (List.mem_of_getElem? (i := 341) (by decide +kernel)) (by decide +kernel), wm_X2_settle, ww_X2_settle⟩
theorem lk_X2_91 : kx_lV RX2 91 mX2_makeKin 2 := ⟨⟨wc_X2_makeKin, wi_RX2, by decide +kernel, by decide +kernel, by decide +kernel, by decide⟩, kx_in (List.mem_of_getElem? (i := 345) (by decide +kernel)) (by decide +kernel), wm_X2_makeKin, ww_X2_makeKin⟩
theorem lk_L_52 : kx_lV RL 52 mX4_onions 2 := ⟨⟨wc_X4_onions, wi_RX4, by decide +kernel, by decide +kernel, by decide +kernel, by decide⟩, kx_in (List.mem_of_getElem? (i := 346) (by decide +kernel)) (by decide +kernel), wm_X4_onions, ww_X4_onions⟩
theorem lk_X4_139 : kx_lV RX4 139 mX2_mayUseOnions 2 := ⟨⟨wc_X2_mayUseOnions, wi_RX2, by decide +kernel, by decide +kernel, by decide +kernel, by decide⟩, kx_in (List.mem_of_getElem? (i := 350) (by decide +kernel)) (by decide +kernel), wm_X2_mayUseOnions, ww_X2_mayUseOnions⟩
theorem lk_X4_142 : kx_lV RX4 142 mX2_useOnions 2 := ⟨⟨wc_X2_useOnions, wi_RX2, by decide +kernel, by decide +kernel, by decide +kernel, by decide⟩, kx_in (List.mem_of_getElem? (i := 354) (by decide +kernel)) (by decide +kernel), wm_X2_useOnions, ww_X2_useOnions⟩
theorem lk_X2_88 : kx_lV RX2 88 mX2_mayUseOnions 2 := ⟨⟨wc_X2_mayUseOnions, wi_RX2, by decide +kernel, by decide +kernel, by decide +kernel, by decide⟩, kx_in (List.mem_of_getElem? (i := 358) (by decide +kernel)) (by decide +kernel), wm_X2_mayUseOnions, ww_X2_mayUseOnions⟩
theorem lk_L_56 : kx_lV RL 56 mX4_week 0 := ⟨⟨wc_X4_week, wi_RX4, by decide +kernel, by decide +kernel, by decide +kernel, by decide⟩, kx_in (List.mem_of_getElem? (i := 359) (by decide +kernel)) (by decide +kernel), wm_X4_week, ww_X4_week⟩
theorem lk_X4_146 : kx_lV RX4 146 mX2_passWeek 0 := ⟨⟨wc_X2_passWeek, wi_RX2, by decide +kernel, by decide +kernel, by decide +kernel, by decide⟩, kx_in (List.mem_of_getElem? (i := 363) (by decide +kernel)) (by decide +kernel), wm_X2_passWeek, ww_X2_passWeek⟩
theorem lk_L_60 : kx_lV RL 60 mX4_undo 0 := ⟨⟨wc_X4_undo, wi_RX4, by decide +kernel, by decide +kernel, by decide +kernel, by decide⟩, kx_in (List.mem_of_getElem? (i := 373) (by decide +kernel)) (by decide +kernel), wm_X4_undo, ww_X4_undo⟩
theorem lk_X4_149 : kx_lV RX4 149 mX0_takeLast 1 := ⟨⟨wc_X0_takeLast, wi_RX0, by decide +kernel, by decide +kernel, by decide +kernel, by decide⟩, kx_in (List.mem_of_getElem? (i := 377) (by decide +kernel)) (by decide +kernel), wm_X0_takeLast, ww_X0_takeLast⟩
theorem lk_L_64 : kx_lV RL 64 mX4_served 1 := ⟨⟨wc_X4_served, wi_RX4, by decide +kernel, by decide +kernel, by decide +kernel, by decide⟩, kx_in (List.mem_of_getElem? (i := 381) (by decide +kernel)) (by decide +kernel), wm_X4_served, ww_X4_served⟩
theorem lk_X4_152 : kx_lV RX4 152 mX2_unbereaved 0 := ⟨⟨wc_X2_unbereaved, wi_RX2, by decide +kernel, by decide +kernel, by decide +kernel, by decide⟩, kx_in (List.mem_of_getElem? (i := 385) (by decide +kernel)) (by decide +kernel), wm_X2_unbereaved, ww_X2_unbereaved⟩
theorem lk_X4_155 : kx_lV RX4 155 mX3_search 3 := ⟨⟨wc_X3_search, wi_RX3, by decide +kernel, by decide +kernel, by decide +kernel, by decide⟩, kx_in (List.mem_of_getElem? (i := 389) (by decide +kernel)) (by decide +kernel), wm_X3_search, ww_X3_search⟩
theorem lk_X3_24 : kx_lS RX3 24 mX3_give 7 := ⟨⟨wc_X3_give, wi_RX3, by decide +kernel, by decide +kernel, by decide +kernel, by decide⟩, kx_in (List.mem_of_getElem? (i := 393) (by decide +kernel)) (by decide +kernel), wt_X3_give⟩
theorem lk_X3_28 : kx_lV RX3 28 mX3_compare 3 := ⟨⟨wc_X3_compare, wi_RX3, by decide +kernel, by decide +kernel, by decide +kernel, by decide⟩, kx_in (List.mem_of_getElem? (i := 396) (by decide +kernel)) (by decide +kernel), wm_X3_compare, ww_X3_compare⟩
theorem lk_X3_36 : kx_lV RX3 36 mX2_isFitFor 2 := ⟨⟨wc_X2_isFitFor, wi_RX2, by decide +kernel, by decide +kernel, by decide +kernel, by decide⟩, kx_in (List.mem_of_getElem? (i := 401) (by decide +kernel)) (by decide +kernel), wm_X2_isFitFor, ww_X2_isFitFor⟩
theorem lk_X3_41 : kx_lV RX3 41 mX2_ounces 1 := ⟨⟨wc_X2_ounces, wi_RX2, by decide +kernel, by decide +kernel, by decide +kernel, by decide⟩, kx_in (List.mem_of_getElem? (i := 402) (by decide +kernel)) (by decide +kernel), wm_X2_ounces, ww_X2_ounces⟩
theorem lk_L_68 : kx_lV RL 68 mX4_nobody 1 := ⟨⟨wc_X4_nobody, wi_RX4, by decide +kernel, by decide +kernel, by decide +kernel, by decide⟩, kx_in (List.mem_of_getElem? (i := 403) (by decide +kernel)) (by decide +kernel), wm_X4_nobody, ww_X4_nobody⟩
theorem lk_X4_167 : kx_lV RX4 167 mX2_unweptBits 0 := ⟨⟨wc_X2_unweptBits, wi_RX2, by decide +kernel, by decide +kernel, by decide +kernel, by decide⟩, kx_in (List.mem_of_getElem? (i := 407) (by decide +kernel)) (by decide +kernel), wm_X2_unweptBits, ww_X2_unweptBits⟩
theorem lk_X2_74 : kx_lV RX2 74 mX2_thoseToWeepFor 1 := ⟨⟨wc_X2_thoseToWeepFor, wi_RX2, by decide +kernel, by decide +kernel, by decide +kernel, by decide⟩, kx_in (List.mem_of_getElem? (i := 411) (by decide +kernel)) (by decide +kernel), wm_X2_thoseToWeepFor, ww_X2_thoseToWeepFor⟩
theorem lk_X4_170 : kx_lV RX4 170 mX2_kinToAllBits 0 := ⟨⟨wc_X2_kinToAllBits, wi_RX2, by decide +kernel, by decide +kernel, by decide +kernel, by decide⟩, kx_in (List.mem_of_getElem? (i := 412) (by decide +kernel)) (by decide +kernel), wm_X2_kinToAllBits, ww_X2_kinToAllBits⟩
theorem lk_L_72 : kx_lV RL 72 mX4_till 2 := ⟨⟨wc_X4_till, wi_RX4, by decide +kernel, by decide +kernel, by decide +kernel, by decide⟩, kx_in (List.mem_of_getElem? (i := 416) (by decide +kernel)) (by decide +kernel), wm_X4_till, ww_X4_till⟩
theorem lk_L_76 : kx_lV RL 76 mX4_net 1 := ⟨⟨wc_X4_net, wi_RX4, by decide +kernel, by decide +kernel, by decide +kernel, by decide⟩, kx_in (List.mem_of_getElem? (i := 420) (by decide +kernel)) (by decide +kernel), wm_X4_net, ww_X4_net⟩
theorem lk_L_80 : kx_lV RL 80 mX4_ring 0 := ⟨⟨wc_X4_ring, wi_RX4, by decide +kernel, by decide +kernel, by decide +kernel, by decide⟩, kx_in (List.mem_of_getElem? (i := 424) (by decide +kernel)) (by decide +kernel), wm_X4_ring, ww_X4_ring⟩
theorem lk_X4_173 : kx_lV RX4 173 mX2_reachedByDebts 1 := ⟨⟨wc_X2_reachedByDebts, wi_RX2, by decide +kernel, by decide +kernel, by decide +kernel, by decide⟩, kx_in (List.mem_of_getElem? (i := 428) (by decide +kernel)) (by decide +kernel), wm_X2_reachedByDebts, ww_X2_reachedByDebts⟩
theorem lk_X2_77 : kx_lV RX2 77 mX2_creditors 1 := ⟨⟨wc_X2_creditors, wi_RX2, by decide +kernel, by decide +kernel, by decide +kernel, by decide⟩, kx_in (List.mem_of_getElem? (i := 432) (by decide +kernel)) (by decide +kernel), wm_X2_creditors, ww_X2_creditors⟩
theorem lk_X2_80 : kx_lV RX2 80 mX2_debt 2 := ⟨⟨wc_X2_debt, wi_RX2, by decide +kernel, by decide +kernel, by decide +kernel, by decide⟩, kx_in (List.mem_of_getElem? (i := 436) (by decide +kernel)) (by decide +kernel), wm_X2_debt, ww_X2_debt⟩
theorem lk_L_84 : kx_lV RL 84 mX4_share 2 := ⟨⟨wc_X4_share, wi_RX4, by decide +kernel, by decide +kernel, by decide +kernel, by decide⟩, kx_in (List.mem_of_getElem? (i := 437) (by decide +kernel)) (by decide +kernel), wm_X4_share, ww_X4_share⟩
theorem lk_X4_176 : kx_lS RX4 176 mX4_fraction 3 := ⟨⟨wc_X4_fraction, wi_RX4, by decide +kernel, by decide +kernel, by decide +kernel, by decide⟩, kx_in (List.mem_of_getElem? (i := 441) (by decide +kernel)) (by decide +kernel), wt_X4_fraction⟩
theorem lk_X4_180 : kx_lS RX4 180 mX4_factorial 1 := ⟨⟨wc_X4_factorial, wi_RX4, by decide +kernel, by decide +kernel, by decide +kernel, by decide⟩, kx_in (List.mem_of_getElem? (i := 444) (by decide +kernel)) (by decide +kernel), wt_X4_factorial⟩
theorem lk_X4_183 : kx_lV RX4 183 mX4_gain 2 := ⟨⟨wc_X4_gain, wi_RX4, by decide +kernel, by decide +kernel, by decide +kernel, by decide⟩, kx_in (List.mem_of_getElem? (i := 449) (by decide +kernel)) (by decide +kernel), wm_X4_gain, ww_X4_gain⟩
theorem lk_L_89 : kx_lV RL 89 mX4_weighed 3 := ⟨⟨wc_X4_weighed, wi_RX4, by decide +kernel, by decide +kernel, by decide +kernel, by decide⟩, kx_in (List.mem_of_getElem? (i := 453) (by decide +kernel)) (by decide +kernel), wm_X4_weighed, ww_X4_weighed⟩
theorem lk_X4_186 : kx_lV RX4 186 mX2_everyone 0 := ⟨⟨wc_X2_everyone, wi_RX2, by decide +kernel, by decide +kernel, by decide +kernel, by decide⟩, kx_in (List.mem_of_getElem? (i := 457) (by decide +kernel)) (by decide +kernel), wm_X2_everyone, ww_X2_everyone⟩
theorem lk_X4_189 : kx_lV RX4 189 mX4_weight 2 := ⟨⟨wc_X4_weight, wi_RX4, by decide +kernel, by decide +kernel, by decide +kernel, by decide⟩, kx_in (List.mem_of_getElem? (i := 458) (by decide +kernel)) (by decide +kernel), wm_X4_weight, ww_X4_weight⟩
theorem lk_X4_208 : kx_lS RX4 208 mX4_hasBit 2 := ⟨⟨wc_X4_hasBit, wi_RX4, by decide +kernel, by decide +kernel, by decide +kernel, by decide⟩, kx_in (List.mem_of_getElem? (i := 462) (by decide +kernel)) (by decide +kernel), wt_X4_hasBit⟩
theorem lk_L_94 : kx_lV RL 94 mX4_whose 1 := ⟨⟨wc_X4_whose, wi_RX4, by decide +kernel, by decide +kernel, by decide +kernel, by decide⟩, kx_in (List.mem_of_getElem? (i := 463) (by decide +kernel)) (by decide +kernel), wm_X4_whose, ww_X4_whose⟩
theorem lk_L_98 : kx_lV RL 98 mX4_rests 4 := ⟨⟨wc_X4_rests, wi_RX4, by decide +kernel, by decide +kernel, by decide +kernel, by decide⟩, kx_in (List.mem_of_getElem? (i := 467) (by decide +kernel)) (by decide +kernel), wm_X4_rests, ww_X4_rests⟩
theorem lk_X4_192 : kx_lS RX4 192 mX4_isAtRest 4 := ⟨⟨wc_X4_isAtRest, wi_RX4, by decide +kernel, by decide +kernel, by decide +kernel, by decide⟩, kx_in (List.mem_of_getElem? (i := 471) (by decide +kernel)) (by decide +kernel), wt_X4_isAtRest⟩
theorem lk_X4_211 : kx_lS RX4 211 mX4_gotByOne 4 := ⟨⟨wc_X4_gotByOne, wi_RX4, by decide +kernel, by decide +kernel, by decide +kernel, by decide⟩, kx_in (List.mem_of_getElem? (i := 474) (by decide +kernel)) (by decide +kernel), wt_X4_gotByOne⟩
theorem lk_X4_218 : kx_lS RX4 218 mX4_oneWeeps 4 := ⟨⟨wc_X4_oneWeeps, wi_RX4, by decide +kernel, by decide +kernel, by decide +kernel, by decide⟩, kx_in (List.mem_of_getElem? (i := 477) (by decide +kernel)) (by decide +kernel), wt_X4_oneWeeps⟩
theorem lk_X4_221 : kx_lS RX4 221 mX4_got 3 := ⟨⟨wc_X4_got, wi_RX4, by decide +kernel, by decide +kernel, by decide +kernel, by decide⟩, kx_in (List.mem_of_getElem? (i := 480) (by decide +kernel)) (by decide +kernel), wt_X4_got⟩
theorem lk_X4_215 : kx_lS RX4 215 mX4_gotByOther 4 := ⟨⟨wc_X4_gotByOther, wi_RX4, by decide +kernel, by decide +kernel, by decide +kernel, by decide⟩, kx_in (List.mem_of_getElem? (i := 483) (by decide +kernel)) (by decide +kernel), wt_X4_gotByOther⟩
theorem lk_L_103 : kx_lV RL 103 mX4_chance 2 := ⟨⟨wc_X4_chance, wi_RX4, by decide +kernel, by decide +kernel, by decide +kernel, by decide⟩, kx_in (List.mem_of_getElem? (i := 486) (by decide +kernel)) (by decide +kernel), wm_X4_chance, ww_X4_chance⟩
theorem lk_X4_196 : kx_lV RX4 196 mX4_allServed 1 := ⟨⟨wc_X4_allServed, wi_RX4, by decide +kernel, by decide +kernel, by decide +kernel, by decide⟩, kx_in (List.mem_of_getElem? (i := 490) (by decide +kernel)) (by decide +kernel), wm_X4_allServed, ww_X4_allServed⟩
theorem lk_X4_199 : kx_lS RX4 199 mX4_power 2 := ⟨⟨wc_X4_power, wi_RX4, by decide +kernel, by decide +kernel, by decide +kernel, by decide⟩, kx_in (List.mem_of_getElem? (i := 494) (by decide +kernel)) (by decide +kernel), wt_X4_power⟩
theorem lk_L_109 : kx_lV RL 109 mX4_seed 1 := ⟨⟨wc_X4_seed, wi_RX4, by decide +kernel, by decide +kernel, by decide +kernel, by decide⟩, kx_in (List.mem_of_getElem? (i := 497) (by decide +kernel)) (by decide +kernel), wm_X4_seed, ww_X4_seed⟩
theorem lk_L_114 : kx_lV RL 114 mX4_years 1 := ⟨⟨wc_X4_years, wi_RX4, by decide +kernel, by decide +kernel, by decide +kernel, by decide⟩, kx_in (List.mem_of_getElem? (i := 501) (by decide +kernel)) (by decide +kernel), wm_X4_years, ww_X4_years⟩
theorem lk_L_118 : kx_lV RL 118 mX4_keep 1 := ⟨⟨wc_X4_keep, wi_RX4, by decide +kernel, by decide +kernel, by decide +kernel, by decide⟩, kx_in (List.mem_of_getElem? (i := 508) (by decide +kernel)) (by decide +kernel), wm_X4_keep, ww_X4_keep⟩
theorem lk_L_122 : kx_lV RL 122 mX4_again 1 := ⟨⟨wc_X4_again, wi_RX4, by decide +kernel, by decide +kernel, by decide +kernel, by decide⟩, kx_in (List.mem_of_getElem? (i := 512) (by decide +kernel)) (by decide +kernel), wm_X4_again, ww_X4_again⟩
theorem lk_L_12 : kx_lI RL 12 mX5_init 0 := ⟨⟨wc_X5_init, wi_RX5, by decide +kernel, by decide +kernel, by decide +kernel, by decide⟩, kx_in (List.mem_of_getElem? (i := 518) (by decide +kernel)) (by decide +kernel), wm_X5_init, rfl⟩
theorem lk_L_17 : kx_lV RL 17 mX5_write 1 := ⟨⟨wc_X5_write, wi_RX5, by decide +kernel, by decide +kernel, by decide +kernel, by decide⟩, kx_in (List.mem_of_getElem? (i := 589) (by decide +kernel)) (by decide +kernel), wm_X5_write, ww_X5_write⟩
theorem lk_X5_48 : kx_lS RX5 48 mX5_in 3 := ⟨⟨wc_X5_in, wi_RX5, by decide +kernel, by decide +kernel, by decide +kernel, by decide⟩, kx_in (List.mem_of_getElem? (i := 594) (by decide +kernel)) (by decide +kernel), wt_X5_in⟩
theorem lk_L_22 : kx_lV RL 22 mX5_wipe 0 := ⟨⟨wc_X5_wipe, wi_RX5, by decide +kernel, by decide +kernel, by decide +kernel, by decide⟩, kx_in (List.mem_of_getElem? (i := 597) (by decide +kernel)) (by decide +kernel), wm_X5_wipe, ww_X5_wipe⟩
theorem lk_L_26 : kx_lV RL 26 mX5_fault 0 := ⟨⟨wc_X5_fault, wi_RX5, by decide +kernel, by decide +kernel, by decide +kernel, by decide⟩, kx_in (List.mem_of_getElem? (i := 601) (by decide +kernel)) (by decide +kernel), wm_X5_fault, ww_X5_fault⟩
theorem lk_X5_86 : kx_lV RX5 86 mX5_readLand 0 := ⟨⟨wc_X5_readLand, wi_RX5, by decide +kernel, by decide +kernel, by decide +kernel, by decide⟩, kx_in (List.mem_of_getElem? (i := 605) (by decide +kernel)) (by decide +kernel), wm_X5_readLand, ww_X5_readLand⟩
theorem lk_X5_83 : kx_lV RX5 83 mX5_readPart 0 := ⟨⟨wc_X5_readPart, wi_RX5, by decide +kernel, by decide +kernel, by decide +kernel, by decide⟩, kx_in (List.mem_of_getElem? (i := 609) (by decide +kernel)) (by decide +kernel), wm_X5_readPart, ww_X5_readPart⟩
theorem lk_X5_75 : kx_lV RX5 75 mX5_readPerson 0 := ⟨⟨wc_X5_readPerson, wi_RX5, by decide +kernel, by decide +kernel, by decide +kernel, by decide⟩, kx_in (List.mem_of_getElem? (i := 613) (by decide +kernel)) (by decide +kernel), wm_X5_readPerson, ww_X5_readPerson⟩
theorem lk_X5_71 : kx_lV RX5 71 mX5_figure 2 := ⟨⟨wc_X5_figure, wi_RX5, by decide +kernel, by decide +kernel, by decide +kernel, by decide⟩, kx_in (List.mem_of_getElem? (i := 617) (by decide +kernel)) (by decide +kernel), wm_X5_figure, ww_X5_figure⟩
theorem lk_X5_78 : kx_lV RX5 78 mX5_arePairs 0 := ⟨⟨wc_X5_arePairs, wi_RX5, by decide +kernel, by decide +kernel, by decide +kernel, by decide⟩, kx_in (List.mem_of_getElem? (i := 621) (by decide +kernel)) (by decide +kernel), wm_X5_arePairs, ww_X5_arePairs⟩
theorem lk_X5_67 : kx_lV RX5 67 mX5_pairsOf 1 := ⟨⟨wc_X5_pairsOf, wi_RX5, by decide +kernel, by decide +kernel, by decide +kernel, by decide⟩, kx_in (List.mem_of_getElem? (i := 625) (by decide +kernel)) (by decide +kernel), wm_X5_pairsOf, ww_X5_pairsOf⟩
theorem lk_X5_63 : kx_lS RX5 63 mX5_has 2 := ⟨⟨wc_X5_has, wi_RX5, by decide +kernel, by decide +kernel, by decide +kernel, by decide⟩, kx_in (List.mem_of_getElem? (i := 629) (by decide +kernel)) (by decide +kernel), wt_X5_has⟩
theorem lk_X5_81 : kx_lV RX5 81 mX5_readKin 0 := ⟨⟨wc_X5_readKin, wi_RX5, by decide +kernel, by decide +kernel, by decide +kernel, by decide⟩, kx_in (List.mem_of_getElem? (i := 632) (by decide +kernel)) (by decide +kernel), wm_X5_readKin, ww_X5_readKin⟩
theorem lk_L_30 : kx_lV RL 30 mX5_land 0 := ⟨⟨wc_X5_land, wi_RX5, by decide +kernel, by decide +kernel, by decide +kernel, by decide⟩, kx_in (List.mem_of_getElem? (i := 636) (by decide +kernel)) (by decide +kernel), wm_X5_land, ww_X5_land⟩
theorem lk_L_34 : kx_lV RL 34 mX5_about 1 := ⟨⟨wc_X5_about, wi_RX5, by decide +kernel, by decide +kernel, by decide +kernel, by decide⟩, kx_in (List.mem_of_getElem? (i := 640) (by decide +kernel)) (by decide +kernel), wm_X5_about, ww_X5_about⟩
theorem lk_L_39 : kx_lV RL 39 mX5_person 2 := ⟨⟨wc_X5_person, wi_RX5, by decide +kernel, by decide +kernel, by decide +kernel, by decide⟩, kx_in (List.mem_of_getElem? (i := 644) (by decide +kernel)) (by decide +kernel), wm_X5_person, ww_X5_person⟩
theorem lk_X5_108 : kx_lV RX5 108 mX5_noPerson 1 := ⟨⟨wc_X5_noPerson, wi_RX5, by decide +kernel, by decide +kernel, by decide +kernel, by decide⟩, kx_in (List.mem_of_getElem? (i := 648) (by decide +kernel)) (by decide +kernel), wm_X5_noPerson, ww_X5_noPerson⟩
theorem lk_X5_97 : kx_lV RX5 97 mX5_ouncesOf 2 := ⟨⟨wc_X5_ouncesOf, wi_RX5, by decide +kernel, by decide +kernel, by decide +kernel, by decide⟩, kx_in (List.mem_of_getElem? (i := 652) (by decide +kernel)) (by decide +kernel), wm_X5_ouncesOf, ww_X5_ouncesOf⟩
theorem lk_X5_112 : kx_lV RX5 112 mX5_mayFor 1 := ⟨⟨wc_X5_mayFor, wi_RX5, by decide +kernel, by decide +kernel, by decide +kernel, by decide⟩, kx_in (List.mem_of_getElem? (i := 656) (by decide +kernel)) (by decide +kernel), wm_X5_mayFor, ww_X5_mayFor⟩
theorem lk_X5_105 : kx_lV RX5 105 mX5_mayWeep 3 := ⟨⟨wc_X5_mayWeep, wi_RX5, by decide +kernel, by decide +kernel, by decide +kernel, by decide⟩, kx_in (List.mem_of_getElem? (i := 660) (by decide +kernel)) (by decide +kernel), wm_X5_mayWeep, ww_X5_mayWeep⟩
theorem lk_X5_93 : kx_lV RX5 93 mX5_isFree 3 := ⟨⟨wc_X5_isFree, wi_RX5, by decide +kernel, by decide +kernel, by decide +kernel, by decide⟩, kx_in (List.mem_of_getElem? (i := 664) (by decide +kernel)) (by decide +kernel), wm_X5_isFree, ww_X5_isFree⟩
theorem lk_L_43 : kx_lV RL 43 mX5_owes 2 := ⟨⟨wc_X5_owes, wi_RX5, by decide +kernel, by decide +kernel, by decide +kernel, by decide⟩, kx_in (List.mem_of_getElem? (i := 668) (by decide +kernel)) (by decide +kernel), wm_X5_owes, ww_X5_owes⟩
theorem lk_L_47 : kx_lV RL 47 mX5_funeral 1 := ⟨⟨wc_X5_funeral, wi_RX5, by decide +kernel, by decide +kernel, by decide +kernel, by decide⟩, kx_in (List.mem_of_getElem? (i := 672) (by decide +kernel)) (by decide +kernel), wm_X5_funeral, ww_X5_funeral⟩
theorem lk_X5_115 : kx_lV RX5 115 mX5_note 0 := ⟨⟨wc_X5_note, wi_RX5, by decide +kernel, by decide +kernel, by decide +kernel, by decide⟩, kx_in (List.mem_of_getElem? (i := 676) (by decide +kernel)) (by decide +kernel), wm_X5_note, ww_X5_note⟩
theorem lk_X5_118 : kx_lV RX5 118 mX5_open 2 := ⟨⟨wc_X5_open, wi_RX5, by decide +kernel, by decide +kernel, by decide +kernel, by decide⟩, kx_in (List.mem_of_getElem? (i := 680) (by decide +kernel)) (by decide +kernel), wm_X5_open, ww_X5_open⟩
theorem lk_X5_122 : kx_lS RX5 122 mX5_many 1 := ⟨⟨wc_X5_many, wi_RX5, by decide +kernel, by decide +kernel, by decide +kernel, by decide⟩, kx_in (List.mem_of_getElem? (i := 684) (by decide +kernel)) (by decide +kernel), wt_X5_many⟩
theorem lk_L_51 : kx_lV RL 51 mX5_weep 2 := ⟨⟨wc_X5_weep, wi_RX5, by decide +kernel, by decide +kernel, by decide +kernel, by decide⟩, kx_in (List.mem_of_getElem? (i := 687) (by decide +kernel)) (by decide +kernel), wm_X5_weep, ww_X5_weep⟩
theorem lk_X5_125 : kx_lV RX5 125 mX5_goWeep 3 := ⟨⟨wc_X5_goWeep, wi_RX5, by decide +kernel, by decide +kernel, by decide +kernel, by decide⟩, kx_in (List.mem_of_getElem? (i := 691) (by decide +kernel)) (by decide +kernel), wm_X5_goWeep, ww_X5_goWeep⟩
theorem lk_X5_101 : kx_lV RX5 101 mX5_close 3 := ⟨⟨wc_X5_close, wi_RX5, by decide +kernel, by decide +kernel, by decide +kernel, by decide⟩, kx_in (List.mem_of_getElem? (i := 695) (by decide +kernel)) (by decide +kernel), wm_X5_close, ww_X5_close⟩
theorem lk_L_55 : kx_lV RL 55 mX5_onions 2 := ⟨⟨wc_X5_onions, wi_RX5, by decide +kernel, by decide +kernel, by decide +kernel, by decide⟩, kx_in (List.mem_of_getElem? (i := 699) (by decide +kernel)) (by decide +kernel), wm_X5_onions, ww_X5_onions⟩
theorem lk_L_59 : kx_lV RL 59 mX5_week 0 := ⟨⟨wc_X5_week, wi_RX5, by decide +kernel, by decide +kernel, by decide +kernel, by decide⟩, kx_in (List.mem_of_getElem? (i := 703) (by decide +kernel)) (by decide +kernel), wm_X5_week, ww_X5_week⟩
theorem lk_X5_129 : kx_lV RX5 129 mX5_goWeek 1 := ⟨⟨wc_X5_goWeek, wi_RX5, by decide +kernel, by decide +kernel, by decide +kernel, by decide⟩, kx_in (List.mem_of_getElem? (i := 707) (by decide +kernel)) (by decide +kernel), wm_X5_goWeek, ww_X5_goWeek⟩
theorem lk_L_63 : kx_lV RL 63 mX5_undo 0 := ⟨⟨wc_X5_undo, wi_RX5, by decide +kernel, by decide +kernel, by decide +kernel, by decide⟩, kx_in (List.mem_of_getElem? (i := 711) (by decide +kernel)) (by decide +kernel), wm_X5_undo, ww_X5_undo⟩
theorem lk_L_67 : kx_lV RL 67 mX5_served 1 := ⟨⟨wc_X5_served, wi_RX5, by decide +kernel, by decide +kernel, by decide +kernel, by decide⟩, kx_in (List.mem_of_getElem? (i := 715) (by decide +kernel)) (by decide +kernel), wm_X5_served, ww_X5_served⟩
theorem lk_X5_147 : kx_lV RX5 147 mX5_everyone 0 := ⟨⟨wc_X5_everyone, wi_RX5, by decide +kernel, by decide +kernel, by decide +kernel, by decide⟩, kx_in (List.mem_of_getElem? (i := 720) (by decide +kernel)) (by decide +kernel), wm_X5_everyone, ww_X5_everyone⟩
theorem lk_X5_150 : kx_lV RX5 150 mX5_findServed 2 := ⟨⟨wc_X5_findServed, wi_RX5, by decide +kernel, by decide +kernel, by decide +kernel, by decide⟩, kx_in (List.mem_of_getElem? (i := 724) (by decide +kernel)) (by decide +kernel), wm_X5_findServed, ww_X5_findServed⟩
theorem lk_X5_142 : kx_lS RX5 142 mX5_power 2 := ⟨⟨wc_X5_power, wi_RX5, by decide +kernel, by decide +kernel, by decide +kernel, by decide⟩, kx_in (List.mem_of_getElem? (i := 728) (by decide +kernel)) (by decide +kernel), wt_X5_power⟩
theorem lk_L_71 : kx_lV RL 71 mX5_nobody 1 := ⟨⟨wc_X5_nobody, wi_RX5, by decide +kernel, by decide +kernel, by decide +kernel, by decide⟩, kx_in (List.mem_of_getElem? (i := 731) (by decide +kernel)) (by decide +kernel), wm_X5_nobody, ww_X5_nobody⟩
theorem lk_L_75 : kx_lV RL 75 mX5_till 2 := ⟨⟨wc_X5_till, wi_RX5, by decide +kernel, by decide +kernel, by decide +kernel, by decide⟩, kx_in (List.mem_of_getElem? (i := 735) (by decide +kernel)) (by decide +kernel), wm_X5_till, ww_X5_till⟩
theorem lk_X5_153 : kx_lV RX5 153 mX5_begin 0 := ⟨⟨wc_X5_begin, wi_RX5, by decide +kernel, by decide +kernel, by decide +kernel, by decide⟩, kx_in (List.mem_of_getElem? (i := 739) (by decide +kernel)) (by decide +kernel), wm_X5_begin, ww_X5_begin⟩
theorem lk_L_79 : kx_lV RL 79 mX5_net 1 := ⟨⟨wc_X5_net, wi_RX5, by decide +kernel, by decide +kernel, by decide +kernel, by decide⟩, kx_in (List.mem_of_getElem? (i := 743) (by decide +kernel)) (by decide +kernel), wm_X5_net, ww_X5_net⟩
theorem lk_L_83 : kx_lV RL 83 mX5_ring 0 := ⟨⟨wc_X5_ring, wi_RX5, by decide +kernel, by decide +kernel, by decide +kernel, by decide⟩, kx_in (List.mem_of_getElem? (i := 747) (by decide +kernel)) (by decide +kernel), wm_X5_ring, ww_X5_ring⟩
theorem lk_L_88 : kx_lV RL 88 mX5_share 2 := ⟨⟨wc_X5_share, wi_RX5, by decide +kernel, by decide +kernel, by decide +kernel, by decide⟩, kx_in (List.mem_of_getElem? (i := 751) (by decide +kernel)) (by decide +kernel), wm_X5_share, ww_X5_share⟩
theorem lk_X5_159 : kx_lS RX5 159 mX5_orders 1 := ⟨⟨wc_X5_orders, wi_RX5, by decide +kernel, by decide +kernel, by decide +kernel, by decide⟩, kx_in (List.mem_of_getElem? (i := 755) (by decide +kernel)) (by decide +kernel), wt_X5_orders⟩
theorem lk_X5_162 : kx_lS RX5 162 mX5_fraction 3 := ⟨⟨wc_X5_fraction, wi_RX5, by decide +kernel, by decide +kernel, by decide +kernel, by decide⟩, kx_in (List.mem_of_getElem? (i := 758) (by decide +kernel)) (by decide +kernel), wt_X5_fraction⟩
theorem lk_X5_156 : kx_lS RX5 156 mX5_divisor 2 := ⟨⟨wc_X5_divisor, wi_RX5, by decide +kernel, by decide +kernel, by decide +kernel, by decide⟩, kx_in (List.mem_of_getElem? (i := 761) (by decide +kernel)) (by decide +kernel), wt_X5_divisor⟩
theorem lk_L_93 : kx_lV RL 93 mX5_weighed 3 := ⟨⟨wc_X5_weighed, wi_RX5, by decide +kernel, by decide +kernel, by decide +kernel, by decide⟩, kx_in (List.mem_of_getElem? (i := 764) (by decide +kernel)) (by decide +kernel), wm_X5_weighed, ww_X5_weighed⟩
theorem lk_L_97 : kx_lV RL 97 mX5_whose 1 := ⟨⟨wc_X5_whose, wi_RX5, by decide +kernel, by decide +kernel, by decide +kernel, by decide⟩, kx_in (List.mem_of_getElem? (i := 769) (by decide +kernel)) (by decide +kernel), wm_X5_whose, ww_X5_whose⟩
theorem lk_L_102 : kx_lV RL 102 mX5_rests 4 := ⟨⟨wc_X5_rests, wi_RX5, by decide +kernel, by decide +kernel, by decide +kernel, by decide⟩, kx_in (List.mem_of_getElem? (i := 774) (by decide +kernel)) (by decide +kernel), wm_X5_rests, ww_X5_rests⟩
theorem lk_X5_180 : kx_lV RX5 180 mX5_findRests 3 := ⟨⟨wc_X5_findRests, wi_RX5, by decide +kernel, by decide +kernel, by decide +kernel, by decide⟩, kx_in (List.mem_of_getElem? (i := 778) (by decide +kernel)) (by decide +kernel), wm_X5_findRests, ww_X5_findRests⟩
theorem lk_X5_176 : kx_lV RX5 176 mX5_gainOf 6 := ⟨⟨wc_X5_gainOf, wi_RX5, by decide +kernel, by decide +kernel, by decide +kernel, by decide⟩, kx_in (List.mem_of_getElem? (i := 782) (by decide +kernel)) (by decide +kernel), wm_X5_gainOf, ww_X5_gainOf⟩
theorem lk_L_106 : kx_lV RL 106 mX5_chance 2 := ⟨⟨wc_X5_chance, wi_RX5, by decide +kernel, by decide +kernel, by decide +kernel, by decide⟩, kx_in (List.mem_of_getElem? (i := 786) (by decide +kernel)) (by decide +kernel), wm_X5_chance, ww_X5_chance⟩
theorem lk_L_113 : kx_lV RL 113 mX5_seed 1 := ⟨⟨wc_X5_seed, wi_RX5, by decide +kernel, by decide +kernel, by decide +kernel, by decide⟩, kx_in (List.mem_of_getElem? (i := 791) (by decide +kernel)) (by decide +kernel), wm_X5_seed, ww_X5_seed⟩
theorem lk_L_117 : kx_lV RL 117 mX5_years 1 := ⟨⟨wc_X5_years, wi_RX5, by decide +kernel, by decide +kernel, by decide +kernel, by decide⟩, kx_in (List.mem_of_getElem? (i := 795) (by decide +kernel)) (by decide +kernel), wm_X5_years, ww_X5_years⟩
theorem lk_L_121 : kx_lV RL 121 mX5_keep 1 := ⟨⟨wc_X5_keep, wi_RX5, by decide +kernel, by decide +kernel, by decide +kernel, by decide⟩, kx_in (List.mem_of_getElem? (i := 803) (by decide +kernel)) (by decide +kernel), wm_X5_keep, ww_X5_keep⟩
theorem lk_L_125 : kx_lV RL 125 mX5_again 1 := ⟨⟨wc_X5_again, wi_RX5, by decide +kernel, by decide +kernel, by decide +kernel, by decide⟩, kx_in (List.mem_of_getElem? (i := 807) (by decide +kernel)) (by decide +kernel), wm_X5_again, ww_X5_again⟩
theorem lk_X4_9 : kx_lIN RX4 9 mX1_init 0 := ⟨⟨wc_X1_init, wi_RX1, by decide +kernel, by decide +kernel, by decide +kernel, by decide⟩, ⟨RX4, List.mem_of_getElem? (i := 0) rfl⟩, wm_X1_init, rfl⟩
theorem lk_X1_17 : kx_lIN RX1 17 mX2_init 0 := ⟨⟨wc_X2_init, wi_RX2, by decide +kernel, by decide +kernel, by decide +kernel, by decide⟩, ⟨RX4, List.mem_of_getElem? (i := 1) rfl⟩, wm_X2_init, rfl⟩
theorem lk_X4_18 : kx_lIN RX4 18 mX2_init 0 := ⟨⟨wc_X2_init, wi_RX2, by decide +kernel, by decide +kernel, by decide +kernel, by decide⟩, ⟨RX4, List.mem_of_getElem? (i := 2) rfl⟩, wm_X2_init, rfl⟩
theorem lk_X0_17 : kx_lIN RX0 17 mX2_init 0 := ⟨⟨wc_X2_init, wi_RX2, by decide +kernel, by decide +kernel, by decide +kernel, by decide⟩, ⟨RX4, List.mem_of_getElem? (i := 3) rfl⟩, wm_X2_init, rfl⟩
theorem lk_X4_43 : kx_lIN RX4 43 mX3_init 0 := ⟨⟨wc_X3_init, wi_RX3, by decide +kernel, by decide +kernel, by decide +kernel, by decide⟩, ⟨RX4, List.mem_of_getElem? (i := 4) rfl⟩, wm_X3_init, rfl⟩
theorem lk_X1_56 : kx_lSN RX1 56 mX4_hasBit 2 := ⟨⟨wc_X4_hasBit, wi_RX4, by decide +kernel, by decide +kernel, by decide +kernel, by decide⟩, ⟨RX4, List.mem_of_getElem? (i := 5) rfl⟩, wt_X4_hasBit⟩
theorem lk_X2_50 : kx_lSN RX2 50 mX4_hasBit 2 := ⟨⟨wc_X4_hasBit, wi_RX4, by decide +kernel, by decide +kernel, by decide +kernel, by decide⟩, ⟨RX4, List.mem_of_getElem? (i := 6) rfl⟩, wt_X4_hasBit⟩
theorem lk_X3_32 : kx_lSN RX3 32 mX4_hasBit 2 := ⟨⟨wc_X4_hasBit, wi_RX4, by decide +kernel, by decide +kernel, by decide +kernel, by decide⟩, ⟨RX4, List.mem_of_getElem? (i := 7) rfl⟩, wt_X4_hasBit⟩
theorem wl_L_7 : Cond.classLink RL 7 RX4 ∈ kx_tbl := kx_in (List.mem_of_getElem? (i := 43) (by decide +kernel)) (by decide +kernel)
theorem wn_RX4 : Cond.instantiable RX4 8 ∈ kx_tbl := kx_in (List.mem_of_getElem? (i := 44) (by decide +kernel)) (by decide +kernel)
theorem wl_X4_7 : Cond.classLink RX4 7 RX1 ∈ kx_tbl := kx_in (List.mem_of_getElem? (i := 51) (by decide +kernel)) (by decide +kernel)
theorem wn_RX1 : Cond.instantiable RX1 3 ∈ kx_tbl := kx_in (List.mem_of_getElem? (i := 52) (by decide +kernel)) (by decide +kernel)
theorem wl_X1_15 : Cond.classLink RX1 15 RX2 ∈ kx_tbl := kx_in (List.mem_of_getElem? (i := 57) (by decide +kernel)) (by decide +kernel)
theorem wn_RX2 : Cond.instantiable RX2 9 ∈ kx_tbl := kx_in (List.mem_of_getElem? (i := 58) (by decide +kernel)) (by decide +kernel)
theorem wa_int : Cond.arrayClass .int ∈ kx_tbl := kx_in (List.mem_of_getElem? (i := 100) (by decide +kernel)) (by decide +kernel)
theorem wl_X4_16 : Cond.classLink RX4 16 RX2 ∈ kx_tbl := kx_in (List.mem_of_getElem? (i := 113) (by decide +kernel)) (by decide +kernel)
theorem wl_X4_26 : Cond.classLink RX4 26 RX0 ∈ kx_tbl := kx_in (List.mem_of_getElem? (i := 115) (by decide +kernel)) (by decide +kernel)
theorem wn_RX0 : Cond.instantiable RX0 3 ∈ kx_tbl := kx_in (List.mem_of_getElem? (i := 116) (by decide +kernel)) (by decide +kernel)
theorem wl_X0_9 : Cond.classLink RX0 9 RX2 ∈ kx_tbl := kx_in (List.mem_of_getElem? (i := 121) (by decide +kernel)) (by decide +kernel)
theorem wl_X4_41 : Cond.classLink RX4 41 RX3 ∈ kx_tbl := kx_in (List.mem_of_getElem? (i := 135) (by decide +kernel)) (by decide +kernel)
theorem wn_RX3 : Cond.instantiable RX3 4 ∈ kx_tbl := kx_in (List.mem_of_getElem? (i := 136) (by decide +kernel)) (by decide +kernel)
theorem wa_boolean : Cond.arrayClass .boolean ∈ kx_tbl := kx_in (List.mem_of_getElem? (i := 157) (by decide +kernel)) (by decide +kernel)
theorem wl_L_10 : Cond.classLink RL 10 RX5 ∈ kx_tbl := kx_in (List.mem_of_getElem? (i := 516) (by decide +kernel)) (by decide +kernel)
theorem wn_RX5 : Cond.instantiable RX5 22 ∈ kx_tbl := kx_in (List.mem_of_getElem? (i := 517) (by decide +kernel)) (by decide +kernel)
theorem wx_nat : Cond.native arraycopyName ∈ kx_tbl := kx_in (List.mem_of_getElem? (i := 260) (by decide +kernel)) (by decide +kernel)
theorem wx_sta : Cond.static arraycopyName ∈ kx_tbl := kx_in (List.mem_of_getElem? (i := 259) (by decide +kernel)) (by decide +kernel)
theorem wo_X4 : Cond.methodLink RX4 1 objectInit ∈ kx_tbl := kx_in (List.mem_of_getElem? (i := 48) (by decide +kernel)) (by decide +kernel)
theorem wo_X1 : Cond.methodLink RX1 3 objectInit ∈ kx_tbl := kx_in (List.mem_of_getElem? (i := 56) (by decide +kernel)) (by decide +kernel)
theorem wo_X2 : Cond.methodLink RX2 3 objectInit ∈ kx_tbl := kx_in (List.mem_of_getElem? (i := 62) (by decide +kernel)) (by decide +kernel)
theorem wo_X0 : Cond.methodLink RX0 3 objectInit ∈ kx_tbl := kx_in (List.mem_of_getElem? (i := 120) (by decide +kernel)) (by decide +kernel)
theorem wo_X3 : Cond.methodLink RX3 3 objectInit ∈ kx_tbl := kx_in (List.mem_of_getElem? (i := 140) (by decide +kernel)) (by decide +kernel)
theorem wx_X2_27 : Cond.methodLink RX2 27 arraycopyName ∈ kx_tbl := kx_in (List.mem_of_getElem? (i := 258) (by decide +kernel)) (by decide +kernel)
theorem wo_X5 : Cond.methodLink RX5 1 objectInit ∈ kx_tbl := kx_in (List.mem_of_getElem? (i := 521) (by decide +kernel)) (by decide +kernel)
theorem wo_in : Cond.instanceMethod objectInit ∈ kx_tbl := kx_in (List.mem_of_getElem? (i := 49) (by decide +kernel)) (by decide +kernel)
theorem wo_cd : Cond.code objectInit ⟨#[0xb1]⟩ 1 none ∈ kx_tbl := kx_in (List.mem_of_getElem? (i := 50) (by decide +kernel)) (by decide +kernel)
end
section
/-! ===== rows that read and write the heap; calls ===== -/
section KH
variable {Y : kx_Y} {d kc ks : Nat} {G : kx_G} {cs ss pc : Nat} {lv : List (Nat × Value)} {st : List Value} {N : Nat} {h : kx_H} {res : kx_R}
theorem ko_get {index ci k : Nat} {fin : Bool} {ty : FieldType} {a : Nat} {fs : List Value} {v : Value} (hf : kx_fl Y.1.cls index ci k fin ty) (hdg : decode Y.2.1 pc = .ok (.getfield index, 3)) (he : h a = some (.inr (ci, fs))) (hv : fs[k]? = some v) (K : kx_Ok Y d kc ks G cs ss (pc + 3) lv (v :: st) N h res) : kx_Ok Y d kc ks G cs ss pc lv (.ref a :: st) N h res := by
  intro p l e R s m args below meth c D κ A Z H locs ls hC hW hF
  obtain ⟨C, T, NN, ⟨hc, hin, ty0, hty, hnm⟩, hk, hl, hT, hfin, hp⟩ := hf
  have hC' := hC
  obtain ⟨hx, hb, hr, hml, hown, hts, hlocks, hini, hrm, hK, hSt, hA, hX⟩ := hC'
  exact va_get (D := D) (ci := ci) (v := v) (C := C) (T := T) (N := NN) hx hb hts hin hown hK (hW.2.1.one he) 0 rfl hc k hk (hts _ hl) (by rw [hT]; exact fun _ h9 => h9) hv hdg (K p l e R s m args below meth c D κ A Z H locs ls hC hW hF)
theorem ko_put {index ci k : Nat} {ty : FieldType} {a : Nat} {fs : List Value} {v : Value} (hf : kx_fl Y.1.cls index ci k false ty) (hdg : decode Y.2.1 pc = .ok (.putfield index, 3)) (he : h a = some (.inr (ci, fs))) (hn : narrow ty v = v) (hfit : fits ty v = true) (hl : k < fs.length) (K : kx_Ok Y d kc ks G cs ss (pc + 3) lv st N (kx_up h a (.inr (ci, fs.set k v))) res) : kx_Ok Y d kc ks G cs ss pc lv (v :: .ref a :: st) N h res := by
  intro p l e R s m args below meth c D κ A Z H locs ls hC hW hF
  obtain ⟨C, T, NN, ⟨hc, hin, ty0, hty, hnm⟩, hk, hlk, hT, hfin, hd⟩ := hf
  have hC' := hC
  obtain ⟨hx, hb, hr, hml, hown, hts, hlocks, hini, hrm, hK, hSt, hA, hX⟩ := hC'
  have hap := va_apart (own := Y.1.cls) hts hin ty0 hty hnm hK hc
  obtain ⟨r, h1, cell, q1, q2, q3, q4⟩ := hW.2.1 a _ he
  have hr : r = (C, T, NN) := Option.some.inj (h1.symm.trans hc)
  subst hr
  obtain ⟨hS, hfc, kC, hkC, hkind⟩ := hK.1 ci _ hc
  obtain ⟨cf, kf, fi, f, hi, hsl⟩ := hS k hk
  have hlay := hts _ (hin _ (u_in_lay hk))
  unfold u_lay at hlay
  rw [if_neg (by rw [hfin]; decide)] at hlay
  have hst := (u_facts hfc hkC (u_lays hts hin hk) hi).1
  have h6 := u_store hfc hkC hkind hlay hi hd hn hfit
  have hsame : ∀ x, s.fieldFound? (T k).1 (T k).2.1 (T k).2.2.1 = some x → s.fieldFound? C (T k).2.1 (T k).2.2.1 = some x := by rw [hT]; exact fun _ h9 => h9
  refine W.putK hx hb (f := f) ⟨hown, hts _ hlk, ⟨_, _, _, hsame _ hi⟩, hst⟩ (by rw [q2]; exact h6) q1 q3 (by rw [hsl]; exact k2_hasslot (q4 k hk)) rfl rfl hdg fun H' e1 e2 e3 => ?_
  rw [hsl] at e1 ⊢
  exact K p l e R s m args below meth c D κ A Z H' _ ls hC (hW.put he (e := .inr (ci, fs.set k v)) ⟨_, hc, t_OB.to (V := updV (vp_V fs) k v) ⟨_, e1, q2, q3, t_set q4 hap hk v⟩ (fun j _ => vp_updV_set hl v j)⟩ e2 e3) hF
theorem ko_putF {index ci k : Nat} {ty : FieldType} {a : Nat} {fs : List Value} {v : Value} (hf : kx_fl Y.1.cls index ci k true ty) (hnm0 : Y.1.name = "<init>") (hdec : (vwCl[ci]?).map (fun q => q.1) = some Y.1.cls) (hdg : decode Y.2.1 pc = .ok (.putfield index, 3)) (he : h a = some (.inr (ci, fs))) (hn : narrow ty v = v) (hfit : fits ty v = true) (hl : k < fs.length) (K : kx_Ok Y d kc ks G cs ss (pc + 3) lv st N (kx_up h a (.inr (ci, fs.set k v))) res) : kx_Ok Y d kc ks G cs ss pc lv (v :: .ref a :: st) N h res := by
  intro p l e R s m args below meth c D κ A Z H locs ls hC hW hF
  obtain ⟨C, T, NN, ⟨hc, hin, ty0, hty, hnm⟩, hk, hlk, hT, hfin, hd⟩ := hf
  have hC' := hC
  obtain ⟨hx, hb, hr, hml, hown, hts, hlocks, hini, hrm, hK, hSt, hA, hX⟩ := hC'
  have hap := va_apart (own := Y.1.cls) hts hin ty0 hty hnm hK hc
  obtain ⟨r, h1, cell, q1, q2, q3, q4⟩ := hW.2.1 a _ he
  have hr : r = (C, T, NN) := Option.some.inj (h1.symm.trans hc)
  subst hr
  obtain ⟨hS, hfc, kC, hkC, hkind⟩ := hK.1 ci _ hc
  obtain ⟨cf, kf, fi, f, hi, hsl⟩ := hS k hk
  have hlay := hts _ (hin _ (u_in_lay hk))
  unfold u_lay at hlay
  rw [if_pos hfin] at hlay
  have hst := (u_facts hfc hkC (u_lays hts hin hk) hi).1
  have hdecl : (T k).1 = Y.1.cls := by
    rw [hT]
    rw [hc] at hdec
    exact Option.some.inj hdec
  have hcf : m.cls = cf := by
    obtain ⟨_, _, c', _, _, _, -, -, hf', -, -, -, hown2, -⟩ := Cond.laysFinal_spec hlay
    have e1 : c' = cf := by have := hi.symm.trans hf'; simp at this; exact this.1.symm
    rw [hdecl] at hown2
    rw [← e1]; exact Option.some.inj (hown.symm.trans hown2)
  have h6 := u_fits hfc hkC hkind (Or.inr hlay) hi hd hn hfit
  have hsame : ∀ x, s.fieldFound? (T k).1 (T k).2.1 (T k).2.2.1 = some x → s.fieldFound? C (T k).2.1 (T k).2.2.1 = some x := by rw [hT]; exact fun _ h9 => h9
  refine W.putFinK hx hb hown (hts _ hlk) (hsame _ hi) hst hcf (hini hnm0) (by rw [q2]; exact h6) q1 q3 (by rw [hsl]; exact k2_hasslot (q4 k hk)) rfl rfl hdg fun H' e1 e2 e3 => ?_
  rw [hsl] at e1 ⊢
  exact K p l e R s m args below meth c D κ A Z H' _ ls hC (hW.put he (e := .inr (ci, fs.set k v)) ⟨_, hc, t_OB.to (V := updV (vp_V fs) k v) ⟨_, e1, q2, q3, t_set q4 hap hk v⟩ (fun j _ => vp_updV_set hl v j)⟩ e2 e3) hF
theorem ko_iald {a L : Nat} {f : Nat → Int32} {i : Int32} (hdg : decode Y.2.1 pc = .ok (.iaload, 1)) (he : h a = some (.inl (0, L, .inl f))) (hin : vp_in i L) (K : kx_Ok Y d kc ks G cs ss (pc + 1) lv (.int (f i.toNatClampNeg) :: st) N h res) : kx_Ok Y d kc ks G cs ss pc lv (.int i :: .ref a :: st) N h res := by
  intro p l e R s m args below meth c D κ A Z H locs ls hC hW hF
  have hC' := hC
  obtain ⟨hx, hb, hr, hml, hown, hts, hlocks, hini, hrm, hK, hSt, hA, hX⟩ := hC'
  exact va_iald hx hb hK (hW.2.1.one he) 0 0 rfl rfl hin hdg (K p l e R s m args below meth c D κ A Z H locs ls hC hW hF)
theorem ko_zald {a L : Nat} {f : Nat → Int32} {i : Int32} (hdg : decode Y.2.1 pc = .ok (.baload, 1)) (he : h a = some (.inl (1, L, .inl f))) (hin : vp_in i L) (K : kx_Ok Y d kc ks G cs ss (pc + 1) lv (.int (f i.toNatClampNeg) :: st) N h res) : kx_Ok Y d kc ks G cs ss pc lv (.int i :: .ref a :: st) N h res := by
  intro p l e R s m args below meth c D κ A Z H locs ls hC hW hF
  have hC' := hC
  obtain ⟨hx, hb, hr, hml, hown, hts, hlocks, hini, hrm, hK, hSt, hA, hX⟩ := hC'
  exact va_zald hx hb hK (hW.2.1.one he) 0 1 rfl rfl hin hdg (K p l e R s m args below meth c D κ A Z H locs ls hC hW hF)
theorem ko_aald {a L : Nat} {f : Nat → Option Nat} {i : Int32} {q : Nat} (hdg : decode Y.2.1 pc = .ok (.aaload, 1)) (he : h a = some (.inl (2, L, .inr (.inr (.inr (.inr f)))))) (hin : vp_in i L) (hq : f i.toNatClampNeg = some q) (K : kx_Ok Y d kc ks G cs ss (pc + 1) lv (.ref q :: st) N h res) : kx_Ok Y d kc ks G cs ss pc lv (.int i :: .ref a :: st) N h res := by
  intro p l e R s m args below meth c D κ A Z H locs ls hC hW hF
  have hC' := hC
  obtain ⟨hx, hb, hr, hml, hown, hts, hlocks, hini, hrm, hK, hSt, hA, hX⟩ := hC'
  refine va_aldq hx hb hK (hW.2.1.one he) 0 2 rfl rfl hin hdg ?_
  rw [hq]
  exact K p l e R s m args below meth c D κ A Z H locs ls hC hW hF
theorem ko_iast {a L : Nat} {f : Nat → Int32} {i x : Int32} (hdg : decode Y.2.1 pc = .ok (.iastore, 1)) (he : h a = some (.inl (0, L, .inl f))) (hin : vp_in i L) (K : kx_Ok Y d kc ks G cs ss (pc + 1) lv st N (kx_up h a (.inl (0, L, .inl (upd f i.toNatClampNeg x)))) res) : kx_Ok Y d kc ks G cs ss pc lv (.int x :: .int i :: .ref a :: st) N h res := by
  intro p l e R s m args below meth c D κ A Z H locs ls hC hW hF
  have hC' := hC
  obtain ⟨hx, hb, hr, hml, hown, hts, hlocks, hini, hrm, hK, hSt, hA, hX⟩ := hC'
  refine W.iast hx hb (hW.2.1 a _ he) ((hK.2 0 _ rfl).1 L (fun j => .int (f j))) (fun q => by cases q) (by show ¬ (i < 0 ∨ (arrV _ _ _).slots.size ≤ _); rw [arrV_size]; exact hin) rfl rfl hdg fun H1 e1 z oq => ?_
  refine K p l e R s m args below meth c D κ A Z H1 _ ls hC (hW.put he (e := .inl (0, L, .inl (upd f i.toNatClampNeg x))) ?_ z oq) hF
  show H1[a]? = some (vp_cell _ _)
  rw [e1]
  rw [vp_cell_i, vp_cell_i, arrV_store]
  congr 2
  funext q
  by_cases hq : q = i.toNatClampNeg
  · subst hq
    simp [updV, upd]
  · simp [updV, upd, hq]
theorem ko_zast {a L : Nat} {f : Nat → Int32} {i x : Int32} (hdg : decode Y.2.1 pc = .ok (.bastore, 1)) (he : h a = some (.inl (1, L, .inl f))) (hin : vp_in i L) (K : kx_Ok Y d kc ks G cs ss (pc + 1) lv st N (kx_up h a (.inl (1, L, .inl (upd f i.toNatClampNeg (vp_nar .boolean x))))) res) : kx_Ok Y d kc ks G cs ss pc lv (.int x :: .int i :: .ref a :: st) N h res := by
  intro p l e R s m args below meth c D κ A Z H locs ls hC hW hF
  have hC' := hC
  obtain ⟨hx, hb, hr, hml, hown, hts, hlocks, hini, hrm, hK, hSt, hA, hX⟩ := hC'
  refine W.zast hx hb (hW.2.1 a _ he) ((hK.2 1 _ rfl).1 L (fun j => .int (f j))) (fun q => by cases q) (by show ¬ (i < 0 ∨ (arrV _ _ _).slots.size ≤ _); rw [arrV_size]; exact hin) rfl rfl hdg fun H1 e1 z oq => ?_
  refine K p l e R s m args below meth c D κ A Z H1 _ ls hC (hW.put he (e := .inl (1, L, .inl (upd f i.toNatClampNeg (vp_nar .boolean x)))) ?_ z oq) hF
  show H1[a]? = some (vp_cell _ _)
  rw [e1]
  rw [vp_cell_i, vp_cell_i, arrV_store]
  congr 2
  funext q
  by_cases hq : q = i.toNatClampNeg
  · subst hq
    simp [updV, upd, vp_nar]
    try rfl
  · simp [updV, upd, hq]
theorem ko_aast {a L v : Nat} {vs : List Value} {f : Nat → Option Nat} {i : Int32} (hdg : decode Y.2.1 pc = .ok (.aastore, 1)) (he : h a = some (.inl (2, L, .inr (.inr (.inr (.inr f)))))) (hv : h v = some (.inr (2, vs))) (hin : vp_in i L) (K : kx_Ok Y d kc ks G cs ss (pc + 1) lv st N (kx_up h a (.inl (2, L, .inr (.inr (.inr (.inr (va_up f i.toNatClampNeg (some v)))))))) res) : kx_Ok Y d kc ks G cs ss pc lv (.ref v :: .int i :: .ref a :: st) N h res := by
  intro p l e R s m args below meth c D κ A Z H locs ls hC hW hF
  have hC' := hC
  obtain ⟨hx, hb, hr, hml, hown, hts, hlocks, hini, hrm, hK, hSt, hA, hX⟩ := hC'
  have hlt : i.toNatClampNeg < L := Nat.not_le.mp fun q => hin (Or.inr q)
  have h0 : ¬ i < 0 := fun q => hin (Or.inl q)
  have hc : vwCl[2]? = some (RX2, TX2, 9) := rfl
  obtain ⟨r', hr', cellV, g1, g2, g3, -⟩ := hW.2.1 v _ hv
  have hcls := (hK.1 2 _ hc).2
  obtain ⟨kA, comp, k1, k2, k3, -⟩ := (hK.2 2 _ rfl).2
  have hcomp : comp = D.1 2 := Option.some.inj (k3.symm.trans hcls.1)
  subst hcomp
  obtain ⟨kC, hkC, -⟩ := hcls.2
  refine W.aast hx hb (hW.2.1 a _ he) (fun q h => by cases h) (fun h => by cases h) k1 k2 rfl hkC ⟨h0, by show _ < (arrV _ _ _).slots.size; rw [arrV_size]; exact hlt⟩ g1 (fun q h => by rw [g3] at h; cases h) (by rw [g2]; exact hkC) (by rw [g2]; exact va_assign hcls) rfl rfl hdg fun H1 e1 z oq => ?_
  refine K p l e R s m args below meth c D κ A Z H1 _ ls hC (hW.put he (e := .inl (2, L, .inr (.inr (.inr (.inr (va_up f i.toNatClampNeg (some v))))))) ?_ z oq) hF
  show H1[a]? = some (vp_cell _ _)
  rw [e1]
  rw [vp_cell_q, vp_cell_q, arrV_store]
  congr 2
  funext q
  by_cases hq : q = i.toNatClampNeg
  · subst hq
    simp [updV, va_up, va_rf]
  · simp [updV, va_up, hq]
/-- arrays that nobody writes, apart from the worlds -/
theorem ko_rald {a L : Nat} {f : Nat → Int32} {i : Int32} (hdg : decode Y.2.1 pc = .ok (.iaload, 1)) (he : G.2 a = some (L, f)) (hin : vp_in i L) (K : kx_Ok Y d kc ks G cs ss (pc + 1) lv (.int (f i.toNatClampNeg) :: st) N h res) : kx_Ok Y d kc ks G cs ss pc lv (.int i :: .ref a :: st) N h res := by
  intro p l e R s m args below meth c D κ A Z H locs ls hC hW hF
  have hC' := hC
  obtain ⟨hx, hb, hr, hml, hown, hts, hlocks, hini, hrm, hK, hSt, hA, hX⟩ := hC'
  exact va_ti hx hb (hSt.2 a L f he) hW.2.2.2.1 hin rfl hdg (K p l e R s m args below meth c D κ A Z H locs ls hC hW hF)
theorem ko_rlen {a L : Nat} {f : Nat → Int32} (hdg : decode Y.2.1 pc = .ok (.arraylength, 1)) (he : G.2 a = some (L, f)) (K : kx_Ok Y d kc ks G cs ss (pc + 1) lv (.int (nI L) :: st) N h res) : kx_Ok Y d kc ks G cs ss pc lv (.ref a :: st) N h res := by
  intro p l e R s m args below meth c D κ A Z H locs ls hC hW hF
  have hC' := hC
  obtain ⟨hx, hb, hr, hml, hown, hts, hlocks, hini, hrm, hK, hSt, hA, hX⟩ := hC'
  exact va_tlen hx hb (hSt.2 a L f he) hW.2.2.2.1 rfl hdg (K p l e R s m args below meth c D κ A Z H locs ls hC hW hF)
theorem ko_gets {index : Nat} (hl : Cond.fieldLink Y.1.cls index "BorrowedTears" "FACTORIALS" "[I" ∈ kx_tbl) (hdg : decode Y.2.1 pc = .ok (.getstatic index, 3)) (K : kx_Ok Y d kc ks G cs ss (pc + 3) lv (.ref G.1 :: st) N h res) : kx_Ok Y d kc ks G cs ss pc lv st N h res := by
  intro p l e R s m args below meth c D κ A Z H locs ls hC hW hF
  have hC' := hC
  obtain ⟨hx, hb, hr, hml, hown, hts, hlocks, hini, hrm, hK, hSt, hA, hX⟩ := hC'
  exact va_gets hx hb hSt.1 hW.2.2.2.1 hown (hts _ hl) (fun _ h9 => h9) hdg (K p l e R s m args below meth c D κ A Z H locs ls hC hW hF)
/-- a new cell stands behind all that there was -/
theorem kx_Wd.new {D : va_G} {κ : Nat → ClassId} {A : Nat → Prop} {s : State} {H H1 : Heap} {locs : List Loc} {ls : Array Slot} (w : kx_Wd Y D κ A s H locs ls lv N h) (hA : ∀ q : Nat, s.heap.size ≤ q → A q) {e : va_E} (h1 : va_at D vwCl (H.size, kx_re κ e) H1) (z : H1.size = H.size + 1) (oq : ∀ q : Nat, q < H.size → H1[q]? = H[q]?) : kx_Wd Y D κ A s H1 locs ls lv (N + 1) (kx_up h N e) := by
  obtain ⟨w1, w2, w3, w4, w5⟩ := w
  subst w1
  refine ⟨z, fun b e' hb => ?_, fun b e' hb => ?_, ⟨by rw [z]; exact Nat.le_succ_of_le w4.1, fun q g1 g2 => (oq q (Nat.lt_of_lt_of_le g1 w4.1)).trans (w4.2.1 q g1 g2), w4.2.2⟩, w5⟩
  · by_cases hba : b = H.size
    · subst hba; simp only [kx_up, if_true] at hb; cases hb; exact h1
    · simp only [kx_up, if_neg hba] at hb; exact (w2 b e' hb).kept (oq b (w2.lt hb))
  · by_cases hba : b = H.size
    · subst hba; exact hA _ w4.1
    · simp only [kx_up, if_neg hba] at hb; exact w3 b e' hb
theorem ko_new {index ci NN : Nat} {C : String} {T : u_T} {fs : List Value} (hcl : kx_cls ci C T NN) (hlk : Cond.classLink Y.1.cls index C ∈ kx_tbl) (hinst : Cond.instantiable C NN ∈ kx_tbl) (hinit : Cond.initialized C ∈ kx_tbl) (hfs : ∀ j, j < NN → (parseFieldDescriptor (T j).2.2.1).map defaultValue = some (vp_V fs j)) (hdg : decode Y.2.1 pc = .ok (.new index, 3)) (h1 : cs + 1 ≤ kc) (h2 : ss + NN ≤ ks) (K : kx_Ok Y d kc ks G (cs + 1) (ss + NN) (pc + 3) lv (.ref N :: st) (N + 1) (kx_up h N (.inr (ci, fs))) res) : kx_Ok Y d kc ks G cs ss pc lv st N h res := by
  intro p l e R s m args below meth c D κ A Z H locs ls hC hW hF
  obtain ⟨hc, hin, ty0, hty, hnm⟩ := hcl
  have hC' := hC
  obtain ⟨hx, hb, hr, hml, hown, hts, hlocks, hini, ⟨r1, r2, r3, r4⟩, hK, hSt, hA, hX⟩ := hC'
  have hKn := hK.1 ci _ hc
  refine W.newcK hx hb hown (hts _ hlk) (hts _ hinst) (hts _ hinit) rfl hdg (Nat.le_trans h1 r3) (Nat.le_trans h2 r4) hKn.2.1 hW.1 fun H1 kC hkC e1 z1 o1 => ?_
  refine K p l e R s m args below meth c D κ A Z H1 locs ls hC (hW.new hA (e := .inr (ci, fs)) ?_ (by rw [hW.1]; exact z1) (by rw [hW.1]; exact o1)) hF
  refine ⟨_, hc, (u_born (fun k => ty0 k) hts hin hKn hkC (by rw [hW.1]; exact e1) hty).to (fun j hj => ?_)⟩
  have := hfs j hj
  rw [hty j hj] at this
  exact Option.some.inj this
theorem ko_newi {n : Int32} {L : Nat} (hdg : decode Y.2.1 pc = .ok (.newarray .int, 2)) (hn : ¬ n < 0) (hL : n.toNatClampNeg = L) (hB : L ≤ 1000) (h1 : cs + 1 ≤ kc) (h2 : ss + L ≤ ks) (ha : Cond.arrayClass .int ∈ kx_tbl) (K : kx_Ok Y d kc ks G (cs + 1) (ss + L) (pc + 2) lv (.ref N :: st) (N + 1) (kx_up h N (.inl (0, L, .inl (fun _ => 0)))) res) : kx_Ok Y d kc ks G cs ss pc lv (.int n :: st) N h res := by
  intro p l e R s m args below meth c D κ A Z H locs ls hC hW hF
  have hC' := hC
  obtain ⟨hx, hb, hr, hml, hown, hts, hlocks, hini, ⟨r1, r2, r3, r4⟩, hK, hSt, hA, hX⟩ := hC'
  refine va_newaK (atype := .int) hx hb (hts _ ha) rfl hdg rfl hn hL (by show L * 4 ≤ _; omega) (Nat.le_trans h1 r3) (Nat.le_trans h2 r4) hW.1 fun H1 cA e1 z1 o1 hAr hNm => ?_
  have hcA : cA = κ 0 := Option.some.inj (hNm.symm.trans (hK.2 0 _ rfl).2)
  subst hcA
  exact K p l e R s m args below meth c D κ A Z H1 locs ls hC (hW.new hA (e := .inl (0, L, .inl (fun _ => 0))) (by show H1[H.size]? = _; rw [hW.1]; exact e1) (by rw [hW.1]; exact z1) (by rw [hW.1]; exact o1)) hF
theorem ko_newz {n : Int32} {L : Nat} (hdg : decode Y.2.1 pc = .ok (.newarray .boolean, 2)) (hn : ¬ n < 0) (hL : n.toNatClampNeg = L) (hB : L ≤ 1000) (h1 : cs + 1 ≤ kc) (h2 : ss + L ≤ ks) (ha : Cond.arrayClass .boolean ∈ kx_tbl) (K : kx_Ok Y d kc ks G (cs + 1) (ss + L) (pc + 2) lv (.ref N :: st) (N + 1) (kx_up h N (.inl (1, L, .inl (fun _ => 0)))) res) : kx_Ok Y d kc ks G cs ss pc lv (.int n :: st) N h res := by
  intro p l e R s m args below meth c D κ A Z H locs ls hC hW hF
  have hC' := hC
  obtain ⟨hx, hb, hr, hml, hown, hts, hlocks, hini, ⟨r1, r2, r3, r4⟩, hK, hSt, hA, hX⟩ := hC'
  refine va_newaK (atype := .boolean) hx hb (hts _ ha) rfl hdg rfl hn hL (by show L * 1 ≤ _; omega) (Nat.le_trans h1 r3) (Nat.le_trans h2 r4) hW.1 fun H1 cA e1 z1 o1 hAr hNm => ?_
  have hcA : cA = κ 1 := Option.some.inj (hNm.symm.trans (hK.2 1 _ rfl).2)
  subst hcA
  exact K p l e R s m args below meth c D κ A Z H1 locs ls hC (hW.new hA (e := .inl (1, L, .inl (fun _ => 0))) (by show H1[H.size]? = _; rw [hW.1]; exact e1) (by rw [hW.1]; exact z1) (by rw [hW.1]; exact o1)) hF
theorem ko_newq {n : Int32} {L index : Nat} (hlk : Cond.classLink Y.1.cls index RX2 ∈ kx_tbl) (hdg : decode Y.2.1 pc = .ok (.anewarray index, 3)) (hn : ¬ n < 0) (hL : n.toNatClampNeg = L) (hB : L ≤ 1000) (h1 : cs + 1 ≤ kc) (h2 : ss + L ≤ ks) (K : kx_Ok Y d kc ks G (cs + 1) (ss + L) (pc + 3) lv (.ref N :: st) (N + 1) (kx_up h N (.inl (2, L, .inr (.inr (.inr (.inr (fun _ => none))))))) res) : kx_Ok Y d kc ks G cs ss pc lv (.int n :: st) N h res := by
  intro p l e R s m args below meth c D κ A Z H locs ls hC hW hF
  have hC' := hC
  obtain ⟨hx, hb, hr, hml, hown, hts, hlocks, hini, ⟨r1, r2, r3, r4⟩, hK, hSt, hA, hX⟩ := hC'
  subst hL
  refine W.anew hx hb hown (hts _ hlk) (va_AO.use hX.1) rfl hdg rfl hn (by omega) (Nat.le_trans h1 r3) (Nat.le_trans h2 r4) fun cA kA comp f1 f2 f3 f4 => ?_
  have hw1 := hW.1
  subst hw1
  obtain ⟨-, -, -, -, -, hfc⟩ := (hK.2 2 _ rfl).2
  have hcA : cA = κ 2 := Option.some.inj (f1.symm.trans hfc)
  subst hcA
  generalize hH1 : H.push ({ cls := κ 2, slots := Array.replicate n.toNatClampNeg .null, vm := .none } : Cell) = H1
  have z1 : H1.size = H.size + 1 := by rw [← hH1, Array.size_push]
  have e1 : H1[H.size]? = some (arrV (κ 2) n.toNatClampNeg (fun _ => .null)) := by rw [← hH1, Array.getElem?_push_size, ← arrV_new]
  have o1 : ∀ q : Nat, q < H.size → H1[q]? = H[q]? := fun q hq => by rw [← hH1, Array.getElem?_push, if_neg (Nat.ne_of_lt hq)]
  exact K p l e R s m args below meth c D κ A Z H1 locs ls hC (hW.new hA (e := .inl (2, n.toNatClampNeg, .inr (.inr (.inr (.inr (fun _ => none)))))) e1 z1 o1) hF
theorem ko_objInit {idx a : Nat} (hl : Cond.methodLink Y.1.cls idx objectInit ∈ kx_tbl) (hdg : decode Y.2.1 pc = .ok (.invokespecial idx, 3)) (hd : 1 ≤ d) (hst : (st.map fun v => v.category).sum ≤ 8) (K : kx_Ok Y d kc ks G cs ss (pc + 3) lv st N h res) : kx_Ok Y d kc ks G cs ss pc lv (.ref a :: st) N h res := by
  intro p l e R s m args below meth c D κ A Z H locs ls hC hW hF
  have hC' := hC
  obtain ⟨hx, hb, hr, hml, hown, hts, hlocks, hini, ⟨r1, r2, r3, r4⟩, hK, hSt, hA, hX⟩ := hC'
  refine W.objInit (idx := idx) hx hb hown (hts _ hl) (hts _ wo_in) (hts _ wo_cd) rfl (by rw [hml]; exact hW.2.2.2.2.1) rfl hdg (Nat.le_trans hd r1) (by show 2 * 0 + _ + 12 ≤ _; omega) ?_
  exact K p l e R s m args below meth c D κ A Z H locs ls hC hW hF
/-- behind a call: the machine's run of the callee, the caller goes on over the new heap -/
theorem kx_after {kc' ks' : Nat} {v : Option Value} {N' : Nat} {h' : kx_H} {st0 : List Value} {p : Program} {l : Launch} {e : Env} {R : Room} {s : State} {m : MethodId} {args : Array Value} {below : List Frame} {meth : Method} {c : Code} {D : va_G} {κ : Nat → ClassId} {A : Nat → Prop} {Z : State → Prop} {H : Heap} {locs : List Loc} {ls : Array Slot} {a : Array Value}
    (hC : kx_C Y d kc ks G D κ A p R s m args meth c) (hW : kx_Wd Y D κ A s H locs ls lv N h) (hF : kx_F Y D κ A kc ks p l e R s m args below meth c Z res) (hr : va_Run p l e R s m args below meth c H locs cs ss kc' ks' (F0 m pc ls st0) st (kx_Q D κ N h (v, N', h') a) (kx_dom h N)) (K : kx_Ok Y d kc ks G (cs + kc') (ss + ks') (pc + 3) lv (v.toList ++ st) N' h' res) : W p l e R s m args below meth c H locs cs ss Z (F0 m pc ls st0) := by
  have hdm : ∀ q, kx_dom h N q → A q := kx_dom_le hW.2.2.1 (fun q hq => hC.2.2.2.2.2.2.2.2.2.2.2.1 q (Nat.le_trans (by rw [← hW.1] at hq; exact hW.2.2.2.1.1) (by rw [← hW.1] at hq; exact hq)))
  intro T hT X
  obtain ⟨w, st₀, t, T', L, h0, X', hL, e1, e2, ⟨hv, hz, hH, hdom, hFr⟩, st⟩ := hr T hT X
  cases hv
  have hS := hW.2.2.2.1
  have hsz : H.size ≤ t.heap.size := by rw [← h0]; exact hFr.1
  obtain ⟨t2, a1, b1⟩ := K p l e R s m args below meth c D κ A Z t.heap (locs ++ L) ls hC ⟨hz, hH, fun b e' hb => hdm b (hdom b e' hb), ⟨Nat.le_trans hS.1 hsz, fun q g1 g2 => by
      rw [hFr.2 q (by rw [h0]; exact Nat.lt_of_lt_of_le g1 hS.1) (fun z => g2 (hdm q z)), h0]
      exact hS.2.1 q g1 g2, fun q hq => by
      rcases List.mem_append.mp hq with g | g
      · exact hS.2.2 q g
      · exact hdm _ (hL q g)⟩, hW.2.2.2.2⟩ hF T' e1 X'
  exact ⟨t2, st t2 a1, b1⟩
theorem kx_blind {D : va_G} {κ : Nat → ClassId} {av : List Value} : FrameBlind (va_Pc av (kx_Pc D κ G N h)) := fun a U g mk q => by
  obtain ⟨q0, q1, q2, q3, q4, q5⟩ := q
  exact ⟨q0, q1, q2, va_K.moved (u := U) (U := U.calling g mk a) (Vm.Alike.refl U.vm) q3, kx_St.moved (u := U) (U := U.calling g mk a) (Vm.Alike.refl U.vm) q4, kx_X.same (s := U) (U := U.calling g mk a) rfl q5⟩
theorem kx_pre {p : Program} {R : Room} {s : State} {m : MethodId} {args : Array Value} {meth : Method} {c : Code} {D : va_G} {κ : Nat → ClassId} {A : Nat → Prop} {H : Heap} {locs : List Loc} {ls : Array Slot}
    (hC : kx_C Y d kc ks G D κ A p R s m args meth c) (hW : kx_Wd Y D κ A s H locs ls lv N h) (av : List Value) : ∀ U : State, U.heap = H → s.WarmedH U.vm → va_Pc av (kx_Pc D κ G N h) av.toArray U := by
  intro U hU hwm
  obtain ⟨hx, hb, hr, hml, hown, hts, hlocks, hini, hrm, hK, hSt, hA, hX⟩ := hC
  have hdm : ∀ q, kx_dom h N q → A q := kx_dom_le hW.2.2.1 (fun q hq => hA q (Nat.le_trans (by rw [← hW.1] at hq; exact hW.2.2.2.1.1) (by rw [← hW.1] at hq; exact hq)))
  refine ⟨rfl, by rw [hU]; exact hW.1, by rw [hU]; exact hW.2.1, va_K.moved hwm.alike hK, ?_, hX.warm hwm⟩
  rw [hU]
  exact ((hSt.kept (fun q g1 g2 => hW.2.2.2.1.2.1 q g1 g2)).moved hwm.alike).narrow hdm
theorem kx_gin {y : kx_Y} (hc : Cond.code y.1 y.2.1 y.2.2.1 y.2.2.2 ∈ kx_tbl) : GoodIn kx_tbl (kx_ws y) := fun w hw => by
  have hm : w ∈ kx_tbl := by
    rcases List.mem_cons.mp hw with e | e
    · rw [e]; exact hc
    · exact e
  exact ⟨hm, kx_good w hm⟩
theorem kx_recv {D : va_G} {κ : Nat → ClassId} {H : Heap} {s : State} {b ci : Nat} {q : vw_C} {fs : List Value} (hK : va_K D vwCl (kx_tys κ) s) (hH : kx_Hold D κ h H) (hc : vwCl[ci]? = some q) (he : h b = some (.inr (ci, fs))) : ∃ cell : Cell, H[b]? = some cell ∧ cell.vm.isStatics = false ∧ s.vm.findClass q.1 = some cell.cls := va_recv hK (hH.one he) (q0 := 0) hc rfl
theorem ko_callV {y : kx_Y} {d' kc' ks' n idx b ci : Nat} {q : vw_C} {fs As : List Value} {v : Option Value} {N' : Nat} {h' : kx_H} {st0 : List Value} (hlk : kx_lV Y.1.cls idx y n) (hdg : decode Y.2.1 pc = .ok (.invokevirtual idx, 3)) (hf : kx_Fn y d' kc' ks' G (.ref b :: As) N h (v, N', h')) (hs : st0 = As.reverse ++ .ref b :: st) (hn : As.length = n) (hb : h b = some (.inr (ci, fs))) (hci : vwCl[ci]? = some q) (hq : q.1 = y.1.cls) (hd : d' + 1 ≤ d) (h1 : cs + kc' ≤ kc) (h2 : ss + ks' ≤ ks) (hst : (st.map fun v => v.category).sum ≤ 8) (K : kx_Ok Y d kc ks G (cs + kc') (ss + ks') (pc + 3) lv (v.toList ++ st) N' h' res) : kx_Ok Y d kc ks G cs ss pc lv st0 N h res := by
  intro p l e R s m args below meth c D κ A Z H locs ls hC hW hF
  obtain ⟨⟨l1, l2, l3, l4, l5, l6⟩, l7, l8, l9⟩ := hlk
  have hC' := hC
  obtain ⟨hx, hbc, hr, hml, hown, hts, hlocks, hini, ⟨r1, r2, r3, r4⟩, hK, hSt, hA, hX⟩ := hC'
  have cw : CallW R s args Y.1.cls y.1.cls idx y.1 y.2.1 y.2.2.1 y.2.2.2 (kx_ws y) (kx_rm d' kc' ks') kc' ks' n := ⟨callB_of n hts (kx_gin l1) rfl rfl rfl (hts _ l2) (hts _ l7) ⟨l3, l4, l5⟩ ⟨Nat.le_trans hd r1, by show 8 + (y.2.2.1 + 11) + 40 * d' ≤ _; omega⟩, hts _ l8, hts _ l9⟩
  exact kx_after hC hW hF (va_runV (As := As) (rest := st) ⟨hx, hbc, hml, hown, hts⟩ (hf l D κ) cw ⟨kx_blind, by rw [← hq]; exact kx_recv hK hW.2.1 hci hb, kx_pre hC hW (.ref b :: As)⟩ rfl hn hW.2.2.2.2.1 hs (lv_room hst) hdg ⟨Nat.le_trans h1 r3, Nat.le_trans h2 r4⟩) K
theorem ko_callVN {y : kx_Y} {d' kc' ks' n idx b ci : Nat} {q : vw_C} {fs As : List Value} {v : Option Value} {N' : Nat} {h' : kx_H} {st0 : List Value} (hlk : kx_lVN Y.1.cls idx y n) (hdg : decode Y.2.1 pc = .ok (.invokevirtual idx, 3)) (hf : kx_Fn y d' kc' ks' G (.ref b :: As) N h (v, N', h')) (hs : st0 = As.reverse ++ .ref b :: st) (hn : As.length = n) (hb : h b = some (.inr (ci, fs))) (hci : vwCl[ci]? = some q) (hq : q.1 = y.1.cls) (hd : d' + 1 ≤ d) (h1 : cs + kc' ≤ kc) (h2 : ss + ks' ≤ ks) (hst : (st.map fun v => v.category).sum ≤ 8) (K : kx_Ok Y d kc ks G (cs + kc') (ss + ks') (pc + 3) lv (v.toList ++ st) N' h' res) : kx_Ok Y d kc ks G cs ss pc lv st0 N h res := by
  intro p l e R s m args below meth c D κ A Z H locs ls hC hW hF
  obtain ⟨⟨l1, l2, l3, l4, l5, l6⟩, ⟨host, l7⟩, l8, l9⟩ := hlk
  have hC' := hC
  obtain ⟨hx, hbc, hr, hml, hown, hts, hlocks, hini, ⟨r1, r2, r3, r4⟩, hK, hSt, hA, hX⟩ := hC'
  have cw : va_CN R s args Y.1.cls idx y.1 host y.2.1 y.2.2.1 y.2.2.2 (kx_ws y) (kx_rm d' kc' ks') kc' ks' n := va_cnB n hts (kx_gin l1) rfl rfl rfl (hX.2 _ l7) (hts _ l2) ⟨l3, l4, l5⟩ ⟨Nat.le_trans hd r1, by show 8 + (y.2.2.1 + 11) + 40 * d' ≤ _; omega⟩
  exact kx_after hC hW hF (va_runVN (As := As) (rest := st) ⟨hx, hbc, hml, hown, hts⟩ (hf l D κ) ⟨cw, hts _ l8, hts _ l9⟩ ⟨kx_blind, by rw [← hq]; exact kx_recv hK hW.2.1 hci hb, kx_pre hC hW (.ref b :: As)⟩ rfl hn hW.2.2.2.2.1 hs (lv_room hst) hdg ⟨Nat.le_trans h1 r3, Nat.le_trans h2 r4⟩) K
theorem ko_callS {y : kx_Y} {d' kc' ks' n idx : Nat} {As : List Value} {v : Option Value} {N' : Nat} {h' : kx_H} {st0 : List Value} (hlk : kx_lS Y.1.cls idx y n) (hdg : decode Y.2.1 pc = .ok (.invokestatic idx, 3)) (hf : kx_Fn y d' kc' ks' G As N h (v, N', h')) (hs : st0 = As.reverse ++ st) (hn : As.length = n) (hd : d' + 1 ≤ d) (h1 : cs + kc' ≤ kc) (h2 : ss + ks' ≤ ks) (hst : (st.map fun v => v.category).sum ≤ 8) (K : kx_Ok Y d kc ks G (cs + kc') (ss + ks') (pc + 3) lv (v.toList ++ st) N' h' res) : kx_Ok Y d kc ks G cs ss pc lv st0 N h res := by
  intro p l e R s m args below meth c D κ A Z H locs ls hC hW hF
  obtain ⟨⟨l1, l2, l3, l4, l5, l6⟩, l7, l8⟩ := hlk
  have hC' := hC
  obtain ⟨hx, hbc, hr, hml, hown, hts, hlocks, hini, ⟨r1, r2, r3, r4⟩, hK, hSt, hA, hX⟩ := hC'
  have cw : CallB R s args Y.1.cls idx y.1 y.2.1 y.2.2.1 y.2.2.2 (kx_ws y) (kx_rm d' kc' ks') kc' ks' n := callB_of n hts (kx_gin l1) rfl rfl rfl (hts _ l2) (hts _ l7) ⟨l3, l4, l5⟩ ⟨Nat.le_trans hd r1, by show 8 + (y.2.2.1 + 11) + 40 * d' ≤ _; omega⟩
  exact kx_after hC hW hF (va_runS (As := As) (rest := st) ⟨hx, hbc, hml, hown, hts⟩ (hf l D κ) ⟨cw, hts _ l8⟩ ⟨kx_blind, kx_pre hC hW As⟩ rfl hn hW.2.2.2.2.1 hs (lv_room hst) hdg ⟨Nat.le_trans h1 r3, Nat.le_trans h2 r4⟩) K
theorem ko_callSN {y : kx_Y} {d' kc' ks' n idx : Nat} {As : List Value} {v : Option Value} {N' : Nat} {h' : kx_H} {st0 : List Value} (hlk : kx_lSN Y.1.cls idx y n) (hdg : decode Y.2.1 pc = .ok (.invokestatic idx, 3)) (hf : kx_Fn y d' kc' ks' G As N h (v, N', h')) (hs : st0 = As.reverse ++ st) (hn : As.length = n) (hd : d' + 1 ≤ d) (h1 : cs + kc' ≤ kc) (h2 : ss + ks' ≤ ks) (hst : (st.map fun v => v.category).sum ≤ 8) (K : kx_Ok Y d kc ks G (cs + kc') (ss + ks') (pc + 3) lv (v.toList ++ st) N' h' res) : kx_Ok Y d kc ks G cs ss pc lv st0 N h res := by
  intro p l e R s m args below meth c D κ A Z H locs ls hC hW hF
  obtain ⟨⟨l1, l2, l3, l4, l5, l6⟩, ⟨host, l7⟩, l8⟩ := hlk
  have hC' := hC
  obtain ⟨hx, hbc, hr, hml, hown, hts, hlocks, hini, ⟨r1, r2, r3, r4⟩, hK, hSt, hA, hX⟩ := hC'
  have cw : va_CN R s args Y.1.cls idx y.1 host y.2.1 y.2.2.1 y.2.2.2 (kx_ws y) (kx_rm d' kc' ks') kc' ks' n := va_cnB n hts (kx_gin l1) rfl rfl rfl (hX.2 _ l7) (hts _ l2) ⟨l3, l4, l5⟩ ⟨Nat.le_trans hd r1, by show 8 + (y.2.2.1 + 11) + 40 * d' ≤ _; omega⟩
  exact kx_after hC hW hF (va_runSN (As := As) (rest := st) ⟨hx, hbc, hml, hown, hts⟩ (hf l D κ) ⟨cw, hts _ l8, trivial⟩ ⟨kx_blind, kx_pre hC hW As⟩ rfl hn hW.2.2.2.2.1 hs (lv_room hst) hdg ⟨Nat.le_trans h1 r3, Nat.le_trans h2 r4⟩) K
theorem ko_callI {y : kx_Y} {d' kc' ks' n idx b : Nat} {As : List Value} {v : Option Value} {N' : Nat} {h' : kx_H} {st0 : List Value} (hlk : kx_lI Y.1.cls idx y n) (hret : y.2.2.2 = none) (hdg : decode Y.2.1 pc = .ok (.invokespecial idx, 3)) (hf : kx_Fn y d' kc' ks' G (.ref b :: As) N h (v, N', h')) (hs : st0 = As.reverse ++ .ref b :: st) (hn : As.length = n) (hd : d' + 1 ≤ d) (h1 : cs + kc' ≤ kc) (h2 : ss + ks' ≤ ks) (hst : (st.map fun v => v.category).sum ≤ 8) (K : kx_Ok Y d kc ks G (cs + kc') (ss + ks') (pc + 3) lv (v.toList ++ st) N' h' res) : kx_Ok Y d kc ks G cs ss pc lv st0 N h res := by
  intro p l e R s m args below meth c D κ A Z H locs ls hC hW hF
  obtain ⟨y1, y2, y3, y4⟩ := y
  cases hret
  obtain ⟨⟨l1, l2, l3, l4, l5, l6⟩, l7, l8, l9⟩ := hlk
  have hC' := hC
  obtain ⟨hx, hbc, hr, hml, hown, hts, hlocks, hini, ⟨r1, r2, r3, r4⟩, hK, hSt, hA, hX⟩ := hC'
  have hl6 : y3 ≤ 21 := l6
  have cw : CallB R s args Y.1.cls idx y1 y2 y3 none (kx_ws (y1, y2, y3, none)) (kx_rm d' kc' ks') kc' ks' n := callB_of n hts (kx_gin l1) rfl rfl rfl (hts _ l2) (hts _ l7) ⟨l3, l4, l5⟩ ⟨Nat.le_trans hd r1, by show 8 + (y3 + 11) + 40 * d' ≤ _; omega⟩
  exact kx_after hC hW hF (va_runI (As := As) (rest := st) ⟨hx, hbc, hml, hown, hts⟩ (hf l D κ) ⟨cw, l9, hts _ l8⟩ ⟨kx_blind, kx_pre hC hW (.ref b :: As)⟩ rfl hn hW.2.2.2.2.1 hs (lv_room hst) hdg ⟨Nat.le_trans h1 r3, Nat.le_trans h2 r4⟩) K
theorem ko_callIN {y : kx_Y} {d' kc' ks' n idx b : Nat} {As : List Value} {v : Option Value} {N' : Nat} {h' : kx_H} {st0 : List Value} (hlk : kx_lIN Y.1.cls idx y n) (hret : y.2.2.2 = none) (hdg : decode Y.2.1 pc = .ok (.invokespecial idx, 3)) (hf : kx_Fn y d' kc' ks' G (.ref b :: As) N h (v, N', h')) (hs : st0 = As.reverse ++ .ref b :: st) (hn : As.length = n) (hd : d' + 1 ≤ d) (h1 : cs + kc' ≤ kc) (h2 : ss + ks' ≤ ks) (hst : (st.map fun v => v.category).sum ≤ 8) (K : kx_Ok Y d kc ks G (cs + kc') (ss + ks') (pc + 3) lv (v.toList ++ st) N' h' res) : kx_Ok Y d kc ks G cs ss pc lv st0 N h res := by
  intro p l e R s m args below meth c D κ A Z H locs ls hC hW hF
  obtain ⟨y1, y2, y3, y4⟩ := y
  cases hret
  obtain ⟨⟨l1, l2, l3, l4, l5, l6⟩, ⟨host, l7⟩, l8, l9⟩ := hlk
  have hC' := hC
  obtain ⟨hx, hbc, hr, hml, hown, hts, hlocks, hini, ⟨r1, r2, r3, r4⟩, hK, hSt, hA, hX⟩ := hC'
  have hl6 : y3 ≤ 21 := l6
  have cw : va_CN R s args Y.1.cls idx y1 host y2 y3 none (kx_ws (y1, y2, y3, none)) (kx_rm d' kc' ks') kc' ks' n := va_cnB n hts (kx_gin l1) rfl rfl rfl (hX.2 _ l7) (hts _ l2) ⟨l3, l4, l5⟩ ⟨Nat.le_trans hd r1, by show 8 + (y3 + 11) + 40 * d' ≤ _; omega⟩
  exact kx_after hC hW hF (va_runIN (As := As) (rest := st) ⟨hx, hbc, hml, hown, hts⟩ (hf l D κ) ⟨cw, l9, hts _ l8⟩ ⟨kx_blind, kx_pre hC hW (.ref b :: As)⟩ rfl hn hW.2.2.2.2.1 hs (lv_room hst) hdg ⟨Nat.le_trans h1 r3, Nat.le_trans h2 r4⟩) K
end KH
end
section
/-! ===== further rows: answers of calls put on the stack, truth values, a loop's step ===== -/
def kb (b : Bool) : Int32 := bif b then 1 else 0
theorem kb_0 {b : Bool} (h : kb b = 0) : b = false := by cases b with
  | false => rfl
  | true => exact absurd h (by decide)
theorem kb_1 {b : Bool} (h : ¬ kb b = 0) : b = true := by cases b with
  | true => rfl
  | false => exact absurd rfl h
theorem kb_z (b : Bool) : narrow .boolean (.int (kb b)) = .int (kb b) := by cases b <;> rfl
theorem kx_self {h : kx_H} {N : Nat} : ∀ a e, h a = some e → kx_dom h N a := fun a e he => Or.inl (by rw [he]; exact fun z => by cases z)
section KM
variable {Y : kx_Y} {d kc ks : Nat} {G : kx_G} {cs ss pc : Nat} {lv : List (Nat × Value)} {st : List Value} {N : Nat} {h : kx_H} {res : kx_R}
theorem ko_ifb_eq {b : Bool} {off : Int} {tgt : Nat} (hdg : decode Y.2.1 pc = .ok (.ifCond .eq off, 3)) (ht : (pc : Int) + off = (tgt : Int)) (kt : b = false → kx_Ok Y d kc ks G cs ss tgt lv st N h res) (kf : b = true → kx_Ok Y d kc ks G cs ss (pc + 3) lv st N h res) : kx_Ok Y d kc ks G cs ss pc lv (.int (kb b) :: st) N h res := ko_if_eq hdg ht (fun z => kt (kb_0 z)) (fun z => kf (kb_1 z))
theorem ko_ifb_ne {b : Bool} {off : Int} {tgt : Nat} (hdg : decode Y.2.1 pc = .ok (.ifCond .ne off, 3)) (ht : (pc : Int) + off = (tgt : Int)) (kt : b = true → kx_Ok Y d kc ks G cs ss tgt lv st N h res) (kf : b = false → kx_Ok Y d kc ks G cs ss (pc + 3) lv st N h res) : kx_Ok Y d kc ks G cs ss pc lv (.int (kb b) :: st) N h res := ko_if_ne hdg ht (fun z => kt (kb_1 z)) (fun z => kf (kb_0 z))
theorem ko_inc1 {i : Nat} {x : Int32} {lv' : List (Nat × Value)} (hdg : decode Y.2.1 pc = .ok (.iinc i 1, 3)) (hx : kx_lk lv i = some (.int x)) (hb : i < Y.2.2.1) (hs : kx_nl lv i = true) (ho : kx_on lv = true) (he : kx_set lv i (.int (x + 1)) = lv') (k : kx_Ok Y d kc ks G cs ss (pc + 3) lv' st N h res) : kx_Ok Y d kc ks G cs ss pc lv st N h res := ko_iinc hdg hx (show x + Int32.ofInt 1 = x + 1 from rfl) hb hs ho he k
theorem ko_callVr {y : kx_Y} {d' kc' ks' n idx b ci : Nat} {q : vw_C} {fs As : List Value} {v : Value} {N' : Nat} {h' : kx_H} {st0 : List Value} (hlk : kx_lV Y.1.cls idx y n) (hdg : decode Y.2.1 pc = .ok (.invokevirtual idx, 3)) (hf : kx_Fn y d' kc' ks' G (.ref b :: As) N h (some v, N', h')) (hs : st0 = As.reverse ++ .ref b :: st) (hn : As.length = n) (hb : h b = some (.inr (ci, fs))) (hci : vwCl[ci]? = some q) (hq : q.1 = y.1.cls) (hd : d' + 1 ≤ d) (h1 : cs + kc' ≤ kc) (h2 : ss + ks' ≤ ks) (hst : (st.map fun v => v.category).sum ≤ 8) (K : kx_Ok Y d kc ks G (cs + kc') (ss + ks') (pc + 3) lv (v :: st) N' h' res) : kx_Ok Y d kc ks G cs ss pc lv st0 N h res := ko_callV hlk hdg hf hs hn hb hci hq hd h1 h2 hst K
theorem ko_callVv {y : kx_Y} {d' kc' ks' n idx b ci : Nat} {q : vw_C} {fs As : List Value} {N' : Nat} {h' : kx_H} {st0 : List Value} (hlk : kx_lV Y.1.cls idx y n) (hdg : decode Y.2.1 pc = .ok (.invokevirtual idx, 3)) (hf : kx_Fn y d' kc' ks' G (.ref b :: As) N h (none, N', h')) (hs : st0 = As.reverse ++ .ref b :: st) (hn : As.length = n) (hb : h b = some (.inr (ci, fs))) (hci : vwCl[ci]? = some q) (hq : q.1 = y.1.cls) (hd : d' + 1 ≤ d) (h1 : cs + kc' ≤ kc) (h2 : ss + ks' ≤ ks) (hst : (st.map fun v => v.category).sum ≤ 8) (K : kx_Ok Y d kc ks G (cs + kc') (ss + ks') (pc + 3) lv st N' h' res) : kx_Ok Y d kc ks G cs ss pc lv st0 N h res := ko_callV hlk hdg hf hs hn hb hci hq hd h1 h2 hst K
theorem ko_callSr {y : kx_Y} {d' kc' ks' n idx : Nat} {As : List Value} {v : Value} {N' : Nat} {h' : kx_H} {st0 : List Value} (hlk : kx_lS Y.1.cls idx y n) (hdg : decode Y.2.1 pc = .ok (.invokestatic idx, 3)) (hf : kx_Fn y d' kc' ks' G As N h (some v, N', h')) (hs : st0 = As.reverse ++ st) (hn : As.length = n) (hd : d' + 1 ≤ d) (h1 : cs + kc' ≤ kc) (h2 : ss + ks' ≤ ks) (hst : (st.map fun v => v.category).sum ≤ 8) (K : kx_Ok Y d kc ks G (cs + kc') (ss + ks') (pc + 3) lv (v :: st) N' h' res) : kx_Ok Y d kc ks G cs ss pc lv st0 N h res := ko_callS hlk hdg hf hs hn hd h1 h2 hst K
theorem ko_callSv {y : kx_Y} {d' kc' ks' n idx : Nat} {As : List Value} {N' : Nat} {h' : kx_H} {st0 : List Value} (hlk : kx_lS Y.1.cls idx y n) (hdg : decode Y.2.1 pc = .ok (.invokestatic idx, 3)) (hf : kx_Fn y d' kc' ks' G As N h (none, N', h')) (hs : st0 = As.reverse ++ st) (hn : As.length = n) (hd : d' + 1 ≤ d) (h1 : cs + kc' ≤ kc) (h2 : ss + ks' ≤ ks) (hst : (st.map fun v => v.category).sum ≤ 8) (K : kx_Ok Y d kc ks G (cs + kc') (ss + ks') (pc + 3) lv st N' h' res) : kx_Ok Y d kc ks G cs ss pc lv st0 N h res := ko_callS hlk hdg hf hs hn hd h1 h2 hst K
theorem ko_callSNr {y : kx_Y} {d' kc' ks' n idx : Nat} {As : List Value} {v : Value} {N' : Nat} {h' : kx_H} {st0 : List Value} (hlk : kx_lSN Y.1.cls idx y n) (hdg : decode Y.2.1 pc = .ok (.invokestatic idx, 3)) (hf : kx_Fn y d' kc' ks' G As N h (some v, N', h')) (hs : st0 = As.reverse ++ st) (hn : As.length = n) (hd : d' + 1 ≤ d) (h1 : cs + kc' ≤ kc) (h2 : ss + ks' ≤ ks) (hst : (st.map fun v => v.category).sum ≤ 8) (K : kx_Ok Y d kc ks G (cs + kc') (ss + ks') (pc + 3) lv (v :: st) N' h' res) : kx_Ok Y d kc ks G cs ss pc lv st0 N h res := ko_callSN hlk hdg hf hs hn hd h1 h2 hst K
theorem ko_callIv {y : kx_Y} {d' kc' ks' n idx b : Nat} {As : List Value} {N' : Nat} {h' : kx_H} {st0 : List Value} (hlk : kx_lI Y.1.cls idx y n) (hret : y.2.2.2 = none) (hdg : decode Y.2.1 pc = .ok (.invokespecial idx, 3)) (hf : kx_Fn y d' kc' ks' G (.ref b :: As) N h (none, N', h')) (hs : st0 = As.reverse ++ .ref b :: st) (hn : As.length = n) (hd : d' + 1 ≤ d) (h1 : cs + kc' ≤ kc) (h2 : ss + ks' ≤ ks) (hst : (st.map fun v => v.category).sum ≤ 8) (K : kx_Ok Y d kc ks G (cs + kc') (ss + ks') (pc + 3) lv st N' h' res) : kx_Ok Y d kc ks G cs ss pc lv st0 N h res := ko_callI hlk hret hdg hf hs hn hd h1 h2 hst K
theorem ko_callINv {y : kx_Y} {d' kc' ks' n idx b : Nat} {As : List Value} {N' : Nat} {h' : kx_H} {st0 : List Value} (hlk : kx_lIN Y.1.cls idx y n) (hret : y.2.2.2 = none) (hdg : decode Y.2.1 pc = .ok (.invokespecial idx, 3)) (hf : kx_Fn y d' kc' ks' G (.ref b :: As) N h (none, N', h')) (hs : st0 = As.reverse ++ .ref b :: st) (hn : As.length = n) (hd : d' + 1 ≤ d) (h1 : cs + kc' ≤ kc) (h2 : ss + ks' ≤ ks) (hst : (st.map fun v => v.category).sum ≤ 8) (K : kx_Ok Y d kc ks G (cs + kc') (ss + ks') (pc + 3) lv st N' h' res) : kx_Ok Y d kc ks G cs ss pc lv st0 N h res := ko_callIN hlk hret hdg hf hs hn hd h1 h2 hst K
end KM
/-! ===== one standing (People): its cells, its value ===== -/
abbrev PU : Type := (Nat → Int32) × (Nat → Int32) × (Nat → Int32) × (Nat → Int32) × (Nat → Int32) × Int32 × Int32 × Int32 × Int32
abbrev pSo (u : PU) : Nat → Int32 := u.1
abbrev pAg (u : PU) : Nat → Int32 := u.2.1
abbrev pKd (u : PU) : Nat → Int32 := u.2.2.1
abbrev pKn (u : PU) : Nat → Int32 := u.2.2.2.1
abbrev pOw (u : PU) : Nat → Int32 := u.2.2.2.2.1
abbrev pN (u : PU) : Int32 := u.2.2.2.2.2.1
abbrev pOp (u : PU) : Int32 := u.2.2.2.2.2.2.1
abbrev pOn (u : PU) : Int32 := u.2.2.2.2.2.2.2.1
abbrev pWk (u : PU) : Int32 := u.2.2.2.2.2.2.2.2
abbrev kp_o (a : Nat) (u : PU) : va_E := .inr (2, [.ref (a + 1), .ref (a + 2), .ref (a + 3), .ref (a + 4), .ref (a + 5), .int (pN u), .int (pOp u), .int (pOn u), .int (pWk u)])
abbrev kp_a (L : Nat) (f : Nat → Int32) : va_E := .inl (0, L, .inl f)
def kP (h : kx_H) (a : Nat) (u : PU) : Prop := h a = some (kp_o a u) ∧ h (a + 1) = some (kp_a 5 (pSo u)) ∧ h (a + 2) = some (kp_a 5 (pAg u)) ∧ h (a + 3) = some (kp_a 5 (pKd u)) ∧ h (a + 4) = some (kp_a 5 (pKn u)) ∧ h (a + 5) = some (kp_a 25 (pOw u))
def kp_put (h : kx_H) (a : Nat) (u : PU) : kx_H := fun q => if q = a then some (kp_o a u) else if q = a + 1 then some (kp_a 5 (pSo u)) else if q = a + 2 then some (kp_a 5 (pAg u)) else if q = a + 3 then some (kp_a 5 (pKd u)) else if q = a + 4 then some (kp_a 5 (pKn u)) else if q = a + 5 then some (kp_a 25 (pOw u)) else h q
theorem kp_put_P (h : kx_H) (a : Nat) (u : PU) : kP (kp_put h a u) a u := by
  unfold kP kp_put
  refine ⟨?_, ?_, ?_, ?_, ?_, ?_⟩
  · rw [if_pos rfl]
  · rw [if_neg (by omega), if_pos rfl]
  · rw [if_neg (by omega), if_neg (by omega), if_pos rfl]
  · rw [if_neg (by omega), if_neg (by omega), if_neg (by omega), if_pos rfl]
  · rw [if_neg (by omega), if_neg (by omega), if_neg (by omega), if_neg (by omega), if_pos rfl]
  · rw [if_neg (by omega), if_neg (by omega), if_neg (by omega), if_neg (by omega), if_neg (by omega), if_pos rfl]
theorem kp_put_out {h : kx_H} {a q : Nat} {u : PU} (hq : q < a ∨ a + 5 < q) : kp_put h a u q = h q := by
  unfold kp_put
  rw [if_neg (by omega), if_neg (by omega), if_neg (by omega), if_neg (by omega), if_neg (by omega), if_neg (by omega)]
theorem kp_ext {h g : kx_H} {a : Nat} {u : PU} (h1 : kP g a u) (h2 : ∀ q, (q < a ∨ a + 5 < q) → g q = h q) : g = kp_put h a u := by
  funext q
  obtain ⟨e0, e1, e2, e3, e4, e5⟩ := h1
  unfold kp_put
  by_cases q0 : q = a
  · rw [if_pos q0, q0]; exact e0
  by_cases q1 : q = a + 1
  · rw [if_neg q0, if_pos q1, q1]; exact e1
  by_cases q2 : q = a + 2
  · rw [if_neg q0, if_neg q1, if_pos q2, q2]; exact e2
  by_cases q3 : q = a + 3
  · rw [if_neg q0, if_neg q1, if_neg q2, if_pos q3, q3]; exact e3
  by_cases q4 : q = a + 4
  · rw [if_neg q0, if_neg q1, if_neg q2, if_neg q3, if_pos q4, q4]; exact e4
  by_cases q5 : q = a + 5
  · rw [if_neg q0, if_neg q1, if_neg q2, if_neg q3, if_neg q4, if_pos q5, q5]; exact e5
  rw [if_neg q0, if_neg q1, if_neg q2, if_neg q3, if_neg q4, if_neg q5]
  exact h2 q (by omega)
theorem kp_put_put (h : kx_H) (a : Nat) (u v : PU) : kp_put (kp_put h a u) a v = kp_put h a v := kp_ext (kp_put_P _ _ _) (fun q hq => by rw [kp_put_out hq, kp_put_out hq])
theorem kp_put_same {h : kx_H} {a : Nat} {u : PU} (hP : kP h a u) : kp_put h a u = h := (kp_ext hP (fun _ _ => rfl)).symm
theorem kp_dom {h : kx_H} {a N : Nat} {u v : PU} (hP : kP h a u) : ∀ q e, kp_put h a v q = some e → kx_dom h N q := by
  intro q e he
  obtain ⟨e0, e1, e2, e3, e4, e5⟩ := hP
  by_cases hq : q < a ∨ a + 5 < q
  · rw [kp_put_out hq] at he
    exact kx_self q e he
  · have : q = a ∨ q = a + 1 ∨ q = a + 2 ∨ q = a + 3 ∨ q = a + 4 ∨ q = a + 5 := by omega
    rcases this with rfl | rfl | rfl | rfl | rfl | rfl
    · exact kx_self _ _ e0
    · exact kx_self _ _ e1
    · exact kx_self _ _ e2
    · exact kx_self _ _ e3
    · exact kx_self _ _ e4
    · exact kx_self _ _ e5
theorem kp_up {h : kx_H} {a b : Nat} {u v : PU} {e : va_E} (hP : kP h a u) (hb : a ≤ b ∧ b ≤ a + 5) (hn : kP (kx_up h b e) a v) : kx_up h b e = kp_put h a v := kp_ext hn (fun q hq => by
  unfold kx_up
  rw [if_neg (by omega)])
theorem kp_up_o {h : kx_H} {a : Nat} {u v : PU} (hP : kP h a u) (hv : (pSo v, pAg v, pKd v, pKn v, pOw v) = (pSo u, pAg u, pKd u, pKn u, pOw u)) : kx_up h a (kp_o a v) = kp_put h a v := by
  obtain ⟨e0, e1, e2, e3, e4, e5⟩ := hP
  obtain ⟨v1, v2, v3, v4, v5, v6⟩ := v
  cases hv
  exact kp_up ⟨e0, e1, e2, e3, e4, e5⟩ ⟨Nat.le_refl _, by omega⟩ ⟨by unfold kx_up; rw [if_pos rfl], by unfold kx_up; rw [if_neg (by omega)]; exact e1, by unfold kx_up; rw [if_neg (by omega)]; exact e2, by unfold kx_up; rw [if_neg (by omega)]; exact e3, by unfold kx_up; rw [if_neg (by omega)]; exact e4, by unfold kx_up; rw [if_neg (by omega)]; exact e5⟩
theorem kp_up_1 {h : kx_H} {a : Nat} {u : PU} (hP : kP h a u) (f : Nat → Int32) : kx_up h (a + 1) (kp_a 5 f) = kp_put h a (f, u.2) := by
  obtain ⟨e0, e1, e2, e3, e4, e5⟩ := hP
  exact kp_up ⟨e0, e1, e2, e3, e4, e5⟩ (by omega) ⟨by unfold kx_up; rw [if_neg (by omega)]; exact e0, by unfold kx_up; rw [if_pos rfl], by unfold kx_up; rw [if_neg (by omega)]; exact e2, by unfold kx_up; rw [if_neg (by omega)]; exact e3, by unfold kx_up; rw [if_neg (by omega)]; exact e4, by unfold kx_up; rw [if_neg (by omega)]; exact e5⟩
theorem kp_up_2 {h : kx_H} {a : Nat} {u : PU} (hP : kP h a u) (f : Nat → Int32) : kx_up h (a + 2) (kp_a 5 f) = kp_put h a (u.1, f, u.2.2) := by
  obtain ⟨e0, e1, e2, e3, e4, e5⟩ := hP
  exact kp_up ⟨e0, e1, e2, e3, e4, e5⟩ (by omega) ⟨by unfold kx_up; rw [if_neg (by omega)]; exact e0, by unfold kx_up; rw [if_neg (by omega)]; exact e1, by unfold kx_up; rw [if_pos rfl], by unfold kx_up; rw [if_neg (by omega)]; exact e3, by unfold kx_up; rw [if_neg (by omega)]; exact e4, by unfold kx_up; rw [if_neg (by omega)]; exact e5⟩
theorem kp_up_3 {h : kx_H} {a : Nat} {u : PU} (hP : kP h a u) (f : Nat → Int32) : kx_up h (a + 3) (kp_a 5 f) = kp_put h a (u.1, u.2.1, f, u.2.2.2) := by
  obtain ⟨e0, e1, e2, e3, e4, e5⟩ := hP
  exact kp_up ⟨e0, e1, e2, e3, e4, e5⟩ (by omega) ⟨by unfold kx_up; rw [if_neg (by omega)]; exact e0, by unfold kx_up; rw [if_neg (by omega)]; exact e1, by unfold kx_up; rw [if_neg (by omega)]; exact e2, by unfold kx_up; rw [if_pos rfl], by unfold kx_up; rw [if_neg (by omega)]; exact e4, by unfold kx_up; rw [if_neg (by omega)]; exact e5⟩
theorem kp_up_4 {h : kx_H} {a : Nat} {u : PU} (hP : kP h a u) (f : Nat → Int32) : kx_up h (a + 4) (kp_a 5 f) = kp_put h a (u.1, u.2.1, u.2.2.1, f, u.2.2.2.2) := by
  obtain ⟨e0, e1, e2, e3, e4, e5⟩ := hP
  exact kp_up ⟨e0, e1, e2, e3, e4, e5⟩ (by omega) ⟨by unfold kx_up; rw [if_neg (by omega)]; exact e0, by unfold kx_up; rw [if_neg (by omega)]; exact e1, by unfold kx_up; rw [if_neg (by omega)]; exact e2, by unfold kx_up; rw [if_neg (by omega)]; exact e3, by unfold kx_up; rw [if_pos rfl], by unfold kx_up; rw [if_neg (by omega)]; exact e5⟩
theorem kp_up_5 {h : kx_H} {a : Nat} {u : PU} (hP : kP h a u) (f : Nat → Int32) : kx_up h (a + 5) (kp_a 25 f) = kp_put h a (u.1, u.2.1, u.2.2.1, u.2.2.2.1, f, u.2.2.2.2.2) := by
  obtain ⟨e0, e1, e2, e3, e4, e5⟩ := hP
  exact kp_up ⟨e0, e1, e2, e3, e4, e5⟩ (by omega) ⟨by unfold kx_up; rw [if_neg (by omega)]; exact e0, by unfold kx_up; rw [if_neg (by omega)]; exact e1, by unfold kx_up; rw [if_neg (by omega)]; exact e2, by unfold kx_up; rw [if_neg (by omega)]; exact e3, by unfold kx_up; rw [if_neg (by omega)]; exact e4, by unfold kx_up; rw [if_pos rfl]⟩
end
section
abbrev cJ_bitCount : ByteArray := prog_8_method_49_code
def yJ_bitCount : MethodName := ⟨"java/lang/Integer", "bitCount", "(I)I"⟩
abbrev mJ_bitCount : kx_Y := (yJ_bitCount, cJ_bitCount, 1, some .int)
theorem dJ_bitCount_0 : decode cJ_bitCount 0 = .ok (.iload_n 0, 1) := by decide +kernel
theorem dJ_bitCount_1 : decode cJ_bitCount 1 = .ok (.iload_n 0, 1) := by decide +kernel
theorem dJ_bitCount_2 : decode cJ_bitCount 2 = .ok (.iconst 1, 1) := by decide +kernel
theorem dJ_bitCount_3 : decode cJ_bitCount 3 = .ok (.iushr, 1) := by decide +kernel
theorem dJ_bitCount_4 : decode cJ_bitCount 4 = .ok (.ldc_w 265, 3) := by decide +kernel
theorem dJ_bitCount_7 : decode cJ_bitCount 7 = .ok (.iand, 1) := by decide +kernel
theorem dJ_bitCount_8 : decode cJ_bitCount 8 = .ok (.isub, 1) := by decide +kernel
theorem dJ_bitCount_9 : decode cJ_bitCount 9 = .ok (.istore_n 0, 1) := by decide +kernel
theorem dJ_bitCount_10 : decode cJ_bitCount 10 = .ok (.iload_n 0, 1) := by decide +kernel
theorem dJ_bitCount_11 : decode cJ_bitCount 11 = .ok (.ldc_w 266, 3) := by decide +kernel
theorem dJ_bitCount_14 : decode cJ_bitCount 14 = .ok (.iand, 1) := by decide +kernel
theorem dJ_bitCount_15 : decode cJ_bitCount 15 = .ok (.iload_n 0, 1) := by decide +kernel
theorem dJ_bitCount_16 : decode cJ_bitCount 16 = .ok (.iconst 2, 1) := by decide +kernel
theorem dJ_bitCount_17 : decode cJ_bitCount 17 = .ok (.iushr, 1) := by decide +kernel
theorem dJ_bitCount_18 : decode cJ_bitCount 18 = .ok (.ldc_w 266, 3) := by decide +kernel
theorem dJ_bitCount_21 : decode cJ_bitCount 21 = .ok (.iand, 1) := by decide +kernel
theorem dJ_bitCount_22 : decode cJ_bitCount 22 = .ok (.iadd, 1) := by decide +kernel
theorem dJ_bitCount_23 : decode cJ_bitCount 23 = .ok (.istore_n 0, 1) := by decide +kernel
theorem dJ_bitCount_24 : decode cJ_bitCount 24 = .ok (.iload_n 0, 1) := by decide +kernel
theorem dJ_bitCount_25 : decode cJ_bitCount 25 = .ok (.iload_n 0, 1) := by decide +kernel
theorem dJ_bitCount_26 : decode cJ_bitCount 26 = .ok (.iconst 4, 1) := by decide +kernel
theorem dJ_bitCount_27 : decode cJ_bitCount 27 = .ok (.iushr, 1) := by decide +kernel
theorem dJ_bitCount_28 : decode cJ_bitCount 28 = .ok (.iadd, 1) := by decide +kernel
theorem dJ_bitCount_29 : decode cJ_bitCount 29 = .ok (.ldc_w 267, 3) := by decide +kernel
theorem dJ_bitCount_32 : decode cJ_bitCount 32 = .ok (.iand, 1) := by decide +kernel
theorem dJ_bitCount_33 : decode cJ_bitCount 33 = .ok (.istore_n 0, 1) := by decide +kernel
theorem dJ_bitCount_34 : decode cJ_bitCount 34 = .ok (.iload_n 0, 1) := by decide +kernel
theorem dJ_bitCount_35 : decode cJ_bitCount 35 = .ok (.iload_n 0, 1) := by decide +kernel
theorem dJ_bitCount_36 : decode cJ_bitCount 36 = .ok (.bipush 8, 2) := by decide +kernel
theorem dJ_bitCount_38 : decode cJ_bitCount 38 = .ok (.iushr, 1) := by decide +kernel
theorem dJ_bitCount_39 : decode cJ_bitCount 39 = .ok (.iadd, 1) := by decide +kernel
theorem dJ_bitCount_40 : decode cJ_bitCount 40 = .ok (.istore_n 0, 1) := by decide +kernel
theorem dJ_bitCount_41 : decode cJ_bitCount 41 = .ok (.iload_n 0, 1) := by decide +kernel
theorem dJ_bitCount_42 : decode cJ_bitCount 42 = .ok (.iload_n 0, 1) := by decide +kernel
theorem dJ_bitCount_43 : decode cJ_bitCount 43 = .ok (.bipush 16, 2) := by decide +kernel
theorem dJ_bitCount_45 : decode cJ_bitCount 45 = .ok (.iushr, 1) := by decide +kernel
theorem dJ_bitCount_46 : decode cJ_bitCount 46 = .ok (.iadd, 1) := by decide +kernel
theorem dJ_bitCount_47 : decode cJ_bitCount 47 = .ok (.istore_n 0, 1) := by decide +kernel
theorem dJ_bitCount_48 : decode cJ_bitCount 48 = .ok (.iload_n 0, 1) := by decide +kernel
theorem dJ_bitCount_49 : decode cJ_bitCount 49 = .ok (.bipush 63, 2) := by decide +kernel
theorem dJ_bitCount_51 : decode cJ_bitCount 51 = .ok (.iand, 1) := by decide +kernel
theorem dJ_bitCount_52 : decode cJ_bitCount 52 = .ok (.ireturn, 1) := by decide +kernel
theorem wc_J_bitCount : Cond.code mJ_bitCount.1 mJ_bitCount.2.1 mJ_bitCount.2.2.1 mJ_bitCount.2.2.2 ∈ kx_tbl := kx_in (List.mem_of_getElem? (i := 328) (by decide +kernel)) (by decide +kernel)
theorem wt_J_bitCount : Cond.static yJ_bitCount ∈ kx_tbl := kx_in (List.mem_of_getElem? (i := 327) (by decide +kernel)) (by decide +kernel)
theorem wi_J_bitCount : Cond.initialized yJ_bitCount.cls ∈ kx_tbl := kx_in (List.mem_of_getElem? (i := 41) (by decide +kernel)) (by decide +kernel)
theorem lk_X4_127 : kx_lS RX4 127 mJ_bitCount 1 := ⟨⟨wc_J_bitCount, wi_J_bitCount, by decide +kernel, by decide +kernel, by decide +kernel, by decide⟩, kx_in (List.mem_of_getElem? (i := 326) (by decide +kernel)) (by decide +kernel), wt_J_bitCount⟩
theorem fk_265 : Cond.constant "java/lang/Integer" 265 1431655765 ∈ kx_tbl := kx_in (List.mem_of_getElem? (i := 329) (by decide +kernel)) (by decide +kernel)
theorem fk_266 : Cond.constant "java/lang/Integer" 266 858993459 ∈ kx_tbl := kx_in (List.mem_of_getElem? (i := 330) (by decide +kernel)) (by decide +kernel)
theorem fk_267 : Cond.constant "java/lang/Integer" 267 252645135 ∈ kx_tbl := kx_in (List.mem_of_getElem? (i := 331) (by decide +kernel)) (by decide +kernel)
def bcI (x : Int32) : Int32 :=
  let i1 := x - ((x.toUInt32 >>> ((1 : Int32).toUInt32 &&& Int32.toUInt32 31)).toInt32 &&& 1431655765)
  let i2 := (i1 &&& 858993459) + ((i1.toUInt32 >>> ((2 : Int32).toUInt32 &&& Int32.toUInt32 31)).toInt32 &&& 858993459)
  let i3 := (i2 + (i2.toUInt32 >>> ((4 : Int32).toUInt32 &&& Int32.toUInt32 31)).toInt32) &&& 252645135
  let i4 := i3 + (i3.toUInt32 >>> ((8 : Int32).toUInt32 &&& Int32.toUInt32 31)).toInt32
  let i5 := i4 + (i4.toUInt32 >>> ((16 : Int32).toUInt32 &&& Int32.toUInt32 31)).toInt32
  i5 &&& 63
set_option maxRecDepth 20000 in
theorem fn_bitCount {G : kx_G} {d N : Nat} {h : kx_H} {x : Int32} : kx_Fn mJ_bitCount d 0 0 G [.int x] N h (some (.int (bcI x)), N, h) := by
  refine kx_Fn_of rfl (Nat.le_of_ble_eq_true rfl) rfl ?_ kx_self
  refine ko_iload_n (i := 0) dJ_bitCount_0 rfl rfl ?_
  refine ko_iload_n (i := 0) dJ_bitCount_1 rfl rfl ?_
  refine ko_iconst (v := 1) dJ_bitCount_2 (by decide) ?_
  refine ko_iushr dJ_bitCount_3 ?_
  refine ko_ldcw fk_265 dJ_bitCount_4 ?_
  refine ko_iand dJ_bitCount_7 ?_
  refine ko_isub dJ_bitCount_8 ?_
  refine ko_istore_n (i := 0) (lv' := [(0, _)]) dJ_bitCount_9 rfl (by decide) rfl rfl rfl ?_
  refine ko_iload_n (i := 0) dJ_bitCount_10 rfl rfl ?_
  refine ko_ldcw fk_266 dJ_bitCount_11 ?_
  refine ko_iand dJ_bitCount_14 ?_
  refine ko_iload_n (i := 0) dJ_bitCount_15 rfl rfl ?_
  refine ko_iconst (v := 2) dJ_bitCount_16 (by decide) ?_
  refine ko_iushr dJ_bitCount_17 ?_
  refine ko_ldcw fk_266 dJ_bitCount_18 ?_
  refine ko_iand dJ_bitCount_21 ?_
  refine ko_iadd dJ_bitCount_22 ?_
  refine ko_istore_n (i := 0) (lv' := [(0, _)]) dJ_bitCount_23 rfl (by decide) rfl rfl rfl ?_
  refine ko_iload_n (i := 0) dJ_bitCount_24 rfl rfl ?_
  refine ko_iload_n (i := 0) dJ_bitCount_25 rfl rfl ?_
  refine ko_iconst (v := 4) dJ_bitCount_26 (by decide) ?_
  refine ko_iushr dJ_bitCount_27 ?_
  refine ko_iadd dJ_bitCount_28 ?_
  refine ko_ldcw fk_267 dJ_bitCount_29 ?_
  refine ko_iand dJ_bitCount_32 ?_
  refine ko_istore_n (i := 0) (lv' := [(0, _)]) dJ_bitCount_33 rfl (by decide) rfl rfl rfl ?_
  refine ko_iload_n (i := 0) dJ_bitCount_34 rfl rfl ?_
  refine ko_iload_n (i := 0) dJ_bitCount_35 rfl rfl ?_
  refine ko_bipush (v := 8) dJ_bitCount_36 (by decide) ?_
  refine ko_iushr dJ_bitCount_38 ?_
  refine ko_iadd dJ_bitCount_39 ?_
  refine ko_istore_n (i := 0) (lv' := [(0, _)]) dJ_bitCount_40 rfl (by decide) rfl rfl rfl ?_
  refine ko_iload_n (i := 0) dJ_bitCount_41 rfl rfl ?_
  refine ko_iload_n (i := 0) dJ_bitCount_42 rfl rfl ?_
  refine ko_bipush (v := 16) dJ_bitCount_43 (by decide) ?_
  refine ko_iushr dJ_bitCount_45 ?_
  refine ko_iadd dJ_bitCount_46 ?_
  refine ko_istore_n (i := 0) (lv' := [(0, _)]) dJ_bitCount_47 rfl (by decide) rfl rfl rfl ?_
  refine ko_iload_n (i := 0) dJ_bitCount_48 rfl rfl ?_
  refine ko_bipush (v := 63) dJ_bitCount_49 (by decide) ?_
  refine ko_iand dJ_bitCount_51 ?_
  refine ko_iret dJ_bitCount_52 rfl (Nat.le_of_ble_eq_true rfl) (Nat.le_of_ble_eq_true rfl) ?_
  rfl
theorem wt_min : Cond.static Lib.Math.min.name ∈ kx_tbl := kx_in (List.mem_of_getElem? (i := 368) (by decide +kernel)) (by decide +kernel)
theorem wk_min : Cond.code Lib.Math.min.name Lib.Math.min.code 2 (some .int) ∈ kx_tbl := kx_in (List.mem_of_getElem? (i := 369) (by decide +kernel)) (by decide +kernel)
theorem lm_X2_94 : Cond.methodLink RX2 94 Lib.Math.min.name ∈ kx_tbl := kx_in (List.mem_of_getElem? (i := 367) (by decide +kernel)) (by decide +kernel)
theorem wt_max : Cond.static Lib.Math.max.name ∈ kx_tbl := kx_in (List.mem_of_getElem? (i := 371) (by decide +kernel)) (by decide +kernel)
theorem wk_max : Cond.code Lib.Math.max.name Lib.Math.max.code 2 (some .int) ∈ kx_tbl := kx_in (List.mem_of_getElem? (i := 372) (by decide +kernel)) (by decide +kernel)
theorem lm_X2_99 : Cond.methodLink RX2 99 Lib.Math.max.name ∈ kx_tbl := kx_in (List.mem_of_getElem? (i := 370) (by decide +kernel)) (by decide +kernel)
theorem wi_math : Cond.initialized "java/lang/Math" ∈ kx_tbl := kx_in (List.mem_of_getElem? (i := 42) (by decide +kernel)) (by decide +kernel)
section KC
variable {Y : kx_Y} {d kc ks : Nat} {G : kx_G} {cs ss pc : Nat} {lv : List (Nat × Value)} {st : List Value} {N : Nat} {h : kx_H} {res : kx_R}
theorem kx_arr_ext {cA : ClassId} {L : Nat} {f g : Nat → Int32} (e : ∀ j, j < L → f j = g j) : vp_cell cA (L, .inl f) = vp_cell cA (L, .inl g) := by
  rw [vp_cell_i, vp_cell_i]
  unfold arrV
  congr 2
  funext j
  show Value.int (f j.val) = Value.int (g j.val)
  rw [e j.val j.isLt]
/-- an array told by another function, alike within its length -/
theorem ko_arr {a k L : Nat} {f : Nat → Int32} (g : Nat → Int32) (he : h a = some (.inl (k, L, .inl f))) (hfg : ∀ j, j < L → f j = g j) (K : kx_Ok Y d kc ks G cs ss pc lv st N (kx_up h a (.inl (k, L, .inl g))) res) : kx_Ok Y d kc ks G cs ss pc lv st N h res := by
  intro p l e R s m args below meth c D κ A Z H locs ls hC hW hF
  obtain ⟨w1, w2, w3, w4, w5⟩ := hW
  refine K p l e R s m args below meth c D κ A Z H locs ls hC ⟨w1, w2.put ?_ (fun _ _ => rfl), fun b e' hb => ?_, w4, w5⟩ hF
  · show H[a]? = some (vp_cell _ _)
    have h0 : H[a]? = some (vp_cell (κ k) (L, .inl f)) := w2 a _ he
    rw [h0]
    exact congrArg some (kx_arr_ext hfg)
  · by_cases hba : b = a
    · subst hba; exact w3 b _ he
    · simp only [kx_up, if_neg hba] at hb; exact w3 b e' hb
/-- the same heap, told otherwise -/
theorem ko_h {h' : kx_H} (e : h = h') (K : kx_Ok Y d kc ks G cs ss pc lv st N h' res) : kx_Ok Y d kc ks G cs ss pc lv st N h res := e ▸ K
theorem ko_lv {lv' : List (Nat × Value)} (e : lv = lv') (K : kx_Ok Y d kc ks G cs ss pc lv' st N h res) : kx_Ok Y d kc ks G cs ss pc lv st N h res := e ▸ K
theorem ko_st {st' : List Value} (e : st = st') (K : kx_Ok Y d kc ks G cs ss pc lv st' N h res) : kx_Ok Y d kc ks G cs ss pc lv st N h res := e ▸ K
/-- a whole array copied onto another of its length -/
theorem ko_copy {a0 a1 L index : Nat} {f g : Nat → Int32} {n : Int32} (hl : Cond.methodLink Y.1.cls index arraycopyName ∈ kx_tbl) (hdg : decode Y.2.1 pc = .ok (.invokestatic index, 3)) (h0 : h a0 = some (.inl (0, L, .inl f))) (h1 : h a1 = some (.inl (0, L, .inl g))) (hn : ¬ n < 0) (hL : n.toNatClampNeg = L) (hd : 1 ≤ d) (hst : (st.map fun v => v.category).sum ≤ 8) (K : kx_Ok Y d kc ks G cs ss (pc + 3) lv st N (kx_up h a1 (.inl (0, L, .inl f))) res) : kx_Ok Y d kc ks G cs ss pc lv (.int n :: .int 0 :: .ref a1 :: .int 0 :: .ref a0 :: st) N h res := by
  intro p l e R s m args below meth c D κ A Z H locs ls hC hW hF
  have hC' := hC
  obtain ⟨hx, hb, hr, hml, hown, hts, hlocks, hini, ⟨r1, r2, r3, r4⟩, hK, hSt, hA, hX⟩ := hC'
  have nn : ∀ z : Int32, ¬ z < 0 → z.toInt = (z.toNatClampNeg : Int) := by
    intro z hz
    have hz0 : (0 : Int) ≤ z.toInt := by
      have := Int32.not_lt.mp hz
      simpa using Int32.le_iff_toInt_le.mp this
    show z.toInt = ((z.toInt.toNat : Nat) : Int)
    omega
  intro T hT X
  have hc0 : H[a0]? = some (vp_cell (κ 0) (L, .inl f)) := hW.2.1 a0 _ h0
  have hc1 : H[a1]? = some (vp_cell (κ 0) (L, .inl g)) := hW.2.1 a1 _ h1
  obtain ⟨-, k0, hk0, cm0, hkk0⟩ := (hK.2 0 _ rfl).1 L (fun j => .int (f j))
  obtain ⟨-, k1, hk1, cm1, hkk1⟩ := (hK.2 0 _ rfl).1 L (fun j => .int (g j))
  have z0 : (0 : Int32).toNatClampNeg = 0 := rfl
  have h4 : (0 : Int32).toNatClampNeg + n.toNatClampNeg ≤ L := by rw [z0]; omega
  obtain ⟨vm', X', step⟩ := X.arraycopy hx hown (hts _ hl) (hts _ wx_nat) (hts _ wx_sta) (hts _ wi_sys) (src := a0) (dst := a1) (cs := vp_cell (κ 0) (L, .inl f)) (cd := vp_cell (κ 0) (L, .inl g)) (srcPos := 0) (destPos := 0) (n := n) (by rw [hT]; exact hc0) (by rw [hT]; exact hc1)
    (fun _ h => by cases h) (fun _ h => by cases h) (fun h => by cases h) (fun h => by cases h) hk0 hk1 hkk0 hkk1 rfl (by decide) (by decide) hn
    (by rw [nn 0 (by decide), nn n hn]; show ¬ _ > ((arrV (κ 0) L (fun j => .int (f j))).slots.size : Int); rw [arrV_size]; omega)
    (by rw [nn 0 (by decide), nn n hn]; show ¬ _ > ((arrV (κ 0) L (fun j => .int (g j))).slots.size : Int); rw [arrV_size]; omega)
    (fun vm₁ _ i hi => by
      have e : (vp_cell (κ 0) (L, .inl f)).slots.getD ((0 : Int32).toNatClampNeg + i) .null = .int (f ((0 : Int32).toNatClampNeg + i)) := by
        show (arrV (κ 0) L (fun j => .int (f j))).slots.getD _ _ = _
        rw [Array.getD_eq_getD_getElem?, arrV_read _ _ (by omega)]
        rfl
      refine ⟨?_, ?_⟩
      · rw [e]
        rfl
      · rw [e]
        exact trivial)
    (g := F0 m pc ls (.int n :: .int 0 :: .ref a1 :: .int 0 :: .ref a0 :: st)) rfl (by rw [hml]; exact hW.2.2.2.2.1) (rest := st) rfl (by rw [hb]; exact hdg) (Nat.le_trans hd r1) (by
      have hw : nativeFrameWords "java/lang/System" "arraycopy" 5 ≤ 21 := by decide +kernel
      show 2 * 0 + _ + _ ≤ _
      omega)
  have e1 : copied (vp_cell (κ 0) (L, .inl f)) (vp_cell (κ 0) (L, .inl g)) 0 0 n = vp_cell (κ 0) (L, .inl f) := by
    refine (va_copied (fun z => .int z) (κ 0) (κ 0) f g h4).trans ?_
    show vp_cell (κ 0) (L, .inl (va_cpy f g _ _ _)) = _
    refine kx_arr_ext (fun j hj => ?_)
    unfold va_cpy
    rw [z0, if_pos ⟨Nat.zero_le _, by omega⟩]
    congr 1
    omega
  rw [e1] at X' step
  have hl1 : a1 < H.size := (Array.getElem?_eq_some_iff.mp hc1).1
  have hheap : ((T.setVm vm').setCell a1 (vp_cell (κ 0) (L, .inl f))).heap = H.setIfInBounds a1 (vp_cell (κ 0) (L, .inl f)) := by rw [← hT]; rfl
  have oq : ∀ q : Nat, q ≠ a1 → (H.setIfInBounds a1 (vp_cell (κ 0) (L, .inl f)))[q]? = H[q]? := fun q hq => by simp [Array.getElem?_setIfInBounds, Ne.symm hq]
  obtain ⟨w1, w2, w3, w4, w5⟩ := hW
  obtain ⟨t, g1, g2⟩ := K p l e R s m args below meth c D κ A Z _ _ ls hC ⟨by simp; exact w1, w2.put (e := .inl (0, L, .inl f)) (show (H.setIfInBounds a1 _)[a1]? = some _ by simp [Array.getElem?_setIfInBounds, hl1]) oq, fun b e' hb => by
      by_cases hba : b = a1
      · subst hba; exact w3 b _ h1
      · simp only [kx_up, if_neg hba] at hb; exact w3 b e' hb, ⟨by simp; exact w4.1, fun q g1 g2 => by
      rw [oq q (fun e => g2 (by rw [e]; exact w3 a1 _ h1))]
      exact w4.2.1 q g1 g2, fun q hq => by
      rcases List.mem_append.mp hq with h | h
      · exact w4.2.2 q h
      · obtain ⟨z, -, hz⟩ := List.mem_map.mp h
        rw [← hz]
        exact w3 a1 _ h1⟩, w5⟩ hF _ hheap X'
  exact ⟨t, step t g1, g2⟩
theorem ko_mmin {index : Nat} {x y : Int32} (hl : Cond.methodLink Y.1.cls index Lib.Math.min.name ∈ kx_tbl) (hdg : decode Y.2.1 pc = .ok (.invokestatic index, 3)) (hd : 1 ≤ d) (h1 : cs ≤ kc) (h2 : ss ≤ ks) (hst : (st.map fun v => v.category).sum ≤ 8) (K : kx_Ok Y d kc ks G cs ss (pc + 3) lv (.int (if y < x then y else x) :: st) N h res) : kx_Ok Y d kc ks G cs ss pc lv (.int y :: .int x :: st) N h res := by
  intro p l e R s m args below meth c D κ A Z H locs ls hC hW hF
  have hC' := hC
  obtain ⟨hx, hb, hr, hml, hown, hts, hlocks, hini, ⟨r1, r2, r3, r4⟩, hK, hSt, hA, hX⟩ := hC'
  exact va_mmin hx hb (by rw [hml]; exact hW.2.2.2.2.1.symm) hown (hts _ hl) (hts _ wt_min) (hts _ wi_math) (hts _ wk_min) (Nat.le_trans hd r1) (by omega) (Nat.le_trans h1 r3) (Nat.le_trans h2 r4) hdg (K p l e R s m args below meth c D κ A Z H locs ls hC hW hF)
theorem ko_mmax {index : Nat} {x y : Int32} (hl : Cond.methodLink Y.1.cls index Lib.Math.max.name ∈ kx_tbl) (hdg : decode Y.2.1 pc = .ok (.invokestatic index, 3)) (hd : 1 ≤ d) (h1 : cs ≤ kc) (h2 : ss ≤ ks) (hst : (st.map fun v => v.category).sum ≤ 8) (K : kx_Ok Y d kc ks G cs ss (pc + 3) lv (.int (if x < y then y else x) :: st) N h res) : kx_Ok Y d kc ks G cs ss pc lv (.int y :: .int x :: st) N h res := by
  intro p l e R s m args below meth c D κ A Z H locs ls hC hW hF
  have hC' := hC
  obtain ⟨hx, hb, hr, hml, hown, hts, hlocks, hini, ⟨r1, r2, r3, r4⟩, hK, hSt, hA, hX⟩ := hC'
  exact va_mmax hx hb (by rw [hml]; exact hW.2.2.2.2.1.symm) hown (hts _ hl) (hts _ wt_max) (hts _ wi_math) (hts _ wk_max) (Nat.le_trans hd r1) (by omega) (Nat.le_trans h1 r3) (Nat.le_trans h2 r4) hdg (K p l e R s m args below meth c D κ A Z H locs ls hC hW hF)
end KC
end
section
/-! ===== writes into one standing, told as a new value of it ===== -/
section KQ
variable {h : kx_H} {a : Nat} {u : PU}
theorem kq_1 {f : Nat → Int32} : kx_up (kp_put h a u) (a + 1) (.inl (0, 5, .inl f)) = kp_put h a (f, u.2) := (kp_up_1 (kp_put_P h a u) f).trans (kp_put_put _ _ _ _)
theorem kq_2 {f : Nat → Int32} : kx_up (kp_put h a u) (a + 2) (.inl (0, 5, .inl f)) = kp_put h a (u.1, f, u.2.2) := (kp_up_2 (kp_put_P h a u) f).trans (kp_put_put _ _ _ _)
theorem kq_3 {f : Nat → Int32} : kx_up (kp_put h a u) (a + 3) (.inl (0, 5, .inl f)) = kp_put h a (u.1, u.2.1, f, u.2.2.2) := (kp_up_3 (kp_put_P h a u) f).trans (kp_put_put _ _ _ _)
theorem kq_4 {f : Nat → Int32} : kx_up (kp_put h a u) (a + 4) (.inl (0, 5, .inl f)) = kp_put h a (u.1, u.2.1, u.2.2.1, f, u.2.2.2.2) := (kp_up_4 (kp_put_P h a u) f).trans (kp_put_put _ _ _ _)
theorem kq_5 {f : Nat → Int32} : kx_up (kp_put h a u) (a + 5) (.inl (0, 25, .inl f)) = kp_put h a (u.1, u.2.1, u.2.2.1, u.2.2.2.1, f, u.2.2.2.2.2) := (kp_up_5 (kp_put_P h a u) f).trans (kp_put_put _ _ _ _)
theorem kq_n {x : Int32} : kx_up (kp_put h a u) a (.inr (2, [.ref (a + 1), .ref (a + 2), .ref (a + 3), .ref (a + 4), .ref (a + 5), .int x, .int (pOp u), .int (pOn u), .int (pWk u)])) = kp_put h a (u.1, u.2.1, u.2.2.1, u.2.2.2.1, u.2.2.2.2.1, x, u.2.2.2.2.2.2) := (kp_up_o (v := (u.1, u.2.1, u.2.2.1, u.2.2.2.1, u.2.2.2.2.1, x, u.2.2.2.2.2.2)) (kp_put_P h a u) rfl).trans (kp_put_put _ _ _ _)
theorem kq_op {x : Int32} : kx_up (kp_put h a u) a (.inr (2, [.ref (a + 1), .ref (a + 2), .ref (a + 3), .ref (a + 4), .ref (a + 5), .int (pN u), .int x, .int (pOn u), .int (pWk u)])) = kp_put h a (u.1, u.2.1, u.2.2.1, u.2.2.2.1, u.2.2.2.2.1, u.2.2.2.2.2.1, x, u.2.2.2.2.2.2.2) := (kp_up_o (v := (u.1, u.2.1, u.2.2.1, u.2.2.2.1, u.2.2.2.2.1, u.2.2.2.2.2.1, x, u.2.2.2.2.2.2.2)) (kp_put_P h a u) rfl).trans (kp_put_put _ _ _ _)
theorem kq_on {x : Int32} : kx_up (kp_put h a u) a (.inr (2, [.ref (a + 1), .ref (a + 2), .ref (a + 3), .ref (a + 4), .ref (a + 5), .int (pN u), .int (pOp u), .int x, .int (pWk u)])) = kp_put h a (u.1, u.2.1, u.2.2.1, u.2.2.2.1, u.2.2.2.2.1, u.2.2.2.2.2.1, u.2.2.2.2.2.2.1, x, u.2.2.2.2.2.2.2.2) := (kp_up_o (v := (u.1, u.2.1, u.2.2.1, u.2.2.2.1, u.2.2.2.2.1, u.2.2.2.2.2.1, u.2.2.2.2.2.2.1, x, u.2.2.2.2.2.2.2.2)) (kp_put_P h a u) rfl).trans (kp_put_put _ _ _ _)
theorem kq_wk {x : Int32} : kx_up (kp_put h a u) a (.inr (2, [.ref (a + 1), .ref (a + 2), .ref (a + 3), .ref (a + 4), .ref (a + 5), .int (pN u), .int (pOp u), .int (pOn u), .int x])) = kp_put h a (u.1, u.2.1, u.2.2.1, u.2.2.2.1, u.2.2.2.2.1, u.2.2.2.2.2.1, u.2.2.2.2.2.2.1, u.2.2.2.2.2.2.2.1, x) := (kp_up_o (v := (u.1, u.2.1, u.2.2.1, u.2.2.2.1, u.2.2.2.2.1, u.2.2.2.2.2.1, u.2.2.2.2.2.2.1, u.2.2.2.2.2.2.2.1, x)) (kp_put_P h a u) rfl).trans (kp_put_put _ _ _ _)
end KQ
end
section
/-! ===== People: what its methods answer ===== -/
def hasI (n p : Int32) : Bool := !decide (p < 0) && (!decide (n ≤ p) && !decide (5 ≤ p))
def hbI (b p : Int32) : Bool := !decide (p < 0) && (!decide (5 ≤ p) && !decide ((b >>> (p &&& 31)) &&& 1 = 0))
theorem in5 {p : Int32} (h1 : ¬ p < 0) (h2 : ¬ 5 ≤ p) : vp_in p 5 := by
  obtain ⟨j, hj, e, -⟩ := pk_mu (L := 5) h1 h2 (by decide)
  rw [e]
  exact vp_in_nI hj (by decide)
theorem hasI_in {n p : Int32} (h : hasI n p = true) : vp_in p 5 := by
  simp only [hasI, Bool.and_eq_true, Bool.not_eq_true', decide_eq_false_iff_not] at h
  exact in5 h.1 h.2.2
set_option maxRecDepth 20000 in
theorem fn_has {G : kx_G} {d N a : Nat} {h : kx_H} {u : PU} {p : Int32} (hP : kP h a u) : kx_Fn mX2_has d 0 0 G [.ref a, .int p] N h (some (.int (kb (hasI (pN u) p))), N, h) := by
  refine kx_Fn_of rfl (Nat.le_of_ble_eq_true rfl) rfl ?_ (kx_self)
  obtain ⟨e0, e1, e2, e3, e4, e5⟩ := id hP
  refine ko_iload_n (i := 1) dX2_has_0 rfl rfl ?_
  refine ko_if_lt (tgt := 21) dX2_has_1 (by decide) (fun c_1 => ?_) (fun c_1 => ?_)
  · refine ko_iconst (v := 0) dX2_has_21 (by decide) ?_
    refine ko_zret dX2_has_22 rfl rfl (Nat.le_of_ble_eq_true rfl) (Nat.le_of_ble_eq_true rfl) ?_
    simp [kb, hasI, c_1]
  · refine ko_iload_n (i := 1) dX2_has_4 rfl rfl ?_
    refine ko_aload_n (i := 0) dX2_has_5 rfl rfl ?_
    refine ko_get fl_X2_33 dX2_has_6 e0 rfl ?_
    refine ko_icmp_ge (tgt := 21) dX2_has_9 (by decide) (fun c_9 => ?_) (fun c_9 => ?_)
    · refine ko_iconst (v := 0) dX2_has_21 (by decide) ?_
      refine ko_zret dX2_has_22 rfl rfl (Nat.le_of_ble_eq_true rfl) (Nat.le_of_ble_eq_true rfl) ?_
      simp [kb, hasI, c_1, c_9]
    · refine ko_iload_n (i := 1) dX2_has_12 rfl rfl ?_
      refine ko_iconst (v := 5) dX2_has_13 (by decide) ?_
      refine ko_icmp_ge (tgt := 21) dX2_has_14 (by decide) (fun c_14 => ?_) (fun c_14 => ?_)
      · refine ko_iconst (v := 0) dX2_has_21 (by decide) ?_
        refine ko_zret dX2_has_22 rfl rfl (Nat.le_of_ble_eq_true rfl) (Nat.le_of_ble_eq_true rfl) ?_
        simp [kb, hasI, c_1, c_9, c_14]
      · refine ko_iconst (v := 1) dX2_has_17 (by decide) ?_
        refine ko_goto (tgt := 22) dX2_has_18 (by decide) ?_
        refine ko_zret dX2_has_22 rfl rfl (Nat.le_of_ble_eq_true rfl) (Nat.le_of_ble_eq_true rfl) ?_
        simp [kb, hasI, c_1, c_9, c_14]
set_option maxRecDepth 20000 in
theorem fn_hasBit {G : kx_G} {d N : Nat} {h : kx_H} {b p : Int32} : kx_Fn mX4_hasBit d 0 0 G [.int b, .int p] N h (some (.int (kb (hbI b p))), N, h) := by
  refine kx_Fn_of rfl (Nat.le_of_ble_eq_true rfl) rfl ?_ (kx_self)
  refine ko_iload_n (i := 1) dX4_hasBit_0 rfl rfl ?_
  refine ko_if_lt (tgt := 21) dX4_hasBit_1 (by decide) (fun c_1 => ?_) (fun c_1 => ?_)
  · refine ko_iconst (v := 0) dX4_hasBit_21 (by decide) ?_
    refine ko_zret dX4_hasBit_22 rfl rfl (Nat.le_of_ble_eq_true rfl) (Nat.le_of_ble_eq_true rfl) ?_
    simp [kb, hbI, c_1]
  · refine ko_iload_n (i := 1) dX4_hasBit_4 rfl rfl ?_
    refine ko_iconst (v := 5) dX4_hasBit_5 (by decide) ?_
    refine ko_icmp_ge (tgt := 21) dX4_hasBit_6 (by decide) (fun c_6 => ?_) (fun c_6 => ?_)
    · refine ko_iconst (v := 0) dX4_hasBit_21 (by decide) ?_
      refine ko_zret dX4_hasBit_22 rfl rfl (Nat.le_of_ble_eq_true rfl) (Nat.le_of_ble_eq_true rfl) ?_
      simp [kb, hbI, c_1, c_6]
    · refine ko_iload_n (i := 0) dX4_hasBit_9 rfl rfl ?_
      refine ko_iload_n (i := 1) dX4_hasBit_10 rfl rfl ?_
      refine ko_ishr dX4_hasBit_11 ?_
      refine ko_iconst (v := 1) dX4_hasBit_12 (by decide) ?_
      refine ko_iand dX4_hasBit_13 ?_
      refine ko_if_eq (tgt := 21) dX4_hasBit_14 (by decide) (fun c_14 => ?_) (fun c_14 => ?_)
      · refine ko_iconst (v := 0) dX4_hasBit_21 (by decide) ?_
        refine ko_zret dX4_hasBit_22 rfl rfl (Nat.le_of_ble_eq_true rfl) (Nat.le_of_ble_eq_true rfl) ?_
        simp [kb, hbI, c_1, c_6, c_14]
      · refine ko_iconst (v := 1) dX4_hasBit_17 (by decide) ?_
        refine ko_goto (tgt := 22) dX4_hasBit_18 (by decide) ?_
        refine ko_zret dX4_hasBit_22 rfl rfl (Nat.le_of_ble_eq_true rfl) (Nat.le_of_ble_eq_true rfl) ?_
        simp [kb, hbI, c_1, c_6, c_14]
def evI (n : Int32) : Int32 := 1 <<< (n &&& 31) - 1
set_option maxRecDepth 20000 in
theorem fn_everyone {G : kx_G} {d N a : Nat} {h : kx_H} {u : PU} (hP : kP h a u) : kx_Fn mX2_everyone d 0 0 G [.ref a] N h (some (.int (evI (pN u))), N, h) := by
  refine kx_Fn_of rfl (Nat.le_of_ble_eq_true rfl) rfl ?_ (kx_self)
  obtain ⟨e0, e1, e2, e3, e4, e5⟩ := id hP
  refine ko_iconst (v := 1) dX2_everyone_0 (by decide) ?_
  refine ko_aload_n (i := 0) dX2_everyone_1 rfl rfl ?_
  refine ko_get fl_X2_33 dX2_everyone_2 e0 rfl ?_
  refine ko_ishl dX2_everyone_5 ?_
  refine ko_iconst (v := 1) dX2_everyone_6 (by decide) ?_
  refine ko_isub dX2_everyone_7 ?_
  refine ko_iret dX2_everyone_8 rfl (Nat.le_of_ble_eq_true rfl) (Nat.le_of_ble_eq_true rfl) ?_
  rfl
def unbI (u : PU) : Int32 := evI (pN u) &&& (pOp u ^^^ (-1))
set_option maxRecDepth 20000 in
theorem fn_unbereaved {G : kx_G} {d N a : Nat} {h : kx_H} {u : PU} (hP : kP h a u) (hd : 1 ≤ d) : kx_Fn mX2_unbereaved d 0 0 G [.ref a] N h (some (.int (unbI u)), N, h) := by
  refine kx_Fn_of rfl (Nat.le_of_ble_eq_true rfl) rfl ?_ (kx_self)
  obtain ⟨e0, e1, e2, e3, e4, e5⟩ := id hP
  refine ko_aload_n (i := 0) dX2_unbereaved_0 rfl rfl ?_
  refine ko_callVr lk_X2_46 dX2_unbereaved_1 (fn_everyone (d := d - 1) hP) rfl rfl e0 rfl rfl (by omega) (by omega) (by omega) (Nat.le_of_ble_eq_true rfl) ?_
  refine ko_aload_n (i := 0) dX2_unbereaved_4 rfl rfl ?_
  refine ko_get fl_X2_37 dX2_unbereaved_5 e0 rfl ?_
  refine ko_iconst (v := (-1)) dX2_unbereaved_8 (by decide) ?_
  refine ko_ixor dX2_unbereaved_9 ?_
  refine ko_iand dX2_unbereaved_10 ?_
  refine ko_iret dX2_unbereaved_11 rfl (Nat.le_of_ble_eq_true rfl) (Nat.le_of_ble_eq_true rfl) ?_
  rfl
set_option maxRecDepth 20000 in
theorem fn_isOpen {G : kx_G} {d N a : Nat} {h : kx_H} {u : PU} {p : Int32} (hP : kP h a u) (hd : 1 ≤ d) : kx_Fn mX2_isOpen d 0 0 G [.ref a, .int p] N h (some (.int (kb (hbI (pOp u) p))), N, h) := by
  refine kx_Fn_of rfl (Nat.le_of_ble_eq_true rfl) rfl ?_ (kx_self)
  obtain ⟨e0, e1, e2, e3, e4, e5⟩ := id hP
  refine ko_aload_n (i := 0) dX2_isOpen_0 rfl rfl ?_
  refine ko_get fl_X2_37 dX2_isOpen_1 e0 rfl ?_
  refine ko_iload_n (i := 1) dX2_isOpen_4 rfl rfl ?_
  refine ko_callSNr lk_X2_50 dX2_isOpen_5 (fn_hasBit (d := d - 1)) rfl rfl (by omega) (by omega) (by omega) (Nat.le_of_ble_eq_true rfl) ?_
  refine ko_zret dX2_isOpen_8 rfl (kb_z _) (Nat.le_of_ble_eq_true rfl) (Nat.le_of_ble_eq_true rfl) ?_
  rfl
def arkI (u : PU) (p q : Int32) : Bool := hasI (pN u) p && hbI (pKn u p.toNatClampNeg) q
set_option maxRecDepth 20000 in
theorem fn_areKin {G : kx_G} {d N a : Nat} {h : kx_H} {u : PU} {p q : Int32} (hP : kP h a u) (hd : 1 ≤ d) : kx_Fn mX2_areKin d 0 0 G [.ref a, .int p, .int q] N h (some (.int (kb (arkI u p q))), N, h) := by
  refine kx_Fn_of rfl (Nat.le_of_ble_eq_true rfl) rfl ?_ (kx_self)
  obtain ⟨e0, e1, e2, e3, e4, e5⟩ := id hP
  refine ko_aload_n (i := 0) dX2_areKin_0 rfl rfl ?_
  refine ko_iload_n (i := 1) dX2_areKin_1 rfl rfl ?_
  refine ko_callVr lk_X2_54 dX2_areKin_2 (fn_has (d := d - 1) hP) rfl rfl e0 rfl rfl (by omega) (by omega) (by omega) (Nat.le_of_ble_eq_true rfl) ?_
  first | refine ko_ifb_eq (tgt := 25) dX2_areKin_5 (by decide) (fun c_5 => ?_) (fun c_5 => ?_) | refine ko_if_eq (tgt := 25) dX2_areKin_5 (by decide) (fun c_5 => ?_) (fun c_5 => ?_)
  · refine ko_iconst (v := 0) dX2_areKin_25 (by decide) ?_
    refine ko_zret dX2_areKin_26 rfl rfl (Nat.le_of_ble_eq_true rfl) (Nat.le_of_ble_eq_true rfl) ?_
    simp [kb, arkI, c_5]
  · have i5 := hasI_in c_5
    refine ko_aload_n (i := 0) dX2_areKin_8 rfl rfl ?_
    refine ko_get fl_X2_21 dX2_areKin_9 e0 rfl ?_
    refine ko_iload_n (i := 1) dX2_areKin_12 rfl rfl ?_
    refine ko_iald dX2_areKin_13 e4 (by assumption) ?_
    refine ko_iload_n (i := 2) dX2_areKin_14 rfl rfl ?_
    refine ko_callSNr lk_X2_50 dX2_areKin_15 (fn_hasBit (d := d - 1)) rfl rfl (by omega) (by omega) (by omega) (Nat.le_of_ble_eq_true rfl) ?_
    first | refine ko_ifb_eq (tgt := 25) dX2_areKin_18 (by decide) (fun c_18 => ?_) (fun c_18 => ?_) | refine ko_if_eq (tgt := 25) dX2_areKin_18 (by decide) (fun c_18 => ?_) (fun c_18 => ?_)
    · refine ko_iconst (v := 0) dX2_areKin_25 (by decide) ?_
      refine ko_zret dX2_areKin_26 rfl rfl (Nat.le_of_ble_eq_true rfl) (Nat.le_of_ble_eq_true rfl) ?_
      simp [kb, arkI, c_5, c_18]
    · refine ko_iconst (v := 1) dX2_areKin_21 (by decide) ?_
      refine ko_goto (tgt := 26) dX2_areKin_22 (by decide) ?_
      refine ko_zret dX2_areKin_26 rfl rfl (Nat.le_of_ble_eq_true rfl) (Nat.le_of_ble_eq_true rfl) ?_
      simp [kb, arkI, c_5, c_18]
def ozI (u : PU) (p : Int32) : Int32 := if hasI (pN u) p = false then 0 else if pKd u p.toNatClampNeg = 3 then 0 else if pKd u p.toNatClampNeg = 2 then pSo u p.toNatClampNeg / 2 else if ¬ 2 ≤ pAg u p.toNatClampNeg then 0 else if pKd u p.toNatClampNeg = 1 then pSo u p.toNatClampNeg / 4 else pSo u p.toNatClampNeg / 3
set_option maxRecDepth 20000 in
theorem fn_ounces {G : kx_G} {d N a : Nat} {h : kx_H} {u : PU} {p : Int32} (hP : kP h a u) (hd : 1 ≤ d) : kx_Fn mX2_ounces d 0 0 G [.ref a, .int p] N h (some (.int (ozI u p)), N, h) := by
  refine kx_Fn_of rfl (Nat.le_of_ble_eq_true rfl) rfl ?_ (kx_self)
  obtain ⟨e0, e1, e2, e3, e4, e5⟩ := id hP
  refine ko_aload_n (i := 0) dX2_ounces_0 rfl rfl ?_
  refine ko_iload_n (i := 1) dX2_ounces_1 rfl rfl ?_
  refine ko_callVr lk_X2_54 dX2_ounces_2 (fn_has (d := d - 1) hP) rfl rfl e0 rfl rfl (by omega) (by omega) (by omega) (Nat.le_of_ble_eq_true rfl) ?_
  first | refine ko_ifb_eq (tgt := 18) dX2_ounces_5 (by decide) (fun c_5 => ?_) (fun c_5 => ?_) | refine ko_if_eq (tgt := 18) dX2_ounces_5 (by decide) (fun c_5 => ?_) (fun c_5 => ?_)
  · refine ko_iconst (v := 0) dX2_ounces_18 (by decide) ?_
    refine ko_iret dX2_ounces_19 rfl (Nat.le_of_ble_eq_true rfl) (Nat.le_of_ble_eq_true rfl) ?_
    simp [kb, ozI, c_5]
  · have i5 := hasI_in c_5
    refine ko_aload_n (i := 0) dX2_ounces_8 rfl rfl ?_
    refine ko_get fl_X2_18 dX2_ounces_9 e0 rfl ?_
    refine ko_iload_n (i := 1) dX2_ounces_12 rfl rfl ?_
    first | refine ko_iald dX2_ounces_13 e1 (by assumption) ?_ | refine ko_iald dX2_ounces_13 e2 (by assumption) ?_ | refine ko_iald dX2_ounces_13 e3 (by assumption) ?_ | refine ko_iald dX2_ounces_13 e4 (by assumption) ?_ | refine ko_iald dX2_ounces_13 e5 (by assumption) ?_
    refine ko_iconst (v := 3) dX2_ounces_14 (by decide) ?_
    refine ko_icmp_ne (tgt := 20) dX2_ounces_15 (by decide) (fun c_15 => ?_) (fun c_15 => ?_)
    · refine ko_aload_n (i := 0) dX2_ounces_20 rfl rfl ?_
      refine ko_get fl_X2_18 dX2_ounces_21 e0 rfl ?_
      refine ko_iload_n (i := 1) dX2_ounces_24 rfl rfl ?_
      first | refine ko_iald dX2_ounces_25 e1 (by assumption) ?_ | refine ko_iald dX2_ounces_25 e2 (by assumption) ?_ | refine ko_iald dX2_ounces_25 e3 (by assumption) ?_ | refine ko_iald dX2_ounces_25 e4 (by assumption) ?_ | refine ko_iald dX2_ounces_25 e5 (by assumption) ?_
      refine ko_iconst (v := 2) dX2_ounces_26 (by decide) ?_
      refine ko_icmp_ne (tgt := 39) dX2_ounces_27 (by decide) (fun c_27 => ?_) (fun c_27 => ?_)
      · refine ko_aload_n (i := 0) dX2_ounces_39 rfl rfl ?_
        refine ko_get fl_X2_15 dX2_ounces_40 e0 rfl ?_
        refine ko_iload_n (i := 1) dX2_ounces_43 rfl rfl ?_
        first | refine ko_iald dX2_ounces_44 e1 (by assumption) ?_ | refine ko_iald dX2_ounces_44 e2 (by assumption) ?_ | refine ko_iald dX2_ounces_44 e3 (by assumption) ?_ | refine ko_iald dX2_ounces_44 e4 (by assumption) ?_ | refine ko_iald dX2_ounces_44 e5 (by assumption) ?_
        refine ko_iconst (v := 2) dX2_ounces_45 (by decide) ?_
        refine ko_icmp_ge (tgt := 51) dX2_ounces_46 (by decide) (fun c_46 => ?_) (fun c_46 => ?_)
        · refine ko_aload_n (i := 0) dX2_ounces_51 rfl rfl ?_
          refine ko_get fl_X2_9 dX2_ounces_52 e0 rfl ?_
          refine ko_iload_n (i := 1) dX2_ounces_55 rfl rfl ?_
          first | refine ko_iald dX2_ounces_56 e1 (by assumption) ?_ | refine ko_iald dX2_ounces_56 e2 (by assumption) ?_ | refine ko_iald dX2_ounces_56 e3 (by assumption) ?_ | refine ko_iald dX2_ounces_56 e4 (by assumption) ?_ | refine ko_iald dX2_ounces_56 e5 (by assumption) ?_
          refine ko_aload_n (i := 0) dX2_ounces_57 rfl rfl ?_
          refine ko_get fl_X2_18 dX2_ounces_58 e0 rfl ?_
          refine ko_iload_n (i := 1) dX2_ounces_61 rfl rfl ?_
          first | refine ko_iald dX2_ounces_62 e1 (by assumption) ?_ | refine ko_iald dX2_ounces_62 e2 (by assumption) ?_ | refine ko_iald dX2_ounces_62 e3 (by assumption) ?_ | refine ko_iald dX2_ounces_62 e4 (by assumption) ?_ | refine ko_iald dX2_ounces_62 e5 (by assumption) ?_
          refine ko_iconst (v := 1) dX2_ounces_63 (by decide) ?_
          refine ko_icmp_ne (tgt := 71) dX2_ounces_64 (by decide) (fun c_64 => ?_) (fun c_64 => ?_)
          · refine ko_iconst (v := 3) dX2_ounces_71 (by decide) ?_
            refine ko_idiv dX2_ounces_72 (by decide) ?_
            refine ko_iret dX2_ounces_73 rfl (Nat.le_of_ble_eq_true rfl) (Nat.le_of_ble_eq_true rfl) ?_
            simp [kb, ozI, c_5, c_15, c_27, c_46, c_64]
          · refine ko_iconst (v := 4) dX2_ounces_67 (by decide) ?_
            refine ko_goto (tgt := 72) dX2_ounces_68 (by decide) ?_
            refine ko_idiv dX2_ounces_72 (by decide) ?_
            refine ko_iret dX2_ounces_73 rfl (Nat.le_of_ble_eq_true rfl) (Nat.le_of_ble_eq_true rfl) ?_
            simp [kb, ozI, c_5, c_15, c_27, c_46, c_64]
        · refine ko_iconst (v := 0) dX2_ounces_49 (by decide) ?_
          refine ko_iret dX2_ounces_50 rfl (Nat.le_of_ble_eq_true rfl) (Nat.le_of_ble_eq_true rfl) ?_
          simp [kb, ozI, c_5, c_15, c_27, c_46]
      · refine ko_aload_n (i := 0) dX2_ounces_30 rfl rfl ?_
        refine ko_get fl_X2_9 dX2_ounces_31 e0 rfl ?_
        refine ko_iload_n (i := 1) dX2_ounces_34 rfl rfl ?_
        first | refine ko_iald dX2_ounces_35 e1 (by assumption) ?_ | refine ko_iald dX2_ounces_35 e2 (by assumption) ?_ | refine ko_iald dX2_ounces_35 e3 (by assumption) ?_ | refine ko_iald dX2_ounces_35 e4 (by assumption) ?_ | refine ko_iald dX2_ounces_35 e5 (by assumption) ?_
        refine ko_iconst (v := 2) dX2_ounces_36 (by decide) ?_
        refine ko_idiv dX2_ounces_37 (by decide) ?_
        refine ko_iret dX2_ounces_38 rfl (Nat.le_of_ble_eq_true rfl) (Nat.le_of_ble_eq_true rfl) ?_
        simp [kb, ozI, c_5, c_15, c_27]
    · refine ko_iconst (v := 0) dX2_ounces_18 (by decide) ?_
      refine ko_iret dX2_ounces_19 rfl (Nat.le_of_ble_eq_true rfl) (Nat.le_of_ble_eq_true rfl) ?_
      simp [kb, ozI, c_5, c_15]
def fitI (u : PU) (p q : Int32) : Bool := !decide (ozI u p < 1) && !arkI u p q
set_option maxRecDepth 20000 in
theorem fn_isFitFor {G : kx_G} {d N a : Nat} {h : kx_H} {u : PU} {p q : Int32} (hP : kP h a u) (hd : 2 ≤ d) : kx_Fn mX2_isFitFor d 0 0 G [.ref a, .int p, .int q] N h (some (.int (kb (fitI u p q))), N, h) := by
  refine kx_Fn_of rfl (Nat.le_of_ble_eq_true rfl) rfl ?_ (kx_self)
  obtain ⟨e0, e1, e2, e3, e4, e5⟩ := id hP
  refine ko_aload_n (i := 0) dX2_isFitFor_0 rfl rfl ?_
  refine ko_iload_n (i := 1) dX2_isFitFor_1 rfl rfl ?_
  refine ko_callVr lk_X2_58 dX2_isFitFor_2 (fn_ounces (d := d - 1) hP (by omega)) rfl rfl e0 rfl rfl (by omega) (by omega) (by omega) (Nat.le_of_ble_eq_true rfl) ?_
  refine ko_iconst (v := 1) dX2_isFitFor_5 (by decide) ?_
  refine ko_icmp_lt (tgt := 22) dX2_isFitFor_6 (by decide) (fun c_6 => ?_) (fun c_6 => ?_)
  · refine ko_iconst (v := 0) dX2_isFitFor_22 (by decide) ?_
    refine ko_zret dX2_isFitFor_23 rfl rfl (Nat.le_of_ble_eq_true rfl) (Nat.le_of_ble_eq_true rfl) ?_
    simp [kb, fitI, c_6]
  · refine ko_aload_n (i := 0) dX2_isFitFor_9 rfl rfl ?_
    refine ko_iload_n (i := 1) dX2_isFitFor_10 rfl rfl ?_
    refine ko_iload_n (i := 2) dX2_isFitFor_11 rfl rfl ?_
    refine ko_callVr lk_X2_62 dX2_isFitFor_12 (fn_areKin (d := d - 1) hP (by omega)) rfl rfl e0 rfl rfl (by omega) (by omega) (by omega) (Nat.le_of_ble_eq_true rfl) ?_
    first | refine ko_ifb_ne (tgt := 22) dX2_isFitFor_15 (by decide) (fun c_15 => ?_) (fun c_15 => ?_) | refine ko_if_ne (tgt := 22) dX2_isFitFor_15 (by decide) (fun c_15 => ?_) (fun c_15 => ?_)
    · refine ko_iconst (v := 0) dX2_isFitFor_22 (by decide) ?_
      refine ko_zret dX2_isFitFor_23 rfl rfl (Nat.le_of_ble_eq_true rfl) (Nat.le_of_ble_eq_true rfl) ?_
      simp [kb, fitI, c_6, c_15]
    · refine ko_iconst (v := 1) dX2_isFitFor_18 (by decide) ?_
      refine ko_goto (tgt := 23) dX2_isFitFor_19 (by decide) ?_
      refine ko_zret dX2_isFitFor_23 rfl rfl (Nat.le_of_ble_eq_true rfl) (Nat.le_of_ble_eq_true rfl) ?_
      simp [kb, fitI, c_6, c_15]
def mayI (u : PU) (p q : Int32) : Bool := hbI (pOp u) q && (!hbI (pOp u) p && fitI u p q)
set_option maxRecDepth 20000 in
theorem fn_mayWeep {G : kx_G} {d N a : Nat} {h : kx_H} {u : PU} {p q : Int32} (hP : kP h a u) (hd : 3 ≤ d) : kx_Fn mX2_mayWeep d 0 0 G [.ref a, .int p, .int q] N h (some (.int (kb (mayI u p q))), N, h) := by
  refine kx_Fn_of rfl (Nat.le_of_ble_eq_true rfl) rfl ?_ (kx_self)
  obtain ⟨e0, e1, e2, e3, e4, e5⟩ := id hP
  refine ko_aload_n (i := 0) dX2_mayWeep_0 rfl rfl ?_
  refine ko_iload_n (i := 2) dX2_mayWeep_1 rfl rfl ?_
  refine ko_callVr lk_X2_65 dX2_mayWeep_2 (fn_isOpen (d := d - 1) hP (by omega)) rfl rfl e0 rfl rfl (by omega) (by omega) (by omega) (Nat.le_of_ble_eq_true rfl) ?_
  first | refine ko_ifb_eq (tgt := 29) dX2_mayWeep_5 (by decide) (fun c_5 => ?_) (fun c_5 => ?_) | refine ko_if_eq (tgt := 29) dX2_mayWeep_5 (by decide) (fun c_5 => ?_) (fun c_5 => ?_)
  · refine ko_iconst (v := 0) dX2_mayWeep_29 (by decide) ?_
    refine ko_zret dX2_mayWeep_30 rfl rfl (Nat.le_of_ble_eq_true rfl) (Nat.le_of_ble_eq_true rfl) ?_
    simp [kb, mayI, c_5]
  · refine ko_aload_n (i := 0) dX2_mayWeep_8 rfl rfl ?_
    refine ko_iload_n (i := 1) dX2_mayWeep_9 rfl rfl ?_
    refine ko_callVr lk_X2_65 dX2_mayWeep_10 (fn_isOpen (d := d - 1) hP (by omega)) rfl rfl e0 rfl rfl (by omega) (by omega) (by omega) (Nat.le_of_ble_eq_true rfl) ?_
    first | refine ko_ifb_ne (tgt := 29) dX2_mayWeep_13 (by decide) (fun c_13 => ?_) (fun c_13 => ?_) | refine ko_if_ne (tgt := 29) dX2_mayWeep_13 (by decide) (fun c_13 => ?_) (fun c_13 => ?_)
    · refine ko_iconst (v := 0) dX2_mayWeep_29 (by decide) ?_
      refine ko_zret dX2_mayWeep_30 rfl rfl (Nat.le_of_ble_eq_true rfl) (Nat.le_of_ble_eq_true rfl) ?_
      simp [kb, mayI, c_5, c_13]
    · refine ko_aload_n (i := 0) dX2_mayWeep_16 rfl rfl ?_
      refine ko_iload_n (i := 1) dX2_mayWeep_17 rfl rfl ?_
      refine ko_iload_n (i := 2) dX2_mayWeep_18 rfl rfl ?_
      refine ko_callVr lk_X2_68 dX2_mayWeep_19 (fn_isFitFor (d := d - 1) hP (by omega)) rfl rfl e0 rfl rfl (by omega) (by omega) (by omega) (Nat.le_of_ble_eq_true rfl) ?_
      first | refine ko_ifb_eq (tgt := 29) dX2_mayWeep_22 (by decide) (fun c_22 => ?_) (fun c_22 => ?_) | refine ko_if_eq (tgt := 29) dX2_mayWeep_22 (by decide) (fun c_22 => ?_) (fun c_22 => ?_)
      · refine ko_iconst (v := 0) dX2_mayWeep_29 (by decide) ?_
        refine ko_zret dX2_mayWeep_30 rfl rfl (Nat.le_of_ble_eq_true rfl) (Nat.le_of_ble_eq_true rfl) ?_
        simp [kb, mayI, c_5, c_13, c_22]
      · refine ko_iconst (v := 1) dX2_mayWeep_25 (by decide) ?_
        refine ko_goto (tgt := 30) dX2_mayWeep_26 (by decide) ?_
        refine ko_zret dX2_mayWeep_30 rfl rfl (Nat.le_of_ble_eq_true rfl) (Nat.le_of_ble_eq_true rfl) ?_
        simp [kb, mayI, c_5, c_13, c_22]
def onyI (u : PU) (p q : Int32) : Bool := hasI (pN u) p && (hbI (pOp u) q && (!hbI (pOp u) p && !arkI u p q))
set_option maxRecDepth 20000 in
theorem fn_mayUseOnions {G : kx_G} {d N a : Nat} {h : kx_H} {u : PU} {p q : Int32} (hP : kP h a u) (hd : 2 ≤ d) : kx_Fn mX2_mayUseOnions d 0 0 G [.ref a, .int p, .int q] N h (some (.int (kb (onyI u p q))), N, h) := by
  refine kx_Fn_of rfl (Nat.le_of_ble_eq_true rfl) rfl ?_ (kx_self)
  obtain ⟨e0, e1, e2, e3, e4, e5⟩ := id hP
  refine ko_aload_n (i := 0) dX2_mayUseOnions_0 rfl rfl ?_
  refine ko_iload_n (i := 1) dX2_mayUseOnions_1 rfl rfl ?_
  refine ko_callVr lk_X2_54 dX2_mayUseOnions_2 (fn_has (d := d - 1) hP) rfl rfl e0 rfl rfl (by omega) (by omega) (by omega) (Nat.le_of_ble_eq_true rfl) ?_
  first | refine ko_ifb_eq (tgt := 37) dX2_mayUseOnions_5 (by decide) (fun c_5 => ?_) (fun c_5 => ?_) | refine ko_if_eq (tgt := 37) dX2_mayUseOnions_5 (by decide) (fun c_5 => ?_) (fun c_5 => ?_)
  · refine ko_iconst (v := 0) dX2_mayUseOnions_37 (by decide) ?_
    refine ko_zret dX2_mayUseOnions_38 rfl rfl (Nat.le_of_ble_eq_true rfl) (Nat.le_of_ble_eq_true rfl) ?_
    simp [kb, onyI, c_5]
  · refine ko_aload_n (i := 0) dX2_mayUseOnions_8 rfl rfl ?_
    refine ko_iload_n (i := 2) dX2_mayUseOnions_9 rfl rfl ?_
    refine ko_callVr lk_X2_65 dX2_mayUseOnions_10 (fn_isOpen (d := d - 1) hP (by omega)) rfl rfl e0 rfl rfl (by omega) (by omega) (by omega) (Nat.le_of_ble_eq_true rfl) ?_
    first | refine ko_ifb_eq (tgt := 37) dX2_mayUseOnions_13 (by decide) (fun c_13 => ?_) (fun c_13 => ?_) | refine ko_if_eq (tgt := 37) dX2_mayUseOnions_13 (by decide) (fun c_13 => ?_) (fun c_13 => ?_)
    · refine ko_iconst (v := 0) dX2_mayUseOnions_37 (by decide) ?_
      refine ko_zret dX2_mayUseOnions_38 rfl rfl (Nat.le_of_ble_eq_true rfl) (Nat.le_of_ble_eq_true rfl) ?_
      simp [kb, onyI, c_5, c_13]
    · refine ko_aload_n (i := 0) dX2_mayUseOnions_16 rfl rfl ?_
      refine ko_iload_n (i := 1) dX2_mayUseOnions_17 rfl rfl ?_
      refine ko_callVr lk_X2_65 dX2_mayUseOnions_18 (fn_isOpen (d := d - 1) hP (by omega)) rfl rfl e0 rfl rfl (by omega) (by omega) (by omega) (Nat.le_of_ble_eq_true rfl) ?_
      first | refine ko_ifb_ne (tgt := 37) dX2_mayUseOnions_21 (by decide) (fun c_21 => ?_) (fun c_21 => ?_) | refine ko_if_ne (tgt := 37) dX2_mayUseOnions_21 (by decide) (fun c_21 => ?_) (fun c_21 => ?_)
      · refine ko_iconst (v := 0) dX2_mayUseOnions_37 (by decide) ?_
        refine ko_zret dX2_mayUseOnions_38 rfl rfl (Nat.le_of_ble_eq_true rfl) (Nat.le_of_ble_eq_true rfl) ?_
        simp [kb, onyI, c_5, c_13, c_21]
      · refine ko_aload_n (i := 0) dX2_mayUseOnions_24 rfl rfl ?_
        refine ko_iload_n (i := 1) dX2_mayUseOnions_25 rfl rfl ?_
        refine ko_iload_n (i := 2) dX2_mayUseOnions_26 rfl rfl ?_
        refine ko_callVr lk_X2_62 dX2_mayUseOnions_27 (fn_areKin (d := d - 1) hP (by omega)) rfl rfl e0 rfl rfl (by omega) (by omega) (by omega) (Nat.le_of_ble_eq_true rfl) ?_
        first | refine ko_ifb_ne (tgt := 37) dX2_mayUseOnions_30 (by decide) (fun c_30 => ?_) (fun c_30 => ?_) | refine ko_if_ne (tgt := 37) dX2_mayUseOnions_30 (by decide) (fun c_30 => ?_) (fun c_30 => ?_)
        · refine ko_iconst (v := 0) dX2_mayUseOnions_37 (by decide) ?_
          refine ko_zret dX2_mayUseOnions_38 rfl rfl (Nat.le_of_ble_eq_true rfl) (Nat.le_of_ble_eq_true rfl) ?_
          simp [kb, onyI, c_5, c_13, c_21, c_30]
        · refine ko_iconst (v := 1) dX2_mayUseOnions_33 (by decide) ?_
          refine ko_goto (tgt := 38) dX2_mayUseOnions_34 (by decide) ?_
          refine ko_zret dX2_mayUseOnions_38 rfl rfl (Nat.le_of_ble_eq_true rfl) (Nat.le_of_ble_eq_true rfl) ?_
          simp [kb, onyI, c_5, c_13, c_21, c_30]
def lsI (u : PU) (p : Int32) : Int32 := if hasI (pN u) p = true then (evI (pN u) &&& (pKn u p.toNatClampNeg ^^^ (-1))) &&& (-((2 : Int32) <<< (p &&& 31))) else 0
set_option maxRecDepth 20000 in
theorem fn_laterStrangers {G : kx_G} {d N a : Nat} {h : kx_H} {u : PU} {p : Int32} (hP : kP h a u) (hd : 1 ≤ d) : kx_Fn mX2_laterStrangers d 0 0 G [.ref a, .int p] N h (some (.int (lsI u p)), N, h) := by
  refine kx_Fn_of rfl (Nat.le_of_ble_eq_true rfl) rfl ?_ (kx_self)
  obtain ⟨e0, e1, e2, e3, e4, e5⟩ := id hP
  refine ko_aload_n (i := 0) dX2_laterStrangers_0 rfl rfl ?_
  refine ko_iload_n (i := 1) dX2_laterStrangers_1 rfl rfl ?_
  refine ko_callVr lk_X2_54 dX2_laterStrangers_2 (fn_has (d := d - 1) hP) rfl rfl e0 rfl rfl (by omega) (by omega) (by omega) (Nat.le_of_ble_eq_true rfl) ?_
  first | refine ko_ifb_eq (tgt := 29) dX2_laterStrangers_5 (by decide) (fun c_5 => ?_) (fun c_5 => ?_) | refine ko_if_eq (tgt := 29) dX2_laterStrangers_5 (by decide) (fun c_5 => ?_) (fun c_5 => ?_)
  · refine ko_iconst (v := 0) dX2_laterStrangers_29 (by decide) ?_
    refine ko_iret dX2_laterStrangers_30 rfl (Nat.le_of_ble_eq_true rfl) (Nat.le_of_ble_eq_true rfl) ?_
    simp [kb, lsI, c_5]
  · have i5 := hasI_in c_5
    refine ko_aload_n (i := 0) dX2_laterStrangers_8 rfl rfl ?_
    refine ko_callVr lk_X2_46 dX2_laterStrangers_9 (fn_everyone (d := d - 1) hP) rfl rfl e0 rfl rfl (by omega) (by omega) (by omega) (Nat.le_of_ble_eq_true rfl) ?_
    refine ko_aload_n (i := 0) dX2_laterStrangers_12 rfl rfl ?_
    refine ko_get fl_X2_21 dX2_laterStrangers_13 e0 rfl ?_
    refine ko_iload_n (i := 1) dX2_laterStrangers_16 rfl rfl ?_
    refine ko_iald dX2_laterStrangers_17 e4 (by assumption) ?_
    refine ko_iconst (v := (-1)) dX2_laterStrangers_18 (by decide) ?_
    refine ko_ixor dX2_laterStrangers_19 ?_
    refine ko_iand dX2_laterStrangers_20 ?_
    refine ko_iconst (v := 2) dX2_laterStrangers_21 (by decide) ?_
    refine ko_iload_n (i := 1) dX2_laterStrangers_22 rfl rfl ?_
    refine ko_ishl dX2_laterStrangers_23 ?_
    refine ko_ineg dX2_laterStrangers_24 ?_
    refine ko_iand dX2_laterStrangers_25 ?_
    refine ko_goto (tgt := 30) dX2_laterStrangers_26 (by decide) ?_
    refine ko_iret dX2_laterStrangers_30 rfl (Nat.le_of_ble_eq_true rfl) (Nat.le_of_ble_eq_true rfl) ?_
    simp [kb, lsI, c_5]
end
section
/-! ===== People: loops over five ===== -/
theorem ix5 {i : Nat} (h : i < 5) : vp_in (nI i) 5 := vp_in_nI h (by omega)
def asI (u : PU) : Nat → Int32
  | 0 => 0
  | i + 1 => asI u i + pSo u i
def twI (u : PU) (p : Int32) : Nat → Int32
  | 0 => 0
  | i + 1 => if mayI u p (nI i) = true then twI u p i ||| 1 <<< (nI i &&& 31) else twI u p i
def uwI (u : PU) : Nat → Int32
  | 0 => pOp u
  | i + 1 => uwI u i &&& (twI u (nI i) 5 ^^^ (-1))
def kaB (u : PU) (i : Nat) : Bool := hasI (pN u) (nI i) && decide ((pKn u i ||| 1 <<< (nI i &&& 31)) = evI (pN u))
def kaI (u : PU) : Nat → Int32
  | 0 => 0
  | i + 1 => if kaB u i = true then kaI u i ||| 1 <<< (nI i &&& 31) else kaI u i
def dbI (u : PU) (p q : Int32) : Int32 := if hasI (pN u) p = true then if hasI (pN u) q = true then pOw u (p * 5 + q).toNatClampNeg else 0 else 0
def crI (u : PU) (p : Int32) : Nat → Int32
  | 0 => 0
  | i + 1 => if dbI u p (nI i) ≤ 0 then crI u p i else crI u p i ||| 1 <<< (nI i &&& 31)
def rbJ (u : PU) (r : Int32) : Nat → Int32
  | 0 => r
  | i + 1 => if hbI (rbJ u r i) (nI i) = true then rbJ u r i ||| crI u (nI i) 5 else rbJ u r i
def rbI (u : PU) (p : Int32) : Nat → Int32
  | 0 => crI u p 5
  | i + 1 => rbJ u (rbI u p i) 5
set_option maxRecDepth 20000 in
theorem fn_allSorrow {G : kx_G} {d N a : Nat} {h : kx_H} {u : PU} (hP : kP h a u) : kx_Fn mX2_allSorrow d 0 0 G [.ref a] N h (some (.int (asI u 5)), N, h) := by
  refine kx_Fn_of rfl (Nat.le_of_ble_eq_true rfl) rfl ?_ (kx_self)
  obtain ⟨e0, e1, e2, e3, e4, e5⟩ := id hP
  have LOOP : ∀ (k i : Nat), k + i = 5 → kx_Ok mX2_allSorrow d 0 0 G 0 0 4 [(0, .ref a), (1, .int (asI u i)), (2, .int (nI i))] [] N h (some (.int (asI u 5)), N, h) := by
    intro k
    induction k with
    | zero =>
      intro i hi
      obtain rfl : i = 5 := by omega
      refine ko_iload_n (i := 2) dX2_allSorrow_4 rfl rfl ?_
      refine ko_iconst (v := 5) dX2_allSorrow_5 (by decide) ?_
      refine ko_icmp_ge (tgt := 24) dX2_allSorrow_6 (by decide) (fun c_6 => ?_) (fun c_6 => ?_)
      · refine ko_iload_n (i := 1) dX2_allSorrow_24 rfl rfl ?_
        refine ko_iret dX2_allSorrow_25 rfl (Nat.le_of_ble_eq_true rfl) (Nat.le_of_ble_eq_true rfl) ?_
        rfl
      · exact absurd (show (5 : Int32) ≤ nI 5 by decide) c_6
    | succ k ih =>
      intro i hi
      refine ko_iload_n (i := 2) dX2_allSorrow_4 rfl rfl ?_
      refine ko_iconst (v := 5) dX2_allSorrow_5 (by decide) ?_
      refine ko_icmp_ge (tgt := 24) dX2_allSorrow_6 (by decide) (fun c_6 => ?_) (fun c_6 => ?_)
      · exact absurd (show nI 5 ≤ nI i from c_6) (nI_ge (by omega) (by omega))
      · refine ko_iload_n (i := 1) dX2_allSorrow_9 rfl rfl ?_
        refine ko_aload_n (i := 0) dX2_allSorrow_10 rfl rfl ?_
        refine ko_get fl_X2_9 dX2_allSorrow_11 e0 rfl ?_
        refine ko_iload_n (i := 2) dX2_allSorrow_14 rfl rfl ?_
        refine ko_iald dX2_allSorrow_15 e1 (ix5 (by omega)) ?_
        rw [nI_clamp (by omega)]
        refine ko_iadd dX2_allSorrow_16 ?_
        refine ko_istore_n (i := 1) (lv' := [(0, _), (1, _), (2, _)]) dX2_allSorrow_17 rfl (by decide) rfl rfl rfl ?_
        refine ko_inc1 (i := 2) (lv' := [(0, _), (1, _), (2, _)]) dX2_allSorrow_18 rfl (by decide) rfl rfl rfl ?_
        refine ko_goto (tgt := 4) dX2_allSorrow_21 (by decide) ?_
        exact ko_lv (by simp [asI, nI_succ, c_6]) (ih (i + 1) (by omega))
  refine ko_iconst (v := 0) dX2_allSorrow_0 (by decide) ?_
  refine ko_istore_n (i := 1) (lv' := [(0, _), (1, _)]) dX2_allSorrow_1 rfl (by decide) rfl rfl rfl ?_
  refine ko_iconst (v := 0) dX2_allSorrow_2 (by decide) ?_
  refine ko_istore_n (i := 2) (lv' := [(0, _), (1, _), (2, _)]) dX2_allSorrow_3 rfl (by decide) rfl rfl rfl ?_
  exact LOOP 5 0 rfl
set_option maxRecDepth 20000 in
theorem fn_thoseToWeepFor {G : kx_G} {d N a : Nat} {h : kx_H} {u : PU} {p : Int32} (hP : kP h a u) (hd : 4 ≤ d) : kx_Fn mX2_thoseToWeepFor d 0 0 G [.ref a, .int p] N h (some (.int (twI u p 5)), N, h) := by
  refine kx_Fn_of rfl (Nat.le_of_ble_eq_true rfl) rfl ?_ (kx_self)
  obtain ⟨e0, e1, e2, e3, e4, e5⟩ := id hP
  have LOOP : ∀ (k i : Nat), k + i = 5 → kx_Ok mX2_thoseToWeepFor d 0 0 G 0 0 4 [(0, .ref a), (1, .int p), (2, .int (twI u p i)), (3, .int (nI i))] [] N h (some (.int (twI u p 5)), N, h) := by
    intro k
    induction k with
    | zero =>
      intro i hi
      obtain rfl : i = 5 := by omega
      refine ko_iload_n (i := 3) dX2_thoseToWeepFor_4 rfl rfl ?_
      refine ko_iconst (v := 5) dX2_thoseToWeepFor_5 (by decide) ?_
      refine ko_icmp_ge (tgt := 30) dX2_thoseToWeepFor_6 (by decide) (fun c_6 => ?_) (fun c_6 => ?_)
      · refine ko_iload_n (i := 2) dX2_thoseToWeepFor_30 rfl rfl ?_
        refine ko_iret dX2_thoseToWeepFor_31 rfl (Nat.le_of_ble_eq_true rfl) (Nat.le_of_ble_eq_true rfl) ?_
        rfl
      · exact absurd (show (5 : Int32) ≤ nI 5 by decide) c_6
    | succ k ih =>
      intro i hi
      refine ko_iload_n (i := 3) dX2_thoseToWeepFor_4 rfl rfl ?_
      refine ko_iconst (v := 5) dX2_thoseToWeepFor_5 (by decide) ?_
      refine ko_icmp_ge (tgt := 30) dX2_thoseToWeepFor_6 (by decide) (fun c_6 => ?_) (fun c_6 => ?_)
      · exact absurd (show nI 5 ≤ nI i from c_6) (nI_ge (by omega) (by omega))
      · refine ko_aload_n (i := 0) dX2_thoseToWeepFor_9 rfl rfl ?_
        refine ko_iload_n (i := 1) dX2_thoseToWeepFor_10 rfl rfl ?_
        refine ko_iload_n (i := 3) dX2_thoseToWeepFor_11 rfl rfl ?_
        refine ko_callVr lk_X2_71 dX2_thoseToWeepFor_12 (fn_mayWeep (d := d - 1) hP (by omega)) rfl rfl e0 rfl rfl (by omega) (by omega) (by omega) (Nat.le_of_ble_eq_true rfl) ?_
        first | refine ko_ifb_eq (tgt := 24) dX2_thoseToWeepFor_15 (by decide) (fun c_15 => ?_) (fun c_15 => ?_) | refine ko_if_eq (tgt := 24) dX2_thoseToWeepFor_15 (by decide) (fun c_15 => ?_) (fun c_15 => ?_)
        · refine ko_inc1 (i := 3) (lv' := [(0, _), (1, _), (2, _), (3, _)]) dX2_thoseToWeepFor_24 rfl (by decide) rfl rfl rfl ?_
          refine ko_goto (tgt := 4) dX2_thoseToWeepFor_27 (by decide) ?_
          exact ko_lv (by simp [twI, nI_succ, c_6, c_15]) (ih (i + 1) (by omega))
        · refine ko_iload_n (i := 2) dX2_thoseToWeepFor_18 rfl rfl ?_
          refine ko_iconst (v := 1) dX2_thoseToWeepFor_19 (by decide) ?_
          refine ko_iload_n (i := 3) dX2_thoseToWeepFor_20 rfl rfl ?_
          refine ko_ishl dX2_thoseToWeepFor_21 ?_
          refine ko_ior dX2_thoseToWeepFor_22 ?_
          refine ko_istore_n (i := 2) (lv' := [(0, _), (1, _), (2, _), (3, _)]) dX2_thoseToWeepFor_23 rfl (by decide) rfl rfl rfl ?_
          refine ko_inc1 (i := 3) (lv' := [(0, _), (1, _), (2, _), (3, _)]) dX2_thoseToWeepFor_24 rfl (by decide) rfl rfl rfl ?_
          refine ko_goto (tgt := 4) dX2_thoseToWeepFor_27 (by decide) ?_
          exact ko_lv (by simp [twI, nI_succ, c_6, c_15]) (ih (i + 1) (by omega))
  refine ko_iconst (v := 0) dX2_thoseToWeepFor_0 (by decide) ?_
  refine ko_istore_n (i := 2) (lv' := [(0, _), (1, _), (2, _)]) dX2_thoseToWeepFor_1 rfl (by decide) rfl rfl rfl ?_
  refine ko_iconst (v := 0) dX2_thoseToWeepFor_2 (by decide) ?_
  refine ko_istore_n (i := 3) (lv' := [(0, _), (1, _), (2, _), (3, _)]) dX2_thoseToWeepFor_3 rfl (by decide) rfl rfl rfl ?_
  exact LOOP 5 0 rfl
set_option maxRecDepth 20000 in
theorem fn_unweptBits {G : kx_G} {d N a : Nat} {h : kx_H} {u : PU} (hP : kP h a u) (hd : 5 ≤ d) : kx_Fn mX2_unweptBits d 0 0 G [.ref a] N h (some (.int (uwI u 5)), N, h) := by
  refine kx_Fn_of rfl (Nat.le_of_ble_eq_true rfl) rfl ?_ (kx_self)
  obtain ⟨e0, e1, e2, e3, e4, e5⟩ := id hP
  have LOOP : ∀ (k i : Nat), k + i = 5 → kx_Ok mX2_unweptBits d 0 0 G 0 0 7 [(0, .ref a), (1, .int (uwI u i)), (2, .int (nI i))] [] N h (some (.int (uwI u 5)), N, h) := by
    intro k
    induction k with
    | zero =>
      intro i hi
      obtain rfl : i = 5 := by omega
      refine ko_iload_n (i := 2) dX2_unweptBits_7 rfl rfl ?_
      refine ko_iconst (v := 5) dX2_unweptBits_8 (by decide) ?_
      refine ko_icmp_ge (tgt := 28) dX2_unweptBits_9 (by decide) (fun c_9 => ?_) (fun c_9 => ?_)
      · refine ko_iload_n (i := 1) dX2_unweptBits_28 rfl rfl ?_
        refine ko_iret dX2_unweptBits_29 rfl (Nat.le_of_ble_eq_true rfl) (Nat.le_of_ble_eq_true rfl) ?_
        rfl
      · exact absurd (show (5 : Int32) ≤ nI 5 by decide) c_9
    | succ k ih =>
      intro i hi
      refine ko_iload_n (i := 2) dX2_unweptBits_7 rfl rfl ?_
      refine ko_iconst (v := 5) dX2_unweptBits_8 (by decide) ?_
      refine ko_icmp_ge (tgt := 28) dX2_unweptBits_9 (by decide) (fun c_9 => ?_) (fun c_9 => ?_)
      · exact absurd (show nI 5 ≤ nI i from c_9) (nI_ge (by omega) (by omega))
      · refine ko_iload_n (i := 1) dX2_unweptBits_12 rfl rfl ?_
        refine ko_aload_n (i := 0) dX2_unweptBits_13 rfl rfl ?_
        refine ko_iload_n (i := 2) dX2_unweptBits_14 rfl rfl ?_
        refine ko_callVr lk_X2_74 dX2_unweptBits_15 (fn_thoseToWeepFor (d := d - 1) hP (by omega)) rfl rfl e0 rfl rfl (by omega) (by omega) (by omega) (Nat.le_of_ble_eq_true rfl) ?_
        refine ko_iconst (v := (-1)) dX2_unweptBits_18 (by decide) ?_
        refine ko_ixor dX2_unweptBits_19 ?_
        refine ko_iand dX2_unweptBits_20 ?_
        refine ko_istore_n (i := 1) (lv' := [(0, _), (1, _), (2, _)]) dX2_unweptBits_21 rfl (by decide) rfl rfl rfl ?_
        refine ko_inc1 (i := 2) (lv' := [(0, _), (1, _), (2, _)]) dX2_unweptBits_22 rfl (by decide) rfl rfl rfl ?_
        refine ko_goto (tgt := 7) dX2_unweptBits_25 (by decide) ?_
        exact ko_lv (by simp [uwI, nI_succ, c_9]) (ih (i + 1) (by omega))
  refine ko_aload_n (i := 0) dX2_unweptBits_0 rfl rfl ?_
  refine ko_get fl_X2_37 dX2_unweptBits_1 e0 rfl ?_
  refine ko_istore_n (i := 1) (lv' := [(0, _), (1, _)]) dX2_unweptBits_4 rfl (by decide) rfl rfl rfl ?_
  refine ko_iconst (v := 0) dX2_unweptBits_5 (by decide) ?_
  refine ko_istore_n (i := 2) (lv' := [(0, _), (1, _), (2, _)]) dX2_unweptBits_6 rfl (by decide) rfl rfl rfl ?_
  exact LOOP 5 0 rfl
set_option maxRecDepth 20000 in
theorem fn_kinToAllBits {G : kx_G} {d N a : Nat} {h : kx_H} {u : PU} (hP : kP h a u) (hd : 1 ≤ d) : kx_Fn mX2_kinToAllBits d 0 0 G [.ref a] N h (some (.int (kaI u 5)), N, h) := by
  refine kx_Fn_of rfl (Nat.le_of_ble_eq_true rfl) rfl ?_ (kx_self)
  obtain ⟨e0, e1, e2, e3, e4, e5⟩ := id hP
  have LOOP : ∀ (k i : Nat), k + i = 5 → kx_Ok mX2_kinToAllBits d 0 0 G 0 0 4 [(0, .ref a), (1, .int (kaI u i)), (2, .int (nI i))] [] N h (some (.int (kaI u 5)), N, h) := by
    intro k
    induction k with
    | zero =>
      intro i hi
      obtain rfl : i = 5 := by omega
      refine ko_iload_n (i := 2) dX2_kinToAllBits_4 rfl rfl ?_
      refine ko_iconst (v := 5) dX2_kinToAllBits_5 (by decide) ?_
      refine ko_icmp_ge (tgt := 46) dX2_kinToAllBits_6 (by decide) (fun c_6 => ?_) (fun c_6 => ?_)
      · refine ko_iload_n (i := 1) dX2_kinToAllBits_46 rfl rfl ?_
        refine ko_iret dX2_kinToAllBits_47 rfl (Nat.le_of_ble_eq_true rfl) (Nat.le_of_ble_eq_true rfl) ?_
        rfl
      · exact absurd (show (5 : Int32) ≤ nI 5 by decide) c_6
    | succ k ih =>
      intro i hi
      refine ko_iload_n (i := 2) dX2_kinToAllBits_4 rfl rfl ?_
      refine ko_iconst (v := 5) dX2_kinToAllBits_5 (by decide) ?_
      refine ko_icmp_ge (tgt := 46) dX2_kinToAllBits_6 (by decide) (fun c_6 => ?_) (fun c_6 => ?_)
      · exact absurd (show nI 5 ≤ nI i from c_6) (nI_ge (by omega) (by omega))
      · refine ko_aload_n (i := 0) dX2_kinToAllBits_9 rfl rfl ?_
        refine ko_iload_n (i := 2) dX2_kinToAllBits_10 rfl rfl ?_
        refine ko_callVr lk_X2_54 dX2_kinToAllBits_11 (fn_has (d := d - 1) hP) rfl rfl e0 rfl rfl (by omega) (by omega) (by omega) (Nat.le_of_ble_eq_true rfl) ?_
        first | refine ko_ifb_eq (tgt := 40) dX2_kinToAllBits_14 (by decide) (fun c_14 => ?_) (fun c_14 => ?_) | refine ko_if_eq (tgt := 40) dX2_kinToAllBits_14 (by decide) (fun c_14 => ?_) (fun c_14 => ?_)
        · refine ko_inc1 (i := 2) (lv' := [(0, _), (1, _), (2, _)]) dX2_kinToAllBits_40 rfl (by decide) rfl rfl rfl ?_
          refine ko_goto (tgt := 4) dX2_kinToAllBits_43 (by decide) ?_
          exact ko_lv (by simp [kaI, kaB, nI_succ, c_6, c_14]) (ih (i + 1) (by omega))
        · refine ko_aload_n (i := 0) dX2_kinToAllBits_17 rfl rfl ?_
          refine ko_get fl_X2_21 dX2_kinToAllBits_18 e0 rfl ?_
          refine ko_iload_n (i := 2) dX2_kinToAllBits_21 rfl rfl ?_
          refine ko_iald dX2_kinToAllBits_22 e4 (ix5 (by omega)) ?_
          rw [nI_clamp (by omega)]
          refine ko_iconst (v := 1) dX2_kinToAllBits_23 (by decide) ?_
          refine ko_iload_n (i := 2) dX2_kinToAllBits_24 rfl rfl ?_
          refine ko_ishl dX2_kinToAllBits_25 ?_
          refine ko_ior dX2_kinToAllBits_26 ?_
          refine ko_aload_n (i := 0) dX2_kinToAllBits_27 rfl rfl ?_
          refine ko_callVr lk_X2_46 dX2_kinToAllBits_28 (fn_everyone (d := d - 1) hP) rfl rfl e0 rfl rfl (by omega) (by omega) (by omega) (Nat.le_of_ble_eq_true rfl) ?_
          refine ko_icmp_ne (tgt := 40) dX2_kinToAllBits_31 (by decide) (fun c_31 => ?_) (fun c_31 => ?_)
          · refine ko_inc1 (i := 2) (lv' := [(0, _), (1, _), (2, _)]) dX2_kinToAllBits_40 rfl (by decide) rfl rfl rfl ?_
            refine ko_goto (tgt := 4) dX2_kinToAllBits_43 (by decide) ?_
            exact ko_lv (by simp [kaI, kaB, nI_succ, c_6, c_14, c_31]) (ih (i + 1) (by omega))
          · refine ko_iload_n (i := 1) dX2_kinToAllBits_34 rfl rfl ?_
            refine ko_iconst (v := 1) dX2_kinToAllBits_35 (by decide) ?_
            refine ko_iload_n (i := 2) dX2_kinToAllBits_36 rfl rfl ?_
            refine ko_ishl dX2_kinToAllBits_37 ?_
            refine ko_ior dX2_kinToAllBits_38 ?_
            refine ko_istore_n (i := 1) (lv' := [(0, _), (1, _), (2, _)]) dX2_kinToAllBits_39 rfl (by decide) rfl rfl rfl ?_
            refine ko_inc1 (i := 2) (lv' := [(0, _), (1, _), (2, _)]) dX2_kinToAllBits_40 rfl (by decide) rfl rfl rfl ?_
            refine ko_goto (tgt := 4) dX2_kinToAllBits_43 (by decide) ?_
            exact ko_lv (by simp [kaI, kaB, nI_succ, c_6, c_14, c_31]) (ih (i + 1) (by omega))
  refine ko_iconst (v := 0) dX2_kinToAllBits_0 (by decide) ?_
  refine ko_istore_n (i := 1) (lv' := [(0, _), (1, _)]) dX2_kinToAllBits_1 rfl (by decide) rfl rfl rfl ?_
  refine ko_iconst (v := 0) dX2_kinToAllBits_2 (by decide) ?_
  refine ko_istore_n (i := 2) (lv' := [(0, _), (1, _), (2, _)]) dX2_kinToAllBits_3 rfl (by decide) rfl rfl rfl ?_
  exact LOOP 5 0 rfl
theorem in25 {n p q : Int32} (h1 : hasI n p = true) (h2 : hasI n q = true) : vp_in (p * 5 + q) 25 ∧ (p * 5 + q).toNatClampNeg = p.toNatClampNeg * 5 + q.toNatClampNeg := by
  obtain ⟨i, hi, rfl⟩ := vp_in_of (hasI_in h1) (by decide)
  obtain ⟨j, hj, rfl⟩ := vp_in_of (hasI_in h2) (by decide)
  have e : nI i * 5 + nI j = nI (i * 5 + j) := by rw [show (5 : Int32) = nI 5 from rfl, pk_mul, nI_add]
  rw [e, nI_clamp (by omega), nI_clamp (by omega), nI_clamp (by omega)]
  exact ⟨vp_in_nI (by omega) (by omega), rfl⟩
set_option maxRecDepth 20000 in
theorem fn_debt {G : kx_G} {d N a : Nat} {h : kx_H} {u : PU} {p q : Int32} (hP : kP h a u) (hd : 1 ≤ d) : kx_Fn mX2_debt d 0 0 G [.ref a, .int p, .int q] N h (some (.int (dbI u p q)), N, h) := by
  refine kx_Fn_of rfl (Nat.le_of_ble_eq_true rfl) rfl ?_ (kx_self)
  obtain ⟨e0, e1, e2, e3, e4, e5⟩ := id hP
  refine ko_aload_n (i := 0) dX2_debt_0 rfl rfl ?_
  refine ko_iload_n (i := 1) dX2_debt_1 rfl rfl ?_
  refine ko_callVr lk_X2_54 dX2_debt_2 (fn_has (d := d - 1) hP) rfl rfl e0 rfl rfl (by omega) (by omega) (by omega) (Nat.le_of_ble_eq_true rfl) ?_
  first | refine ko_ifb_eq (tgt := 29) dX2_debt_5 (by decide) (fun c_5 => ?_) (fun c_5 => ?_) | refine ko_if_eq (tgt := 29) dX2_debt_5 (by decide) (fun c_5 => ?_) (fun c_5 => ?_)
  · refine ko_iconst (v := 0) dX2_debt_29 (by decide) ?_
    refine ko_iret dX2_debt_30 rfl (Nat.le_of_ble_eq_true rfl) (Nat.le_of_ble_eq_true rfl) ?_
    simp [kb, dbI, c_5]
  · refine ko_aload_n (i := 0) dX2_debt_8 rfl rfl ?_
    refine ko_iload_n (i := 2) dX2_debt_9 rfl rfl ?_
    refine ko_callVr lk_X2_54 dX2_debt_10 (fn_has (d := d - 1) hP) rfl rfl e0 rfl rfl (by omega) (by omega) (by omega) (Nat.le_of_ble_eq_true rfl) ?_
    first | refine ko_ifb_eq (tgt := 29) dX2_debt_13 (by decide) (fun c_13 => ?_) (fun c_13 => ?_) | refine ko_if_eq (tgt := 29) dX2_debt_13 (by decide) (fun c_13 => ?_) (fun c_13 => ?_)
    · refine ko_iconst (v := 0) dX2_debt_29 (by decide) ?_
      refine ko_iret dX2_debt_30 rfl (Nat.le_of_ble_eq_true rfl) (Nat.le_of_ble_eq_true rfl) ?_
      simp [kb, dbI, c_5, c_13]
    · refine ko_aload_n (i := 0) dX2_debt_16 rfl rfl ?_
      refine ko_get fl_X2_24 dX2_debt_17 e0 rfl ?_
      refine ko_iload_n (i := 1) dX2_debt_20 rfl rfl ?_
      refine ko_iconst (v := 5) dX2_debt_21 (by decide) ?_
      refine ko_imul dX2_debt_22 ?_
      refine ko_iload_n (i := 2) dX2_debt_23 rfl rfl ?_
      refine ko_iadd dX2_debt_24 ?_
      refine ko_iald dX2_debt_25 e5 (in25 c_5 c_13).1 ?_
      refine ko_goto (tgt := 30) dX2_debt_26 (by decide) ?_
      refine ko_iret dX2_debt_30 rfl (Nat.le_of_ble_eq_true rfl) (Nat.le_of_ble_eq_true rfl) ?_
      simp [kb, dbI, c_5, c_13]
set_option maxRecDepth 20000 in
theorem fn_creditors {G : kx_G} {d N a : Nat} {h : kx_H} {u : PU} {p : Int32} (hP : kP h a u) (hd : 2 ≤ d) : kx_Fn mX2_creditors d 0 0 G [.ref a, .int p] N h (some (.int (crI u p 5)), N, h) := by
  refine kx_Fn_of rfl (Nat.le_of_ble_eq_true rfl) rfl ?_ (kx_self)
  obtain ⟨e0, e1, e2, e3, e4, e5⟩ := id hP
  have LOOP : ∀ (k i : Nat), k + i = 5 → kx_Ok mX2_creditors d 0 0 G 0 0 4 [(0, .ref a), (1, .int p), (2, .int (crI u p i)), (3, .int (nI i))] [] N h (some (.int (crI u p 5)), N, h) := by
    intro k
    induction k with
    | zero =>
      intro i hi
      obtain rfl : i = 5 := by omega
      refine ko_iload_n (i := 3) dX2_creditors_4 rfl rfl ?_
      refine ko_iconst (v := 5) dX2_creditors_5 (by decide) ?_
      refine ko_icmp_ge (tgt := 30) dX2_creditors_6 (by decide) (fun c_6 => ?_) (fun c_6 => ?_)
      · refine ko_iload_n (i := 2) dX2_creditors_30 rfl rfl ?_
        refine ko_iret dX2_creditors_31 rfl (Nat.le_of_ble_eq_true rfl) (Nat.le_of_ble_eq_true rfl) ?_
        rfl
      · exact absurd (show (5 : Int32) ≤ nI 5 by decide) c_6
    | succ k ih =>
      intro i hi
      refine ko_iload_n (i := 3) dX2_creditors_4 rfl rfl ?_
      refine ko_iconst (v := 5) dX2_creditors_5 (by decide) ?_
      refine ko_icmp_ge (tgt := 30) dX2_creditors_6 (by decide) (fun c_6 => ?_) (fun c_6 => ?_)
      · exact absurd (show nI 5 ≤ nI i from c_6) (nI_ge (by omega) (by omega))
      · refine ko_aload_n (i := 0) dX2_creditors_9 rfl rfl ?_
        refine ko_iload_n (i := 1) dX2_creditors_10 rfl rfl ?_
        refine ko_iload_n (i := 3) dX2_creditors_11 rfl rfl ?_
        refine ko_callVr lk_X2_80 dX2_creditors_12 (fn_debt (d := d - 1) hP (by omega)) rfl rfl e0 rfl rfl (by omega) (by omega) (by omega) (Nat.le_of_ble_eq_true rfl) ?_
        refine ko_if_le (tgt := 24) dX2_creditors_15 (by decide) (fun c_15 => ?_) (fun c_15 => ?_)
        · refine ko_inc1 (i := 3) (lv' := [(0, _), (1, _), (2, _), (3, _)]) dX2_creditors_24 rfl (by decide) rfl rfl rfl ?_
          refine ko_goto (tgt := 4) dX2_creditors_27 (by decide) ?_
          exact ko_lv (by simp [crI, nI_succ, c_6, c_15]) (ih (i + 1) (by omega))
        · refine ko_iload_n (i := 2) dX2_creditors_18 rfl rfl ?_
          refine ko_iconst (v := 1) dX2_creditors_19 (by decide) ?_
          refine ko_iload_n (i := 3) dX2_creditors_20 rfl rfl ?_
          refine ko_ishl dX2_creditors_21 ?_
          refine ko_ior dX2_creditors_22 ?_
          refine ko_istore_n (i := 2) (lv' := [(0, _), (1, _), (2, _), (3, _)]) dX2_creditors_23 rfl (by decide) rfl rfl rfl ?_
          refine ko_inc1 (i := 3) (lv' := [(0, _), (1, _), (2, _), (3, _)]) dX2_creditors_24 rfl (by decide) rfl rfl rfl ?_
          refine ko_goto (tgt := 4) dX2_creditors_27 (by decide) ?_
          exact ko_lv (by simp [crI, nI_succ, c_6, c_15]) (ih (i + 1) (by omega))
  refine ko_iconst (v := 0) dX2_creditors_0 (by decide) ?_
  refine ko_istore_n (i := 2) (lv' := [(0, _), (1, _), (2, _)]) dX2_creditors_1 rfl (by decide) rfl rfl rfl ?_
  refine ko_iconst (v := 0) dX2_creditors_2 (by decide) ?_
  refine ko_istore_n (i := 3) (lv' := [(0, _), (1, _), (2, _), (3, _)]) dX2_creditors_3 rfl (by decide) rfl rfl rfl ?_
  exact LOOP 5 0 rfl
set_option maxRecDepth 20000 in
theorem fn_reachedByDebts {G : kx_G} {d N a : Nat} {h : kx_H} {u : PU} {p : Int32} (hP : kP h a u) (hd : 3 ≤ d) : kx_Fn mX2_reachedByDebts d 0 0 G [.ref a, .int p] N h (some (.int (rbI u p 5)), N, h) := by
  refine kx_Fn_of rfl (Nat.le_of_ble_eq_true rfl) rfl ?_ (kx_self)
  obtain ⟨e0, e1, e2, e3, e4, e5⟩ := id hP
  have LOOP : ∀ (k i : Nat), k + i = 5 → kx_Ok mX2_reachedByDebts d 0 0 G 0 0 8 [(0, .ref a), (1, .int p), (2, .int (rbI u p i)), (3, .int (nI i))] [] N h (some (.int (rbI u p 5)), N, h) := by
    intro k
    induction k with
    | zero =>
      intro i hi
      obtain rfl : i = 5 := by omega
      refine ko_iload_n (i := 3) dX2_reachedByDebts_8 rfl rfl ?_
      refine ko_iconst (v := 5) dX2_reachedByDebts_9 (by decide) ?_
      refine ko_icmp_ge (tgt := 52) dX2_reachedByDebts_10 (by decide) (fun c_10 => ?_) (fun c_10 => ?_)
      · refine ko_iload_n (i := 2) dX2_reachedByDebts_52 rfl rfl ?_
        refine ko_iret dX2_reachedByDebts_53 rfl (Nat.le_of_ble_eq_true rfl) (Nat.le_of_ble_eq_true rfl) ?_
        rfl
      · exact absurd (show (5 : Int32) ≤ nI 5 by decide) c_10
    | succ k ih =>
      intro i hi
      have LIN : ∀ (k j : Nat), k + j = 5 → kx_Ok mX2_reachedByDebts d 0 0 G 0 0 16 [(0, .ref a), (1, .int p), (2, .int (rbJ u (rbI u p i) j)), (3, .int (nI i)), (4, .int (nI j))] [] N h (some (.int (rbI u p 5)), N, h) := by
        intro k
        induction k with
        | zero =>
          intro j hi
          obtain rfl : j = 5 := by omega
          refine ko_iload (i := 4) dX2_reachedByDebts_16 rfl ?_
          refine ko_iconst (v := 5) dX2_reachedByDebts_18 (by decide) ?_
          refine ko_icmp_ge (tgt := 46) dX2_reachedByDebts_19 (by decide) (fun c_19 => ?_) (fun c_19 => ?_)
          · refine ko_inc1 (i := 3) (lv' := [(0, _), (1, _), (2, _), (3, _), (4, _)]) dX2_reachedByDebts_46 rfl (by decide) rfl rfl rfl ?_
            refine ko_goto (tgt := 8) dX2_reachedByDebts_49 (by decide) ?_
            exact ko_keep [0, 1, 2, 3] (lv' := [(0, _), (1, _), (2, _), (3, _)]) rfl (ko_lv (by simp [rbI, nI_succ]) (ih (i + 1) (by omega)))
          · exact absurd (show (5 : Int32) ≤ nI 5 by decide) c_19
        | succ k ihj =>
          intro j hi
          refine ko_iload (i := 4) dX2_reachedByDebts_16 rfl ?_
          refine ko_iconst (v := 5) dX2_reachedByDebts_18 (by decide) ?_
          refine ko_icmp_ge (tgt := 46) dX2_reachedByDebts_19 (by decide) (fun c_19 => ?_) (fun c_19 => ?_)
          · exact absurd (show nI 5 ≤ nI j from c_19) (nI_ge (by omega) (by omega))
          · refine ko_iload_n (i := 2) dX2_reachedByDebts_22 rfl rfl ?_
            refine ko_iload (i := 4) dX2_reachedByDebts_23 rfl ?_
            refine ko_callSNr lk_X2_50 dX2_reachedByDebts_25 (fn_hasBit (d := d - 1)) rfl rfl (by omega) (by omega) (by omega) (Nat.le_of_ble_eq_true rfl) ?_
            first | refine ko_ifb_eq (tgt := 40) dX2_reachedByDebts_28 (by decide) (fun c_28 => ?_) (fun c_28 => ?_) | refine ko_if_eq (tgt := 40) dX2_reachedByDebts_28 (by decide) (fun c_28 => ?_) (fun c_28 => ?_)
            · refine ko_inc1 (i := 4) (lv' := [(0, _), (1, _), (2, _), (3, _), (4, _)]) dX2_reachedByDebts_40 rfl (by decide) rfl rfl rfl ?_
              refine ko_goto (tgt := 16) dX2_reachedByDebts_43 (by decide) ?_
              exact ko_lv (by simp [rbJ, nI_succ, c_19, c_28]) (ihj (j + 1) (by omega))
            · refine ko_iload_n (i := 2) dX2_reachedByDebts_31 rfl rfl ?_
              refine ko_aload_n (i := 0) dX2_reachedByDebts_32 rfl rfl ?_
              refine ko_iload (i := 4) dX2_reachedByDebts_33 rfl ?_
              refine ko_callVr lk_X2_77 dX2_reachedByDebts_35 (fn_creditors (d := d - 1) hP (by omega)) rfl rfl e0 rfl rfl (by omega) (by omega) (by omega) (Nat.le_of_ble_eq_true rfl) ?_
              refine ko_ior dX2_reachedByDebts_38 ?_
              refine ko_istore_n (i := 2) (lv' := [(0, _), (1, _), (2, _), (3, _), (4, _)]) dX2_reachedByDebts_39 rfl (by decide) rfl rfl rfl ?_
              refine ko_inc1 (i := 4) (lv' := [(0, _), (1, _), (2, _), (3, _), (4, _)]) dX2_reachedByDebts_40 rfl (by decide) rfl rfl rfl ?_
              refine ko_goto (tgt := 16) dX2_reachedByDebts_43 (by decide) ?_
              exact ko_lv (by simp [rbJ, nI_succ, c_19, c_28]) (ihj (j + 1) (by omega))
      refine ko_iload_n (i := 3) dX2_reachedByDebts_8 rfl rfl ?_
      refine ko_iconst (v := 5) dX2_reachedByDebts_9 (by decide) ?_
      refine ko_icmp_ge (tgt := 52) dX2_reachedByDebts_10 (by decide) (fun c_10 => ?_) (fun c_10 => ?_)
      · exact absurd (show nI 5 ≤ nI i from c_10) (nI_ge (by omega) (by omega))
      · refine ko_iconst (v := 0) dX2_reachedByDebts_13 (by decide) ?_
        refine ko_istore (i := 4) (lv' := [(0, _), (1, _), (2, _), (3, _), (4, _)]) dX2_reachedByDebts_14 (by decide) rfl rfl rfl ?_
        exact LIN 5 0 rfl
  refine ko_aload_n (i := 0) dX2_reachedByDebts_0 rfl rfl ?_
  refine ko_iload_n (i := 1) dX2_reachedByDebts_1 rfl rfl ?_
  refine ko_callVr lk_X2_77 dX2_reachedByDebts_2 (fn_creditors (d := d - 1) hP (by omega)) rfl rfl e0 rfl rfl (by omega) (by omega) (by omega) (Nat.le_of_ble_eq_true rfl) ?_
  refine ko_istore_n (i := 2) (lv' := [(0, _), (1, _), (2, _)]) dX2_reachedByDebts_5 rfl (by decide) rfl rfl rfl ?_
  refine ko_iconst (v := 0) dX2_reachedByDebts_6 (by decide) ?_
  refine ko_istore_n (i := 3) (lv' := [(0, _), (1, _), (2, _), (3, _)]) dX2_reachedByDebts_7 rfl (by decide) rfl rfl rfl ?_
  exact LOOP 5 0 rfl
end
section
/-! ===== People: what its methods change ===== -/
def mkU (u : PU) (p q : Int32) : PU := if hasI (pN u) p = true then if hasI (pN u) q = true then (u.1, u.2.1, u.2.2.1, upd (upd (pKn u) p.toNatClampNeg (pKn u p.toNatClampNeg ||| 1 <<< (q &&& 31))) q.toNatClampNeg ((upd (pKn u) p.toNatClampNeg (pKn u p.toNatClampNeg ||| 1 <<< (q &&& 31))) q.toNatClampNeg ||| 1 <<< (p &&& 31)), u.2.2.2.2) else u else u
set_option maxRecDepth 20000 in
theorem fn_makeKin {G : kx_G} {d N a : Nat} {h : kx_H} {u : PU} {p q : Int32} (hP : kP h a u) (hd : 1 ≤ d) : kx_Fn mX2_makeKin d 0 0 G [.ref a, .int p, .int q] N h (none, N, kp_put h a (mkU u p q)) := by
  refine kx_Fn_of rfl (Nat.le_of_ble_eq_true rfl) rfl ?_ (kp_dom hP)
  refine ko_h (kp_put_same hP).symm ?_
  refine ko_aload_n (i := 0) dX2_makeKin_0 rfl rfl ?_
  refine ko_iload_n (i := 1) dX2_makeKin_1 rfl rfl ?_
  refine ko_callVr lk_X2_54 dX2_makeKin_2 (fn_has (d := d - 1) (kp_put_P _ _ _)) rfl rfl (kp_put_P _ _ _).1 rfl rfl (by omega) (by omega) (by omega) (Nat.le_of_ble_eq_true rfl) ?_
  first | refine ko_ifb_eq (tgt := 40) dX2_makeKin_5 (by decide) (fun c_5 => ?_) (fun c_5 => ?_) | refine ko_if_eq (tgt := 40) dX2_makeKin_5 (by decide) (fun c_5 => ?_) (fun c_5 => ?_)
  · refine ko_vret dX2_makeKin_40 rfl (Nat.le_of_ble_eq_true rfl) (Nat.le_of_ble_eq_true rfl) ?_
    simp [mkU, c_5]
  · refine ko_aload_n (i := 0) dX2_makeKin_8 rfl rfl ?_
    refine ko_iload_n (i := 2) dX2_makeKin_9 rfl rfl ?_
    refine ko_callVr lk_X2_54 dX2_makeKin_10 (fn_has (d := d - 1) (kp_put_P _ _ _)) rfl rfl (kp_put_P _ _ _).1 rfl rfl (by omega) (by omega) (by omega) (Nat.le_of_ble_eq_true rfl) ?_
    first | refine ko_ifb_eq (tgt := 40) dX2_makeKin_13 (by decide) (fun c_13 => ?_) (fun c_13 => ?_) | refine ko_if_eq (tgt := 40) dX2_makeKin_13 (by decide) (fun c_13 => ?_) (fun c_13 => ?_)
    · refine ko_vret dX2_makeKin_40 rfl (Nat.le_of_ble_eq_true rfl) (Nat.le_of_ble_eq_true rfl) ?_
      simp [mkU, c_5, c_13]
    · refine ko_aload_n (i := 0) dX2_makeKin_16 rfl rfl ?_
      refine ko_get fl_X2_21 dX2_makeKin_17 (kp_put_P _ _ _).1 rfl ?_
      refine ko_iload_n (i := 1) dX2_makeKin_20 rfl rfl ?_
      refine ko_dup2 dX2_makeKin_21 rfl rfl ?_
      refine ko_iald dX2_makeKin_22 (kp_put_P _ _ _).2.2.2.2.1 (hasI_in c_5) ?_
      refine ko_iconst (v := 1) dX2_makeKin_23 (by decide) ?_
      refine ko_iload_n (i := 2) dX2_makeKin_24 rfl rfl ?_
      refine ko_ishl dX2_makeKin_25 ?_
      refine ko_ior dX2_makeKin_26 ?_
      refine ko_iast dX2_makeKin_27 (kp_put_P _ _ _).2.2.2.2.1 (hasI_in c_5) ?_
      refine ko_h kq_4 ?_
      refine ko_aload_n (i := 0) dX2_makeKin_28 rfl rfl ?_
      refine ko_get fl_X2_21 dX2_makeKin_29 (kp_put_P _ _ _).1 rfl ?_
      refine ko_iload_n (i := 2) dX2_makeKin_32 rfl rfl ?_
      refine ko_dup2 dX2_makeKin_33 rfl rfl ?_
      refine ko_iald dX2_makeKin_34 (kp_put_P _ _ _).2.2.2.2.1 (hasI_in c_13) ?_
      refine ko_iconst (v := 1) dX2_makeKin_35 (by decide) ?_
      refine ko_iload_n (i := 1) dX2_makeKin_36 rfl rfl ?_
      refine ko_ishl dX2_makeKin_37 ?_
      refine ko_ior dX2_makeKin_38 ?_
      refine ko_iast dX2_makeKin_39 (kp_put_P _ _ _).2.2.2.2.1 (hasI_in c_13) ?_
      refine ko_h kq_4 ?_
      refine ko_vret dX2_makeKin_40 rfl (Nat.le_of_ble_eq_true rfl) (Nat.le_of_ble_eq_true rfl) ?_
      simp [mkU, c_5, c_13]
def brU (u : PU) (p : Int32) : PU := if hasI (pN u) p = true then if hbI (pOp u) p = true then u else (upd (pSo u) p.toNatClampNeg 9, upd (pAg u) p.toNatClampNeg 0, u.2.2.1, u.2.2.2.1, u.2.2.2.2.1, u.2.2.2.2.2.1, pOp u ||| 1 <<< (p &&& 31), u.2.2.2.2.2.2.2) else u
set_option maxRecDepth 20000 in
theorem fn_bereave {G : kx_G} {d N a : Nat} {h : kx_H} {u : PU} {p : Int32} (hP : kP h a u) (hd : 2 ≤ d) : kx_Fn mX2_bereave d 0 0 G [.ref a, .int p] N h (none, N, kp_put h a (brU u p)) := by
  refine kx_Fn_of rfl (Nat.le_of_ble_eq_true rfl) rfl ?_ (kp_dom hP)
  refine ko_h (kp_put_same hP).symm ?_
  refine ko_aload_n (i := 0) dX2_bereave_0 rfl rfl ?_
  refine ko_iload_n (i := 1) dX2_bereave_1 rfl rfl ?_
  refine ko_callVr lk_X2_54 dX2_bereave_2 (fn_has (d := d - 1) (kp_put_P _ _ _)) rfl rfl (kp_put_P _ _ _).1 rfl rfl (by omega) (by omega) (by omega) (Nat.le_of_ble_eq_true rfl) ?_
  first | refine ko_ifb_eq (tgt := 43) dX2_bereave_5 (by decide) (fun c_5 => ?_) (fun c_5 => ?_) | refine ko_if_eq (tgt := 43) dX2_bereave_5 (by decide) (fun c_5 => ?_) (fun c_5 => ?_)
  · refine ko_vret dX2_bereave_43 rfl (Nat.le_of_ble_eq_true rfl) (Nat.le_of_ble_eq_true rfl) ?_
    simp [brU, c_5]
  · refine ko_aload_n (i := 0) dX2_bereave_8 rfl rfl ?_
    refine ko_iload_n (i := 1) dX2_bereave_9 rfl rfl ?_
    refine ko_callVr lk_X2_65 dX2_bereave_10 (fn_isOpen (d := d - 1) (kp_put_P _ _ _) (by omega)) rfl rfl (kp_put_P _ _ _).1 rfl rfl (by omega) (by omega) (by omega) (Nat.le_of_ble_eq_true rfl) ?_
    first | refine ko_ifb_ne (tgt := 43) dX2_bereave_13 (by decide) (fun c_13 => ?_) (fun c_13 => ?_) | refine ko_if_ne (tgt := 43) dX2_bereave_13 (by decide) (fun c_13 => ?_) (fun c_13 => ?_)
    · refine ko_vret dX2_bereave_43 rfl (Nat.le_of_ble_eq_true rfl) (Nat.le_of_ble_eq_true rfl) ?_
      simp [brU, c_5, c_13]
    · refine ko_aload_n (i := 0) dX2_bereave_16 rfl rfl ?_
      refine ko_get fl_X2_9 dX2_bereave_17 (kp_put_P _ _ _).1 rfl ?_
      refine ko_iload_n (i := 1) dX2_bereave_20 rfl rfl ?_
      refine ko_bipush (v := 9) dX2_bereave_21 (by decide) ?_
      first | refine ko_iast dX2_bereave_23 (kp_put_P _ _ _).2.1 (hasI_in c_5) ?_ | refine ko_iast dX2_bereave_23 (kp_put_P _ _ _).2.2.1 (hasI_in c_5) ?_
      refine ko_h kq_1 ?_
      refine ko_aload_n (i := 0) dX2_bereave_24 rfl rfl ?_
      refine ko_get fl_X2_15 dX2_bereave_25 (kp_put_P _ _ _).1 rfl ?_
      refine ko_iload_n (i := 1) dX2_bereave_28 rfl rfl ?_
      refine ko_iconst (v := 0) dX2_bereave_29 (by decide) ?_
      first | refine ko_iast dX2_bereave_30 (kp_put_P _ _ _).2.1 (hasI_in c_5) ?_ | refine ko_iast dX2_bereave_30 (kp_put_P _ _ _).2.2.1 (hasI_in c_5) ?_
      refine ko_h kq_2 ?_
      refine ko_aload_n (i := 0) dX2_bereave_31 rfl rfl ?_
      refine ko_dup dX2_bereave_32 rfl ?_
      refine ko_get fl_X2_37 dX2_bereave_33 (kp_put_P _ _ _).1 rfl ?_
      refine ko_iconst (v := 1) dX2_bereave_36 (by decide) ?_
      refine ko_iload_n (i := 1) dX2_bereave_37 rfl rfl ?_
      refine ko_ishl dX2_bereave_38 ?_
      refine ko_ior dX2_bereave_39 ?_
      refine ko_put fl_X2_37 dX2_bereave_40 (kp_put_P _ _ _).1 rfl rfl (Nat.le_of_ble_eq_true rfl) ?_
      refine ko_h kq_op ?_
      refine ko_vret dX2_bereave_43 rfl (Nat.le_of_ble_eq_true rfl) (Nat.le_of_ble_eq_true rfl) ?_
      simp [brU, c_5, c_13]
def stV (v : PU) (p q : Int32) : PU := (v.1, v.2.1, v.2.2.1, v.2.2.2.1, upd (pOw v) (q * 5 + p).toNatClampNeg (pOw v (q * 5 + p).toNatClampNeg + 1), v.2.2.2.2.2.1, pOp v &&& (1 <<< (q &&& 31) ^^^ (-1)), v.2.2.2.2.2.2.2)
def stU (u : PU) (p q : Int32) : PU := if hasI (pN u) p = true then if hasI (pN u) q = true then stV (mkU u p q) p q else u else u
set_option maxRecDepth 20000 in
theorem fn_settle {G : kx_G} {d N a : Nat} {h : kx_H} {u : PU} {p q : Int32} (hP : kP h a u) (hd : 2 ≤ d) : kx_Fn mX2_settle d 0 0 G [.ref a, .int p, .int q] N h (none, N, kp_put h a (stU u p q)) := by
  refine kx_Fn_of rfl (Nat.le_of_ble_eq_true rfl) rfl ?_ (kp_dom hP)
  refine ko_h (kp_put_same hP).symm ?_
  refine ko_aload_n (i := 0) dX2_settle_0 rfl rfl ?_
  refine ko_iload_n (i := 1) dX2_settle_1 rfl rfl ?_
  refine ko_callVr lk_X2_54 dX2_settle_2 (fn_has (d := d - 1) (kp_put_P _ _ _)) rfl rfl (kp_put_P _ _ _).1 rfl rfl (by omega) (by omega) (by omega) (Nat.le_of_ble_eq_true rfl) ?_
  first | refine ko_ifb_eq (tgt := 50) dX2_settle_5 (by decide) (fun c_5 => ?_) (fun c_5 => ?_) | refine ko_if_eq (tgt := 50) dX2_settle_5 (by decide) (fun c_5 => ?_) (fun c_5 => ?_)
  · refine ko_vret dX2_settle_50 rfl (Nat.le_of_ble_eq_true rfl) (Nat.le_of_ble_eq_true rfl) ?_
    simp [stU, stV, c_5]
  · refine ko_aload_n (i := 0) dX2_settle_8 rfl rfl ?_
    refine ko_iload_n (i := 2) dX2_settle_9 rfl rfl ?_
    refine ko_callVr lk_X2_54 dX2_settle_10 (fn_has (d := d - 1) (kp_put_P _ _ _)) rfl rfl (kp_put_P _ _ _).1 rfl rfl (by omega) (by omega) (by omega) (Nat.le_of_ble_eq_true rfl) ?_
    first | refine ko_ifb_eq (tgt := 50) dX2_settle_13 (by decide) (fun c_13 => ?_) (fun c_13 => ?_) | refine ko_if_eq (tgt := 50) dX2_settle_13 (by decide) (fun c_13 => ?_) (fun c_13 => ?_)
    · refine ko_vret dX2_settle_50 rfl (Nat.le_of_ble_eq_true rfl) (Nat.le_of_ble_eq_true rfl) ?_
      simp [stU, stV, c_5, c_13]
    · refine ko_aload_n (i := 0) dX2_settle_16 rfl rfl ?_
      refine ko_iload_n (i := 1) dX2_settle_17 rfl rfl ?_
      refine ko_iload_n (i := 2) dX2_settle_18 rfl rfl ?_
      refine ko_callVv lk_X2_91 dX2_settle_19 (fn_makeKin (d := d - 1) (kp_put_P _ _ _) (by omega)) rfl rfl (kp_put_P _ _ _).1 rfl rfl (by omega) (by omega) (by omega) (Nat.le_of_ble_eq_true rfl) ?_
      rw [kp_put_put]
      refine ko_aload_n (i := 0) dX2_settle_22 rfl rfl ?_
      refine ko_get fl_X2_24 dX2_settle_23 (kp_put_P _ _ _).1 rfl ?_
      refine ko_iload_n (i := 2) dX2_settle_26 rfl rfl ?_
      refine ko_iconst (v := 5) dX2_settle_27 (by decide) ?_
      refine ko_imul dX2_settle_28 ?_
      refine ko_iload_n (i := 1) dX2_settle_29 rfl rfl ?_
      refine ko_iadd dX2_settle_30 ?_
      refine ko_dup2 dX2_settle_31 rfl rfl ?_
      refine ko_iald dX2_settle_32 (kp_put_P _ _ _).2.2.2.2.2 (in25 c_13 c_5).1 ?_
      refine ko_iconst (v := 1) dX2_settle_33 (by decide) ?_
      refine ko_iadd dX2_settle_34 ?_
      refine ko_iast dX2_settle_35 (kp_put_P _ _ _).2.2.2.2.2 (in25 c_13 c_5).1 ?_
      refine ko_h kq_5 ?_
      refine ko_aload_n (i := 0) dX2_settle_36 rfl rfl ?_
      refine ko_dup dX2_settle_37 rfl ?_
      refine ko_get fl_X2_37 dX2_settle_38 (kp_put_P _ _ _).1 rfl ?_
      refine ko_iconst (v := 1) dX2_settle_41 (by decide) ?_
      refine ko_iload_n (i := 2) dX2_settle_42 rfl rfl ?_
      refine ko_ishl dX2_settle_43 ?_
      refine ko_iconst (v := (-1)) dX2_settle_44 (by decide) ?_
      refine ko_ixor dX2_settle_45 ?_
      refine ko_iand dX2_settle_46 ?_
      refine ko_put fl_X2_37 dX2_settle_47 (kp_put_P _ _ _).1 rfl rfl (Nat.le_of_ble_eq_true rfl) ?_
      refine ko_h kq_op ?_
      refine ko_vret dX2_settle_50 rfl (Nat.le_of_ble_eq_true rfl) (Nat.le_of_ble_eq_true rfl) ?_
      simp [stU, stV, c_5, c_13]
def wfU (u : PU) (p q : Int32) : PU := if hasI (pN u) p = true then if mayI u p q = true then stU (upd (pSo u) p.toNatClampNeg (pSo u p.toNatClampNeg - ozI u p), u.2) p q else u else u
def wfI (u : PU) (p q : Int32) : Int32 := if hasI (pN u) p = true then if mayI u p q = true then ozI u p else 0 else 0
set_option maxRecDepth 20000 in
theorem fn_weepFor {G : kx_G} {d N a : Nat} {h : kx_H} {u : PU} {p q : Int32} (hP : kP h a u) (hd : 4 ≤ d) : kx_Fn mX2_weepFor d 0 0 G [.ref a, .int p, .int q] N h (some (.int (wfI u p q)), N, kp_put h a (wfU u p q)) := by
  refine kx_Fn_of rfl (Nat.le_of_ble_eq_true rfl) rfl ?_ (kp_dom hP)
  refine ko_h (kp_put_same hP).symm ?_
  refine ko_aload_n (i := 0) dX2_weepFor_0 rfl rfl ?_
  refine ko_iload_n (i := 1) dX2_weepFor_1 rfl rfl ?_
  refine ko_callVr lk_X2_54 dX2_weepFor_2 (fn_has (d := d - 1) (kp_put_P _ _ _)) rfl rfl (kp_put_P _ _ _).1 rfl rfl (by omega) (by omega) (by omega) (Nat.le_of_ble_eq_true rfl) ?_
  first | refine ko_ifb_eq (tgt := 17) dX2_weepFor_5 (by decide) (fun c_5 => ?_) (fun c_5 => ?_) | refine ko_if_eq (tgt := 17) dX2_weepFor_5 (by decide) (fun c_5 => ?_) (fun c_5 => ?_)
  · refine ko_iconst (v := 0) dX2_weepFor_17 (by decide) ?_
    refine ko_iret dX2_weepFor_18 rfl (Nat.le_of_ble_eq_true rfl) (Nat.le_of_ble_eq_true rfl) ?_
    simp [wfU, wfI, c_5]
  · refine ko_aload_n (i := 0) dX2_weepFor_8 rfl rfl ?_
    refine ko_iload_n (i := 1) dX2_weepFor_9 rfl rfl ?_
    refine ko_iload_n (i := 2) dX2_weepFor_10 rfl rfl ?_
    refine ko_callVr lk_X2_71 dX2_weepFor_11 (fn_mayWeep (d := d - 1) (kp_put_P _ _ _) (by omega)) rfl rfl (kp_put_P _ _ _).1 rfl rfl (by omega) (by omega) (by omega) (Nat.le_of_ble_eq_true rfl) ?_
    first | refine ko_ifb_ne (tgt := 19) dX2_weepFor_14 (by decide) (fun c_14 => ?_) (fun c_14 => ?_) | refine ko_if_ne (tgt := 19) dX2_weepFor_14 (by decide) (fun c_14 => ?_) (fun c_14 => ?_)
    · refine ko_aload_n (i := 0) dX2_weepFor_19 rfl rfl ?_
      refine ko_iload_n (i := 1) dX2_weepFor_20 rfl rfl ?_
      refine ko_callVr lk_X2_58 dX2_weepFor_21 (fn_ounces (d := d - 1) (kp_put_P _ _ _) (by omega)) rfl rfl (kp_put_P _ _ _).1 rfl rfl (by omega) (by omega) (by omega) (Nat.le_of_ble_eq_true rfl) ?_
      refine ko_istore_n (i := 3) (lv' := [(0, _), (1, _), (2, _), (3, _)]) dX2_weepFor_24 rfl (by decide) rfl rfl rfl ?_
      refine ko_aload_n (i := 0) dX2_weepFor_25 rfl rfl ?_
      refine ko_get fl_X2_9 dX2_weepFor_26 (kp_put_P _ _ _).1 rfl ?_
      refine ko_iload_n (i := 1) dX2_weepFor_29 rfl rfl ?_
      refine ko_dup2 dX2_weepFor_30 rfl rfl ?_
      refine ko_iald dX2_weepFor_31 (kp_put_P _ _ _).2.1 (hasI_in c_5) ?_
      refine ko_iload_n (i := 3) dX2_weepFor_32 rfl rfl ?_
      refine ko_isub dX2_weepFor_33 ?_
      refine ko_iast dX2_weepFor_34 (kp_put_P _ _ _).2.1 (hasI_in c_5) ?_
      refine ko_h kq_1 ?_
      refine ko_aload_n (i := 0) dX2_weepFor_35 rfl rfl ?_
      refine ko_iload_n (i := 1) dX2_weepFor_36 rfl rfl ?_
      refine ko_iload_n (i := 2) dX2_weepFor_37 rfl rfl ?_
      refine ko_callVv lk_X2_84 dX2_weepFor_38 (fn_settle (d := d - 1) (kp_put_P _ _ _) (by omega)) rfl rfl (kp_put_P _ _ _).1 rfl rfl (by omega) (by omega) (by omega) (Nat.le_of_ble_eq_true rfl) ?_
      rw [kp_put_put]
      refine ko_iload_n (i := 3) dX2_weepFor_41 rfl rfl ?_
      refine ko_iret dX2_weepFor_42 rfl (Nat.le_of_ble_eq_true rfl) (Nat.le_of_ble_eq_true rfl) ?_
      simp [wfU, wfI, c_5, c_14]
    · refine ko_iconst (v := 0) dX2_weepFor_17 (by decide) ?_
      refine ko_iret dX2_weepFor_18 rfl (Nat.le_of_ble_eq_true rfl) (Nat.le_of_ble_eq_true rfl) ?_
      simp [wfU, wfI, c_5, c_14]
def onU (u : PU) (p q : Int32) : PU := if onyI u p q = true then stU (u.1, u.2.1, u.2.2.1, u.2.2.2.1, u.2.2.2.2.1, u.2.2.2.2.2.1, u.2.2.2.2.2.2.1, pOn u ||| 1 <<< (p &&& 31), u.2.2.2.2.2.2.2.2) p q else u
set_option maxRecDepth 20000 in
theorem fn_useOnions {G : kx_G} {d N a : Nat} {h : kx_H} {u : PU} {p q : Int32} (hP : kP h a u) (hd : 3 ≤ d) : kx_Fn mX2_useOnions d 0 0 G [.ref a, .int p, .int q] N h (none, N, kp_put h a (onU u p q)) := by
  refine kx_Fn_of rfl (Nat.le_of_ble_eq_true rfl) rfl ?_ (kp_dom hP)
  refine ko_h (kp_put_same hP).symm ?_
  refine ko_aload_n (i := 0) dX2_useOnions_0 rfl rfl ?_
  refine ko_iload_n (i := 1) dX2_useOnions_1 rfl rfl ?_
  refine ko_iload_n (i := 2) dX2_useOnions_2 rfl rfl ?_
  refine ko_callVr lk_X2_88 dX2_useOnions_3 (fn_mayUseOnions (d := d - 1) (kp_put_P _ _ _) (by omega)) rfl rfl (kp_put_P _ _ _).1 rfl rfl (by omega) (by omega) (by omega) (Nat.le_of_ble_eq_true rfl) ?_
  first | refine ko_ifb_eq (tgt := 27) dX2_useOnions_6 (by decide) (fun c_6 => ?_) (fun c_6 => ?_) | refine ko_if_eq (tgt := 27) dX2_useOnions_6 (by decide) (fun c_6 => ?_) (fun c_6 => ?_)
  · refine ko_vret dX2_useOnions_27 rfl (Nat.le_of_ble_eq_true rfl) (Nat.le_of_ble_eq_true rfl) ?_
    simp [onU, c_6]
  · refine ko_aload_n (i := 0) dX2_useOnions_9 rfl rfl ?_
    refine ko_dup dX2_useOnions_10 rfl ?_
    refine ko_get fl_X2_40 dX2_useOnions_11 (kp_put_P _ _ _).1 rfl ?_
    refine ko_iconst (v := 1) dX2_useOnions_14 (by decide) ?_
    refine ko_iload_n (i := 1) dX2_useOnions_15 rfl rfl ?_
    refine ko_ishl dX2_useOnions_16 ?_
    refine ko_ior dX2_useOnions_17 ?_
    refine ko_put fl_X2_40 dX2_useOnions_18 (kp_put_P _ _ _).1 rfl rfl (Nat.le_of_ble_eq_true rfl) ?_
    refine ko_h kq_on ?_
    refine ko_aload_n (i := 0) dX2_useOnions_21 rfl rfl ?_
    refine ko_iload_n (i := 1) dX2_useOnions_22 rfl rfl ?_
    refine ko_iload_n (i := 2) dX2_useOnions_23 rfl rfl ?_
    refine ko_callVv lk_X2_84 dX2_useOnions_24 (fn_settle (d := d - 1) (kp_put_P _ _ _) (by omega)) rfl rfl (kp_put_P _ _ _).1 rfl rfl (by omega) (by omega) (by omega) (Nat.le_of_ble_eq_true rfl) ?_
    rw [kp_put_put]
    refine ko_vret dX2_useOnions_27 rfl (Nat.le_of_ble_eq_true rfl) (Nat.le_of_ble_eq_true rfl) ?_
    simp [onU, c_6]
def adU (u : PU) (s g k : Int32) : PU := if pN u < 0 then u else if 5 ≤ pN u then u else (upd (pSo u) (pN u).toNatClampNeg s, upd (pAg u) (pN u).toNatClampNeg g, upd (pKd u) (pN u).toNatClampNeg k, u.2.2.2.1, u.2.2.2.2.1, pN u + 1, u.2.2.2.2.2.2)
set_option maxRecDepth 20000 in
theorem fn_add {G : kx_G} {d N a : Nat} {h : kx_H} {u : PU} {s g k : Int32} (hP : kP h a u) : kx_Fn mX2_add d 0 0 G [.ref a, .int s, .int g, .int k] N h (none, N, kp_put h a (adU u s g k)) := by
  refine kx_Fn_of rfl (Nat.le_of_ble_eq_true rfl) rfl ?_ (kp_dom hP)
  refine ko_h (kp_put_same hP).symm ?_
  refine ko_aload_n (i := 0) dX2_add_0 rfl rfl ?_
  refine ko_get fl_X2_33 dX2_add_1 (kp_put_P _ _ _).1 rfl ?_
  refine ko_if_lt (tgt := 55) dX2_add_4 (by decide) (fun c_4 => ?_) (fun c_4 => ?_)
  · refine ko_vret dX2_add_55 rfl (Nat.le_of_ble_eq_true rfl) (Nat.le_of_ble_eq_true rfl) ?_
    simp [adU, c_4]
  · refine ko_aload_n (i := 0) dX2_add_7 rfl rfl ?_
    refine ko_get fl_X2_33 dX2_add_8 (kp_put_P _ _ _).1 rfl ?_
    refine ko_iconst (v := 5) dX2_add_11 (by decide) ?_
    refine ko_icmp_ge (tgt := 55) dX2_add_12 (by decide) (fun c_12 => ?_) (fun c_12 => ?_)
    · refine ko_vret dX2_add_55 rfl (Nat.le_of_ble_eq_true rfl) (Nat.le_of_ble_eq_true rfl) ?_
      simp [adU, c_4, c_12]
    · refine ko_aload_n (i := 0) dX2_add_15 rfl rfl ?_
      refine ko_get fl_X2_9 dX2_add_16 (kp_put_P _ _ _).1 rfl ?_
      refine ko_aload_n (i := 0) dX2_add_19 rfl rfl ?_
      refine ko_get fl_X2_33 dX2_add_20 (kp_put_P _ _ _).1 rfl ?_
      refine ko_iload_n (i := 1) dX2_add_23 rfl rfl ?_
      first | refine ko_iast dX2_add_24 (kp_put_P _ _ _).2.1 (in5 c_4 c_12) ?_ | refine ko_iast dX2_add_24 (kp_put_P _ _ _).2.2.1 (in5 c_4 c_12) ?_ | refine ko_iast dX2_add_24 (kp_put_P _ _ _).2.2.2.1 (in5 c_4 c_12) ?_ | refine ko_iast dX2_add_24 (kp_put_P _ _ _).2.2.2.2.1 (in5 c_4 c_12) ?_ | refine ko_iast dX2_add_24 (kp_put_P _ _ _).2.2.2.2.2 (in5 c_4 c_12) ?_
      refine ko_h kq_1 ?_
      refine ko_aload_n (i := 0) dX2_add_25 rfl rfl ?_
      refine ko_get fl_X2_15 dX2_add_26 (kp_put_P _ _ _).1 rfl ?_
      refine ko_aload_n (i := 0) dX2_add_29 rfl rfl ?_
      refine ko_get fl_X2_33 dX2_add_30 (kp_put_P _ _ _).1 rfl ?_
      refine ko_iload_n (i := 2) dX2_add_33 rfl rfl ?_
      first | refine ko_iast dX2_add_34 (kp_put_P _ _ _).2.1 (in5 c_4 c_12) ?_ | refine ko_iast dX2_add_34 (kp_put_P _ _ _).2.2.1 (in5 c_4 c_12) ?_ | refine ko_iast dX2_add_34 (kp_put_P _ _ _).2.2.2.1 (in5 c_4 c_12) ?_ | refine ko_iast dX2_add_34 (kp_put_P _ _ _).2.2.2.2.1 (in5 c_4 c_12) ?_ | refine ko_iast dX2_add_34 (kp_put_P _ _ _).2.2.2.2.2 (in5 c_4 c_12) ?_
      refine ko_h kq_2 ?_
      refine ko_aload_n (i := 0) dX2_add_35 rfl rfl ?_
      refine ko_get fl_X2_18 dX2_add_36 (kp_put_P _ _ _).1 rfl ?_
      refine ko_aload_n (i := 0) dX2_add_39 rfl rfl ?_
      refine ko_get fl_X2_33 dX2_add_40 (kp_put_P _ _ _).1 rfl ?_
      refine ko_iload_n (i := 3) dX2_add_43 rfl rfl ?_
      first | refine ko_iast dX2_add_44 (kp_put_P _ _ _).2.1 (in5 c_4 c_12) ?_ | refine ko_iast dX2_add_44 (kp_put_P _ _ _).2.2.1 (in5 c_4 c_12) ?_ | refine ko_iast dX2_add_44 (kp_put_P _ _ _).2.2.2.1 (in5 c_4 c_12) ?_ | refine ko_iast dX2_add_44 (kp_put_P _ _ _).2.2.2.2.1 (in5 c_4 c_12) ?_ | refine ko_iast dX2_add_44 (kp_put_P _ _ _).2.2.2.2.2 (in5 c_4 c_12) ?_
      refine ko_h kq_3 ?_
      refine ko_aload_n (i := 0) dX2_add_45 rfl rfl ?_
      refine ko_dup dX2_add_46 rfl ?_
      refine ko_get fl_X2_33 dX2_add_47 (kp_put_P _ _ _).1 rfl ?_
      refine ko_iconst (v := 1) dX2_add_50 (by decide) ?_
      refine ko_iadd dX2_add_51 ?_
      refine ko_put fl_X2_33 dX2_add_52 (kp_put_P _ _ _).1 rfl rfl (Nat.le_of_ble_eq_true rfl) ?_
      refine ko_h kq_n ?_
      refine ko_vret dX2_add_55 rfl (Nat.le_of_ble_eq_true rfl) (Nat.le_of_ble_eq_true rfl) ?_
      simp [adU, c_4, c_12]
theorem kp_put_other {h : kx_H} {a b : Nat} {u v : PU} (hQ : kP h b v) (hab : a + 5 < b ∨ b + 5 < a) : kP (kp_put h a u) b v := by
  obtain ⟨e0, e1, e2, e3, e4, e5⟩ := hQ
  exact ⟨by rw [kp_put_out (by omega)]; exact e0, by rw [kp_put_out (by omega)]; exact e1, by rw [kp_put_out (by omega)]; exact e2, by rw [kp_put_out (by omega)]; exact e3, by rw [kp_put_out (by omega)]; exact e4, by rw [kp_put_out (by omega)]; exact e5⟩
set_option maxRecDepth 20000 in
theorem fn_copyFrom {G : kx_G} {d N a b : Nat} {h : kx_H} {u v : PU} (hP : kP h a u) (hQ : kP h b v) (hab : a + 5 < b ∨ b + 5 < a) (hd : 1 ≤ d) : kx_Fn mX2_copyFrom d 0 0 G [.ref a, .ref b] N h (none, N, kp_put h a v) := by
  refine kx_Fn_of rfl (Nat.le_of_ble_eq_true rfl) rfl ?_ (kp_dom hP)
  refine ko_h (kp_put_same hP).symm ?_
  have hQ1 : ∀ x, kP (kp_put h a x) b v := fun x => kp_put_other hQ hab
  refine ko_aload_n (i := 1) dX2_copyFrom_0 rfl rfl ?_
  first | refine ko_get fl_X2_9 dX2_copyFrom_1 (kp_put_P _ _ _).1 rfl ?_ | refine ko_get fl_X2_9 dX2_copyFrom_1 (hQ1 _).1 rfl ?_
  refine ko_iconst (v := 0) dX2_copyFrom_4 (by decide) ?_
  refine ko_aload_n (i := 0) dX2_copyFrom_5 rfl rfl ?_
  first | refine ko_get fl_X2_9 dX2_copyFrom_6 (kp_put_P _ _ _).1 rfl ?_ | refine ko_get fl_X2_9 dX2_copyFrom_6 (hQ1 _).1 rfl ?_
  refine ko_iconst (v := 0) dX2_copyFrom_9 (by decide) ?_
  refine ko_iconst (v := 5) dX2_copyFrom_10 (by decide) ?_
  refine ko_copy (L := 5) wx_X2_27 dX2_copyFrom_11 (hQ1 _).2.1 (kp_put_P _ _ _).2.1 (by decide) rfl (by omega) (Nat.le_of_ble_eq_true rfl) ?_
  refine ko_h kq_1 ?_
  refine ko_aload_n (i := 1) dX2_copyFrom_14 rfl rfl ?_
  first | refine ko_get fl_X2_15 dX2_copyFrom_15 (kp_put_P _ _ _).1 rfl ?_ | refine ko_get fl_X2_15 dX2_copyFrom_15 (hQ1 _).1 rfl ?_
  refine ko_iconst (v := 0) dX2_copyFrom_18 (by decide) ?_
  refine ko_aload_n (i := 0) dX2_copyFrom_19 rfl rfl ?_
  first | refine ko_get fl_X2_15 dX2_copyFrom_20 (kp_put_P _ _ _).1 rfl ?_ | refine ko_get fl_X2_15 dX2_copyFrom_20 (hQ1 _).1 rfl ?_
  refine ko_iconst (v := 0) dX2_copyFrom_23 (by decide) ?_
  refine ko_iconst (v := 5) dX2_copyFrom_24 (by decide) ?_
  refine ko_copy (L := 5) wx_X2_27 dX2_copyFrom_25 (hQ1 _).2.2.1 (kp_put_P _ _ _).2.2.1 (by decide) rfl (by omega) (Nat.le_of_ble_eq_true rfl) ?_
  refine ko_h kq_2 ?_
  refine ko_aload_n (i := 1) dX2_copyFrom_28 rfl rfl ?_
  first | refine ko_get fl_X2_18 dX2_copyFrom_29 (kp_put_P _ _ _).1 rfl ?_ | refine ko_get fl_X2_18 dX2_copyFrom_29 (hQ1 _).1 rfl ?_
  refine ko_iconst (v := 0) dX2_copyFrom_32 (by decide) ?_
  refine ko_aload_n (i := 0) dX2_copyFrom_33 rfl rfl ?_
  first | refine ko_get fl_X2_18 dX2_copyFrom_34 (kp_put_P _ _ _).1 rfl ?_ | refine ko_get fl_X2_18 dX2_copyFrom_34 (hQ1 _).1 rfl ?_
  refine ko_iconst (v := 0) dX2_copyFrom_37 (by decide) ?_
  refine ko_iconst (v := 5) dX2_copyFrom_38 (by decide) ?_
  refine ko_copy (L := 5) wx_X2_27 dX2_copyFrom_39 (hQ1 _).2.2.2.1 (kp_put_P _ _ _).2.2.2.1 (by decide) rfl (by omega) (Nat.le_of_ble_eq_true rfl) ?_
  refine ko_h kq_3 ?_
  refine ko_aload_n (i := 1) dX2_copyFrom_42 rfl rfl ?_
  first | refine ko_get fl_X2_21 dX2_copyFrom_43 (kp_put_P _ _ _).1 rfl ?_ | refine ko_get fl_X2_21 dX2_copyFrom_43 (hQ1 _).1 rfl ?_
  refine ko_iconst (v := 0) dX2_copyFrom_46 (by decide) ?_
  refine ko_aload_n (i := 0) dX2_copyFrom_47 rfl rfl ?_
  first | refine ko_get fl_X2_21 dX2_copyFrom_48 (kp_put_P _ _ _).1 rfl ?_ | refine ko_get fl_X2_21 dX2_copyFrom_48 (hQ1 _).1 rfl ?_
  refine ko_iconst (v := 0) dX2_copyFrom_51 (by decide) ?_
  refine ko_iconst (v := 5) dX2_copyFrom_52 (by decide) ?_
  refine ko_copy (L := 5) wx_X2_27 dX2_copyFrom_53 (hQ1 _).2.2.2.2.1 (kp_put_P _ _ _).2.2.2.2.1 (by decide) rfl (by omega) (Nat.le_of_ble_eq_true rfl) ?_
  refine ko_h kq_4 ?_
  refine ko_aload_n (i := 1) dX2_copyFrom_56 rfl rfl ?_
  first | refine ko_get fl_X2_24 dX2_copyFrom_57 (kp_put_P _ _ _).1 rfl ?_ | refine ko_get fl_X2_24 dX2_copyFrom_57 (hQ1 _).1 rfl ?_
  refine ko_iconst (v := 0) dX2_copyFrom_60 (by decide) ?_
  refine ko_aload_n (i := 0) dX2_copyFrom_61 rfl rfl ?_
  first | refine ko_get fl_X2_24 dX2_copyFrom_62 (kp_put_P _ _ _).1 rfl ?_ | refine ko_get fl_X2_24 dX2_copyFrom_62 (hQ1 _).1 rfl ?_
  refine ko_iconst (v := 0) dX2_copyFrom_65 (by decide) ?_
  refine ko_bipush (v := 25) dX2_copyFrom_66 (by decide) ?_
  refine ko_copy (L := 25) wx_X2_27 dX2_copyFrom_68 (hQ1 _).2.2.2.2.2 (kp_put_P _ _ _).2.2.2.2.2 (by decide) rfl (by omega) (Nat.le_of_ble_eq_true rfl) ?_
  refine ko_h kq_5 ?_
  refine ko_aload_n (i := 0) dX2_copyFrom_71 rfl rfl ?_
  refine ko_aload_n (i := 1) dX2_copyFrom_72 rfl rfl ?_
  first | refine ko_get fl_X2_33 dX2_copyFrom_73 (kp_put_P _ _ _).1 rfl ?_ | refine ko_get fl_X2_33 dX2_copyFrom_73 (hQ1 _).1 rfl ?_
  refine ko_put fl_X2_33 dX2_copyFrom_76 (kp_put_P _ _ _).1 rfl rfl (Nat.le_of_ble_eq_true rfl) ?_
  refine ko_h kq_n ?_
  refine ko_aload_n (i := 0) dX2_copyFrom_79 rfl rfl ?_
  refine ko_aload_n (i := 1) dX2_copyFrom_80 rfl rfl ?_
  first | refine ko_get fl_X2_37 dX2_copyFrom_81 (kp_put_P _ _ _).1 rfl ?_ | refine ko_get fl_X2_37 dX2_copyFrom_81 (hQ1 _).1 rfl ?_
  refine ko_put fl_X2_37 dX2_copyFrom_84 (kp_put_P _ _ _).1 rfl rfl (Nat.le_of_ble_eq_true rfl) ?_
  refine ko_h kq_op ?_
  refine ko_aload_n (i := 0) dX2_copyFrom_87 rfl rfl ?_
  refine ko_aload_n (i := 1) dX2_copyFrom_88 rfl rfl ?_
  first | refine ko_get fl_X2_40 dX2_copyFrom_89 (kp_put_P _ _ _).1 rfl ?_ | refine ko_get fl_X2_40 dX2_copyFrom_89 (hQ1 _).1 rfl ?_
  refine ko_put fl_X2_40 dX2_copyFrom_92 (kp_put_P _ _ _).1 rfl rfl (Nat.le_of_ble_eq_true rfl) ?_
  refine ko_h kq_on ?_
  refine ko_aload_n (i := 0) dX2_copyFrom_95 rfl rfl ?_
  refine ko_aload_n (i := 1) dX2_copyFrom_96 rfl rfl ?_
  first | refine ko_get fl_X2_43 dX2_copyFrom_97 (kp_put_P _ _ _).1 rfl ?_ | refine ko_get fl_X2_43 dX2_copyFrom_97 (hQ1 _).1 rfl ?_
  refine ko_put fl_X2_43 dX2_copyFrom_100 (kp_put_P _ _ _).1 rfl rfl (Nat.le_of_ble_eq_true rfl) ?_
  refine ko_h kq_wk ?_
  refine ko_vret dX2_copyFrom_103 rfl (Nat.le_of_ble_eq_true rfl) (Nat.le_of_ble_eq_true rfl) ?_
  rfl
def wkA (x : Int32) : Int32 := if x + 1 < 99 then x + 1 else 99
def wkS (g s : Int32) : Int32 := if g < 3 then s else if 0 < s - 1 then s - 1 else 0
def wkU (u : PU) (i : Nat) : PU := (upd (pSo u) i (wkS (wkA (pAg u i)) (pSo u i)), upd (pAg u) i (wkA (pAg u i)), u.2.2)
def wkN (u : PU) : Nat → PU
  | 0 => u
  | i + 1 => wkU (wkN u i) i
theorem wkN_2 (u : PU) : ∀ i, (wkN u i).2.2 = u.2.2
  | 0 => rfl
  | i + 1 => wkN_2 u i
def pwU (u : PU) (m : Nat) : PU := ((wkN u m).1, (wkN u m).2.1, (wkN u m).2.2.1, (wkN u m).2.2.2.1, (wkN u m).2.2.2.2.1, (wkN u m).2.2.2.2.2.1, (wkN u m).2.2.2.2.2.2.1, (wkN u m).2.2.2.2.2.2.2.1, pWk (wkN u m) + 1)
theorem upd_same (f : Nat → Int32) (i : Nat) : upd f i (f i) = f := by
  funext j
  unfold upd
  by_cases hj : j = i
  · rw [if_pos hj, hj]
  · rw [if_neg hj]
theorem upd_at (f : Nat → Int32) (i : Nat) (x : Int32) : upd f i x i = x := if_pos rfl
set_option maxRecDepth 20000 in
theorem fn_passWeek {G : kx_G} {d N a : Nat} {h : kx_H} {u : PU} {m : Nat} (hP : kP h a u) (hn : pN u = nI m) (hm : m ≤ 5) (hd : 1 ≤ d) : kx_Fn mX2_passWeek d 0 0 G [.ref a] N h (none, N, kp_put h a (pwU u m)) := by
  refine kx_Fn_of rfl (Nat.le_of_ble_eq_true rfl) rfl ?_ (kp_dom hP)
  refine ko_h (kp_put_same hP).symm ?_
  have hn2 : ∀ i, pN (wkN u i) = nI m := fun i => (congrArg (fun x => x.2.2.2.1) (wkN_2 u i)).trans hn
  have LOOP : ∀ (k i : Nat), k + i = m → kx_Ok mX2_passWeek d 0 0 G 0 0 2 [(0, .ref a), (1, .int (nI i))] [] N (kp_put h a (wkN u i)) (none, N, kp_put h a (pwU u m)) := by
    intro k
    induction k with
    | zero =>
      intro i hi
      obtain rfl : m = i := by omega
      refine ko_iload_n (i := 1) dX2_passWeek_2 rfl rfl ?_
      refine ko_aload_n (i := 0) dX2_passWeek_3 rfl rfl ?_
      refine ko_get fl_X2_33 dX2_passWeek_4 (kp_put_P _ _ _).1 rfl ?_
      refine ko_icmp_ge (tgt := 68) dX2_passWeek_7 (by decide) (fun c_7 => ?_) (fun c_7 => ?_)
      · refine ko_aload_n (i := 0) dX2_passWeek_68 rfl rfl ?_
        refine ko_dup dX2_passWeek_69 rfl ?_
        refine ko_get fl_X2_43 dX2_passWeek_70 (kp_put_P _ _ _).1 rfl ?_
        refine ko_iconst (v := 1) dX2_passWeek_73 (by decide) ?_
        refine ko_iadd dX2_passWeek_74 ?_
        refine ko_put fl_X2_43 dX2_passWeek_75 (kp_put_P _ _ _).1 rfl rfl (Nat.le_of_ble_eq_true rfl) ?_
        refine ko_h kq_wk ?_
        refine ko_vret dX2_passWeek_78 rfl (Nat.le_of_ble_eq_true rfl) (Nat.le_of_ble_eq_true rfl) ?_
        rfl
      · exact absurd (show pN (wkN u m) ≤ nI m by rw [hn2 _]; exact nI_le (Nat.le_refl _) (by omega)) c_7
    | succ k ih =>
      intro i hi
      refine ko_iload_n (i := 1) dX2_passWeek_2 rfl rfl ?_
      refine ko_aload_n (i := 0) dX2_passWeek_3 rfl rfl ?_
      refine ko_get fl_X2_33 dX2_passWeek_4 (kp_put_P _ _ _).1 rfl ?_
      refine ko_icmp_ge (tgt := 68) dX2_passWeek_7 (by decide) (fun c_7 => ?_) (fun c_7 => ?_)
      · exact absurd (show nI m ≤ nI i from by rw [← hn2 _]; exact c_7) (nI_ge (by omega) (by omega))
      · refine ko_iload_n (i := 1) dX2_passWeek_10 rfl rfl ?_
        refine ko_iconst (v := 5) dX2_passWeek_11 (by decide) ?_
        refine ko_icmp_ge (tgt := 68) dX2_passWeek_12 (by decide) (fun c_12 => ?_) (fun c_12 => ?_)
        · exact absurd (show nI 5 ≤ nI i from c_12) (nI_ge (by omega) (by omega))
        · refine ko_aload_n (i := 0) dX2_passWeek_15 rfl rfl ?_
          refine ko_get fl_X2_15 dX2_passWeek_16 (kp_put_P _ _ _).1 rfl ?_
          refine ko_iload_n (i := 1) dX2_passWeek_19 rfl rfl ?_
          refine ko_bipush (v := 99) dX2_passWeek_20 (by decide) ?_
          refine ko_aload_n (i := 0) dX2_passWeek_22 rfl rfl ?_
          refine ko_get fl_X2_15 dX2_passWeek_23 (kp_put_P _ _ _).1 rfl ?_
          refine ko_iload_n (i := 1) dX2_passWeek_26 rfl rfl ?_
          first | refine ko_iald dX2_passWeek_27 (kp_put_P _ _ _).2.1 (ix5 (by omega)) ?_ | refine ko_iald dX2_passWeek_27 (kp_put_P _ _ _).2.2.1 (ix5 (by omega)) ?_
          rw [nI_clamp (by omega)]
          refine ko_iconst (v := 1) dX2_passWeek_28 (by decide) ?_
          refine ko_iadd dX2_passWeek_29 ?_
          refine ko_mmin lm_X2_94 dX2_passWeek_30 (by omega) (Nat.le_of_ble_eq_true rfl) (Nat.le_of_ble_eq_true rfl) (Nat.le_of_ble_eq_true rfl) ?_
          first | refine ko_iast dX2_passWeek_33 (kp_put_P _ _ _).2.1 (ix5 (by omega)) ?_ | refine ko_iast dX2_passWeek_33 (kp_put_P _ _ _).2.2.1 (ix5 (by omega)) ?_
          rw [nI_clamp (by omega)]
          refine ko_h kq_2 ?_
          refine ko_aload_n (i := 0) dX2_passWeek_34 rfl rfl ?_
          refine ko_get fl_X2_15 dX2_passWeek_35 (kp_put_P _ _ _).1 rfl ?_
          refine ko_iload_n (i := 1) dX2_passWeek_38 rfl rfl ?_
          first | refine ko_iald dX2_passWeek_39 (kp_put_P _ _ _).2.1 (ix5 (by omega)) ?_ | refine ko_iald dX2_passWeek_39 (kp_put_P _ _ _).2.2.1 (ix5 (by omega)) ?_
          rw [nI_clamp (by omega)]
          rw [show ∀ (f g : Nat → Int32) (w : _), pAg (f, g, w) = g from fun _ _ _ => rfl, upd_at]
          refine ko_iconst (v := 3) dX2_passWeek_40 (by decide) ?_
          refine ko_icmp_lt (tgt := 62) dX2_passWeek_41 (by decide) (fun c_41 => ?_) (fun c_41 => ?_)
          · refine ko_inc1 (i := 1) (lv' := [(0, _), (1, _)]) dX2_passWeek_62 rfl (by decide) rfl rfl rfl ?_
            refine ko_goto (tgt := 2) dX2_passWeek_65 (by decide) ?_
            refine ko_h (h' := kp_put h a (wkN u (i + 1))) (congrArg (kp_put h a) ?_) (ko_lv (by simp [nI_succ]) (ih (i + 1) (by omega)))
            show _ = wkU (wkN u i) i
            unfold wkU wkS wkA
            first | rw [if_pos c_41, upd_same] | rw [if_neg (Int32.not_lt.mpr c_41)] | rw [if_neg c_41]
          · refine ko_aload_n (i := 0) dX2_passWeek_44 rfl rfl ?_
            refine ko_get fl_X2_9 dX2_passWeek_45 (kp_put_P _ _ _).1 rfl ?_
            refine ko_iload_n (i := 1) dX2_passWeek_48 rfl rfl ?_
            refine ko_iconst (v := 0) dX2_passWeek_49 (by decide) ?_
            refine ko_aload_n (i := 0) dX2_passWeek_50 rfl rfl ?_
            refine ko_get fl_X2_9 dX2_passWeek_51 (kp_put_P _ _ _).1 rfl ?_
            refine ko_iload_n (i := 1) dX2_passWeek_54 rfl rfl ?_
            first | refine ko_iald dX2_passWeek_55 (kp_put_P _ _ _).2.1 (ix5 (by omega)) ?_ | refine ko_iald dX2_passWeek_55 (kp_put_P _ _ _).2.2.1 (ix5 (by omega)) ?_
            rw [nI_clamp (by omega)]
            refine ko_iconst (v := 1) dX2_passWeek_56 (by decide) ?_
            refine ko_isub dX2_passWeek_57 ?_
            refine ko_mmax lm_X2_99 dX2_passWeek_58 (by omega) (Nat.le_of_ble_eq_true rfl) (Nat.le_of_ble_eq_true rfl) (Nat.le_of_ble_eq_true rfl) ?_
            first | refine ko_iast dX2_passWeek_61 (kp_put_P _ _ _).2.1 (ix5 (by omega)) ?_ | refine ko_iast dX2_passWeek_61 (kp_put_P _ _ _).2.2.1 (ix5 (by omega)) ?_
            rw [nI_clamp (by omega)]
            refine ko_h kq_1 ?_
            refine ko_inc1 (i := 1) (lv' := [(0, _), (1, _)]) dX2_passWeek_62 rfl (by decide) rfl rfl rfl ?_
            refine ko_goto (tgt := 2) dX2_passWeek_65 (by decide) ?_
            refine ko_h (h' := kp_put h a (wkN u (i + 1))) (congrArg (kp_put h a) ?_) (ko_lv (by simp [nI_succ]) (ih (i + 1) (by omega)))
            show _ = wkU (wkN u i) i
            unfold wkU wkS wkA
            first | rw [if_pos c_41, upd_same] | rw [if_neg (Int32.not_lt.mpr c_41)] | rw [if_neg c_41]
  refine ko_iconst (v := 0) dX2_passWeek_0 (by decide) ?_
  refine ko_istore_n (i := 1) (lv' := [(0, _), (1, _)]) dX2_passWeek_1 rfl (by decide) rfl rfl rfl ?_
  exact LOOP m 0 (by omega)
def zf (k : Nat) (f : Nat → Int32) : Nat → Int32 := fun j => if j < k then 0 else f j
theorem zf_0 (f : Nat → Int32) : zf 0 f = f := by
  funext j
  unfold zf
  rw [if_neg (Nat.not_lt_zero j)]
theorem zf_s (k : Nat) (f : Nat → Int32) : upd (zf k f) k 0 = zf (k + 1) f := by
  funext j
  unfold upd zf
  by_cases h1 : j = k
  · rw [if_pos h1, if_pos (by omega)]
  · rw [if_neg h1]
    by_cases h2 : j < k
    · rw [if_pos h2, if_pos (by omega)]
    · rw [if_neg h2, if_neg (by omega)]
def pZ : PU := (fun _ => 0, fun _ => 0, fun _ => 0, fun _ => 0, fun _ => 0, 0, 0, 0, 0)
theorem ix25 {i : Nat} (h : i < 25) : vp_in (nI i) 25 := vp_in_nI h (by omega)
set_option maxRecDepth 20000 in
theorem fn_clear {G : kx_G} {d N a : Nat} {h : kx_H} {u : PU} (hP : kP h a u) : kx_Fn mX2_clear d 0 0 G [.ref a] N h (none, N, kp_put h a pZ) := by
  refine kx_Fn_of rfl (Nat.le_of_ble_eq_true rfl) rfl ?_ (kp_dom hP)
  refine ko_h (kp_put_same hP).symm ?_
  have LOOQ : ∀ (k i : Nat), k + i = 25 → kx_Ok mX2_clear d 0 0 G 0 0 43 [(0, .ref a), (1, .int (nI i))] [] N (kp_put h a (zf 5 (pSo u), zf 5 (pAg u), zf 5 (pKd u), zf 5 (pKn u), zf i (pOw u), u.2.2.2.2.2)) (none, N, kp_put h a pZ) := by
    intro k
    induction k with
    | zero =>
      intro i hi
      obtain rfl : i = 25 := by omega
      refine ko_iload_n (i := 1) dX2_clear_43 rfl rfl ?_
      refine ko_bipush (v := 25) dX2_clear_44 (by decide) ?_
      refine ko_icmp_ge (tgt := 62) dX2_clear_46 (by decide) (fun c_46 => ?_) (fun c_46 => ?_)
      · refine ko_arr (fun _ => 0) (kp_put_P _ _ _).2.1 (fun j hj => if_pos hj) ?_
        refine ko_h kq_1 ?_
        refine ko_arr (fun _ => 0) (kp_put_P _ _ _).2.2.1 (fun j hj => if_pos hj) ?_
        refine ko_h kq_2 ?_
        refine ko_arr (fun _ => 0) (kp_put_P _ _ _).2.2.2.1 (fun j hj => if_pos hj) ?_
        refine ko_h kq_3 ?_
        refine ko_arr (fun _ => 0) (kp_put_P _ _ _).2.2.2.2.1 (fun j hj => if_pos hj) ?_
        refine ko_h kq_4 ?_
        refine ko_arr (fun _ => 0) (kp_put_P _ _ _).2.2.2.2.2 (fun j hj => if_pos hj) ?_
        refine ko_h kq_5 ?_
        refine ko_aload_n (i := 0) dX2_clear_62 rfl rfl ?_
        refine ko_iconst (v := 0) dX2_clear_63 (by decide) ?_
        refine ko_put fl_X2_33 dX2_clear_64 (kp_put_P _ _ _).1 rfl rfl (Nat.le_of_ble_eq_true rfl) ?_
        refine ko_h kq_n ?_
        refine ko_aload_n (i := 0) dX2_clear_67 rfl rfl ?_
        refine ko_iconst (v := 0) dX2_clear_68 (by decide) ?_
        refine ko_put fl_X2_37 dX2_clear_69 (kp_put_P _ _ _).1 rfl rfl (Nat.le_of_ble_eq_true rfl) ?_
        refine ko_h kq_op ?_
        refine ko_aload_n (i := 0) dX2_clear_72 rfl rfl ?_
        refine ko_iconst (v := 0) dX2_clear_73 (by decide) ?_
        refine ko_put fl_X2_40 dX2_clear_74 (kp_put_P _ _ _).1 rfl rfl (Nat.le_of_ble_eq_true rfl) ?_
        refine ko_h kq_on ?_
        refine ko_aload_n (i := 0) dX2_clear_77 rfl rfl ?_
        refine ko_iconst (v := 0) dX2_clear_78 (by decide) ?_
        refine ko_put fl_X2_43 dX2_clear_79 (kp_put_P _ _ _).1 rfl rfl (Nat.le_of_ble_eq_true rfl) ?_
        refine ko_h kq_wk ?_
        refine ko_vret dX2_clear_82 rfl (Nat.le_of_ble_eq_true rfl) (Nat.le_of_ble_eq_true rfl) ?_
        rfl
      · exact absurd (show (25 : Int32) ≤ nI 25 by decide) c_46
    | succ k ih =>
      intro i hi
      refine ko_iload_n (i := 1) dX2_clear_43 rfl rfl ?_
      refine ko_bipush (v := 25) dX2_clear_44 (by decide) ?_
      refine ko_icmp_ge (tgt := 62) dX2_clear_46 (by decide) (fun c_46 => ?_) (fun c_46 => ?_)
      · exact absurd (show nI 25 ≤ nI i from c_46) (nI_ge (by omega) (by omega))
      · refine ko_aload_n (i := 0) dX2_clear_49 rfl rfl ?_
        refine ko_get fl_X2_24 dX2_clear_50 (kp_put_P _ _ _).1 rfl ?_
        refine ko_iload_n (i := 1) dX2_clear_53 rfl rfl ?_
        refine ko_iconst (v := 0) dX2_clear_54 (by decide) ?_
        first | refine ko_iast dX2_clear_55 (kp_put_P _ _ _).2.1 (ix25 (by omega)) ?_ | refine ko_iast dX2_clear_55 (kp_put_P _ _ _).2.2.1 (ix25 (by omega)) ?_ | refine ko_iast dX2_clear_55 (kp_put_P _ _ _).2.2.2.1 (ix25 (by omega)) ?_ | refine ko_iast dX2_clear_55 (kp_put_P _ _ _).2.2.2.2.1 (ix25 (by omega)) ?_ | refine ko_iast dX2_clear_55 (kp_put_P _ _ _).2.2.2.2.2 (ix25 (by omega)) ?_
        rw [nI_clamp (by omega), zf_s]
        refine ko_h kq_5 ?_
        refine ko_inc1 (i := 1) (lv' := [(0, _), (1, _)]) dX2_clear_56 rfl (by decide) rfl rfl rfl ?_
        refine ko_goto (tgt := 43) dX2_clear_59 (by decide) ?_
        exact ko_lv (by simp [nI_succ]) (ih (i + 1) (by omega))
  have LOOP : ∀ (k i : Nat), k + i = 5 → kx_Ok mX2_clear d 0 0 G 0 0 2 [(0, .ref a), (1, .int (nI i))] [] N (kp_put h a (zf i (pSo u), zf i (pAg u), zf i (pKd u), zf i (pKn u), u.2.2.2.2)) (none, N, kp_put h a pZ) := by
    intro k
    induction k with
    | zero =>
      intro i hi
      obtain rfl : i = 5 := by omega
      refine ko_iload_n (i := 1) dX2_clear_2 rfl rfl ?_
      refine ko_iconst (v := 5) dX2_clear_3 (by decide) ?_
      refine ko_icmp_ge (tgt := 41) dX2_clear_4 (by decide) (fun c_4 => ?_) (fun c_4 => ?_)
      · refine ko_iconst (v := 0) dX2_clear_41 (by decide) ?_
        refine ko_istore_n (i := 1) (lv' := [(0, _), (1, _)]) dX2_clear_42 rfl (by decide) rfl rfl rfl ?_
        exact ko_h (by rw [zf_0]) (LOOQ 25 0 rfl)
      · exact absurd (show (5 : Int32) ≤ nI 5 by decide) c_4
    | succ k ih =>
      intro i hi
      refine ko_iload_n (i := 1) dX2_clear_2 rfl rfl ?_
      refine ko_iconst (v := 5) dX2_clear_3 (by decide) ?_
      refine ko_icmp_ge (tgt := 41) dX2_clear_4 (by decide) (fun c_4 => ?_) (fun c_4 => ?_)
      · exact absurd (show nI 5 ≤ nI i from c_4) (nI_ge (by omega) (by omega))
      · refine ko_aload_n (i := 0) dX2_clear_7 rfl rfl ?_
        refine ko_get fl_X2_9 dX2_clear_8 (kp_put_P _ _ _).1 rfl ?_
        refine ko_iload_n (i := 1) dX2_clear_11 rfl rfl ?_
        refine ko_iconst (v := 0) dX2_clear_12 (by decide) ?_
        first | refine ko_iast dX2_clear_13 (kp_put_P _ _ _).2.1 (ix5 (by omega)) ?_ | refine ko_iast dX2_clear_13 (kp_put_P _ _ _).2.2.1 (ix5 (by omega)) ?_ | refine ko_iast dX2_clear_13 (kp_put_P _ _ _).2.2.2.1 (ix5 (by omega)) ?_ | refine ko_iast dX2_clear_13 (kp_put_P _ _ _).2.2.2.2.1 (ix5 (by omega)) ?_ | refine ko_iast dX2_clear_13 (kp_put_P _ _ _).2.2.2.2.2 (ix5 (by omega)) ?_
        rw [nI_clamp (by omega), zf_s]
        refine ko_h kq_1 ?_
        refine ko_aload_n (i := 0) dX2_clear_14 rfl rfl ?_
        refine ko_get fl_X2_15 dX2_clear_15 (kp_put_P _ _ _).1 rfl ?_
        refine ko_iload_n (i := 1) dX2_clear_18 rfl rfl ?_
        refine ko_iconst (v := 0) dX2_clear_19 (by decide) ?_
        first | refine ko_iast dX2_clear_20 (kp_put_P _ _ _).2.1 (ix5 (by omega)) ?_ | refine ko_iast dX2_clear_20 (kp_put_P _ _ _).2.2.1 (ix5 (by omega)) ?_ | refine ko_iast dX2_clear_20 (kp_put_P _ _ _).2.2.2.1 (ix5 (by omega)) ?_ | refine ko_iast dX2_clear_20 (kp_put_P _ _ _).2.2.2.2.1 (ix5 (by omega)) ?_ | refine ko_iast dX2_clear_20 (kp_put_P _ _ _).2.2.2.2.2 (ix5 (by omega)) ?_
        rw [nI_clamp (by omega), zf_s]
        refine ko_h kq_2 ?_
        refine ko_aload_n (i := 0) dX2_clear_21 rfl rfl ?_
        refine ko_get fl_X2_18 dX2_clear_22 (kp_put_P _ _ _).1 rfl ?_
        refine ko_iload_n (i := 1) dX2_clear_25 rfl rfl ?_
        refine ko_iconst (v := 0) dX2_clear_26 (by decide) ?_
        first | refine ko_iast dX2_clear_27 (kp_put_P _ _ _).2.1 (ix5 (by omega)) ?_ | refine ko_iast dX2_clear_27 (kp_put_P _ _ _).2.2.1 (ix5 (by omega)) ?_ | refine ko_iast dX2_clear_27 (kp_put_P _ _ _).2.2.2.1 (ix5 (by omega)) ?_ | refine ko_iast dX2_clear_27 (kp_put_P _ _ _).2.2.2.2.1 (ix5 (by omega)) ?_ | refine ko_iast dX2_clear_27 (kp_put_P _ _ _).2.2.2.2.2 (ix5 (by omega)) ?_
        rw [nI_clamp (by omega), zf_s]
        refine ko_h kq_3 ?_
        refine ko_aload_n (i := 0) dX2_clear_28 rfl rfl ?_
        refine ko_get fl_X2_21 dX2_clear_29 (kp_put_P _ _ _).1 rfl ?_
        refine ko_iload_n (i := 1) dX2_clear_32 rfl rfl ?_
        refine ko_iconst (v := 0) dX2_clear_33 (by decide) ?_
        first | refine ko_iast dX2_clear_34 (kp_put_P _ _ _).2.1 (ix5 (by omega)) ?_ | refine ko_iast dX2_clear_34 (kp_put_P _ _ _).2.2.1 (ix5 (by omega)) ?_ | refine ko_iast dX2_clear_34 (kp_put_P _ _ _).2.2.2.1 (ix5 (by omega)) ?_ | refine ko_iast dX2_clear_34 (kp_put_P _ _ _).2.2.2.2.1 (ix5 (by omega)) ?_ | refine ko_iast dX2_clear_34 (kp_put_P _ _ _).2.2.2.2.2 (ix5 (by omega)) ?_
        rw [nI_clamp (by omega), zf_s]
        refine ko_h kq_4 ?_
        refine ko_inc1 (i := 1) (lv' := [(0, _), (1, _)]) dX2_clear_35 rfl (by decide) rfl rfl rfl ?_
        refine ko_goto (tgt := 2) dX2_clear_38 (by decide) ?_
        exact ko_lv (by simp [nI_succ]) (ih (i + 1) (by omega))
  refine ko_iconst (v := 0) dX2_clear_0 (by decide) ?_
  refine ko_istore_n (i := 1) (lv' := [(0, _), (1, _)]) dX2_clear_1 rfl (by decide) rfl rfl rfl ?_
  exact ko_h (by rw [zf_0, zf_0, zf_0, zf_0]) (LOOP 5 0 rfl)
abbrev kp_b : va_E := .inr (2, [.null, .null, .null, .null, .null, .int 0, .int 0, .int 0, .int 0])
theorem ku_s {h : kx_H} {a : Nat} {e : va_E} : kx_up h a e a = some e := if_pos rfl
theorem ku_n {h : kx_H} {a b : Nat} {e : va_E} (hb : b ≠ a) : kx_up h a e b = h b := if_neg hb
set_option maxRecDepth 20000 in
theorem fn_pInit {G : kx_G} {d a : Nat} {h : kx_H} (e0 : h a = some kp_b) (hd : 1 ≤ d) : kx_Fn mX2_init d 5 45 G [.ref a] (a + 1) h (none, a + 6, kp_put h a pZ) := by
  refine kx_Fn_of rfl (Nat.le_of_ble_eq_true rfl) rfl ?_ (fun q e he => ?_)
  · refine ko_aload_n (i := 0) dX2_init_0 rfl rfl ?_
    refine ko_objInit wo_X2 dX2_init_1 hd (Nat.le_of_ble_eq_true rfl) ?_
    refine ko_aload_n (i := 0) dX2_init_4 rfl rfl ?_
    refine ko_iconst (v := 5) dX2_init_5 (by decide) ?_
    refine ko_newi (L := 5) dX2_init_6 (by decide) rfl (by decide) (Nat.le_of_ble_eq_true rfl) (Nat.le_of_ble_eq_true rfl) wa_int ?_
    refine ko_putF fl_X2_9 rfl rfl dX2_init_8 (by rw [ku_n (by omega)]; exact e0) rfl rfl (Nat.le_of_ble_eq_true rfl) ?_
    refine ko_aload_n (i := 0) dX2_init_11 rfl rfl ?_
    refine ko_iconst (v := 5) dX2_init_12 (by decide) ?_
    refine ko_newi (L := 5) dX2_init_13 (by decide) rfl (by decide) (Nat.le_of_ble_eq_true rfl) (Nat.le_of_ble_eq_true rfl) wa_int ?_
    refine ko_putF fl_X2_15 rfl rfl dX2_init_15 (by rw [ku_n (by omega), ku_s]) rfl rfl (Nat.le_of_ble_eq_true rfl) ?_
    refine ko_aload_n (i := 0) dX2_init_18 rfl rfl ?_
    refine ko_iconst (v := 5) dX2_init_19 (by decide) ?_
    refine ko_newi (L := 5) dX2_init_20 (by decide) rfl (by decide) (Nat.le_of_ble_eq_true rfl) (Nat.le_of_ble_eq_true rfl) wa_int ?_
    refine ko_putF fl_X2_18 rfl rfl dX2_init_22 (by rw [ku_n (by omega), ku_s]) rfl rfl (Nat.le_of_ble_eq_true rfl) ?_
    refine ko_aload_n (i := 0) dX2_init_25 rfl rfl ?_
    refine ko_iconst (v := 5) dX2_init_26 (by decide) ?_
    refine ko_newi (L := 5) dX2_init_27 (by decide) rfl (by decide) (Nat.le_of_ble_eq_true rfl) (Nat.le_of_ble_eq_true rfl) wa_int ?_
    refine ko_putF fl_X2_21 rfl rfl dX2_init_29 (by rw [ku_n (by omega), ku_s]) rfl rfl (Nat.le_of_ble_eq_true rfl) ?_
    refine ko_aload_n (i := 0) dX2_init_32 rfl rfl ?_
    refine ko_bipush (v := 25) dX2_init_33 (by decide) ?_
    refine ko_newi (L := 25) dX2_init_35 (by decide) rfl (by decide) (Nat.le_of_ble_eq_true rfl) (Nat.le_of_ble_eq_true rfl) wa_int ?_
    refine ko_putF fl_X2_24 rfl rfl dX2_init_37 (by rw [ku_n (by omega), ku_s]) rfl rfl (Nat.le_of_ble_eq_true rfl) ?_
    refine ko_vret dX2_init_40 rfl (Nat.le_of_ble_eq_true rfl) (Nat.le_of_ble_eq_true rfl) ?_
    refine Prod.ext rfl (Prod.ext rfl ?_)
    refine (kp_ext (h := h) ⟨?_, ?_, ?_, ?_, ?_, ?_⟩ (fun q hq => ?_)).symm
    · show kx_up _ _ _ _ = _
      rw [ku_s]; rfl
    · show kx_up _ _ _ _ = _
      rw [ku_n (by omega), ku_n (by omega), ku_n (by omega), ku_n (by omega), ku_n (by omega), ku_n (by omega), ku_n (by omega), ku_n (by omega), ku_n (by omega), ku_s]; rfl
    · show kx_up _ _ _ _ = _
      rw [ku_n (by omega), ku_n (by omega), ku_n (by omega), ku_n (by omega), ku_n (by omega), ku_n (by omega), ku_n (by omega), ku_s]; rfl
    · show kx_up _ _ _ _ = _
      rw [ku_n (by omega), ku_n (by omega), ku_n (by omega), ku_n (by omega), ku_n (by omega), ku_s]; rfl
    · show kx_up _ _ _ _ = _
      rw [ku_n (by omega), ku_n (by omega), ku_n (by omega), ku_s]; rfl
    · show kx_up _ _ _ _ = _
      rw [ku_n (by omega), ku_s]; rfl
    · show kx_up _ _ _ _ = _
      rw [ku_n (by omega), ku_n (by omega), ku_n (by omega), ku_n (by omega), ku_n (by omega), ku_n (by omega), ku_n (by omega), ku_n (by omega), ku_n (by omega), ku_n (by omega)]
  · by_cases hq : q < a ∨ a + 5 < q
    · have he : kp_put h a pZ q = some e := he
      rw [kp_put_out hq] at he
      exact kx_self q e he
    · by_cases hqa : q = a
      · subst hqa; exact kx_self _ _ e0
      · exact Or.inr (by omega)
end
section
/-! ===== Service: the search of ways ===== -/
abbrev SU : Type := Int32 × Int32 × Int32 × Int32
abbrev kso (s : SU) : va_E := .inr (3, [.int s.1, .int s.2.1, .int s.2.2.1, .int s.2.2.2])
theorem ku_ku (h : kx_H) (a : Nat) (e e' : va_E) : kx_up (kx_up h a e) a e' = kx_up h a e' := by
  funext q
  unfold kx_up
  by_cases hq : q = a
  · rw [if_pos hq, if_pos hq]
  · rw [if_neg hq, if_neg hq, if_neg hq]
theorem ku_same {h : kx_H} {a : Nat} {e : va_E} (he : h a = some e) : kx_up h a e = h := by
  funext q
  unfold kx_up
  by_cases hq : q = a
  · rw [if_pos hq, hq, he]
  · rw [if_neg hq]
theorem ku_dom {h : kx_H} {a N : Nat} {e0 e : va_E} (he : h a = some e0) : ∀ q x, kx_up h a e q = some x → kx_dom h N q := by
  intro q x hx
  by_cases hq : q = a
  · subst hq; exact kx_self _ _ he
  · rw [ku_n hq] at hx; exact kx_self _ _ hx
theorem kP_up {h : kx_H} {a b : Nat} {u : PU} {e : va_E} (hP : kP h a u) (hb : b < a ∨ a + 5 < b) : kP (kx_up h b e) a u := by
  obtain ⟨e0, e1, e2, e3, e4, e5⟩ := hP
  exact ⟨by rw [ku_n (by omega)]; exact e0, by rw [ku_n (by omega)]; exact e1, by rw [ku_n (by omega)]; exact e2, by rw [ku_n (by omega)]; exact e3, by rw [ku_n (by omega)]; exact e4, by rw [ku_n (by omega)]; exact e5⟩
def cmU (s : SU) (g c t : Int32) : SU := if s.2.1 < g then (s.1, g, c, t) else if ¬ g = s.2.1 then s else if s.2.2.1 ≤ c then s else (s.1, g, c, t)
def gvF (rec : Int32 → Int32 → Int32 → Int32 → SU → SU) (u : PU) (w f g c t : Int32) : Nat → SU → SU
  | 0, s => s
  | i + 1, s => if hbI f (nI i) = true then if fitI u (nI i) w = true then rec (f &&& (1 <<< (nI i &&& 31) ^^^ (-1))) (g + 1) (c + ozI u (nI i)) (t * 10 + nI i + 1) (gvF rec u w f g c t i s) else gvF rec u w f g c t i s else gvF rec u w f g c t i s
def gv (u : PU) : Nat → Int32 → Int32 → Int32 → Int32 → SU → SU
  | 0, f, g, c, t, s => cmU s g c t
  | k + 1, f, g, c, t, s => if hbI s.1 (nI (4 - k)) = true then gvF (gv u k) u (nI (4 - k)) f g c t 5 (gv u k f g c (t * 10) s) else gv u k f g c t s
def seU (u : PU) (op fr : Int32) : SU := gv u 5 fr 0 0 0 (op, -1, 0, 0)
set_option maxRecDepth 20000 in
theorem fn_compare {G : kx_G} {d N b : Nat} {h : kx_H} {s : SU} {g c t : Int32} : kx_Fn mX3_compare d 0 0 G [.ref b, .int g, .int c, .int t] N (kx_up h b (kso s)) (none, N, kx_up h b (kso (cmU s g c t))) := by
  refine kx_Fn_of rfl (Nat.le_of_ble_eq_true rfl) rfl ?_ (fun q x hx => by rw [← ku_ku h b (kso s)] at hx; exact ku_dom ku_s q x hx)
  refine ko_iload_n (i := 1) dX3_compare_0 rfl rfl ?_
  refine ko_aload_n (i := 0) dX3_compare_1 rfl rfl ?_
  refine ko_get fl_X3_15 dX3_compare_2 ku_s rfl ?_
  refine ko_icmp_gt (tgt := 24) dX3_compare_5 (by decide) (fun c_5 => ?_) (fun c_5 => ?_)
  · refine ko_aload_n (i := 0) dX3_compare_24 rfl rfl ?_
    refine ko_iload_n (i := 1) dX3_compare_25 rfl rfl ?_
    refine ko_put fl_X3_15 dX3_compare_26 ku_s rfl rfl (Nat.le_of_ble_eq_true rfl) ?_
    refine ko_h (ku_ku _ _ _ _) ?_
    refine ko_aload_n (i := 0) dX3_compare_29 rfl rfl ?_
    refine ko_iload_n (i := 2) dX3_compare_30 rfl rfl ?_
    refine ko_put fl_X3_18 dX3_compare_31 ku_s rfl rfl (Nat.le_of_ble_eq_true rfl) ?_
    refine ko_h (ku_ku _ _ _ _) ?_
    refine ko_aload_n (i := 0) dX3_compare_34 rfl rfl ?_
    refine ko_iload_n (i := 3) dX3_compare_35 rfl rfl ?_
    refine ko_put fl_X3_21 dX3_compare_36 ku_s rfl rfl (Nat.le_of_ble_eq_true rfl) ?_
    refine ko_h (ku_ku _ _ _ _) ?_
    refine ko_vret dX3_compare_39 rfl (Nat.le_of_ble_eq_true rfl) (Nat.le_of_ble_eq_true rfl) ?_
    simp [cmU, c_5]
  · refine ko_iload_n (i := 1) dX3_compare_8 rfl rfl ?_
    refine ko_aload_n (i := 0) dX3_compare_9 rfl rfl ?_
    refine ko_get fl_X3_15 dX3_compare_10 ku_s rfl ?_
    refine ko_icmp_ne (tgt := 39) dX3_compare_13 (by decide) (fun c_13 => ?_) (fun c_13 => ?_)
    · refine ko_vret dX3_compare_39 rfl (Nat.le_of_ble_eq_true rfl) (Nat.le_of_ble_eq_true rfl) ?_
      simp [cmU, c_5, c_13]
    · refine ko_iload_n (i := 2) dX3_compare_16 rfl rfl ?_
      refine ko_aload_n (i := 0) dX3_compare_17 rfl rfl ?_
      refine ko_get fl_X3_18 dX3_compare_18 ku_s rfl ?_
      refine ko_icmp_ge (tgt := 39) dX3_compare_21 (by decide) (fun c_21 => ?_) (fun c_21 => ?_)
      · refine ko_vret dX3_compare_39 rfl (Nat.le_of_ble_eq_true rfl) (Nat.le_of_ble_eq_true rfl) ?_
        simp [cmU, c_5, c_13, c_21]
      · refine ko_aload_n (i := 0) dX3_compare_24 rfl rfl ?_
        refine ko_iload_n (i := 1) dX3_compare_25 rfl rfl ?_
        refine ko_put fl_X3_15 dX3_compare_26 ku_s rfl rfl (Nat.le_of_ble_eq_true rfl) ?_
        refine ko_h (ku_ku _ _ _ _) ?_
        refine ko_aload_n (i := 0) dX3_compare_29 rfl rfl ?_
        refine ko_iload_n (i := 2) dX3_compare_30 rfl rfl ?_
        refine ko_put fl_X3_18 dX3_compare_31 ku_s rfl rfl (Nat.le_of_ble_eq_true rfl) ?_
        refine ko_h (ku_ku _ _ _ _) ?_
        refine ko_aload_n (i := 0) dX3_compare_34 rfl rfl ?_
        refine ko_iload_n (i := 3) dX3_compare_35 rfl rfl ?_
        refine ko_put fl_X3_21 dX3_compare_36 ku_s rfl rfl (Nat.le_of_ble_eq_true rfl) ?_
        refine ko_h (ku_ku _ _ _ _) ?_
        refine ko_vret dX3_compare_39 rfl (Nat.le_of_ble_eq_true rfl) (Nat.le_of_ble_eq_true rfl) ?_
        simp [cmU, c_5, c_13, c_21]
set_option maxRecDepth 20000 in
theorem fn_give {G : kx_G} {N a b : Nat} {h : kx_H} {u : PU} (hP : kP h a u) (hab : b < a ∨ a + 5 < b) : ∀ (k w d : Nat) (s : SU) (f g c t : Int32), w + k = 5 → k + 3 ≤ d → kx_Fn mX3_give d 0 0 G [.ref b, .ref a, .int f, .int (nI w), .int g, .int c, .int t] N (kx_up h b (kso s)) (none, N, kx_up h b (kso (gv u k f g c t s))) := by
  intro k
  induction k with
  | zero =>
    intro w d s f g c t hw hd
    obtain rfl : w = 5 := by omega
    refine kx_Fn_of rfl (Nat.le_of_ble_eq_true rfl) rfl ?_ (fun q x hx => by rw [← ku_ku h b (kso s)] at hx; exact ku_dom ku_s q x hx)
    refine ko_iload_n (i := 3) dX3_give_0 rfl rfl ?_
    refine ko_iconst (v := 5) dX3_give_1 (by decide) ?_
    refine ko_icmp_lt (tgt := 16) dX3_give_2 (by decide) (fun c_2 => ?_) (fun c_2 => ?_)
    · exact absurd c_2 (by decide)
    · refine ko_aload_n (i := 0) dX3_give_5 rfl rfl ?_
      refine ko_iload (i := 4) dX3_give_6 rfl ?_
      refine ko_iload (i := 5) dX3_give_8 rfl ?_
      refine ko_iload (i := 6) dX3_give_10 rfl ?_
      refine ko_callVv lk_X3_28 dX3_give_12 (fn_compare (d := d - 1)) rfl rfl ku_s rfl rfl (by omega) (by omega) (by omega) (Nat.le_of_ble_eq_true rfl) ?_
      refine ko_vret dX3_give_15 rfl (Nat.le_of_ble_eq_true rfl) (Nat.le_of_ble_eq_true rfl) ?_
      rfl
  | succ k ihg =>
    intro w d s f g c t hw hd
    have e4 : 4 - k = w := by omega
    refine kx_Fn_of rfl (Nat.le_of_ble_eq_true rfl) rfl ?_ (fun q x hx => by rw [← ku_ku h b (kso s)] at hx; exact ku_dom ku_s q x hx)
    unfold gv
    rw [e4]
    have LOOP : ∀ (kk i : Nat), kk + i = 5 → kx_Ok mX3_give d 0 0 G 0 0 64 [(0, .ref b), (1, .ref a), (2, .int f), (3, .int (nI w)), (4, .int g), (5, .int c), (6, .int t), (7, .int (nI i))] [] N (kx_up h b (kso (gvF (gv u k) u (nI w) f g c t i (gv u k f g c (t * 10) s)))) (none, N, kx_up h b (kso (gvF (gv u k) u (nI w) f g c t 5 (gv u k f g c (t * 10) s)))) := by
      intro kk
      induction kk with
      | zero =>
        intro i hi
        obtain rfl : i = 5 := by omega
        refine ko_iload (i := 7) dX3_give_64 rfl ?_
        refine ko_iconst (v := 5) dX3_give_66 (by decide) ?_
        refine ko_icmp_ge (tgt := 142) dX3_give_67 (by decide) (fun c_67 => ?_) (fun c_67 => ?_)
        · refine ko_vret dX3_give_142 rfl (Nat.le_of_ble_eq_true rfl) (Nat.le_of_ble_eq_true rfl) ?_
          rfl
        · exact absurd (show (5 : Int32) ≤ nI 5 by decide) c_67
      | succ kk ih =>
        intro i hi
        refine ko_iload (i := 7) dX3_give_64 rfl ?_
        refine ko_iconst (v := 5) dX3_give_66 (by decide) ?_
        refine ko_icmp_ge (tgt := 142) dX3_give_67 (by decide) (fun c_67 => ?_) (fun c_67 => ?_)
        · exact absurd (show nI 5 ≤ nI i from c_67) (nI_ge (by omega) (by omega))
        · refine ko_iload_n (i := 2) dX3_give_70 rfl rfl ?_
          refine ko_iload (i := 7) dX3_give_71 rfl ?_
          refine ko_callSNr lk_X3_32 dX3_give_73 (fn_hasBit (d := d - 1)) rfl rfl (by omega) (by omega) (by omega) (Nat.le_of_ble_eq_true rfl) ?_
          first | refine ko_ifb_eq (tgt := 136) dX3_give_76 (by decide) (fun c_76 => ?_) (fun c_76 => ?_) | refine ko_if_eq (tgt := 136) dX3_give_76 (by decide) (fun c_76 => ?_) (fun c_76 => ?_)
          · refine ko_inc1 (i := 7) (lv' := [(0, _), (1, _), (2, _), (3, _), (4, _), (5, _), (6, _), (7, _)]) dX3_give_136 rfl (by decide) rfl rfl rfl ?_
            refine ko_goto (tgt := 64) dX3_give_139 (by decide) ?_
            refine ko_h (h' := kx_up h b (kso (gvF (gv u k) u (nI w) f g c t (i + 1) (gv u k f g c (t * 10) s)))) ?_ ?_
            · simp only [gvF, c_67, c_76, if_true, Bool.false_eq_true, if_false]
            · refine ko_keep [0, 1, 2, 3, 4, 5, 6, 7] (lv' := [(0, .ref b), (1, .ref a), (2, .int f), (3, .int (nI w)), (4, .int g), (5, .int c), (6, .int t), (7, .int (nI i + 1))]) rfl (ko_lv ?_ (ih (i + 1) (by omega)))
              rw [nI_succ i]
          · refine ko_aload_n (i := 1) dX3_give_79 rfl rfl ?_
            refine ko_iload (i := 7) dX3_give_80 rfl ?_
            refine ko_iload_n (i := 3) dX3_give_82 rfl rfl ?_
            refine ko_callVr lk_X3_36 dX3_give_83 (fn_isFitFor (d := d - 1) (kP_up hP hab) (by omega)) rfl rfl (kP_up hP hab).1 rfl rfl (by omega) (by omega) (by omega) (Nat.le_of_ble_eq_true rfl) ?_
            first | refine ko_ifb_eq (tgt := 136) dX3_give_86 (by decide) (fun c_86 => ?_) (fun c_86 => ?_) | refine ko_if_eq (tgt := 136) dX3_give_86 (by decide) (fun c_86 => ?_) (fun c_86 => ?_)
            · refine ko_inc1 (i := 7) (lv' := [(0, _), (1, _), (2, _), (3, _), (4, _), (5, _), (6, _), (7, _)]) dX3_give_136 rfl (by decide) rfl rfl rfl ?_
              refine ko_goto (tgt := 64) dX3_give_139 (by decide) ?_
              refine ko_h (h' := kx_up h b (kso (gvF (gv u k) u (nI w) f g c t (i + 1) (gv u k f g c (t * 10) s)))) ?_ ?_
              · simp only [gvF, c_67, c_76, c_86, if_true, Bool.false_eq_true, if_false]
              · refine ko_keep [0, 1, 2, 3, 4, 5, 6, 7] (lv' := [(0, .ref b), (1, .ref a), (2, .int f), (3, .int (nI w)), (4, .int g), (5, .int c), (6, .int t), (7, .int (nI i + 1))]) rfl (ko_lv ?_ (ih (i + 1) (by omega)))
                rw [nI_succ i]
            · refine ko_iload_n (i := 2) dX3_give_89 rfl rfl ?_
              refine ko_iconst (v := 1) dX3_give_90 (by decide) ?_
              refine ko_iload (i := 7) dX3_give_91 rfl ?_
              refine ko_ishl dX3_give_93 ?_
              refine ko_iconst (v := (-1)) dX3_give_94 (by decide) ?_
              refine ko_ixor dX3_give_95 ?_
              refine ko_iand dX3_give_96 ?_
              refine ko_istore (i := 8) (lv' := [(0, _), (1, _), (2, _), (3, _), (4, _), (5, _), (6, _), (7, _), (8, _)]) dX3_give_97 (by decide) rfl rfl rfl ?_
              refine ko_iload (i := 5) dX3_give_99 rfl ?_
              refine ko_aload_n (i := 1) dX3_give_101 rfl rfl ?_
              refine ko_iload (i := 7) dX3_give_102 rfl ?_
              refine ko_callVr lk_X3_41 dX3_give_104 (fn_ounces (d := d - 1) (kP_up hP hab) (by omega)) rfl rfl (kP_up hP hab).1 rfl rfl (by omega) (by omega) (by omega) (Nat.le_of_ble_eq_true rfl) ?_
              refine ko_iadd dX3_give_107 ?_
              refine ko_istore (i := 9) (lv' := [(0, _), (1, _), (2, _), (3, _), (4, _), (5, _), (6, _), (7, _), (8, _), (9, _)]) dX3_give_108 (by decide) rfl rfl rfl ?_
              refine ko_aload_n (i := 0) dX3_give_110 rfl rfl ?_
              refine ko_aload_n (i := 1) dX3_give_111 rfl rfl ?_
              refine ko_iload (i := 8) dX3_give_112 rfl ?_
              refine ko_iload_n (i := 3) dX3_give_114 rfl rfl ?_
              refine ko_iconst (v := 1) dX3_give_115 (by decide) ?_
              refine ko_iadd dX3_give_116 ?_
              rw [← nI_succ w]
              refine ko_iload (i := 4) dX3_give_117 rfl ?_
              refine ko_iconst (v := 1) dX3_give_119 (by decide) ?_
              refine ko_iadd dX3_give_120 ?_
              refine ko_iload (i := 9) dX3_give_121 rfl ?_
              refine ko_iload (i := 6) dX3_give_123 rfl ?_
              refine ko_bipush (v := 10) dX3_give_125 (by decide) ?_
              refine ko_imul dX3_give_127 ?_
              refine ko_iload (i := 7) dX3_give_128 rfl ?_
              refine ko_iadd dX3_give_130 ?_
              refine ko_iconst (v := 1) dX3_give_131 (by decide) ?_
              refine ko_iadd dX3_give_132 ?_
              refine ko_callSv lk_X3_24 dX3_give_133 (ihg (w + 1) (d - 1) _ _ _ _ _ (by omega) (by omega)) rfl rfl (by omega) (by omega) (by omega) (Nat.le_of_ble_eq_true rfl) ?_
              refine ko_inc1 (i := 7) (lv' := [(0, _), (1, _), (2, _), (3, _), (4, _), (5, _), (6, _), (7, _), (8, _), (9, _)]) dX3_give_136 rfl (by decide) rfl rfl rfl ?_
              refine ko_goto (tgt := 64) dX3_give_139 (by decide) ?_
              refine ko_h (h' := kx_up h b (kso (gvF (gv u k) u (nI w) f g c t (i + 1) (gv u k f g c (t * 10) s)))) ?_ ?_
              · simp only [gvF, c_67, c_76, c_86, if_true, Bool.false_eq_true, if_false]
              · refine ko_keep [0, 1, 2, 3, 4, 5, 6, 7] (lv' := [(0, .ref b), (1, .ref a), (2, .int f), (3, .int (nI w)), (4, .int g), (5, .int c), (6, .int t), (7, .int (nI i + 1))]) rfl (ko_lv ?_ (ih (i + 1) (by omega)))
                rw [nI_succ i]
    refine ko_iload_n (i := 3) dX3_give_0 rfl rfl ?_
    refine ko_iconst (v := 5) dX3_give_1 (by decide) ?_
    refine ko_icmp_lt (tgt := 16) dX3_give_2 (by decide) (fun c_2 => ?_) (fun c_2 => ?_)
    · refine ko_aload_n (i := 0) dX3_give_16 rfl rfl ?_
      refine ko_get fl_X3_9 dX3_give_17 ku_s rfl ?_
      refine ko_iload_n (i := 3) dX3_give_20 rfl rfl ?_
      refine ko_callSNr lk_X3_32 dX3_give_21 (fn_hasBit (d := d - 1)) rfl rfl (by omega) (by omega) (by omega) (Nat.le_of_ble_eq_true rfl) ?_
      first | refine ko_ifb_ne (tgt := 43) dX3_give_24 (by decide) (fun c_24 => ?_) (fun c_24 => ?_) | refine ko_if_ne (tgt := 43) dX3_give_24 (by decide) (fun c_24 => ?_) (fun c_24 => ?_)
      · refine ko_aload_n (i := 0) dX3_give_43 rfl rfl ?_
        refine ko_aload_n (i := 1) dX3_give_44 rfl rfl ?_
        refine ko_iload_n (i := 2) dX3_give_45 rfl rfl ?_
        refine ko_iload_n (i := 3) dX3_give_46 rfl rfl ?_
        refine ko_iconst (v := 1) dX3_give_47 (by decide) ?_
        refine ko_iadd dX3_give_48 ?_
        rw [← nI_succ w]
        refine ko_iload (i := 4) dX3_give_49 rfl ?_
        refine ko_iload (i := 5) dX3_give_51 rfl ?_
        refine ko_iload (i := 6) dX3_give_53 rfl ?_
        refine ko_bipush (v := 10) dX3_give_55 (by decide) ?_
        refine ko_imul dX3_give_57 ?_
        refine ko_callSv lk_X3_24 dX3_give_58 (ihg (w + 1) (d - 1) _ _ _ _ _ (by omega) (by omega)) rfl rfl (by omega) (by omega) (by omega) (Nat.le_of_ble_eq_true rfl) ?_
        refine ko_iconst (v := 0) dX3_give_61 (by decide) ?_
        refine ko_istore (i := 7) (lv' := [(0, _), (1, _), (2, _), (3, _), (4, _), (5, _), (6, _), (7, _)]) dX3_give_62 (by decide) rfl rfl rfl ?_
        rw [c_24]
        exact LOOP 5 0 rfl
      · refine ko_aload_n (i := 0) dX3_give_27 rfl rfl ?_
        refine ko_aload_n (i := 1) dX3_give_28 rfl rfl ?_
        refine ko_iload_n (i := 2) dX3_give_29 rfl rfl ?_
        refine ko_iload_n (i := 3) dX3_give_30 rfl rfl ?_
        refine ko_iconst (v := 1) dX3_give_31 (by decide) ?_
        refine ko_iadd dX3_give_32 ?_
        rw [← nI_succ w]
        refine ko_iload (i := 4) dX3_give_33 rfl ?_
        refine ko_iload (i := 5) dX3_give_35 rfl ?_
        refine ko_iload (i := 6) dX3_give_37 rfl ?_
        refine ko_callSv lk_X3_24 dX3_give_39 (ihg (w + 1) (d - 1) _ _ _ _ _ (by omega) (by omega)) rfl rfl (by omega) (by omega) (by omega) (Nat.le_of_ble_eq_true rfl) ?_
        refine ko_vret dX3_give_42 rfl (Nat.le_of_ble_eq_true rfl) (Nat.le_of_ble_eq_true rfl) ?_
        rw [c_24]
        rfl
    · exact absurd (show nI w < nI 5 from nI_lt (by omega) (by omega)) c_2
theorem fn_give5 {G : kx_G} {N d a b : Nat} {h : kx_H} {u : PU} {s S : SU} {f : Int32} (hP : kP h a u) (hab : b < a ∨ a + 5 < b) (hd : 8 ≤ d) (hS : gv u 5 f 0 0 0 s = S) : kx_Fn mX3_give d 0 0 G [.ref b, .ref a, .int f, .int 0, .int 0, .int 0, .int 0] N (kx_up h b (kso s)) (none, N, kx_up h b (kso S)) := by
  subst hS
  have e := fn_give (G := G) (N := N) hP hab 5 0 d s f 0 0 0 rfl hd
  rw [nI_0] at e
  exact e
set_option maxRecDepth 20000 in
theorem fn_search {G : kx_G} {d N a b : Nat} {h : kx_H} {u : PU} {s : SU} {op fr : Int32} (hP : kP h a u) (hb : h b = some (kso s)) (hab : b < a ∨ a + 5 < b) (hd : 9 ≤ d) : kx_Fn mX3_search d 0 0 G [.ref b, .ref a, .int op, .int fr] N h (some (.int (seU u op fr).2.1), N, kx_up h b (kso (seU u op fr))) := by
  refine kx_Fn_of rfl (Nat.le_of_ble_eq_true rfl) rfl ?_ (ku_dom hb)
  unfold seU
  generalize hS : gv u 5 fr 0 0 0 (op, -1, 0, 0) = S
  refine ko_h (ku_same hb).symm ?_
  refine ko_aload_n (i := 0) dX3_search_0 rfl rfl ?_
  refine ko_iload_n (i := 2) dX3_search_1 rfl rfl ?_
  refine ko_put fl_X3_9 dX3_search_2 ku_s rfl rfl (Nat.le_of_ble_eq_true rfl) ?_
  refine ko_h (ku_ku _ _ _ _) ?_
  refine ko_aload_n (i := 0) dX3_search_5 rfl rfl ?_
  refine ko_iconst (v := (-1)) dX3_search_6 (by decide) ?_
  refine ko_put fl_X3_15 dX3_search_7 ku_s rfl rfl (Nat.le_of_ble_eq_true rfl) ?_
  refine ko_h (ku_ku _ _ _ _) ?_
  refine ko_aload_n (i := 0) dX3_search_10 rfl rfl ?_
  refine ko_iconst (v := 0) dX3_search_11 (by decide) ?_
  refine ko_put fl_X3_18 dX3_search_12 ku_s rfl rfl (Nat.le_of_ble_eq_true rfl) ?_
  refine ko_h (ku_ku _ _ _ _) ?_
  refine ko_aload_n (i := 0) dX3_search_15 rfl rfl ?_
  refine ko_iconst (v := 0) dX3_search_16 (by decide) ?_
  refine ko_put fl_X3_21 dX3_search_17 ku_s rfl rfl (Nat.le_of_ble_eq_true rfl) ?_
  refine ko_h (ku_ku _ _ _ _) ?_
  refine ko_aload_n (i := 0) dX3_search_20 rfl rfl ?_
  refine ko_aload_n (i := 1) dX3_search_21 rfl rfl ?_
  refine ko_iload_n (i := 3) dX3_search_22 rfl rfl ?_
  refine ko_iconst (v := 0) dX3_search_23 (by decide) ?_
  refine ko_iconst (v := 0) dX3_search_24 (by decide) ?_
  refine ko_iconst (v := 0) dX3_search_25 (by decide) ?_
  refine ko_iconst (v := 0) dX3_search_26 (by decide) ?_
  refine ko_callSv lk_X3_24 dX3_search_27 (fn_give5 (d := d - 1) (s := (op, -1, 0, 0)) hP hab (by omega) hS) rfl rfl (by omega) (by omega) (by omega) (Nat.le_of_ble_eq_true rfl) ?_
  refine ko_aload_n (i := 0) dX3_search_30 rfl rfl ?_
  refine ko_get fl_X3_15 dX3_search_31 ku_s rfl ?_
  refine ko_iret dX3_search_34 rfl (Nat.le_of_ble_eq_true rfl) (Nat.le_of_ble_eq_true rfl) ?_
  rfl
set_option maxRecDepth 20000 in
theorem fn_sInit {G : kx_G} {d N b : Nat} {h : kx_H} (hd : 1 ≤ d) : kx_Fn mX3_init d 0 0 G [.ref b] N h (none, N, h) := by
  refine kx_Fn_of rfl (Nat.le_of_ble_eq_true rfl) rfl ?_ (kx_self)
  refine ko_aload_n (i := 0) dX3_init_0 rfl rfl ?_
  refine ko_objInit wo_X3 dX3_init_1 hd (Nat.le_of_ble_eq_true rfl) ?_
  refine ko_vret dX3_init_4 rfl (Nat.le_of_ble_eq_true rfl) (Nat.le_of_ble_eq_true rfl) ?_
  rfl
end
section
/-! ===== LandText: the text, read ===== -/
abbrev klo (l : Nat) (n : Int32) : va_E := .inr (1, [.ref (l + 1), .ref (l + 2), .int n])
abbrev kl_a (T : Nat → Int32) : va_E := .inl (0, 48, .inl T)
def ltI (T : Nat → Int32) (n p : Int32) : Int32 := if p < 0 then -1 else if n ≤ p then -1 else if 48 ≤ p then -1 else T p.toNatClampNeg
def dgI (T : Nat → Int32) (n p : Int32) : Int32 := if ltI T n p < 48 then -1 else if 57 < ltI T n p then -1 else ltI T n p - 48
theorem in48 {p : Int32} (h1 : ¬ p < 0) (h2 : ¬ 48 ≤ p) : vp_in p 48 := by
  obtain ⟨j, hj, e, -⟩ := pk_mu (L := 48) h1 h2 (by decide)
  rw [e]
  exact vp_in_nI hj (by decide)
set_option maxRecDepth 20000 in
theorem fn_letterAt {G : kx_G} {d N l : Nat} {h : kx_H} {T : Nat → Int32} {n : Int32} {p : Int32} (e0 : h l = some (klo l n)) (e1 : h (l + 1) = some (kl_a T)) : kx_Fn mX1_letterAt d 0 0 G [.ref l, .int p] N h (some (.int (ltI T n p)), N, h) := by
  refine kx_Fn_of rfl (Nat.le_of_ble_eq_true rfl) rfl ?_ (kx_self)
  refine ko_iload_n (i := 1) dX1_letterAt_0 rfl rfl ?_
  refine ko_if_lt (tgt := 27) dX1_letterAt_1 (by decide) (fun c_1 => ?_) (fun c_1 => ?_)
  · refine ko_iconst (v := (-1)) dX1_letterAt_27 (by decide) ?_
    refine ko_iret dX1_letterAt_28 rfl (Nat.le_of_ble_eq_true rfl) (Nat.le_of_ble_eq_true rfl) ?_
    simp [ltI, c_1]
  · refine ko_iload_n (i := 1) dX1_letterAt_4 rfl rfl ?_
    refine ko_aload_n (i := 0) dX1_letterAt_5 rfl rfl ?_
    refine ko_get fl_X1_22 dX1_letterAt_6 e0 rfl ?_
    refine ko_icmp_ge (tgt := 27) dX1_letterAt_9 (by decide) (fun c_9 => ?_) (fun c_9 => ?_)
    · refine ko_iconst (v := (-1)) dX1_letterAt_27 (by decide) ?_
      refine ko_iret dX1_letterAt_28 rfl (Nat.le_of_ble_eq_true rfl) (Nat.le_of_ble_eq_true rfl) ?_
      simp [ltI, c_1, c_9]
    · refine ko_iload_n (i := 1) dX1_letterAt_12 rfl rfl ?_
      refine ko_bipush (v := 48) dX1_letterAt_13 (by decide) ?_
      refine ko_icmp_ge (tgt := 27) dX1_letterAt_15 (by decide) (fun c_15 => ?_) (fun c_15 => ?_)
      · refine ko_iconst (v := (-1)) dX1_letterAt_27 (by decide) ?_
        refine ko_iret dX1_letterAt_28 rfl (Nat.le_of_ble_eq_true rfl) (Nat.le_of_ble_eq_true rfl) ?_
        simp [ltI, c_1, c_9, c_15]
      · refine ko_aload_n (i := 0) dX1_letterAt_18 rfl rfl ?_
        refine ko_get fl_X1_9 dX1_letterAt_19 e0 rfl ?_
        refine ko_iload_n (i := 1) dX1_letterAt_22 rfl rfl ?_
        refine ko_iald dX1_letterAt_23 e1 (in48 c_1 c_15) ?_
        refine ko_goto (tgt := 28) dX1_letterAt_24 (by decide) ?_
        refine ko_iret dX1_letterAt_28 rfl (Nat.le_of_ble_eq_true rfl) (Nat.le_of_ble_eq_true rfl) ?_
        simp [ltI, c_1, c_9, c_15]
set_option maxRecDepth 20000 in
theorem fn_digitAt {G : kx_G} {d N l : Nat} {h : kx_H} {T : Nat → Int32} {n : Int32} {p : Int32} (e0 : h l = some (klo l n)) (e1 : h (l + 1) = some (kl_a T)) (hd : 1 ≤ d) : kx_Fn mX1_digitAt d 0 0 G [.ref l, .int p] N h (some (.int (dgI T n p)), N, h) := by
  refine kx_Fn_of rfl (Nat.le_of_ble_eq_true rfl) rfl ?_ (kx_self)
  refine ko_aload_n (i := 0) dX1_digitAt_0 rfl rfl ?_
  refine ko_iload_n (i := 1) dX1_digitAt_1 rfl rfl ?_
  refine ko_callVr lk_X1_29 dX1_digitAt_2 (fn_letterAt (d := d - 1) e0 e1) rfl rfl e0 rfl rfl (by omega) (by omega) (by omega) (Nat.le_of_ble_eq_true rfl) ?_
  refine ko_istore_n (i := 2) (lv' := [(0, _), (1, _), (2, _)]) dX1_digitAt_5 rfl (by decide) rfl rfl rfl ?_
  refine ko_iload_n (i := 2) dX1_digitAt_6 rfl rfl ?_
  refine ko_bipush (v := 48) dX1_digitAt_7 (by decide) ?_
  refine ko_icmp_lt (tgt := 25) dX1_digitAt_9 (by decide) (fun c_9 => ?_) (fun c_9 => ?_)
  · refine ko_iconst (v := (-1)) dX1_digitAt_25 (by decide) ?_
    refine ko_iret dX1_digitAt_26 rfl (Nat.le_of_ble_eq_true rfl) (Nat.le_of_ble_eq_true rfl) ?_
    simp [dgI, c_9]
  · refine ko_iload_n (i := 2) dX1_digitAt_12 rfl rfl ?_
    refine ko_bipush (v := 57) dX1_digitAt_13 (by decide) ?_
    refine ko_icmp_gt (tgt := 25) dX1_digitAt_15 (by decide) (fun c_15 => ?_) (fun c_15 => ?_)
    · refine ko_iconst (v := (-1)) dX1_digitAt_25 (by decide) ?_
      refine ko_iret dX1_digitAt_26 rfl (Nat.le_of_ble_eq_true rfl) (Nat.le_of_ble_eq_true rfl) ?_
      simp [dgI, c_9, c_15]
    · refine ko_iload_n (i := 2) dX1_digitAt_18 rfl rfl ?_
      refine ko_bipush (v := 48) dX1_digitAt_19 (by decide) ?_
      refine ko_isub dX1_digitAt_21 ?_
      refine ko_goto (tgt := 26) dX1_digitAt_22 (by decide) ?_
      refine ko_iret dX1_digitAt_26 rfl (Nat.le_of_ble_eq_true rfl) (Nat.le_of_ble_eq_true rfl) ?_
      simp [dgI, c_9, c_15]
def iplB (u : PU) : Bool := (List.range 5).any (fun i => !decide (lsI u (nI i) = 0))
set_option maxRecDepth 20000 in
theorem fn_isPairLeft {G : kx_G} {d N l : Nat} {h : kx_H} {n : Int32} {u : PU} (e0 : h l = some (klo l n)) (hP : kP h (l + 2) u) (hd : 2 ≤ d) : kx_Fn mX1_isPairLeft d 0 0 G [.ref l] N h (some (.int (kb (iplB u))), N, h) := by
  refine kx_Fn_of rfl (Nat.le_of_ble_eq_true rfl) rfl ?_ (kx_self)
  have LOOP : ∀ (k i : Nat), k + i = 5 → (∀ j, j < i → lsI u (nI j) = 0) → kx_Ok mX1_isPairLeft d 0 0 G 0 0 2 [(0, .ref l), (1, .int (nI i))] [] N h (some (.int (kb (iplB u))), N, h) := by
    intro k
    induction k with
    | zero =>
      intro i hi hz
      obtain rfl : i = 5 := by omega
      refine ko_iload_n (i := 1) dX1_isPairLeft_2 rfl rfl ?_
      refine ko_iconst (v := 5) dX1_isPairLeft_3 (by decide) ?_
      refine ko_icmp_ge (tgt := 26) dX1_isPairLeft_4 (by decide) (fun c_4 => ?_) (fun c_4 => ?_)
      · refine ko_iconst (v := 0) dX1_isPairLeft_26 (by decide) ?_
        refine ko_zret dX1_isPairLeft_27 rfl rfl (Nat.le_of_ble_eq_true rfl) (Nat.le_of_ble_eq_true rfl) ?_
        have e9 : iplB u = false := List.any_eq_false.mpr (fun j hj => by simp [hz j (List.mem_range.mp hj)])
        rw [e9]
        rfl
      · exact absurd (show (5 : Int32) ≤ nI 5 by decide) c_4
    | succ k ih =>
      intro i hi hz
      refine ko_iload_n (i := 1) dX1_isPairLeft_2 rfl rfl ?_
      refine ko_iconst (v := 5) dX1_isPairLeft_3 (by decide) ?_
      refine ko_icmp_ge (tgt := 26) dX1_isPairLeft_4 (by decide) (fun c_4 => ?_) (fun c_4 => ?_)
      · exact absurd (show nI 5 ≤ nI i from c_4) (nI_ge (by omega) (by omega))
      · refine ko_aload_n (i := 0) dX1_isPairLeft_7 rfl rfl ?_
        refine ko_get fl_X1_18 dX1_isPairLeft_8 e0 rfl ?_
        refine ko_iload_n (i := 1) dX1_isPairLeft_11 rfl rfl ?_
        refine ko_callVr lk_X1_53 dX1_isPairLeft_12 (fn_laterStrangers (d := d - 1) hP (by omega)) rfl rfl hP.1 rfl rfl (by omega) (by omega) (by omega) (Nat.le_of_ble_eq_true rfl) ?_
        refine ko_if_eq (tgt := 20) dX1_isPairLeft_15 (by decide) (fun c_15 => ?_) (fun c_15 => ?_)
        · refine ko_inc1 (i := 1) (lv' := [(0, _), (1, _)]) dX1_isPairLeft_20 rfl (by decide) rfl rfl rfl ?_
          refine ko_goto (tgt := 2) dX1_isPairLeft_23 (by decide) ?_
          exact ko_lv (by simp [nI_succ]) (ih (i + 1) (by omega) (fun j hj => by
              rcases Nat.lt_succ_iff_lt_or_eq.mp hj with hj | rfl
              · exact hz j hj
              · exact c_15))
        · refine ko_iconst (v := 1) dX1_isPairLeft_18 (by decide) ?_
          refine ko_zret dX1_isPairLeft_19 rfl rfl (Nat.le_of_ble_eq_true rfl) (Nat.le_of_ble_eq_true rfl) ?_
          have e9 : iplB u = true := List.any_eq_true.mpr ⟨i, List.mem_range.mpr (by omega), by simp [c_15]⟩
          rw [e9]
          rfl
  refine ko_iconst (v := 0) dX1_isPairLeft_0 (by decide) ?_
  refine ko_istore_n (i := 1) (lv' := [(0, _), (1, _)]) dX1_isPairLeft_1 rfl (by decide) rfl rfl rfl ?_
  exact LOOP 5 0 rfl (fun j hj => absurd hj (Nat.not_lt_zero j))
def rpR (T : Nat → Int32) (n : Int32) (u : PU) (p : Int32) : Int32 × PU := if ¬ pN u < 5 then (p, u) else if ¬ 0 ≤ dgI T n (p + 1) then (p + 1, u) else if ¬ 0 ≤ dgI T n (p + 2) then (p + 2, u) else if dgI T n (p + 3) < 0 then (p + 3, u) else if ¬ dgI T n (p + 3) ≤ 3 then (p + 3, u) else (-9, adU u (dgI T n (p + 1)) (dgI T n (p + 2)) (dgI T n (p + 3)))
def rkR (T : Nat → Int32) (n : Int32) (u : PU) (p : Int32) : Int32 × PU := if ¬ ltI T n p = 75 then (p, u) else if iplB u = false then (p, u) else if lsI u (dgI T n (p + 1)) = 0 then (p + 1, u) else if hbI (lsI u (dgI T n (p + 1))) (dgI T n (p + 2)) = false then (p + 2, u) else (-9, mkU u (dgI T n (p + 1)) (dgI T n (p + 2)))
def rl (T : Nat → Int32) (n : Int32) : Nat → Int32 → PU → Int32 × PU
  | 0, _, u => (-9, u)
  | k + 1, p, u => if n ≤ p then (-9, u) else if ltI T n p = 80 then if (rpR T n u p).1 = -9 then rl T n k (p + 4) (rpR T n u p).2 else rpR T n u p else if (rkR T n u p).1 = -9 then rl T n k (p + 3) (rkR T n u p).2 else rkR T n u p
def rlR (T : Nat → Int32) (n : Int32) : Int32 × PU := if ¬ ltI T n 0 = 84 then (0, pZ) else rl T n 48 1 pZ
set_option maxRecDepth 20000 in
theorem fn_readPerson {G : kx_G} {d N l : Nat} {h : kx_H} {T : Nat → Int32} {n : Int32} {u : PU} {p : Int32} (e0 : h l = some (klo l n)) (e1 : h (l + 1) = some (kl_a T)) (hP : kP h (l + 2) u) (hd : 2 ≤ d) : kx_Fn mX1_readPerson d 0 0 G [.ref l, .int p] N h (some (.int (rpR T n u p).1), N, kp_put h (l + 2) (rpR T n u p).2) := by
  refine kx_Fn_of rfl (Nat.le_of_ble_eq_true rfl) rfl ?_ (kp_dom hP)
  have f0 : ∀ x, kp_put h (l + 2) x l = some (klo l n) := fun x => by rw [kp_put_out (by omega)]; exact e0
  have f1 : ∀ x, kp_put h (l + 2) x (l + 1) = some (kl_a T) := fun x => by rw [kp_put_out (by omega)]; exact e1
  refine ko_h (kp_put_same hP).symm ?_
  refine ko_aload_n (i := 0) dX1_readPerson_0 rfl rfl ?_
  refine ko_get fl_X1_18 dX1_readPerson_1 (f0 _) rfl ?_
  refine ko_get fl_X1_39 dX1_readPerson_4 (kp_put_P _ _ _).1 rfl ?_
  refine ko_iconst (v := 5) dX1_readPerson_7 (by decide) ?_
  refine ko_icmp_lt (tgt := 13) dX1_readPerson_8 (by decide) (fun c_8 => ?_) (fun c_8 => ?_)
  · refine ko_aload_n (i := 0) dX1_readPerson_13 rfl rfl ?_
    refine ko_iload_n (i := 1) dX1_readPerson_14 rfl rfl ?_
    refine ko_iconst (v := 1) dX1_readPerson_15 (by decide) ?_
    refine ko_iadd dX1_readPerson_16 ?_
    refine ko_callVr lk_X1_42 dX1_readPerson_17 (fn_digitAt (d := d - 1) (f0 _) (f1 _) (by omega)) rfl rfl (f0 _) rfl rfl (by omega) (by omega) (by omega) (Nat.le_of_ble_eq_true rfl) ?_
    refine ko_istore_n (i := 2) (lv' := [(0, _), (1, _), (2, _)]) dX1_readPerson_20 rfl (by decide) rfl rfl rfl ?_
    refine ko_iload_n (i := 2) dX1_readPerson_21 rfl rfl ?_
    refine ko_if_ge (tgt := 29) dX1_readPerson_22 (by decide) (fun c_22 => ?_) (fun c_22 => ?_)
    · refine ko_aload_n (i := 0) dX1_readPerson_29 rfl rfl ?_
      refine ko_iload_n (i := 1) dX1_readPerson_30 rfl rfl ?_
      refine ko_iconst (v := 2) dX1_readPerson_31 (by decide) ?_
      refine ko_iadd dX1_readPerson_32 ?_
      refine ko_callVr lk_X1_42 dX1_readPerson_33 (fn_digitAt (d := d - 1) (f0 _) (f1 _) (by omega)) rfl rfl (f0 _) rfl rfl (by omega) (by omega) (by omega) (Nat.le_of_ble_eq_true rfl) ?_
      refine ko_istore_n (i := 3) (lv' := [(0, _), (1, _), (2, _), (3, _)]) dX1_readPerson_36 rfl (by decide) rfl rfl rfl ?_
      refine ko_iload_n (i := 3) dX1_readPerson_37 rfl rfl ?_
      refine ko_if_ge (tgt := 45) dX1_readPerson_38 (by decide) (fun c_38 => ?_) (fun c_38 => ?_)
      · refine ko_aload_n (i := 0) dX1_readPerson_45 rfl rfl ?_
        refine ko_iload_n (i := 1) dX1_readPerson_46 rfl rfl ?_
        refine ko_iconst (v := 3) dX1_readPerson_47 (by decide) ?_
        refine ko_iadd dX1_readPerson_48 ?_
        refine ko_callVr lk_X1_42 dX1_readPerson_49 (fn_digitAt (d := d - 1) (f0 _) (f1 _) (by omega)) rfl rfl (f0 _) rfl rfl (by omega) (by omega) (by omega) (Nat.le_of_ble_eq_true rfl) ?_
        refine ko_istore (i := 4) (lv' := [(0, _), (1, _), (2, _), (3, _), (4, _)]) dX1_readPerson_52 (by decide) rfl rfl rfl ?_
        refine ko_iload (i := 4) dX1_readPerson_54 rfl ?_
        refine ko_if_lt (tgt := 65) dX1_readPerson_56 (by decide) (fun c_56 => ?_) (fun c_56 => ?_)
        · refine ko_iload_n (i := 1) dX1_readPerson_65 rfl rfl ?_
          refine ko_iconst (v := 3) dX1_readPerson_66 (by decide) ?_
          refine ko_iadd dX1_readPerson_67 ?_
          refine ko_iret dX1_readPerson_68 rfl (Nat.le_of_ble_eq_true rfl) (Nat.le_of_ble_eq_true rfl) ?_
          simp [rpR, c_8, c_22, c_38, c_56]
        · refine ko_iload (i := 4) dX1_readPerson_59 rfl ?_
          refine ko_iconst (v := 3) dX1_readPerson_61 (by decide) ?_
          refine ko_icmp_le (tgt := 69) dX1_readPerson_62 (by decide) (fun c_62 => ?_) (fun c_62 => ?_)
          · refine ko_aload_n (i := 0) dX1_readPerson_69 rfl rfl ?_
            refine ko_get fl_X1_18 dX1_readPerson_70 (f0 _) rfl ?_
            refine ko_iload_n (i := 2) dX1_readPerson_73 rfl rfl ?_
            refine ko_iload_n (i := 3) dX1_readPerson_74 rfl rfl ?_
            refine ko_iload (i := 4) dX1_readPerson_75 rfl ?_
            refine ko_callVv lk_X1_45 dX1_readPerson_77 (fn_add (d := d - 1) (kp_put_P _ _ _)) rfl rfl (kp_put_P _ _ _).1 rfl rfl (by omega) (by omega) (by omega) (Nat.le_of_ble_eq_true rfl) ?_
            rw [kp_put_put]
            refine ko_bipush (v := (-9)) dX1_readPerson_80 (by decide) ?_
            refine ko_iret dX1_readPerson_82 rfl (Nat.le_of_ble_eq_true rfl) (Nat.le_of_ble_eq_true rfl) ?_
            simp [rpR, c_8, c_22, c_38, c_56, c_62]
          · refine ko_iload_n (i := 1) dX1_readPerson_65 rfl rfl ?_
            refine ko_iconst (v := 3) dX1_readPerson_66 (by decide) ?_
            refine ko_iadd dX1_readPerson_67 ?_
            refine ko_iret dX1_readPerson_68 rfl (Nat.le_of_ble_eq_true rfl) (Nat.le_of_ble_eq_true rfl) ?_
            simp [rpR, c_8, c_22, c_38, c_56, c_62]
      · refine ko_iload_n (i := 1) dX1_readPerson_41 rfl rfl ?_
        refine ko_iconst (v := 2) dX1_readPerson_42 (by decide) ?_
        refine ko_iadd dX1_readPerson_43 ?_
        refine ko_iret dX1_readPerson_44 rfl (Nat.le_of_ble_eq_true rfl) (Nat.le_of_ble_eq_true rfl) ?_
        simp [rpR, c_8, c_22, c_38]
    · refine ko_iload_n (i := 1) dX1_readPerson_25 rfl rfl ?_
      refine ko_iconst (v := 1) dX1_readPerson_26 (by decide) ?_
      refine ko_iadd dX1_readPerson_27 ?_
      refine ko_iret dX1_readPerson_28 rfl (Nat.le_of_ble_eq_true rfl) (Nat.le_of_ble_eq_true rfl) ?_
      simp [rpR, c_8, c_22]
  · refine ko_iload_n (i := 1) dX1_readPerson_11 rfl rfl ?_
    refine ko_iret dX1_readPerson_12 rfl (Nat.le_of_ble_eq_true rfl) (Nat.le_of_ble_eq_true rfl) ?_
    simp [rpR, c_8]
set_option maxRecDepth 20000 in
theorem fn_readKin {G : kx_G} {d N l : Nat} {h : kx_H} {T : Nat → Int32} {n : Int32} {u : PU} {p : Int32} (e0 : h l = some (klo l n)) (e1 : h (l + 1) = some (kl_a T)) (hP : kP h (l + 2) u) (hd : 3 ≤ d) : kx_Fn mX1_readKin d 0 0 G [.ref l, .int p] N h (some (.int (rkR T n u p).1), N, kp_put h (l + 2) (rkR T n u p).2) := by
  refine kx_Fn_of rfl (Nat.le_of_ble_eq_true rfl) rfl ?_ (kp_dom hP)
  have f0 : ∀ x, kp_put h (l + 2) x l = some (klo l n) := fun x => by rw [kp_put_out (by omega)]; exact e0
  have f1 : ∀ x, kp_put h (l + 2) x (l + 1) = some (kl_a T) := fun x => by rw [kp_put_out (by omega)]; exact e1
  refine ko_h (kp_put_same hP).symm ?_
  refine ko_aload_n (i := 0) dX1_readKin_0 rfl rfl ?_
  refine ko_iload_n (i := 1) dX1_readKin_1 rfl rfl ?_
  refine ko_callVr lk_X1_29 dX1_readKin_2 (fn_letterAt (d := d - 1) (f0 _) (f1 _)) rfl rfl (f0 _) rfl rfl (by omega) (by omega) (by omega) (Nat.le_of_ble_eq_true rfl) ?_
  refine ko_bipush (v := 75) dX1_readKin_5 (by decide) ?_
  refine ko_icmp_ne (tgt := 17) dX1_readKin_7 (by decide) (fun c_7 => ?_) (fun c_7 => ?_)
  · refine ko_iload_n (i := 1) dX1_readKin_17 rfl rfl ?_
    refine ko_iret dX1_readKin_18 rfl (Nat.le_of_ble_eq_true rfl) (Nat.le_of_ble_eq_true rfl) ?_
    simp [rkR, c_7]
  · refine ko_aload_n (i := 0) dX1_readKin_10 rfl rfl ?_
    refine ko_callVr lk_X1_49 dX1_readKin_11 (fn_isPairLeft (d := d - 1) (f0 _) (kp_put_P _ _ _) (by omega)) rfl rfl (f0 _) rfl rfl (by omega) (by omega) (by omega) (Nat.le_of_ble_eq_true rfl) ?_
    first | refine ko_ifb_ne (tgt := 19) dX1_readKin_14 (by decide) (fun c_14 => ?_) (fun c_14 => ?_) | refine ko_if_ne (tgt := 19) dX1_readKin_14 (by decide) (fun c_14 => ?_) (fun c_14 => ?_)
    · refine ko_aload_n (i := 0) dX1_readKin_19 rfl rfl ?_
      refine ko_iload_n (i := 1) dX1_readKin_20 rfl rfl ?_
      refine ko_iconst (v := 1) dX1_readKin_21 (by decide) ?_
      refine ko_iadd dX1_readKin_22 ?_
      refine ko_callVr lk_X1_42 dX1_readKin_23 (fn_digitAt (d := d - 1) (f0 _) (f1 _) (by omega)) rfl rfl (f0 _) rfl rfl (by omega) (by omega) (by omega) (Nat.le_of_ble_eq_true rfl) ?_
      refine ko_istore_n (i := 2) (lv' := [(0, _), (1, _), (2, _)]) dX1_readKin_26 rfl (by decide) rfl rfl rfl ?_
      refine ko_aload_n (i := 0) dX1_readKin_27 rfl rfl ?_
      refine ko_get fl_X1_18 dX1_readKin_28 (f0 _) rfl ?_
      refine ko_iload_n (i := 2) dX1_readKin_31 rfl rfl ?_
      refine ko_callVr lk_X1_53 dX1_readKin_32 (fn_laterStrangers (d := d - 1) (kp_put_P _ _ _) (by omega)) rfl rfl (kp_put_P _ _ _).1 rfl rfl (by omega) (by omega) (by omega) (Nat.le_of_ble_eq_true rfl) ?_
      refine ko_istore_n (i := 3) (lv' := [(0, _), (1, _), (2, _), (3, _)]) dX1_readKin_35 rfl (by decide) rfl rfl rfl ?_
      refine ko_iload_n (i := 3) dX1_readKin_36 rfl rfl ?_
      refine ko_if_ne (tgt := 44) dX1_readKin_37 (by decide) (fun c_37 => ?_) (fun c_37 => ?_)
      · refine ko_aload_n (i := 0) dX1_readKin_44 rfl rfl ?_
        refine ko_iload_n (i := 1) dX1_readKin_45 rfl rfl ?_
        refine ko_iconst (v := 2) dX1_readKin_46 (by decide) ?_
        refine ko_iadd dX1_readKin_47 ?_
        refine ko_callVr lk_X1_42 dX1_readKin_48 (fn_digitAt (d := d - 1) (f0 _) (f1 _) (by omega)) rfl rfl (f0 _) rfl rfl (by omega) (by omega) (by omega) (Nat.le_of_ble_eq_true rfl) ?_
        refine ko_istore (i := 4) (lv' := [(0, _), (1, _), (2, _), (3, _), (4, _)]) dX1_readKin_51 (by decide) rfl rfl rfl ?_
        refine ko_iload_n (i := 3) dX1_readKin_53 rfl rfl ?_
        refine ko_iload (i := 4) dX1_readKin_54 rfl ?_
        refine ko_callSNr lk_X1_56 dX1_readKin_56 (fn_hasBit (d := d - 1)) rfl rfl (by omega) (by omega) (by omega) (Nat.le_of_ble_eq_true rfl) ?_
        first | refine ko_ifb_ne (tgt := 66) dX1_readKin_59 (by decide) (fun c_59 => ?_) (fun c_59 => ?_) | refine ko_if_ne (tgt := 66) dX1_readKin_59 (by decide) (fun c_59 => ?_) (fun c_59 => ?_)
        · refine ko_aload_n (i := 0) dX1_readKin_66 rfl rfl ?_
          refine ko_get fl_X1_18 dX1_readKin_67 (f0 _) rfl ?_
          refine ko_iload_n (i := 2) dX1_readKin_70 rfl rfl ?_
          refine ko_iload (i := 4) dX1_readKin_71 rfl ?_
          refine ko_callVv lk_X1_60 dX1_readKin_73 (fn_makeKin (d := d - 1) (kp_put_P _ _ _) (by omega)) rfl rfl (kp_put_P _ _ _).1 rfl rfl (by omega) (by omega) (by omega) (Nat.le_of_ble_eq_true rfl) ?_
          rw [kp_put_put]
          refine ko_bipush (v := (-9)) dX1_readKin_76 (by decide) ?_
          refine ko_iret dX1_readKin_78 rfl (Nat.le_of_ble_eq_true rfl) (Nat.le_of_ble_eq_true rfl) ?_
          simp [rkR, c_7, c_14, c_37, c_59]
        · refine ko_iload_n (i := 1) dX1_readKin_62 rfl rfl ?_
          refine ko_iconst (v := 2) dX1_readKin_63 (by decide) ?_
          refine ko_iadd dX1_readKin_64 ?_
          refine ko_iret dX1_readKin_65 rfl (Nat.le_of_ble_eq_true rfl) (Nat.le_of_ble_eq_true rfl) ?_
          simp [rkR, c_7, c_14, c_37, c_59]
      · refine ko_iload_n (i := 1) dX1_readKin_40 rfl rfl ?_
        refine ko_iconst (v := 1) dX1_readKin_41 (by decide) ?_
        refine ko_iadd dX1_readKin_42 ?_
        refine ko_iret dX1_readKin_43 rfl (Nat.le_of_ble_eq_true rfl) (Nat.le_of_ble_eq_true rfl) ?_
        simp [rkR, c_7, c_14, c_37]
    · refine ko_iload_n (i := 1) dX1_readKin_17 rfl rfl ?_
      refine ko_iret dX1_readKin_18 rfl (Nat.le_of_ble_eq_true rfl) (Nat.le_of_ble_eq_true rfl) ?_
      simp [rkR, c_7, c_14]
set_option maxRecDepth 20000 in
theorem fn_readLand {G : kx_G} {d N l : Nat} {h : kx_H} {T : Nat → Int32} {n : Int32} {u : PU} {L : Nat} (e0 : h l = some (klo l n)) (e1 : h (l + 1) = some (kl_a T)) (hP : kP h (l + 2) u) (hn : n = nI L) (hL : L ≤ 48) (hd : 4 ≤ d) : kx_Fn mX1_readLand d 0 0 G [.ref l] N h (some (.int (rlR T n).1), N, kp_put h (l + 2) (rlR T n).2) := by
  refine kx_Fn_of rfl (Nat.le_of_ble_eq_true rfl) rfl ?_ (kp_dom hP)
  have f0 : ∀ x, kp_put h (l + 2) x l = some (klo l n) := fun x => by rw [kp_put_out (by omega)]; exact e0
  have f1 : ∀ x, kp_put h (l + 2) x (l + 1) = some (kl_a T) := fun x => by rw [kp_put_out (by omega)]; exact e1
  refine ko_h (kp_put_same hP).symm ?_
  have LOOP : ∀ (k j : Nat) (v : PU), L ≤ j + k → j ≤ 60 → kx_Ok mX1_readLand d 0 0 G 0 0 21 [(0, .ref l), (1, .int (nI j))] [] N (kp_put h (l + 2) v) (some (.int (rl T n k (nI j) v).1), N, kp_put h (l + 2) (rl T n k (nI j) v).2) := by
    intro k
    induction k with
    | zero =>
      intro j v hj hj2
      refine ko_iload_n (i := 1) dX1_readLand_21 rfl rfl ?_
      refine ko_aload_n (i := 0) dX1_readLand_22 rfl rfl ?_
      refine ko_get fl_X1_22 dX1_readLand_23 (f0 _) rfl ?_
      refine ko_icmp_ge (tgt := 86) dX1_readLand_26 (by decide) (fun c_26 => ?_) (fun c_26 => ?_)
      · refine ko_bipush (v := (-9)) dX1_readLand_86 (by decide) ?_
        refine ko_iret dX1_readLand_88 rfl (Nat.le_of_ble_eq_true rfl) (Nat.le_of_ble_eq_true rfl) ?_
        rfl
      · exact absurd (show n ≤ nI j by rw [hn]; exact (nI_le (by omega) (by omega))) c_26
    | succ k ih =>
      intro j v hj hj2
      refine ko_iload_n (i := 1) dX1_readLand_21 rfl rfl ?_
      refine ko_aload_n (i := 0) dX1_readLand_22 rfl rfl ?_
      refine ko_get fl_X1_22 dX1_readLand_23 (f0 _) rfl ?_
      refine ko_icmp_ge (tgt := 86) dX1_readLand_26 (by decide) (fun c_26 => ?_) (fun c_26 => ?_)
      · refine ko_bipush (v := (-9)) dX1_readLand_86 (by decide) ?_
        refine ko_iret dX1_readLand_88 rfl (Nat.le_of_ble_eq_true rfl) (Nat.le_of_ble_eq_true rfl) ?_
        simp only [rl, if_pos c_26]
      · have hjL : j < L := by
          rcases Nat.lt_or_ge j L with q | q
          · exact q
          · exact absurd (show n ≤ nI j by rw [hn]; exact nI_le q (by omega)) c_26
        refine ko_aload_n (i := 0) dX1_readLand_29 rfl rfl ?_
        refine ko_iload_n (i := 1) dX1_readLand_30 rfl rfl ?_
        refine ko_callVr lk_X1_29 dX1_readLand_31 (fn_letterAt (d := d - 1) (f0 _) (f1 _)) rfl rfl (f0 _) rfl rfl (by omega) (by omega) (by omega) (Nat.le_of_ble_eq_true rfl) ?_
        refine ko_bipush (v := 80) dX1_readLand_34 (by decide) ?_
        refine ko_icmp_ne (tgt := 43) dX1_readLand_36 (by decide) (fun c_36 => ?_) (fun c_36 => ?_)
        · refine ko_iconst (v := 0) dX1_readLand_43 (by decide) ?_
          refine ko_istore_n (i := 2) (lv' := [(0, _), (1, _), (2, _)]) dX1_readLand_44 rfl (by decide) rfl rfl rfl ?_
          refine ko_iload_n (i := 2) dX1_readLand_45 rfl rfl ?_
          refine ko_if_eq (tgt := 57) dX1_readLand_46 (by decide) (fun c_46 => ?_) (fun c_46 => absurd c_46 (by decide))
          refine ko_aload_n (i := 0) dX1_readLand_57 rfl rfl ?_
          refine ko_iload_n (i := 1) dX1_readLand_58 rfl rfl ?_
          refine ko_callVr lk_X1_36 dX1_readLand_59 (fn_readKin (d := d - 1) (f0 _) (f1 _) (kp_put_P _ _ _) (by omega)) rfl rfl (f0 _) rfl rfl (by omega) (by omega) (by omega) (Nat.le_of_ble_eq_true rfl) ?_
          rw [kp_put_put]
          refine ko_istore_n (i := 3) (lv' := [(0, _), (1, _), (2, _), (3, _)]) dX1_readLand_62 rfl (by decide) rfl rfl rfl ?_
          refine ko_iload_n (i := 3) dX1_readLand_63 rfl rfl ?_
          refine ko_bipush (v := (-9)) dX1_readLand_64 (by decide) ?_
          refine ko_icmp_eq (tgt := 71) dX1_readLand_66 (by decide) (fun c_66 => ?_) (fun c_66 => ?_)
          · refine ko_iload_n (i := 1) dX1_readLand_71 rfl rfl ?_
            refine ko_iload_n (i := 2) dX1_readLand_72 rfl rfl ?_
            refine ko_if_eq (tgt := 80) dX1_readLand_73 (by decide) (fun c_73 => ?_) (fun c_73 => absurd c_73 (by decide))
            refine ko_iconst (v := 3) dX1_readLand_80 (by decide) ?_
            refine ko_iadd dX1_readLand_81 ?_
            refine ko_istore_n (i := 1) (lv' := [(0, _), (1, _), (2, _), (3, _)]) dX1_readLand_82 rfl (by decide) rfl rfl rfl ?_
            refine ko_goto (tgt := 21) dX1_readLand_83 (by decide) ?_
            refine ko_keep [0, 1] (lv' := [(0, _), (1, _)]) rfl ?_
            simp only [rl, if_neg c_26, c_26, c_36, c_66, if_true, if_false]
            first
              | rw [show nI j + 4 = nI (j + 4) from nI_add j 4]; exact ih (j + 4) _ (by omega) (by omega)
              | rw [show nI j + 3 = nI (j + 3) from nI_add j 3]; exact ih (j + 3) _ (by omega) (by omega)
          · refine ko_iload_n (i := 3) dX1_readLand_69 rfl rfl ?_
            refine ko_iret dX1_readLand_70 rfl (Nat.le_of_ble_eq_true rfl) (Nat.le_of_ble_eq_true rfl) ?_
            simp only [rl, if_neg c_26, c_26, c_36, c_66, if_true, if_false, not_false_eq_true]
        · refine ko_iconst (v := 1) dX1_readLand_39 (by decide) ?_
          refine ko_goto (tgt := 44) dX1_readLand_40 (by decide) ?_
          refine ko_istore_n (i := 2) (lv' := [(0, _), (1, _), (2, _)]) dX1_readLand_44 rfl (by decide) rfl rfl rfl ?_
          refine ko_iload_n (i := 2) dX1_readLand_45 rfl rfl ?_
          refine ko_if_eq (tgt := 57) dX1_readLand_46 (by decide) (fun c_46 => absurd c_46 (by decide)) (fun c_46 => ?_)
          refine ko_aload_n (i := 0) dX1_readLand_49 rfl rfl ?_
          refine ko_iload_n (i := 1) dX1_readLand_50 rfl rfl ?_
          refine ko_callVr lk_X1_33 dX1_readLand_51 (fn_readPerson (d := d - 1) (f0 _) (f1 _) (kp_put_P _ _ _) (by omega)) rfl rfl (f0 _) rfl rfl (by omega) (by omega) (by omega) (Nat.le_of_ble_eq_true rfl) ?_
          rw [kp_put_put]
          refine ko_goto (tgt := 62) dX1_readLand_54 (by decide) ?_
          refine ko_istore_n (i := 3) (lv' := [(0, _), (1, _), (2, _), (3, _)]) dX1_readLand_62 rfl (by decide) rfl rfl rfl ?_
          refine ko_iload_n (i := 3) dX1_readLand_63 rfl rfl ?_
          refine ko_bipush (v := (-9)) dX1_readLand_64 (by decide) ?_
          refine ko_icmp_eq (tgt := 71) dX1_readLand_66 (by decide) (fun c_66 => ?_) (fun c_66 => ?_)
          · refine ko_iload_n (i := 1) dX1_readLand_71 rfl rfl ?_
            refine ko_iload_n (i := 2) dX1_readLand_72 rfl rfl ?_
            refine ko_if_eq (tgt := 80) dX1_readLand_73 (by decide) (fun c_73 => absurd c_73 (by decide)) (fun c_73 => ?_)
            refine ko_iconst (v := 4) dX1_readLand_76 (by decide) ?_
            refine ko_goto (tgt := 81) dX1_readLand_77 (by decide) ?_
            refine ko_iadd dX1_readLand_81 ?_
            refine ko_istore_n (i := 1) (lv' := [(0, _), (1, _), (2, _), (3, _)]) dX1_readLand_82 rfl (by decide) rfl rfl rfl ?_
            refine ko_goto (tgt := 21) dX1_readLand_83 (by decide) ?_
            refine ko_keep [0, 1] (lv' := [(0, _), (1, _)]) rfl ?_
            simp only [rl, if_neg c_26, c_26, c_36, c_66, if_true, if_false]
            first
              | rw [show nI j + 4 = nI (j + 4) from nI_add j 4]; exact ih (j + 4) _ (by omega) (by omega)
              | rw [show nI j + 3 = nI (j + 3) from nI_add j 3]; exact ih (j + 3) _ (by omega) (by omega)
          · refine ko_iload_n (i := 3) dX1_readLand_69 rfl rfl ?_
            refine ko_iret dX1_readLand_70 rfl (Nat.le_of_ble_eq_true rfl) (Nat.le_of_ble_eq_true rfl) ?_
            simp only [rl, if_neg c_26, c_26, c_36, c_66, if_true, if_false, not_false_eq_true]
  refine ko_aload_n (i := 0) dX1_readLand_0 rfl rfl ?_
  refine ko_get fl_X1_18 dX1_readLand_1 (f0 _) rfl ?_
  refine ko_callVv lk_X1_26 dX1_readLand_4 (fn_clear (d := d - 1) (kp_put_P _ _ _)) rfl rfl (kp_put_P _ _ _).1 rfl rfl (by omega) (by omega) (by omega) (Nat.le_of_ble_eq_true rfl) ?_
  rw [kp_put_put]
  refine ko_aload_n (i := 0) dX1_readLand_7 rfl rfl ?_
  refine ko_iconst (v := 0) dX1_readLand_8 (by decide) ?_
  refine ko_callVr lk_X1_29 dX1_readLand_9 (fn_letterAt (d := d - 1) (f0 _) (f1 _)) rfl rfl (f0 _) rfl rfl (by omega) (by omega) (by omega) (Nat.le_of_ble_eq_true rfl) ?_
  refine ko_bipush (v := 84) dX1_readLand_12 (by decide) ?_
  refine ko_icmp_eq (tgt := 19) dX1_readLand_14 (by decide) (fun c_14 => ?_) (fun c_14 => ?_)
  · refine ko_iconst (v := 1) dX1_readLand_19 (by decide) ?_
    refine ko_istore_n (i := 1) (lv' := [(0, _), (1, _)]) dX1_readLand_20 rfl (by decide) rfl rfl rfl ?_
    have e1L := LOOP 48 1 pZ (by omega) (by omega)
    simp only [rlR, c_14, not_true_eq_false, if_false]
    exact e1L
  · refine ko_iconst (v := 0) dX1_readLand_17 (by decide) ?_
    refine ko_iret dX1_readLand_18 rfl (Nat.le_of_ble_eq_true rfl) (Nat.le_of_ble_eq_true rfl) ?_
    simp [rlR, c_14]
theorem ku_two (h : kx_H) {a b : Nat} (e f : va_E) (hab : a ≠ b) : kx_up (kx_up h a e) b f = kx_up (kx_up h b f) a e := by
  funext q
  unfold kx_up
  by_cases h1 : q = b
  · rw [if_pos h1, if_neg (fun z => hab (z.symm.trans h1)), if_pos h1]
  · rw [if_neg h1]
    by_cases h2 : q = a
    · rw [if_pos h2, if_pos h2]
    · rw [if_neg h2, if_neg h2, if_neg h1]
def apB (n : Int32) : Bool := !decide (n < 0) && decide (n < 48)
def apT (T : Nat → Int32) (n c : Int32) : Nat → Int32 := if apB n = true then upd T n.toNatClampNeg c else T
def apN (n : Int32) : Int32 := if apB n = true then n + 1 else n
set_option maxRecDepth 20000 in
theorem fn_append {G : kx_G} {d N l : Nat} {h : kx_H} {T : Nat → Int32} {n : Int32} {c : Int32} : kx_Fn mX1_append d 0 0 G [.ref l, .int c] N (kx_up (kx_up h (l + 1) (kl_a T)) l (klo l n)) (some (.int (kb (apB n))), N, kx_up (kx_up h (l + 1) (kl_a (apT T n c))) l (klo l (apN n))) := by
  refine kx_Fn_of rfl (Nat.le_of_ble_eq_true rfl) rfl ?_ (fun q x hx => by
    by_cases h1 : q = l
    · subst h1; exact kx_self _ _ ku_s
    · by_cases h2 : q = l + 1
      · subst h2; exact kx_self _ (kl_a T) (by rw [ku_n (by omega), ku_s])
      · have hx : kx_up (kx_up h (l + 1) (kl_a (apT T n c))) l (klo l (apN n)) q = some x := hx
        rw [ku_n h1, ku_n h2] at hx
        exact kx_self q x (by rw [ku_n h1, ku_n h2]; exact hx))
  refine ko_aload_n (i := 0) dX1_append_0 rfl rfl ?_
  refine ko_get fl_X1_22 dX1_append_1 ku_s rfl ?_
  refine ko_if_lt (tgt := 16) dX1_append_4 (by decide) (fun c_4 => ?_) (fun c_4 => ?_)
  · refine ko_iconst (v := 0) dX1_append_16 (by decide) ?_
    refine ko_zret dX1_append_17 rfl rfl (Nat.le_of_ble_eq_true rfl) (Nat.le_of_ble_eq_true rfl) ?_
    simp [apB, apT, apN, kb, c_4]
  · refine ko_aload_n (i := 0) dX1_append_7 rfl rfl ?_
    refine ko_get fl_X1_22 dX1_append_8 ku_s rfl ?_
    refine ko_bipush (v := 48) dX1_append_11 (by decide) ?_
    refine ko_icmp_lt (tgt := 18) dX1_append_13 (by decide) (fun c_13 => ?_) (fun c_13 => ?_)
    · refine ko_aload_n (i := 0) dX1_append_18 rfl rfl ?_
      refine ko_get fl_X1_9 dX1_append_19 ku_s rfl ?_
      refine ko_aload_n (i := 0) dX1_append_22 rfl rfl ?_
      refine ko_get fl_X1_22 dX1_append_23 ku_s rfl ?_
      refine ko_iload_n (i := 1) dX1_append_26 rfl rfl ?_
      refine ko_iast dX1_append_27 (by rw [ku_n (by omega), ku_s]) (in48 c_4 (Int32.not_le.mpr c_13)) ?_
      rw [ku_two _ _ _ (by omega), ku_ku]
      refine ko_aload_n (i := 0) dX1_append_28 rfl rfl ?_
      refine ko_dup dX1_append_29 rfl ?_
      refine ko_get fl_X1_22 dX1_append_30 ku_s rfl ?_
      refine ko_iconst (v := 1) dX1_append_33 (by decide) ?_
      refine ko_iadd dX1_append_34 ?_
      refine ko_put fl_X1_22 dX1_append_35 ku_s rfl rfl (Nat.le_of_ble_eq_true rfl) ?_
      rw [ku_ku]
      refine ko_iconst (v := 1) dX1_append_38 (by decide) ?_
      refine ko_zret dX1_append_39 rfl rfl (Nat.le_of_ble_eq_true rfl) (Nat.le_of_ble_eq_true rfl) ?_
      simp [apB, apT, apN, kb, c_4, c_13]
    · refine ko_iconst (v := 0) dX1_append_16 (by decide) ?_
      refine ko_zret dX1_append_17 rfl rfl (Nat.le_of_ble_eq_true rfl) (Nat.le_of_ble_eq_true rfl) ?_
      simp [apB, apT, apN, kb, c_4, c_13]
end
section
/-! ===== Acts ===== -/
theorem ko_cs {Y : kx_Y} {d kc ks : Nat} {G : kx_G} {cs cs' ss ss' pc : Nat} {lv : List (Nat × Value)} {st : List Value} {N N' : Nat} {h : kx_H} {res : kx_R} (e1 : cs = cs') (e2 : ss = ss') (e3 : N = N') (K : kx_Ok Y d kc ks G cs' ss' pc lv st N' h res) : kx_Ok Y d kc ks G cs ss pc lv st N h res := by subst e1; subst e2; subst e3; exact K
abbrev kao (c F C : Nat) : va_E := .inr (0, [.ref (c + 1), .int (nI F), .int (nI C)])
abbrev kr (L : Nat) (f : Nat → Option Nat) : va_E := .inl (2, L, .inr (.inr (.inr (.inr f))))
def kA (h : kx_H) (c F C : Nat) (B : Nat → PU) : Prop := h c = some (kao c F C) ∧ (∃ f : Nat → Option Nat, h (c + 1) = some (kr 14 f) ∧ ∀ i, i < 14 → f i = some (c + 2 + 6 * i)) ∧ ∀ i, i < 14 → kP h (c + 2 + 6 * i) (B i)
theorem kP_of {h g : kx_H} {a : Nat} {u : PU} (hP : kP h a u) (e : ∀ q, a ≤ q → q ≤ a + 5 → g q = h q) : kP g a u := by
  obtain ⟨e0, e1, e2, e3, e4, e5⟩ := hP
  exact ⟨by rw [e _ (by omega) (by omega)]; exact e0, by rw [e _ (by omega) (by omega)]; exact e1, by rw [e _ (by omega) (by omega)]; exact e2, by rw [e _ (by omega) (by omega)]; exact e3, by rw [e _ (by omega) (by omega)]; exact e4, by rw [e _ (by omega) (by omega)]; exact e5⟩
theorem kA_of {h g : kx_H} {c F C : Nat} {B : Nat → PU} (hA : kA h c F C B) (e : ∀ q, c ≤ q → q ≤ c + 85 → g q = h q) : kA g c F C B := by
  obtain ⟨a1, ⟨f, a2, a3⟩, a4⟩ := hA
  exact ⟨by rw [e _ (by omega) (by omega)]; exact a1, ⟨f, by rw [e _ (by omega) (by omega)]; exact a2, a3⟩, fun i hi => kP_of (a4 i hi) (fun q g1 g2 => e q (by omega) (by omega))⟩
theorem kA_put {h : kx_H} {c F C : Nat} {B : Nat → PU} (hA : kA h c F C B) (F' C' s : Nat) (hs : s < 14) (v : PU) : kA (kx_up (kp_put h (c + 2 + 6 * s) v) c (kao c F' C')) c F' C' (fun i => if i = s then v else B i) := by
  obtain ⟨a1, ⟨f, a2, a3⟩, a4⟩ := hA
  refine ⟨ku_s, ⟨f, by rw [ku_n (by omega), kp_put_out (by omega)]; exact a2, a3⟩, fun i hi => ?_⟩
  refine kP_up ?_ (by omega)
  by_cases h1 : i = s
  · subst h1
    show kP _ _ (if i = i then v else B i)
    rw [if_pos rfl]; exact kp_put_P _ _ _
  · show kP _ _ (if i = s then v else B i)
    rw [if_neg h1]; exact kp_put_other (a4 i hi) (by omega)
theorem kA_obj {h : kx_H} {c F C : Nat} {B : Nat → PU} (hA : kA h c F C B) (F' C' : Nat) : kA (kx_up h c (kao c F' C')) c F' C' B := by
  obtain ⟨a1, ⟨f, a2, a3⟩, a4⟩ := hA
  exact ⟨ku_s, ⟨f, by rw [ku_n (by omega)]; exact a2, a3⟩, fun i hi => kP_up (a4 i hi) (by omega)⟩
theorem rem14 (n : Nat) (h : n < 2 ^ 31) : nI n - nI n / 14 * 14 = nI (n % 14) := pk_rem (d := 14) h (by omega) (by omega)
theorem kx_dom_of {h g : kx_H} {N : Nat} (e : ∀ q x, g q = some x → h q ≠ none) : ∀ q x, g q = some x → kx_dom h N q := fun q x hx => Or.inl (e q x hx)
set_option maxRecDepth 20000 in
theorem fn_forgetAll {G : kx_G} {d N c F C : Nat} {h : kx_H} (e0 : h c = some (kao c F C)) : kx_Fn mX0_forgetAll d 0 0 G [.ref c] N h (none, N, kx_up h c (kao c 0 0)) := by
  refine kx_Fn_of rfl (Nat.le_of_ble_eq_true rfl) rfl ?_ (ku_dom e0)
  refine ko_h (ku_same e0).symm ?_
  refine ko_aload_n (i := 0) dX0_forgetAll_0 rfl rfl ?_
  refine ko_iconst (v := 0) dX0_forgetAll_1 (by decide) ?_
  refine ko_put fl_X0_18 dX0_forgetAll_2 ku_s rfl rfl (Nat.le_of_ble_eq_true rfl) ?_
  refine ko_h (ku_ku _ _ _ _) ?_
  refine ko_aload_n (i := 0) dX0_forgetAll_5 rfl rfl ?_
  refine ko_iconst (v := 0) dX0_forgetAll_6 (by decide) ?_
  refine ko_put fl_X0_22 dX0_forgetAll_7 ku_s rfl rfl (Nat.le_of_ble_eq_true rfl) ?_
  refine ko_h (ku_ku _ _ _ _) ?_
  refine ko_vret dX0_forgetAll_10 rfl (Nat.le_of_ble_eq_true rfl) (Nat.le_of_ble_eq_true rfl) ?_
  rfl
theorem kp_up_swap {h : kx_H} {a c : Nat} {v : PU} {e : va_E} (hc : c < a ∨ a + 5 < c) : kp_put (kx_up h c e) a v = kx_up (kp_put h a v) c e := by
  refine (kp_ext (h := kx_up h c e) (kP_up (kp_put_P _ _ _) hc) (fun q hq => ?_)).symm
  by_cases h1 : q = c
  · subst h1; rw [ku_s, ku_s]
  · rw [ku_n h1, ku_n h1, kp_put_out hq]
set_option maxRecDepth 20000 in
theorem fn_rememberC {G : kx_G} {d N c b F C : Nat} {h : kx_H} {B : Nat → PU} {v : PU} (hA : kA h c F C B) (hF : F < 14) (hC : C < 14) (hQ : kP h b v) (hb : b + 5 < c ∨ c + 85 < b) (hd : 2 ≤ d) : kx_Fn mX0_remember d 0 0 G [.ref c, .ref b] N h (none, N, kx_up (kp_put h (c + 2 + 6 * ((F + C) % 14)) v) c (kao c F (C + 1))) := by
  refine kx_Fn_of rfl (Nat.le_of_ble_eq_true rfl) rfl ?_ (fun q x hx => by
    have hx : kx_up (kp_put h (c + 2 + 6 * ((F + C) % 14)) v) c (kao c F (C + 1)) q = some x := hx
    by_cases h1 : q = c
    · subst h1; exact kx_self _ _ hA.1
    · rw [ku_n h1] at hx
      exact kp_dom (hA.2.2 (((F + C) % 14)) (by omega)) q x hx)
  obtain ⟨a1, ⟨f, a2, a3⟩, a4⟩ := id hA
  refine ko_h (ku_same a1).symm ?_
  have hs : ((F + C) % 14) < 14 := by omega
  refine ko_aload_n (i := 0) dX0_remember_0 rfl rfl ?_
  refine ko_get fl_X0_22 dX0_remember_1 ku_s rfl ?_
  refine ko_bipush (v := 14) dX0_remember_4 (by decide) ?_
  refine ko_icmp_lt (tgt := 28) dX0_remember_6 (by decide) (fun c_6 => ?_) (fun c_6 => ?_)
  · refine ko_aload_n (i := 0) dX0_remember_28 rfl rfl ?_
    refine ko_get fl_X0_11 dX0_remember_29 ku_s rfl ?_
    refine ko_aload_n (i := 0) dX0_remember_32 rfl rfl ?_
    refine ko_get fl_X0_18 dX0_remember_33 ku_s rfl ?_
    refine ko_aload_n (i := 0) dX0_remember_36 rfl rfl ?_
    refine ko_get fl_X0_22 dX0_remember_37 ku_s rfl ?_
    refine ko_iadd dX0_remember_40 ?_
    rw [nI_add]
    refine ko_bipush (v := 14) dX0_remember_41 (by decide) ?_
    refine ko_irem dX0_remember_43 (by decide) ?_
    rw [rem14 _ (by omega)]
    refine ko_aald dX0_remember_44 (by rw [ku_n (by omega)]; exact a2) (vp_in_nI hs (by omega)) (by rw [nI_clamp (by omega)]; exact a3 _ hs) ?_
    refine ko_aload_n (i := 1) dX0_remember_45 rfl rfl ?_
    refine ko_callVv lk_X0_25 dX0_remember_46 (fn_copyFrom (d := d - 1) (kP_up (a4 _ hs) (by omega)) (kP_up hQ (by omega)) (by omega) (by omega)) rfl rfl (kP_up (a4 _ hs) (by omega)).1 rfl rfl (by omega) (by omega) (by omega) (Nat.le_of_ble_eq_true rfl) ?_
    refine ko_h (h' := kx_up (kp_put h (c + 2 + 6 * ((F + C) % 14)) v) c (kao c F C)) ?_ ?_
    · exact kp_up_swap (by omega)
    refine ko_aload_n (i := 0) dX0_remember_49 rfl rfl ?_
    refine ko_dup dX0_remember_50 rfl ?_
    refine ko_get fl_X0_22 dX0_remember_51 ku_s rfl ?_
    refine ko_iconst (v := 1) dX0_remember_54 (by decide) ?_
    refine ko_iadd dX0_remember_55 ?_
    rw [nI_1]
    refine ko_put fl_X0_22 dX0_remember_56 ku_s rfl rfl (Nat.le_of_ble_eq_true rfl) ?_
    refine ko_h (ku_ku _ _ _ _) ?_
    refine ko_vret dX0_remember_59 rfl (Nat.le_of_ble_eq_true rfl) (Nat.le_of_ble_eq_true rfl) ?_
    rfl
  · exact absurd (show nI C < nI 14 from nI_lt hC (by omega)) c_6
set_option maxRecDepth 20000 in
theorem fn_remember14 {G : kx_G} {d N c b F C : Nat} {h : kx_H} {B : Nat → PU} {v : PU} (hA : kA h c F C B) (hF : F < 14) (hC : C = 14) (hQ : kP h b v) (hb : b + 5 < c ∨ c + 85 < b) (hd : 2 ≤ d) : kx_Fn mX0_remember d 0 0 G [.ref c, .ref b] N h (none, N, kx_up (kp_put h (c + 2 + 6 * ((((F + 1) % 14) + 13) % 14)) v) c (kao c ((F + 1) % 14) 14)) := by
  refine kx_Fn_of rfl (Nat.le_of_ble_eq_true rfl) rfl ?_ (fun q x hx => by
    have hx : kx_up (kp_put h (c + 2 + 6 * ((((F + 1) % 14) + 13) % 14)) v) c (kao c ((F + 1) % 14) 14) q = some x := hx
    by_cases h1 : q = c
    · subst h1; exact kx_self _ _ hA.1
    · rw [ku_n h1] at hx
      exact kp_dom (hA.2.2 (((((F + 1) % 14) + 13) % 14)) (by omega)) q x hx)
  subst hC
  obtain ⟨a1, ⟨f, a2, a3⟩, a4⟩ := id hA
  refine ko_h (ku_same a1).symm ?_
  have hs : ((((F + 1) % 14) + 13) % 14) < 14 := by omega
  refine ko_aload_n (i := 0) dX0_remember_0 rfl rfl ?_
  refine ko_get fl_X0_22 dX0_remember_1 ku_s rfl ?_
  refine ko_bipush (v := 14) dX0_remember_4 (by decide) ?_
  refine ko_icmp_lt (tgt := 28) dX0_remember_6 (by decide) (fun c_6 => ?_) (fun c_6 => ?_)
  · exact absurd c_6 (by decide)
  · refine ko_aload_n (i := 0) dX0_remember_9 rfl rfl ?_
    refine ko_aload_n (i := 0) dX0_remember_10 rfl rfl ?_
    refine ko_get fl_X0_18 dX0_remember_11 ku_s rfl ?_
    refine ko_iconst (v := 1) dX0_remember_14 (by decide) ?_
    refine ko_iadd dX0_remember_15 ?_
    rw [nI_1]
    refine ko_bipush (v := 14) dX0_remember_16 (by decide) ?_
    refine ko_irem dX0_remember_18 (by decide) ?_
    rw [rem14 _ (by omega)]
    refine ko_put fl_X0_18 dX0_remember_19 ku_s rfl rfl (Nat.le_of_ble_eq_true rfl) ?_
    refine ko_h (ku_ku _ _ _ _) ?_
    refine ko_aload_n (i := 0) dX0_remember_22 rfl rfl ?_
    refine ko_bipush (v := 13) dX0_remember_23 (by decide) ?_
    refine ko_put fl_X0_22 dX0_remember_25 ku_s rfl rfl (Nat.le_of_ble_eq_true rfl) ?_
    refine ko_h (ku_ku _ _ _ _) ?_
    refine ko_aload_n (i := 0) dX0_remember_28 rfl rfl ?_
    refine ko_get fl_X0_11 dX0_remember_29 ku_s rfl ?_
    refine ko_aload_n (i := 0) dX0_remember_32 rfl rfl ?_
    refine ko_get fl_X0_18 dX0_remember_33 ku_s rfl ?_
    refine ko_aload_n (i := 0) dX0_remember_36 rfl rfl ?_
    refine ko_get fl_X0_22 dX0_remember_37 ku_s rfl ?_
    refine ko_iadd dX0_remember_40 ?_
    rw [show (13 : Int32) = nI 13 from rfl, nI_add]
    refine ko_bipush (v := 14) dX0_remember_41 (by decide) ?_
    refine ko_irem dX0_remember_43 (by decide) ?_
    rw [rem14 _ (by omega)]
    refine ko_aald dX0_remember_44 (by rw [ku_n (by omega)]; exact a2) (vp_in_nI hs (by omega)) (by rw [nI_clamp (by omega)]; exact a3 _ hs) ?_
    refine ko_aload_n (i := 1) dX0_remember_45 rfl rfl ?_
    refine ko_callVv lk_X0_25 dX0_remember_46 (fn_copyFrom (d := d - 1) (kP_up (a4 _ hs) (by omega)) (kP_up hQ (by omega)) (by omega) (by omega)) rfl rfl (kP_up (a4 _ hs) (by omega)).1 rfl rfl (by omega) (by omega) (by omega) (Nat.le_of_ble_eq_true rfl) ?_
    refine ko_h (h' := kx_up (kp_put h (c + 2 + 6 * ((((F + 1) % 14) + 13) % 14)) v) c (kao c ((F + 1) % 14) 13)) ?_ ?_
    · exact kp_up_swap (by omega)
    refine ko_aload_n (i := 0) dX0_remember_49 rfl rfl ?_
    refine ko_dup dX0_remember_50 rfl ?_
    refine ko_get fl_X0_22 dX0_remember_51 ku_s rfl ?_
    refine ko_iconst (v := 1) dX0_remember_54 (by decide) ?_
    refine ko_iadd dX0_remember_55 ?_
    rw [nI_1]
    refine ko_put fl_X0_22 dX0_remember_56 ku_s rfl rfl (Nat.le_of_ble_eq_true rfl) ?_
    refine ko_h (ku_ku _ _ _ _) ?_
    refine ko_vret dX0_remember_59 rfl (Nat.le_of_ble_eq_true rfl) (Nat.le_of_ble_eq_true rfl) ?_
    rfl
set_option maxRecDepth 20000 in
theorem fn_takeLast {G : kx_G} {d N c b F C : Nat} {h : kx_H} {B : Nat → PU} {v : PU} (hA : kA h c F C B) (hC : 0 < C) (hC2 : C ≤ 14) (hF : F < 14) (hQ : kP h b v) (hb : b + 5 < c ∨ c + 85 < b) (hd : 2 ≤ d) : kx_Fn mX0_takeLast d 0 0 G [.ref c, .ref b] N h (none, N, kp_put (kx_up h c (kao c F (C - 1))) b (B ((F + (C - 1)) % 14))) := by
  refine kx_Fn_of rfl (Nat.le_of_ble_eq_true rfl) rfl ?_ (fun q x hx => by
    have hx : kp_put (kx_up h c (kao c F (C - 1))) b (B ((F + (C - 1)) % 14)) q = some x := hx
    by_cases h1 : q = c
    · subst h1; exact kx_self _ _ hA.1
    · rw [kp_up_swap (by omega), ku_n h1] at hx
      exact kp_dom hQ q x hx)
  obtain ⟨a1, ⟨f, a2, a3⟩, a4⟩ := id hA
  refine ko_h (ku_same a1).symm ?_
  have hs : (F + (C - 1)) % 14 < 14 := by omega
  refine ko_aload_n (i := 0) dX0_takeLast_0 rfl rfl ?_
  refine ko_get fl_X0_22 dX0_takeLast_1 ku_s rfl ?_
  refine ko_if_le (tgt := 38) dX0_takeLast_4 (by decide) (fun c_4 => ?_) (fun c_4 => ?_)
  · exact absurd (show nI C ≤ nI 0 from c_4) (nI_ge (by omega) (by omega))
  · refine ko_aload_n (i := 0) dX0_takeLast_7 rfl rfl ?_
    refine ko_dup dX0_takeLast_8 rfl ?_
    refine ko_get fl_X0_22 dX0_takeLast_9 ku_s rfl ?_
    refine ko_iconst (v := 1) dX0_takeLast_12 (by decide) ?_
    refine ko_isub dX0_takeLast_13 ?_
    rw [show nI C - 1 = nI (C - 1) from pk_sub (b := 1) (by omega)]
    refine ko_put fl_X0_22 dX0_takeLast_14 ku_s rfl rfl (Nat.le_of_ble_eq_true rfl) ?_
    refine ko_h (ku_ku _ _ _ _) ?_
    refine ko_aload_n (i := 1) dX0_takeLast_17 rfl rfl ?_
    refine ko_aload_n (i := 0) dX0_takeLast_18 rfl rfl ?_
    refine ko_get fl_X0_11 dX0_takeLast_19 ku_s rfl ?_
    refine ko_aload_n (i := 0) dX0_takeLast_22 rfl rfl ?_
    refine ko_get fl_X0_18 dX0_takeLast_23 ku_s rfl ?_
    refine ko_aload_n (i := 0) dX0_takeLast_26 rfl rfl ?_
    refine ko_get fl_X0_22 dX0_takeLast_27 ku_s rfl ?_
    refine ko_iadd dX0_takeLast_30 ?_
    rw [nI_add]
    refine ko_bipush (v := 14) dX0_takeLast_31 (by decide) ?_
    refine ko_irem dX0_takeLast_33 (by decide) ?_
    rw [rem14 _ (by omega)]
    refine ko_aald dX0_takeLast_34 (by rw [ku_n (by omega)]; exact a2) (vp_in_nI hs (by omega)) (by rw [nI_clamp (by omega)]; exact a3 _ hs) ?_
    refine ko_callVv lk_X0_25 dX0_takeLast_35 (fn_copyFrom (d := d - 1) (kP_up hQ (by omega)) (kP_up (a4 _ hs) (by omega)) (by omega) (by omega)) rfl rfl (kP_up hQ (by omega)).1 rfl rfl (by omega) (by omega) (by omega) (Nat.le_of_ble_eq_true rfl) ?_
    refine ko_vret dX0_takeLast_38 rfl (Nat.le_of_ble_eq_true rfl) (Nat.le_of_ble_eq_true rfl) ?_
    rfl
def acF (c i : Nat) : Nat → Option Nat := fun j => if j < i then some (c + 2 + 6 * j) else none
def acH (h : kx_H) (c : Nat) : Nat → kx_H
  | 0 => kx_up (kx_up h (c + 1) (kr 14 (acF c 0))) c (kao c 0 0)
  | i + 1 => kx_up (kp_put (acH h c i) (c + 2 + 6 * i) pZ) (c + 1) (kr 14 (acF c (i + 1)))
theorem acF_s (c i : Nat) : va_up (acF c i) i (some (c + 2 + 6 * i)) = acF c (i + 1) := by
  funext j
  unfold va_up acF
  by_cases h1 : j = i
  · rw [if_pos h1, if_pos (by omega), h1]
  · rw [if_neg h1]
    by_cases h2 : j < i
    · rw [if_pos h2, if_pos (by omega)]
    · rw [if_neg h2, if_neg (by omega)]
theorem acH_a (h : kx_H) (c : Nat) : ∀ i, acH h c i (c + 1) = some (kr 14 (acF c i))
  | 0 => by unfold acH; rw [ku_n (by omega), ku_s]
  | i + 1 => by unfold acH; rw [ku_s]
theorem acH_c (h : kx_H) (c : Nat) : ∀ i, acH h c i c = some (kao c 0 0)
  | 0 => by unfold acH; rw [ku_s]
  | i + 1 => by unfold acH; rw [ku_n (by omega), kp_put_out (by omega)]; exact acH_c h c i
theorem acH_out (h : kx_H) (c : Nat) : ∀ i q, (q < c ∨ c + 1 + 6 * i < q) → acH h c i q = h q
  | 0, q, hq => by unfold acH; rw [ku_n (by omega), ku_n (by omega)]
  | i + 1, q, hq => by unfold acH; rw [ku_n (by omega), kp_put_out (by omega)]; exact acH_out h c i q (by omega)
theorem acH_P (h : kx_H) (c : Nat) : ∀ i j, j < i → kP (acH h c i) (c + 2 + 6 * j) pZ
  | i + 1, j, hj => by
    unfold acH
    refine kP_up ?_ (by omega)
    by_cases h1 : j = i
    · subst h1; exact kp_put_P _ _ _
    · exact kp_put_other (acH_P h c i j (by omega)) (by omega)
theorem acH_A (h : kx_H) (c : Nat) : kA (acH h c 14) c 0 0 (fun _ => pZ) := ⟨acH_c h c 14, ⟨_, acH_a h c 14, fun i hi => if_pos hi⟩, fun i hi => acH_P h c 14 i hi⟩
theorem kp_put_up {h : kx_H} {a : Nat} {u : PU} {e : va_E} : kp_put (kx_up h a e) a u = kp_put h a u := kp_ext (kp_put_P _ _ _) (fun q hq => by rw [kp_put_out hq, ku_n (by omega)])
abbrev kab : va_E := .inr (0, [.null, .int 0, .int 0])
set_option maxRecDepth 20000 in
theorem fn_aInit {G : kx_G} {d c : Nat} {h : kx_H} (e0 : h c = some kab) (hd : 2 ≤ d) : kx_Fn mX0_init d 85 770 G [.ref c] (c + 1) h (none, c + 86, acH h c 14) := by
  refine kx_Fn_of rfl (Nat.le_of_ble_eq_true rfl) rfl ?_ (fun q x hx => by
    by_cases h1 : q < c
    · have hx : acH h c 14 q = some x := hx
      rw [acH_out _ _ _ _ (Or.inl h1)] at hx
      exact kx_self _ _ hx
    · by_cases h2 : q = c
      · subst h2; exact kx_self _ _ e0
      · exact Or.inr (by omega))
  have LOOP : ∀ (k i : Nat), k + i = 14 → kx_Ok mX0_init d 85 770 G (1 + 6 * i) (14 + 54 * i) 15 [(0, .ref c), (1, .int (nI i))] [] (c + 2 + 6 * i) (acH h c i) (none, c + 86, acH h c 14) := by
    intro k
    induction k with
    | zero =>
      intro i hi
      obtain rfl : i = 14 := by omega
      refine ko_iload_n (i := 1) dX0_init_15 rfl rfl ?_
      refine ko_bipush (v := 14) dX0_init_16 (by decide) ?_
      refine ko_icmp_ge (tgt := 40) dX0_init_18 (by decide) (fun c_18 => ?_) (fun c_18 => ?_)
      · refine ko_vret dX0_init_40 rfl (by omega) (by omega) ?_
        rfl
      · exact absurd (show (14 : Int32) ≤ nI 14 by decide) c_18
    | succ k ih =>
      intro i hi
      refine ko_iload_n (i := 1) dX0_init_15 rfl rfl ?_
      refine ko_bipush (v := 14) dX0_init_16 (by decide) ?_
      refine ko_icmp_ge (tgt := 40) dX0_init_18 (by decide) (fun c_18 => ?_) (fun c_18 => ?_)
      · exact absurd (show nI 14 ≤ nI i from c_18) (nI_ge (by omega) (by omega))
      · refine ko_aload_n (i := 0) dX0_init_21 rfl rfl ?_
        refine ko_get fl_X0_11 dX0_init_22 (acH_c _ _ _) rfl ?_
        refine ko_iload_n (i := 1) dX0_init_25 rfl rfl ?_
        refine ko_new (fs := [.null, .null, .null, .null, .null, .int 0, .int 0, .int 0, .int 0]) kc_2 wl_X0_9 wn_RX2 wi_RX2 (by decide +kernel) dX0_init_26 (by omega) (by omega) ?_
        refine ko_dup dX0_init_29 rfl ?_
        refine ko_callINv lk_X0_17 rfl dX0_init_30 (fn_pInit (d := d - 1) ku_s (by omega)) rfl rfl (by omega) (by omega) (by omega) (Nat.le_of_ble_eq_true rfl) ?_
        rw [kp_put_up]
        refine ko_aast dX0_init_33 (by rw [kp_put_out (by omega)]; exact acH_a _ _ _) (kp_put_P _ _ _).1 (vp_in_nI (by omega) (by omega)) ?_
        rw [nI_clamp (by omega), acF_s]
        refine ko_inc1 (i := 1) (lv' := [(0, _), (1, _)]) dX0_init_34 rfl (by decide) rfl rfl rfl ?_
        refine ko_goto (tgt := 15) dX0_init_37 (by decide) ?_
        refine ko_cs (cs' := 1 + 6 * (i + 1)) (ss' := 14 + 54 * (i + 1)) (N' := c + 2 + 6 * (i + 1)) (by omega) (by omega) (by omega) ?_
        exact ko_lv (by simp [nI_succ]) (ih (i + 1) (by omega))
  refine ko_aload_n (i := 0) dX0_init_0 rfl rfl ?_
  refine ko_objInit wo_X0 dX0_init_1 (by omega) (Nat.le_of_ble_eq_true rfl) ?_
  refine ko_aload_n (i := 0) dX0_init_4 rfl rfl ?_
  refine ko_bipush (v := 14) dX0_init_5 (by decide) ?_
  refine ko_newq (L := 14) wl_X0_9 dX0_init_7 (by decide) rfl (by decide) (Nat.le_of_ble_eq_true rfl) (Nat.le_of_ble_eq_true rfl) ?_
  refine ko_putF fl_X0_11 rfl rfl dX0_init_10 (by rw [ku_n (by omega)]; exact e0) rfl rfl (Nat.le_of_ble_eq_true rfl) ?_
  refine ko_iconst (v := 0) dX0_init_13 (by decide) ?_
  refine ko_istore_n (i := 1) (lv' := [(0, _), (1, _)]) dX0_init_14 rfl (by decide) rfl rfl rfl ?_
  exact ko_cs rfl rfl rfl (ko_h rfl (LOOP 14 0 rfl))
abbrev klb : va_E := .inr (1, [.null, .null, .int 0])
def liH (h : kx_H) (l : Nat) : kx_H := kx_up (kp_put (kx_up h (l + 1) (kl_a (fun _ => 0))) (l + 2) pZ) l (klo l 0)
set_option maxRecDepth 20000 in
theorem fn_lInit {G : kx_G} {d l : Nat} {h : kx_H} (e0 : h l = some klb) (hd : 2 ≤ d) : kx_Fn mX1_init d 7 102 G [.ref l] (l + 1) h (none, l + 8, liH h l) := by
  refine kx_Fn_of rfl (Nat.le_of_ble_eq_true rfl) rfl ?_ (fun q x hx => by
    have hx : liH h l q = some x := hx
    unfold liH at hx
    by_cases h1 : q < l
    · rw [ku_n (by omega), kp_put_out (by omega), ku_n (by omega)] at hx
      exact kx_self _ _ hx
    · by_cases h2 : q = l
      · subst h2; exact kx_self _ _ e0
      · exact Or.inr (by omega))
  refine ko_aload_n (i := 0) dX1_init_0 rfl rfl ?_
  refine ko_objInit wo_X1 dX1_init_1 (by omega) (Nat.le_of_ble_eq_true rfl) ?_
  refine ko_aload_n (i := 0) dX1_init_4 rfl rfl ?_
  refine ko_bipush (v := 48) dX1_init_5 (by decide) ?_
  refine ko_newi (L := 48) dX1_init_7 (by decide) rfl (by decide) (Nat.le_of_ble_eq_true rfl) (Nat.le_of_ble_eq_true rfl) wa_int ?_
  refine ko_putF fl_X1_9 rfl rfl dX1_init_9 (by rw [ku_n (by omega)]; exact e0) rfl rfl (Nat.le_of_ble_eq_true rfl) ?_
  refine ko_aload_n (i := 0) dX1_init_12 rfl rfl ?_
  refine ko_new (fs := [.null, .null, .null, .null, .null, .int 0, .int 0, .int 0, .int 0]) kc_2 wl_X1_15 wn_RX2 wi_RX2 (by decide +kernel) dX1_init_13 (Nat.le_of_ble_eq_true rfl) (Nat.le_of_ble_eq_true rfl) ?_
  refine ko_dup dX1_init_16 rfl ?_
  refine ko_callINv lk_X1_17 rfl dX1_init_17 (fn_pInit (d := d - 1) ku_s (by omega)) rfl rfl (by omega) (by omega) (by omega) (Nat.le_of_ble_eq_true rfl) ?_
  rw [kp_put_up]
  refine ko_putF fl_X1_18 rfl rfl dX1_init_20 (by rw [kp_put_out (by omega), ku_s]) rfl rfl (Nat.le_of_ble_eq_true rfl) ?_
  refine ko_vret dX1_init_23 rfl (Nat.le_of_ble_eq_true rfl) (Nat.le_of_ble_eq_true rfl) ?_
  refine Prod.ext rfl (Prod.ext rfl ?_)
  show liH h l = kx_up (kp_put (kx_up (kx_up h (l + 1) (kl_a (fun _ => 0))) l _) (l + 2) pZ) l (klo l 0)
  rw [kp_up_swap (c := l) (by omega), ku_ku]
  rfl
end
section
/-! ===== the whole object: its cells, what shows of it ===== -/
abbrev kxo (x : Nat) (sd : Int64) : va_E := .inr (4, [.ref (x + 1), .ref (x + 9), .ref (x + 15), .ref (x + 21), .ref (x + 107), .ref (x + 108), .ref (x + 121), .long sd])
abbrev kz (f : Nat → Int32) : va_E := .inl (1, 2, .inl f)
def kSi (h : kx_H) (x : Nat) (T : Nat → Int32) (L : Nat) (u : PU) (C : Nat) (K : Nat → PU) (kf : Nat → Int32) (sd : Int64) (told trial : PU) (F : Nat) (B : Nat → PU) (s : SU) (f : Nat → Option Nat) : Prop :=
  h x = some (kxo x sd) ∧ h (x + 1) = some (klo (x + 1) (nI L)) ∧ h (x + 2) = some (kl_a T) ∧ kP h (x + 3) told ∧ kP h (x + 9) u ∧ kP h (x + 15) trial ∧ kA h (x + 21) F C B ∧ h (x + 107) = some (kr 2 f) ∧ h (x + 108) = some (kz kf) ∧ (∀ i, i < 2 → kP h (x + 109 + 6 * i) (K i)) ∧ h (x + 121) = some (kso s)
def kS (h : kx_H) (x : Nat) (T : Nat → Int32) (L : Nat) (u : PU) (C : Nat) (Ac K : Nat → PU) (kf : Nat → Int32) (sd : Int64) : Prop :=
  ∃ (told trial : PU) (F : Nat) (B : Nat → PU) (s : SU) (f : Nat → Option Nat), kSi h x T L u C K kf sd told trial F B s f ∧ (∀ i, i < 2 → f i = some (x + 109 + 6 * i)) ∧ F < 14 ∧ C ≤ 14 ∧ (∀ i, i < C → B ((F + i) % 14) = Ac i) ∧ L ≤ 48
def kFr (h g : kx_H) (x w : Nat) : Prop := ∀ q, (q < x ∨ x + w < q) → g q = h q
theorem kFr.rf {h : kx_H} {x w : Nat} : kFr h h x w := fun _ _ => rfl
theorem kFr.tr {h g k : kx_H} {x w : Nat} (h1 : kFr h g x w) (h2 : kFr g k x w) : kFr h k x w := fun q hq => (h2 q hq).trans (h1 q hq)
theorem kFr.put {h : kx_H} {x w a : Nat} {v : PU} (ha : x ≤ a ∧ a + 5 ≤ x + w) : kFr h (kp_put h a v) x w := fun q hq => kp_put_out (by omega)
theorem kFr.up {h : kx_H} {x w a : Nat} {e : va_E} (ha : x ≤ a ∧ a ≤ x + w) : kFr h (kx_up h a e) x w := fun q hq => ku_n (by omega)
theorem kSi_all {h : kx_H} {x : Nat} {T : Nat → Int32} {L : Nat} {u : PU} {C : Nat} {K : Nat → PU} {kf : Nat → Int32} {sd : Int64} {told trial : PU} {F : Nat} {B : Nat → PU} {s : SU} {f : Nat → Option Nat} (hS : kSi h x T L u C K kf sd told trial F B s f) : ∀ q, x ≤ q → q ≤ x + 121 → h q ≠ none := by
  obtain ⟨s1, s2, s3, s4, s5, s6, s7, s8, s9, s10, s11⟩ := hS
  have hp : ∀ {a : Nat} {v : PU}, kP h a v → ∀ q, a ≤ q → q ≤ a + 5 → h q ≠ none := by
    intro a v hP q g1 g2
    obtain ⟨e0, e1, e2, e3, e4, e5⟩ := hP
    have : q = a ∨ q = a + 1 ∨ q = a + 2 ∨ q = a + 3 ∨ q = a + 4 ∨ q = a + 5 := by omega
    rcases this with rfl | rfl | rfl | rfl | rfl | rfl
    · rw [e0]; exact fun z => by cases z
    · rw [e1]; exact fun z => by cases z
    · rw [e2]; exact fun z => by cases z
    · rw [e3]; exact fun z => by cases z
    · rw [e4]; exact fun z => by cases z
    · rw [e5]; exact fun z => by cases z
  obtain ⟨a1, ⟨fa, a2, -⟩, a4⟩ := s7
  intro q g1 g2
  by_cases c1 : q ≤ x + 2
  · have : q = x ∨ q = x + 1 ∨ q = x + 2 := by omega
    rcases this with rfl | rfl | rfl
    · rw [s1]; exact fun z => by cases z
    · rw [s2]; exact fun z => by cases z
    · rw [s3]; exact fun z => by cases z
  by_cases c2 : q ≤ x + 8
  · exact hp s4 q (by omega) (by omega)
  by_cases c3 : q ≤ x + 14
  · exact hp s5 q (by omega) (by omega)
  by_cases c4 : q ≤ x + 20
  · exact hp s6 q (by omega) (by omega)
  by_cases c5 : q = x + 21
  · subst c5; rw [a1]; exact fun z => by cases z
  by_cases c6 : q = x + 22
  · subst c6; rw [a2]; exact fun z => by cases z
  by_cases c7 : q ≤ x + 106
  · exact hp (a4 ((q - (x + 23)) / 6) (by omega)) q (by omega) (by omega)
  by_cases c8 : q = x + 107
  · subst c8; rw [s8]; exact fun z => by cases z
  by_cases c9 : q = x + 108
  · subst c9; rw [s9]; exact fun z => by cases z
  by_cases c10 : q ≤ x + 120
  · exact hp (s10 ((q - (x + 109)) / 6) (by omega)) q (by omega) (by omega)
  have c11 : q = x + 121 := by omega
  subst c11; rw [s11]; exact fun z => by cases z
theorem kS_dom {h g : kx_H} {x N : Nat} {T : Nat → Int32} {L : Nat} {u : PU} {C : Nat} {Ac K : Nat → PU} {kf : Nat → Int32} {sd : Int64} (hS : kS h x T L u C Ac K kf sd) (fr : kFr h g x 121) : ∀ q e, g q = some e → kx_dom h N q := by
  obtain ⟨told, trial, F, B, s, f, h1, -⟩ := hS
  intro q e he
  by_cases hq : x ≤ q ∧ q ≤ x + 121
  · exact Or.inl (kSi_all h1 q hq.1 hq.2)
  · rw [fr q (by omega)] at he
    exact kx_self _ _ he
section KSl
variable {h : kx_H} {x : Nat} {T : Nat → Int32} {L : Nat} {u : PU} {C : Nat} {Ac K : Nat → PU} {kf : Nat → Int32} {sd : Int64} {told trial : PU} {F : Nat} {B : Nat → PU} {s : SU} {f : Nat → Option Nat}
theorem kSi_now (hS : kSi h x T L u C K kf sd told trial F B s f) (v : PU) : kSi (kp_put h (x + 9) v) x T L v C K kf sd told trial F B s f := by
  obtain ⟨s1, s2, s3, s4, s5, s6, s7, s8, s9, s10, s11⟩ := hS
  exact ⟨by rw [kp_put_out (by omega)]; exact s1, by rw [kp_put_out (by omega)]; exact s2, by rw [kp_put_out (by omega)]; exact s3, kp_put_other s4 (by omega), kp_put_P _ _ _, kp_put_other s6 (by omega), kA_of s7 (fun q g1 g2 => kp_put_out (by omega)), by rw [kp_put_out (by omega)]; exact s8, by rw [kp_put_out (by omega)]; exact s9, fun i hi => kp_put_other (s10 i hi) (by omega), by rw [kp_put_out (by omega)]; exact s11⟩
theorem kSi_trial (hS : kSi h x T L u C K kf sd told trial F B s f) (v : PU) : kSi (kp_put h (x + 15) v) x T L u C K kf sd told v F B s f := by
  obtain ⟨s1, s2, s3, s4, s5, s6, s7, s8, s9, s10, s11⟩ := hS
  exact ⟨by rw [kp_put_out (by omega)]; exact s1, by rw [kp_put_out (by omega)]; exact s2, by rw [kp_put_out (by omega)]; exact s3, kp_put_other s4 (by omega), kp_put_other s5 (by omega), kp_put_P _ _ _, kA_of s7 (fun q g1 g2 => kp_put_out (by omega)), by rw [kp_put_out (by omega)]; exact s8, by rw [kp_put_out (by omega)]; exact s9, fun i hi => kp_put_other (s10 i hi) (by omega), by rw [kp_put_out (by omega)]; exact s11⟩
theorem kSi_told (hS : kSi h x T L u C K kf sd told trial F B s f) (v : PU) : kSi (kp_put h (x + 3) v) x T L u C K kf sd v trial F B s f := by
  obtain ⟨s1, s2, s3, s4, s5, s6, s7, s8, s9, s10, s11⟩ := hS
  exact ⟨by rw [kp_put_out (by omega)]; exact s1, by rw [kp_put_out (by omega)]; exact s2, by rw [kp_put_out (by omega)]; exact s3, kp_put_P _ _ _, kp_put_other s5 (by omega), kp_put_other s6 (by omega), kA_of s7 (fun q g1 g2 => kp_put_out (by omega)), by rw [kp_put_out (by omega)]; exact s8, by rw [kp_put_out (by omega)]; exact s9, fun i hi => kp_put_other (s10 i hi) (by omega), by rw [kp_put_out (by omega)]; exact s11⟩
theorem kSi_kept (hS : kSi h x T L u C K kf sd told trial F B s f) (j : Nat) (hj : j < 2) (v : PU) : kSi (kp_put h (x + 109 + 6 * j) v) x T L u C (fun i => if i = j then v else K i) kf sd told trial F B s f := by
  obtain ⟨s1, s2, s3, s4, s5, s6, s7, s8, s9, s10, s11⟩ := hS
  refine ⟨by rw [kp_put_out (by omega)]; exact s1, by rw [kp_put_out (by omega)]; exact s2, by rw [kp_put_out (by omega)]; exact s3, kp_put_other s4 (by omega), kp_put_other s5 (by omega), kp_put_other s6 (by omega), kA_of s7 (fun q g1 g2 => kp_put_out (by omega)), by rw [kp_put_out (by omega)]; exact s8, by rw [kp_put_out (by omega)]; exact s9, fun i hi => ?_, by rw [kp_put_out (by omega)]; exact s11⟩
  by_cases h1 : i = j
  · subst h1
    show kP _ _ (if i = i then v else K i)
    rw [if_pos rfl]; exact kp_put_P _ _ _
  · show kP _ _ (if i = j then v else K i)
    rw [if_neg h1]; exact kp_put_other (s10 i hi) (by omega)
theorem kSi_kf (hS : kSi h x T L u C K kf sd told trial F B s f) (g : Nat → Int32) : kSi (kx_up h (x + 108) (kz g)) x T L u C K g sd told trial F B s f := by
  obtain ⟨s1, s2, s3, s4, s5, s6, s7, s8, s9, s10, s11⟩ := hS
  exact ⟨by rw [ku_n (by omega)]; exact s1, by rw [ku_n (by omega)]; exact s2, by rw [ku_n (by omega)]; exact s3, kP_up s4 (by omega), kP_up s5 (by omega), kP_up s6 (by omega), kA_of s7 (fun q g1 g2 => ku_n (by omega)), by rw [ku_n (by omega)]; exact s8, ku_s, fun i hi => kP_up (s10 i hi) (by omega), by rw [ku_n (by omega)]; exact s11⟩
theorem kSi_serv (hS : kSi h x T L u C K kf sd told trial F B s f) (s' : SU) : kSi (kx_up h (x + 121) (kso s')) x T L u C K kf sd told trial F B s' f := by
  obtain ⟨s1, s2, s3, s4, s5, s6, s7, s8, s9, s10, s11⟩ := hS
  exact ⟨by rw [ku_n (by omega)]; exact s1, by rw [ku_n (by omega)]; exact s2, by rw [ku_n (by omega)]; exact s3, kP_up s4 (by omega), kP_up s5 (by omega), kP_up s6 (by omega), kA_of s7 (fun q g1 g2 => ku_n (by omega)), by rw [ku_n (by omega)]; exact s8, by rw [ku_n (by omega)]; exact s9, fun i hi => kP_up (s10 i hi) (by omega), ku_s⟩
theorem kSi_seed (hS : kSi h x T L u C K kf sd told trial F B s f) (z : Int64) : kSi (kx_up h x (kxo x z)) x T L u C K kf z told trial F B s f := by
  obtain ⟨s1, s2, s3, s4, s5, s6, s7, s8, s9, s10, s11⟩ := hS
  exact ⟨ku_s, by rw [ku_n (by omega)]; exact s2, by rw [ku_n (by omega)]; exact s3, kP_up s4 (by omega), kP_up s5 (by omega), kP_up s6 (by omega), kA_of s7 (fun q g1 g2 => ku_n (by omega)), by rw [ku_n (by omega)]; exact s8, by rw [ku_n (by omega)]; exact s9, fun i hi => kP_up (s10 i hi) (by omega), by rw [ku_n (by omega)]; exact s11⟩
theorem kSi_text (hS : kSi h x T L u C K kf sd told trial F B s f) (T' : Nat → Int32) (L' : Nat) : kSi (kx_up (kx_up h (x + 2) (kl_a T')) (x + 1) (klo (x + 1) (nI L'))) x T' L' u C K kf sd told trial F B s f := by
  obtain ⟨s1, s2, s3, s4, s5, s6, s7, s8, s9, s10, s11⟩ := hS
  exact ⟨by rw [ku_n (by omega), ku_n (by omega)]; exact s1, ku_s, by rw [ku_n (by omega), ku_s], kP_up (kP_up s4 (by omega)) (by omega), kP_up (kP_up s5 (by omega)) (by omega), kP_up (kP_up s6 (by omega)) (by omega), kA_of s7 (fun q g1 g2 => by rw [ku_n (by omega), ku_n (by omega)]), by rw [ku_n (by omega), ku_n (by omega)]; exact s8, by rw [ku_n (by omega), ku_n (by omega)]; exact s9, fun i hi => kP_up (kP_up (s10 i hi) (by omega)) (by omega), by rw [ku_n (by omega), ku_n (by omega)]; exact s11⟩
theorem kSi_acts (hS : kSi h x T L u C K kf sd told trial F B s f) {g : kx_H} {F' C' : Nat} {B' : Nat → PU} (hA : kA g (x + 21) F' C' B') (fr : kFr h g (x + 21) 85) : kSi g x T L u C' K kf sd told trial F' B' s f := by
  obtain ⟨s1, s2, s3, s4, s5, s6, s7, s8, s9, s10, s11⟩ := hS
  exact ⟨by rw [fr _ (by omega)]; exact s1, by rw [fr _ (by omega)]; exact s2, by rw [fr _ (by omega)]; exact s3, kP_of s4 (fun q g1 g2 => fr q (by omega)), kP_of s5 (fun q g1 g2 => fr q (by omega)), kP_of s6 (fun q g1 g2 => fr q (by omega)), hA, by rw [fr _ (by omega)]; exact s8, by rw [fr _ (by omega)]; exact s9, fun i hi => kP_of (s10 i hi) (fun q g1 g2 => fr q (by omega)), by rw [fr _ (by omega)]; exact s11⟩
theorem kS_frame {g : kx_H} (hS : kS h x T L u C Ac K kf sd) (e : ∀ q, x ≤ q → q ≤ x + 121 → g q = h q) : kS g x T L u C Ac K kf sd := by
  obtain ⟨told, trial, F, B, s, f, ⟨s1, s2, s3, s4, s5, s6, s7, s8, s9, s10, s11⟩, r⟩ := hS
  exact ⟨told, trial, F, B, s, f, ⟨by rw [e _ (by omega) (by omega)]; exact s1, by rw [e _ (by omega) (by omega)]; exact s2, by rw [e _ (by omega) (by omega)]; exact s3, kP_of s4 (fun q g1 g2 => e q (by omega) (by omega)), kP_of s5 (fun q g1 g2 => e q (by omega) (by omega)), kP_of s6 (fun q g1 g2 => e q (by omega) (by omega)), kA_of s7 (fun q g1 g2 => e q (by omega) (by omega)), by rw [e _ (by omega) (by omega)]; exact s8, by rw [e _ (by omega) (by omega)]; exact s9, fun i hi => kP_of (s10 i hi) (fun q g1 g2 => e q (by omega) (by omega)), by rw [e _ (by omega) (by omega)]; exact s11⟩, r⟩
end KSl
/-! the row of acts, as it shows -/
def rmC (C : Nat) : Nat := if C = 14 then 14 else C + 1
def rmA (C : Nat) (Ac : Nat → PU) (v : PU) : Nat → PU := if C = 14 then (fun i => if i = 13 then v else Ac (i + 1)) else (fun i => if i = C then v else Ac i)
theorem sys_remember {G : kx_G} {d N x : Nat} {h : kx_H} {T : Nat → Int32} {L : Nat} {u : PU} {C : Nat} {Ac K : Nat → PU} {kf : Nat → Int32} {sd : Int64} (hS : kS h x T L u C Ac K kf sd) (hd : 2 ≤ d) : ∃ g, kx_Fn mX0_remember d 0 0 G [.ref (x + 21), .ref (x + 9)] N h (none, N, g) ∧ kS g x T L u (rmC C) (rmA C Ac u) K kf sd ∧ kFr h g x 121 ∧ g x = some (kxo x sd) ∧ kP g (x + 9) u := by
  obtain ⟨told, trial, F, B, s, f, hi, hf, hF, hC, hB, hL⟩ := hS
  obtain ⟨s1, s2, s3, s4, s5, s6, s7, s8, s9, s10, s11⟩ := id hi
  by_cases h14 : C = 14
  · subst h14
    rw [show rmC 14 = 14 from if_pos rfl]
    refine ⟨_, fn_remember14 s7 hF rfl s5 (by omega) hd, ⟨told, trial, (F + 1) % 14, (fun i => if i = ((F + 1) % 14 + 13) % 14 then u else B i), s, f, kSi_acts hi (kA_put s7 ((F + 1) % 14) 14 (((F + 1) % 14 + 13) % 14) (by omega) u) (fun q hq => by rw [ku_n (by omega), kp_put_out (by omega)]), hf, by omega, by omega, fun i hi2 => ?_, hL⟩, fun q hq => by rw [ku_n (by omega), kp_put_out (by omega)], by rw [ku_n (by omega), kp_put_out (by omega)]; exact s1, kP_up (kp_put_other s5 (by omega)) (by omega)⟩
    show (if ((F + 1) % 14 + i) % 14 = ((F + 1) % 14 + 13) % 14 then u else B (((F + 1) % 14 + i) % 14)) = (if 14 = 14 then (fun i => if i = 13 then u else Ac (i + 1)) else (fun i => if i = 14 then u else Ac i)) i
    rw [if_pos (rfl : 14 = 14)]
    show _ = if i = 13 then u else Ac (i + 1)
    by_cases h1 : i = 13
    · rw [if_pos h1, if_pos (by rw [h1])]
    · rw [if_neg h1, if_neg (by omega), show ((F + 1) % 14 + i) % 14 = (F + (i + 1)) % 14 by omega]
      exact hB (i + 1) (by omega)
  · rw [show rmC C = C + 1 from if_neg h14]
    refine ⟨_, fn_rememberC s7 hF (by omega) s5 (by omega) hd, ⟨told, trial, F, (fun i => if i = (F + C) % 14 then u else B i), s, f, kSi_acts hi (kA_put s7 F (C + 1) ((F + C) % 14) (by omega) u) (fun q hq => by rw [ku_n (by omega), kp_put_out (by omega)]), hf, by omega, by omega, fun i hi2 => ?_, hL⟩, fun q hq => by rw [ku_n (by omega), kp_put_out (by omega)], by rw [ku_n (by omega), kp_put_out (by omega)]; exact s1, kP_up (kp_put_other s5 (by omega)) (by omega)⟩
    show (if (F + i) % 14 = (F + C) % 14 then u else B ((F + i) % 14)) = (if C = 14 then (fun i => if i = 13 then u else Ac (i + 1)) else (fun i => if i = C then u else Ac i)) i
    rw [if_neg h14]
    show _ = if i = C then u else Ac i
    by_cases h1 : i = C
    · rw [if_pos h1, if_pos (by rw [h1])]
    · rw [if_neg h1, if_neg (by omega)]
      exact hB i (by omega)
end
section
/-! ===== the object's methods ===== -/
theorem tsw (w : Int32) (n : Nat) (hn : n < 2 ^ 31) : (w.toInt < 0 ∨ (n : Int) < w.toInt) ∨ ∃ k, k ≤ n ∧ w = nI k := by
  by_cases h1 : w.toInt < 0
  · exact Or.inl (Or.inl h1)
  by_cases h2 : (n : Int) < w.toInt
  · exact Or.inl (Or.inr h2)
  refine Or.inr ⟨w.toInt.toNat, by omega, Int32.toInt_inj.mp ?_⟩
  rw [nI_toInt (by omega)]
  omega
theorem tsw_ne {w : Int32} {n : Nat} (ho : w.toInt < 0 ∨ (n : Int) < w.toInt) (hn : n < 2 ^ 31) (k : Nat) (hk : k ≤ n) : ¬ w = nI k := by
  intro e
  rw [e, nI_toInt (by omega)] at ho
  omega
def abI (L : Nat) (u : PU) (C : Nat) (w : Int32) : Int32 := if w = nI 0 then pN u else if w = nI 1 then pOp u else if w = nI 2 then pWk u else if w = nI 3 then pOn u else if w = nI 4 then nI C else if w = nI 5 then nI L else if w = nI 6 then asI u 5 else -2
def peI (u : PU) (p w : Int32) : Int32 := if hasI (pN u) p = false then -1 else if w = nI 0 then pSo u p.toNatClampNeg else if w = nI 1 then pAg u p.toNatClampNeg else if w = nI 2 then pKd u p.toNatClampNeg else if w = nI 3 then pKn u p.toNatClampNeg else if w = nI 4 then ozI u p else if w = nI 5 then twI u p 5 else -2
def owI (u : PU) (p q : Int32) : Int32 := if hasI (pN u) p = false then -1 else if hasI (pN u) q = false then -1 else dbI u p q
def noI (u : PU) (w : Int32) : Int32 := if w = 0 then uwI u 5 else if ¬ w = 1 then -2 else kaI u 5
set_option maxRecDepth 20000 in
theorem x_about {G : kx_G} {d N x : Nat} {h : kx_H} {T : Nat → Int32} {L : Nat} {u : PU} {C : Nat} {Ac K : Nat → PU} {kf : Nat → Int32} {sd : Int64} {w : Int32} (hS : kS h x T L u C Ac K kf sd) (hd : 20 ≤ d) : kx_Fn mX4_about d 0 0 G [.ref x, .int w] N h (some (.int (abI L u C w)), N, h) := by
  refine kx_Fn_of rfl (Nat.le_of_ble_eq_true rfl) rfl ?_ (kx_self)
  obtain ⟨told, trial, F, B, s, f, hi, hf, hF, hC, hB, hL⟩ := id hS
  obtain ⟨s1, s2, s3, s4, s5, s6, s7, s8, s9, s10, s11⟩ := id hi
  refine ko_iload_n (i := 1) dX4_about_0 rfl rfl ?_
  rcases tsw w 6 (by omega) with ho | ⟨k9, hk9, rfl⟩
  · refine ko_tableOut (tgt := 100) dX4_about_1 ho (by decide) ?_
    refine ko_bipush (v := (-2)) dX4_about_100 (by decide) ?_
    refine ko_iret dX4_about_102 rfl (Nat.le_of_ble_eq_true rfl) (Nat.le_of_ble_eq_true rfl) ?_
    unfold abI
    rw [if_neg (tsw_ne ho (by omega) 0 (by omega)), if_neg (tsw_ne ho (by omega) 1 (by omega)), if_neg (tsw_ne ho (by omega) 2 (by omega)), if_neg (tsw_ne ho (by omega) 3 (by omega)), if_neg (tsw_ne ho (by omega) 4 (by omega)), if_neg (tsw_ne ho (by omega) 5 (by omega)), if_neg (tsw_ne ho (by omega) 6 (by omega))]
  · rcases (show k9 = 0 ∨ k9 = 1 ∨ k9 = 2 ∨ k9 = 3 ∨ k9 = 4 ∨ k9 = 5 ∨ k9 = 6 by omega) with rfl | rfl | rfl | rfl | rfl | rfl | rfl
    · refine ko_tableIn (off := 43) (tgt := 44) dX4_about_1 (by decide) (by decide) rfl (by decide) ?_
      refine ko_aload_n (i := 0) dX4_about_44 rfl rfl ?_
      refine ko_get fl_X4_19 dX4_about_45 s1 rfl ?_
      refine ko_get fl_X4_74 dX4_about_48 s5.1 rfl ?_
      refine ko_iret dX4_about_51 rfl (Nat.le_of_ble_eq_true rfl) (Nat.le_of_ble_eq_true rfl) ?_
      rfl
    · refine ko_tableIn (off := 51) (tgt := 52) dX4_about_1 (by decide) (by decide) rfl (by decide) ?_
      refine ko_aload_n (i := 0) dX4_about_52 rfl rfl ?_
      refine ko_get fl_X4_19 dX4_about_53 s1 rfl ?_
      refine ko_get fl_X4_77 dX4_about_56 s5.1 rfl ?_
      refine ko_iret dX4_about_59 rfl (Nat.le_of_ble_eq_true rfl) (Nat.le_of_ble_eq_true rfl) ?_
      rfl
    · refine ko_tableIn (off := 59) (tgt := 60) dX4_about_1 (by decide) (by decide) rfl (by decide) ?_
      refine ko_aload_n (i := 0) dX4_about_60 rfl rfl ?_
      refine ko_get fl_X4_19 dX4_about_61 s1 rfl ?_
      refine ko_get fl_X4_80 dX4_about_64 s5.1 rfl ?_
      refine ko_iret dX4_about_67 rfl (Nat.le_of_ble_eq_true rfl) (Nat.le_of_ble_eq_true rfl) ?_
      rfl
    · refine ko_tableIn (off := 67) (tgt := 68) dX4_about_1 (by decide) (by decide) rfl (by decide) ?_
      refine ko_aload_n (i := 0) dX4_about_68 rfl rfl ?_
      refine ko_get fl_X4_19 dX4_about_69 s1 rfl ?_
      refine ko_get fl_X4_83 dX4_about_72 s5.1 rfl ?_
      refine ko_iret dX4_about_75 rfl (Nat.le_of_ble_eq_true rfl) (Nat.le_of_ble_eq_true rfl) ?_
      rfl
    · refine ko_tableIn (off := 75) (tgt := 76) dX4_about_1 (by decide) (by decide) rfl (by decide) ?_
      refine ko_aload_n (i := 0) dX4_about_76 rfl rfl ?_
      refine ko_get fl_X4_29 dX4_about_77 s1 rfl ?_
      refine ko_get fl_X4_86 dX4_about_80 s7.1 rfl ?_
      refine ko_iret dX4_about_83 rfl (Nat.le_of_ble_eq_true rfl) (Nat.le_of_ble_eq_true rfl) ?_
      rfl
    · refine ko_tableIn (off := 83) (tgt := 84) dX4_about_1 (by decide) (by decide) rfl (by decide) ?_
      refine ko_aload_n (i := 0) dX4_about_84 rfl rfl ?_
      refine ko_get fl_X4_10 dX4_about_85 s1 rfl ?_
      refine ko_get fl_X4_56 dX4_about_88 s2 rfl ?_
      refine ko_iret dX4_about_91 rfl (Nat.le_of_ble_eq_true rfl) (Nat.le_of_ble_eq_true rfl) ?_
      rfl
    · refine ko_tableIn (off := 91) (tgt := 92) dX4_about_1 (by decide) (by decide) rfl (by decide) ?_
      refine ko_aload_n (i := 0) dX4_about_92 rfl rfl ?_
      refine ko_get fl_X4_19 dX4_about_93 s1 rfl ?_
      refine ko_callVr lk_X4_87 dX4_about_96 (fn_allSorrow (d := d - 1) s5) rfl rfl s5.1 rfl rfl (by omega) (by omega) (by omega) (Nat.le_of_ble_eq_true rfl) ?_
      refine ko_iret dX4_about_99 rfl (Nat.le_of_ble_eq_true rfl) (Nat.le_of_ble_eq_true rfl) ?_
      rfl
set_option maxRecDepth 20000 in
theorem x_person {G : kx_G} {d N x : Nat} {h : kx_H} {T : Nat → Int32} {L : Nat} {u : PU} {C : Nat} {Ac K : Nat → PU} {kf : Nat → Int32} {sd : Int64} {p w : Int32} (hS : kS h x T L u C Ac K kf sd) (hd : 20 ≤ d) : kx_Fn mX4_person d 0 0 G [.ref x, .int p, .int w] N h (some (.int (peI u p w)), N, h) := by
  refine kx_Fn_of rfl (Nat.le_of_ble_eq_true rfl) rfl ?_ (kx_self)
  obtain ⟨told, trial, F, B, s, f, hi, hf, hF, hC, hB, hL⟩ := id hS
  obtain ⟨s1, s2, s3, s4, s5, s6, s7, s8, s9, s10, s11⟩ := id hi
  refine ko_aload_n (i := 0) dX4_person_0 rfl rfl ?_
  refine ko_get fl_X4_19 dX4_person_1 s1 rfl ?_
  refine ko_iload_n (i := 1) dX4_person_4 rfl rfl ?_
  refine ko_callVr lk_X4_90 dX4_person_5 (fn_has (d := d - 1) s5) rfl rfl s5.1 rfl rfl (by omega) (by omega) (by omega) (Nat.le_of_ble_eq_true rfl) ?_
  first | refine ko_ifb_ne (tgt := 13) dX4_person_8 (by decide) (fun c_8 => ?_) (fun c_8 => ?_) | refine ko_if_ne (tgt := 13) dX4_person_8 (by decide) (fun c_8 => ?_) (fun c_8 => ?_)
  · refine ko_iload_n (i := 2) dX4_person_13 rfl rfl ?_
    rcases tsw w 5 (by omega) with ho | ⟨k9, hk9, rfl⟩
    · refine ko_tableOut (tgt := 110) dX4_person_14 ho (by decide) ?_
      refine ko_bipush (v := (-2)) dX4_person_110 (by decide) ?_
      refine ko_iret dX4_person_112 rfl (Nat.le_of_ble_eq_true rfl) (Nat.le_of_ble_eq_true rfl) ?_
      unfold peI
      rw [if_neg (by rw [c_8]; decide), if_neg (tsw_ne ho (by omega) 0 (by omega)), if_neg (tsw_ne ho (by omega) 1 (by omega)), if_neg (tsw_ne ho (by omega) 2 (by omega)), if_neg (tsw_ne ho (by omega) 3 (by omega)), if_neg (tsw_ne ho (by omega) 4 (by omega)), if_neg (tsw_ne ho (by omega) 5 (by omega))]
    · rcases (show k9 = 0 ∨ k9 = 1 ∨ k9 = 2 ∨ k9 = 3 ∨ k9 = 4 ∨ k9 = 5 by omega) with rfl | rfl | rfl | rfl | rfl | rfl
      · refine ko_tableIn (off := 38) (tgt := 52) dX4_person_14 (by decide) (by decide) rfl (by decide) ?_
        refine ko_aload_n (i := 0) dX4_person_52 rfl rfl ?_
        refine ko_get fl_X4_19 dX4_person_53 s1 rfl ?_
        refine ko_get fl_X4_93 dX4_person_56 s5.1 rfl ?_
        refine ko_iload_n (i := 1) dX4_person_59 rfl rfl ?_
        first | refine ko_iald dX4_person_60 s5.2.1 (hasI_in c_8) ?_ | refine ko_iald dX4_person_60 s5.2.2.1 (hasI_in c_8) ?_ | refine ko_iald dX4_person_60 s5.2.2.2.1 (hasI_in c_8) ?_ | refine ko_iald dX4_person_60 s5.2.2.2.2.1 (hasI_in c_8) ?_ | refine ko_iald dX4_person_60 s5.2.2.2.2.2 (hasI_in c_8) ?_
        refine ko_iret dX4_person_61 rfl (Nat.le_of_ble_eq_true rfl) (Nat.le_of_ble_eq_true rfl) ?_
        unfold peI
        rw [if_neg (by rw [c_8]; decide)]
        rfl
      · refine ko_tableIn (off := 48) (tgt := 62) dX4_person_14 (by decide) (by decide) rfl (by decide) ?_
        refine ko_aload_n (i := 0) dX4_person_62 rfl rfl ?_
        refine ko_get fl_X4_19 dX4_person_63 s1 rfl ?_
        refine ko_get fl_X4_97 dX4_person_66 s5.1 rfl ?_
        refine ko_iload_n (i := 1) dX4_person_69 rfl rfl ?_
        first | refine ko_iald dX4_person_70 s5.2.1 (hasI_in c_8) ?_ | refine ko_iald dX4_person_70 s5.2.2.1 (hasI_in c_8) ?_ | refine ko_iald dX4_person_70 s5.2.2.2.1 (hasI_in c_8) ?_ | refine ko_iald dX4_person_70 s5.2.2.2.2.1 (hasI_in c_8) ?_ | refine ko_iald dX4_person_70 s5.2.2.2.2.2 (hasI_in c_8) ?_
        refine ko_iret dX4_person_71 rfl (Nat.le_of_ble_eq_true rfl) (Nat.le_of_ble_eq_true rfl) ?_
        unfold peI
        rw [if_neg (by rw [c_8]; decide)]
        rfl
      · refine ko_tableIn (off := 58) (tgt := 72) dX4_person_14 (by decide) (by decide) rfl (by decide) ?_
        refine ko_aload_n (i := 0) dX4_person_72 rfl rfl ?_
        refine ko_get fl_X4_19 dX4_person_73 s1 rfl ?_
        refine ko_get fl_X4_100 dX4_person_76 s5.1 rfl ?_
        refine ko_iload_n (i := 1) dX4_person_79 rfl rfl ?_
        first | refine ko_iald dX4_person_80 s5.2.1 (hasI_in c_8) ?_ | refine ko_iald dX4_person_80 s5.2.2.1 (hasI_in c_8) ?_ | refine ko_iald dX4_person_80 s5.2.2.2.1 (hasI_in c_8) ?_ | refine ko_iald dX4_person_80 s5.2.2.2.2.1 (hasI_in c_8) ?_ | refine ko_iald dX4_person_80 s5.2.2.2.2.2 (hasI_in c_8) ?_
        refine ko_iret dX4_person_81 rfl (Nat.le_of_ble_eq_true rfl) (Nat.le_of_ble_eq_true rfl) ?_
        unfold peI
        rw [if_neg (by rw [c_8]; decide)]
        rfl
      · refine ko_tableIn (off := 68) (tgt := 82) dX4_person_14 (by decide) (by decide) rfl (by decide) ?_
        refine ko_aload_n (i := 0) dX4_person_82 rfl rfl ?_
        refine ko_get fl_X4_19 dX4_person_83 s1 rfl ?_
        refine ko_get fl_X4_103 dX4_person_86 s5.1 rfl ?_
        refine ko_iload_n (i := 1) dX4_person_89 rfl rfl ?_
        first | refine ko_iald dX4_person_90 s5.2.1 (hasI_in c_8) ?_ | refine ko_iald dX4_person_90 s5.2.2.1 (hasI_in c_8) ?_ | refine ko_iald dX4_person_90 s5.2.2.2.1 (hasI_in c_8) ?_ | refine ko_iald dX4_person_90 s5.2.2.2.2.1 (hasI_in c_8) ?_ | refine ko_iald dX4_person_90 s5.2.2.2.2.2 (hasI_in c_8) ?_
        refine ko_iret dX4_person_91 rfl (Nat.le_of_ble_eq_true rfl) (Nat.le_of_ble_eq_true rfl) ?_
        unfold peI
        rw [if_neg (by rw [c_8]; decide)]
        rfl
      · refine ko_tableIn (off := 78) (tgt := 92) dX4_person_14 (by decide) (by decide) rfl (by decide) ?_
        refine ko_aload_n (i := 0) dX4_person_92 rfl rfl ?_
        refine ko_get fl_X4_19 dX4_person_93 s1 rfl ?_
        refine ko_iload_n (i := 1) dX4_person_96 rfl rfl ?_
        refine ko_callVr lk_X4_106 dX4_person_97 (fn_ounces (d := d - 1) s5 (by omega)) rfl rfl s5.1 rfl rfl (by omega) (by omega) (by omega) (Nat.le_of_ble_eq_true rfl) ?_
        refine ko_iret dX4_person_100 rfl (Nat.le_of_ble_eq_true rfl) (Nat.le_of_ble_eq_true rfl) ?_
        unfold peI
        rw [if_neg (by rw [c_8]; decide)]
        rfl
      · refine ko_tableIn (off := 87) (tgt := 101) dX4_person_14 (by decide) (by decide) rfl (by decide) ?_
        refine ko_aload_n (i := 0) dX4_person_101 rfl rfl ?_
        refine ko_get fl_X4_19 dX4_person_102 s1 rfl ?_
        refine ko_iload_n (i := 1) dX4_person_105 rfl rfl ?_
        refine ko_callVr lk_X4_110 dX4_person_106 (fn_thoseToWeepFor (d := d - 1) s5 (by omega)) rfl rfl s5.1 rfl rfl (by omega) (by omega) (by omega) (Nat.le_of_ble_eq_true rfl) ?_
        refine ko_iret dX4_person_109 rfl (Nat.le_of_ble_eq_true rfl) (Nat.le_of_ble_eq_true rfl) ?_
        unfold peI
        rw [if_neg (by rw [c_8]; decide)]
        rfl
  · refine ko_iconst (v := (-1)) dX4_person_11 (by decide) ?_
    refine ko_iret dX4_person_12 rfl (Nat.le_of_ble_eq_true rfl) (Nat.le_of_ble_eq_true rfl) ?_
    simp [peI, c_8]
set_option maxRecDepth 20000 in
theorem x_owes {G : kx_G} {d N x : Nat} {h : kx_H} {T : Nat → Int32} {L : Nat} {u : PU} {C : Nat} {Ac K : Nat → PU} {kf : Nat → Int32} {sd : Int64} {p q : Int32} (hS : kS h x T L u C Ac K kf sd) (hd : 20 ≤ d) : kx_Fn mX4_owes d 0 0 G [.ref x, .int p, .int q] N h (some (.int (owI u p q)), N, h) := by
  refine kx_Fn_of rfl (Nat.le_of_ble_eq_true rfl) rfl ?_ (kx_self)
  obtain ⟨told, trial, F, B, s, f, hi, hf, hF, hC, hB, hL⟩ := id hS
  obtain ⟨s1, s2, s3, s4, s5, s6, s7, s8, s9, s10, s11⟩ := id hi
  refine ko_aload_n (i := 0) dX4_owes_0 rfl rfl ?_
  refine ko_get fl_X4_19 dX4_owes_1 s1 rfl ?_
  refine ko_iload_n (i := 1) dX4_owes_4 rfl rfl ?_
  refine ko_callVr lk_X4_90 dX4_owes_5 (fn_has (d := d - 1) s5) rfl rfl s5.1 rfl rfl (by omega) (by omega) (by omega) (Nat.le_of_ble_eq_true rfl) ?_
  first | refine ko_ifb_eq (tgt := 22) dX4_owes_8 (by decide) (fun c_8 => ?_) (fun c_8 => ?_) | refine ko_if_eq (tgt := 22) dX4_owes_8 (by decide) (fun c_8 => ?_) (fun c_8 => ?_)
  · refine ko_iconst (v := (-1)) dX4_owes_22 (by decide) ?_
    refine ko_iret dX4_owes_23 rfl (Nat.le_of_ble_eq_true rfl) (Nat.le_of_ble_eq_true rfl) ?_
    simp [owI, c_8]
  · refine ko_aload_n (i := 0) dX4_owes_11 rfl rfl ?_
    refine ko_get fl_X4_19 dX4_owes_12 s1 rfl ?_
    refine ko_iload_n (i := 2) dX4_owes_15 rfl rfl ?_
    refine ko_callVr lk_X4_90 dX4_owes_16 (fn_has (d := d - 1) s5) rfl rfl s5.1 rfl rfl (by omega) (by omega) (by omega) (Nat.le_of_ble_eq_true rfl) ?_
    first | refine ko_ifb_ne (tgt := 24) dX4_owes_19 (by decide) (fun c_19 => ?_) (fun c_19 => ?_) | refine ko_if_ne (tgt := 24) dX4_owes_19 (by decide) (fun c_19 => ?_) (fun c_19 => ?_)
    · refine ko_aload_n (i := 0) dX4_owes_24 rfl rfl ?_
      refine ko_get fl_X4_19 dX4_owes_25 s1 rfl ?_
      refine ko_iload_n (i := 1) dX4_owes_28 rfl rfl ?_
      refine ko_iload_n (i := 2) dX4_owes_29 rfl rfl ?_
      refine ko_callVr lk_X4_113 dX4_owes_30 (fn_debt (d := d - 1) s5 (by omega)) rfl rfl s5.1 rfl rfl (by omega) (by omega) (by omega) (Nat.le_of_ble_eq_true rfl) ?_
      refine ko_iret dX4_owes_33 rfl (Nat.le_of_ble_eq_true rfl) (Nat.le_of_ble_eq_true rfl) ?_
      simp [owI, c_8, c_19]
    · refine ko_iconst (v := (-1)) dX4_owes_22 (by decide) ?_
      refine ko_iret dX4_owes_23 rfl (Nat.le_of_ble_eq_true rfl) (Nat.le_of_ble_eq_true rfl) ?_
      simp [owI, c_8, c_19]
set_option maxRecDepth 20000 in
theorem x_nobody {G : kx_G} {d N x : Nat} {h : kx_H} {T : Nat → Int32} {L : Nat} {u : PU} {C : Nat} {Ac K : Nat → PU} {kf : Nat → Int32} {sd : Int64} {w : Int32} (hS : kS h x T L u C Ac K kf sd) (hd : 20 ≤ d) : kx_Fn mX4_nobody d 0 0 G [.ref x, .int w] N h (some (.int (noI u w)), N, h) := by
  refine kx_Fn_of rfl (Nat.le_of_ble_eq_true rfl) rfl ?_ (kx_self)
  obtain ⟨told, trial, F, B, s, f, hi, hf, hF, hC, hB, hL⟩ := id hS
  obtain ⟨s1, s2, s3, s4, s5, s6, s7, s8, s9, s10, s11⟩ := id hi
  refine ko_iload_n (i := 1) dX4_nobody_0 rfl rfl ?_
  refine ko_if_ne (tgt := 12) dX4_nobody_1 (by decide) (fun c_1 => ?_) (fun c_1 => ?_)
  · refine ko_iload_n (i := 1) dX4_nobody_12 rfl rfl ?_
    refine ko_iconst (v := 1) dX4_nobody_13 (by decide) ?_
    refine ko_icmp_ne (tgt := 27) dX4_nobody_14 (by decide) (fun c_14 => ?_) (fun c_14 => ?_)
    · refine ko_bipush (v := (-2)) dX4_nobody_27 (by decide) ?_
      refine ko_iret dX4_nobody_29 rfl (Nat.le_of_ble_eq_true rfl) (Nat.le_of_ble_eq_true rfl) ?_
      simp [noI, c_1, c_14]
    · refine ko_aload_n (i := 0) dX4_nobody_17 rfl rfl ?_
      refine ko_get fl_X4_19 dX4_nobody_18 s1 rfl ?_
      refine ko_callVr lk_X4_170 dX4_nobody_21 (fn_kinToAllBits (d := d - 1) s5 (by omega)) rfl rfl s5.1 rfl rfl (by omega) (by omega) (by omega) (Nat.le_of_ble_eq_true rfl) ?_
      refine ko_goto (tgt := 29) dX4_nobody_24 (by decide) ?_
      refine ko_iret dX4_nobody_29 rfl (Nat.le_of_ble_eq_true rfl) (Nat.le_of_ble_eq_true rfl) ?_
      simp [noI, c_1, c_14]
  · refine ko_aload_n (i := 0) dX4_nobody_4 rfl rfl ?_
    refine ko_get fl_X4_19 dX4_nobody_5 s1 rfl ?_
    refine ko_callVr lk_X4_167 dX4_nobody_8 (fn_unweptBits (d := d - 1) s5 (by omega)) rfl rfl s5.1 rfl rfl (by omega) (by omega) (by omega) (Nat.le_of_ble_eq_true rfl) ?_
    refine ko_iret dX4_nobody_11 rfl (Nat.le_of_ble_eq_true rfl) (Nat.le_of_ble_eq_true rfl) ?_
    simp [noI, c_1]
def neI (u : PU) (p : Int32) : Nat → Int32
  | 0 => 100
  | i + 1 => neI u p i + (dbI u (nI i) p - dbI u p (nI i))
def riI (u : PU) : Nat → Int32
  | 0 => 0
  | i + 1 => riI u i ||| (rbI u (nI i) 5 &&& 1 <<< (nI i &&& 31))
def whI (u : PU) (w : Int32) : Nat → Int32
  | 0 => 0
  | i + 1 => if ¬ ozI u (nI i) = w then whI u w i else whI u w i ||| 1 <<< (nI i &&& 31)
set_option maxRecDepth 20000 in
theorem x_net {G : kx_G} {d N x : Nat} {h : kx_H} {T : Nat → Int32} {L : Nat} {u : PU} {C : Nat} {Ac K : Nat → PU} {kf : Nat → Int32} {sd : Int64} {m : Nat} {p : Int32} (hS : kS h x T L u C Ac K kf sd) (hn : pN u = nI m) (hm : m ≤ 5) (hd : 20 ≤ d) : kx_Fn mX4_net d 0 0 G [.ref x, .int p] N h (some (.int (if hasI (pN u) p = false then -1 else neI u p m)), N, h) := by
  refine kx_Fn_of rfl (Nat.le_of_ble_eq_true rfl) rfl ?_ (kx_self)
  obtain ⟨told, trial, F, B, s, f, hi, hf, hF, hC, hB, hL⟩ := id hS
  obtain ⟨s1, s2, s3, s4, s5, s6, s7, s8, s9, s10, s11⟩ := id hi
  have LOOP : ∀ (k i : Nat), k + i = m → kx_Ok mX4_net d 0 0 G 0 0 18 [(0, .ref x), (1, .int p), (2, .int (neI u p i)), (3, .int (nI i))] [] N h (some (.int (neI u p m)), N, h) := by
    intro k
    induction k with
    | zero =>
      intro i hi
      obtain rfl : m = i := by omega
      refine ko_iload_n (i := 3) dX4_net_18 rfl rfl ?_
      refine ko_aload_n (i := 0) dX4_net_19 rfl rfl ?_
      refine ko_get fl_X4_19 dX4_net_20 s1 rfl ?_
      refine ko_get fl_X4_74 dX4_net_23 s5.1 rfl ?_
      refine ko_icmp_ge (tgt := 57) dX4_net_26 (by decide) (fun c_26 => ?_) (fun c_26 => ?_)
      · refine ko_iload_n (i := 2) dX4_net_57 rfl rfl ?_
        refine ko_iret dX4_net_58 rfl (Nat.le_of_ble_eq_true rfl) (Nat.le_of_ble_eq_true rfl) ?_
        rfl
      · exact absurd (show pN u ≤ nI m by rw [hn]; exact nI_le (Nat.le_refl _) (by omega)) c_26
    | succ k ih =>
      intro i hi
      refine ko_iload_n (i := 3) dX4_net_18 rfl rfl ?_
      refine ko_aload_n (i := 0) dX4_net_19 rfl rfl ?_
      refine ko_get fl_X4_19 dX4_net_20 s1 rfl ?_
      refine ko_get fl_X4_74 dX4_net_23 s5.1 rfl ?_
      refine ko_icmp_ge (tgt := 57) dX4_net_26 (by decide) (fun c_26 => ?_) (fun c_26 => ?_)
      · exact absurd (show nI m ≤ nI i from by rw [← hn]; exact c_26) (nI_ge (by omega) (by omega))
      · refine ko_iload_n (i := 2) dX4_net_29 rfl rfl ?_
        refine ko_aload_n (i := 0) dX4_net_30 rfl rfl ?_
        refine ko_get fl_X4_19 dX4_net_31 s1 rfl ?_
        refine ko_iload_n (i := 3) dX4_net_34 rfl rfl ?_
        refine ko_iload_n (i := 1) dX4_net_35 rfl rfl ?_
        refine ko_callVr lk_X4_113 dX4_net_36 (fn_debt (d := d - 1) s5 (by omega)) rfl rfl s5.1 rfl rfl (by omega) (by omega) (by omega) (Nat.le_of_ble_eq_true rfl) ?_
        refine ko_aload_n (i := 0) dX4_net_39 rfl rfl ?_
        refine ko_get fl_X4_19 dX4_net_40 s1 rfl ?_
        refine ko_iload_n (i := 1) dX4_net_43 rfl rfl ?_
        refine ko_iload_n (i := 3) dX4_net_44 rfl rfl ?_
        refine ko_callVr lk_X4_113 dX4_net_45 (fn_debt (d := d - 1) s5 (by omega)) rfl rfl s5.1 rfl rfl (by omega) (by omega) (by omega) (Nat.le_of_ble_eq_true rfl) ?_
        refine ko_isub dX4_net_48 ?_
        refine ko_iadd dX4_net_49 ?_
        refine ko_istore_n (i := 2) (lv' := [(0, _), (1, _), (2, _), (3, _)]) dX4_net_50 rfl (by decide) rfl rfl rfl ?_
        refine ko_inc1 (i := 3) (lv' := [(0, _), (1, _), (2, _), (3, _)]) dX4_net_51 rfl (by decide) rfl rfl rfl ?_
        refine ko_goto (tgt := 18) dX4_net_54 (by decide) ?_
        exact ko_lv (by simp [neI, nI_succ, c_26]) (ih (i + 1) (by omega))
  refine ko_aload_n (i := 0) dX4_net_0 rfl rfl ?_
  refine ko_get fl_X4_19 dX4_net_1 s1 rfl ?_
  refine ko_iload_n (i := 1) dX4_net_4 rfl rfl ?_
  refine ko_callVr lk_X4_90 dX4_net_5 (fn_has (d := d - 1) s5) rfl rfl s5.1 rfl rfl (by omega) (by omega) (by omega) (Nat.le_of_ble_eq_true rfl) ?_
  first | refine ko_ifb_ne (tgt := 13) dX4_net_8 (by decide) (fun c_8 => ?_) (fun c_8 => ?_) | refine ko_if_ne (tgt := 13) dX4_net_8 (by decide) (fun c_8 => ?_) (fun c_8 => ?_)
  · refine ko_bipush (v := 100) dX4_net_13 (by decide) ?_
    refine ko_istore_n (i := 2) (lv' := [(0, _), (1, _), (2, _)]) dX4_net_15 rfl (by decide) rfl rfl rfl ?_
    refine ko_iconst (v := 0) dX4_net_16 (by decide) ?_
    refine ko_istore_n (i := 3) (lv' := [(0, _), (1, _), (2, _), (3, _)]) dX4_net_17 rfl (by decide) rfl rfl rfl ?_
    rw [if_neg (by rw [c_8]; decide)]
    exact LOOP m 0 (by omega)
  · refine ko_iconst (v := (-1)) dX4_net_11 (by decide) ?_
    refine ko_iret dX4_net_12 rfl (Nat.le_of_ble_eq_true rfl) (Nat.le_of_ble_eq_true rfl) ?_
    simp [c_8]
set_option maxRecDepth 20000 in
theorem x_ring {G : kx_G} {d N x : Nat} {h : kx_H} {T : Nat → Int32} {L : Nat} {u : PU} {C : Nat} {Ac K : Nat → PU} {kf : Nat → Int32} {sd : Int64} {m : Nat}  (hS : kS h x T L u C Ac K kf sd) (hn : pN u = nI m) (hm : m ≤ 5) (hd : 20 ≤ d) : kx_Fn mX4_ring d 0 0 G [.ref x] N h (some (.int (riI u m)), N, h) := by
  refine kx_Fn_of rfl (Nat.le_of_ble_eq_true rfl) rfl ?_ (kx_self)
  obtain ⟨told, trial, F, B, s, f, hi, hf, hF, hC, hB, hL⟩ := id hS
  obtain ⟨s1, s2, s3, s4, s5, s6, s7, s8, s9, s10, s11⟩ := id hi
  have LOOP : ∀ (k i : Nat), k + i = m → kx_Ok mX4_ring d 0 0 G 0 0 4 [(0, .ref x), (1, .int (riI u i)), (2, .int (nI i))] [] N h (some (.int (riI u m)), N, h) := by
    intro k
    induction k with
    | zero =>
      intro i hi
      obtain rfl : m = i := by omega
      refine ko_iload_n (i := 2) dX4_ring_4 rfl rfl ?_
      refine ko_aload_n (i := 0) dX4_ring_5 rfl rfl ?_
      refine ko_get fl_X4_19 dX4_ring_6 s1 rfl ?_
      refine ko_get fl_X4_74 dX4_ring_9 s5.1 rfl ?_
      refine ko_icmp_ge (tgt := 36) dX4_ring_12 (by decide) (fun c_12 => ?_) (fun c_12 => ?_)
      · refine ko_iload_n (i := 1) dX4_ring_36 rfl rfl ?_
        refine ko_iret dX4_ring_37 rfl (Nat.le_of_ble_eq_true rfl) (Nat.le_of_ble_eq_true rfl) ?_
        rfl
      · exact absurd (show pN u ≤ nI m by rw [hn]; exact nI_le (Nat.le_refl _) (by omega)) c_12
    | succ k ih =>
      intro i hi
      refine ko_iload_n (i := 2) dX4_ring_4 rfl rfl ?_
      refine ko_aload_n (i := 0) dX4_ring_5 rfl rfl ?_
      refine ko_get fl_X4_19 dX4_ring_6 s1 rfl ?_
      refine ko_get fl_X4_74 dX4_ring_9 s5.1 rfl ?_
      refine ko_icmp_ge (tgt := 36) dX4_ring_12 (by decide) (fun c_12 => ?_) (fun c_12 => ?_)
      · exact absurd (show nI m ≤ nI i from by rw [← hn]; exact c_12) (nI_ge (by omega) (by omega))
      · refine ko_iload_n (i := 1) dX4_ring_15 rfl rfl ?_
        refine ko_aload_n (i := 0) dX4_ring_16 rfl rfl ?_
        refine ko_get fl_X4_19 dX4_ring_17 s1 rfl ?_
        refine ko_iload_n (i := 2) dX4_ring_20 rfl rfl ?_
        refine ko_callVr lk_X4_173 dX4_ring_21 (fn_reachedByDebts (d := d - 1) s5 (by omega)) rfl rfl s5.1 rfl rfl (by omega) (by omega) (by omega) (Nat.le_of_ble_eq_true rfl) ?_
        refine ko_iconst (v := 1) dX4_ring_24 (by decide) ?_
        refine ko_iload_n (i := 2) dX4_ring_25 rfl rfl ?_
        refine ko_ishl dX4_ring_26 ?_
        refine ko_iand dX4_ring_27 ?_
        refine ko_ior dX4_ring_28 ?_
        refine ko_istore_n (i := 1) (lv' := [(0, _), (1, _), (2, _)]) dX4_ring_29 rfl (by decide) rfl rfl rfl ?_
        refine ko_inc1 (i := 2) (lv' := [(0, _), (1, _), (2, _)]) dX4_ring_30 rfl (by decide) rfl rfl rfl ?_
        refine ko_goto (tgt := 4) dX4_ring_33 (by decide) ?_
        exact ko_lv (by simp [riI, nI_succ, c_12]) (ih (i + 1) (by omega))
  refine ko_iconst (v := 0) dX4_ring_0 (by decide) ?_
  refine ko_istore_n (i := 1) (lv' := [(0, _), (1, _)]) dX4_ring_1 rfl (by decide) rfl rfl rfl ?_
  refine ko_iconst (v := 0) dX4_ring_2 (by decide) ?_
  refine ko_istore_n (i := 2) (lv' := [(0, _), (1, _), (2, _)]) dX4_ring_3 rfl (by decide) rfl rfl rfl ?_
  exact LOOP m 0 (by omega)
set_option maxRecDepth 20000 in
theorem x_whose {G : kx_G} {d N x : Nat} {h : kx_H} {T : Nat → Int32} {L : Nat} {u : PU} {C : Nat} {Ac K : Nat → PU} {kf : Nat → Int32} {sd : Int64} {m : Nat} {w : Int32} (hS : kS h x T L u C Ac K kf sd) (hn : pN u = nI m) (hm : m ≤ 5) (hd : 20 ≤ d) : kx_Fn mX4_whose d 0 0 G [.ref x, .int w] N h (some (.int (if w < 1 then -2 else if ¬ w ≤ 9 then -2 else whI u w m)), N, h) := by
  refine kx_Fn_of rfl (Nat.le_of_ble_eq_true rfl) rfl ?_ (kx_self)
  obtain ⟨told, trial, F, B, s, f, hi, hf, hF, hC, hB, hL⟩ := id hS
  obtain ⟨s1, s2, s3, s4, s5, s6, s7, s8, s9, s10, s11⟩ := id hi
  have LOOP : ∀ (k i : Nat), k + i = m → kx_Ok mX4_whose d 0 0 G 0 0 18 [(0, .ref x), (1, .int w), (2, .int (whI u w i)), (3, .int (nI i))] [] N h (some (.int (whI u w m)), N, h) := by
    intro k
    induction k with
    | zero =>
      intro i hi
      obtain rfl : m = i := by omega
      refine ko_iload_n (i := 3) dX4_whose_18 rfl rfl ?_
      refine ko_aload_n (i := 0) dX4_whose_19 rfl rfl ?_
      refine ko_get fl_X4_19 dX4_whose_20 s1 rfl ?_
      refine ko_get fl_X4_74 dX4_whose_23 s5.1 rfl ?_
      refine ko_icmp_ge (tgt := 53) dX4_whose_26 (by decide) (fun c_26 => ?_) (fun c_26 => ?_)
      · refine ko_iload_n (i := 2) dX4_whose_53 rfl rfl ?_
        refine ko_iret dX4_whose_54 rfl (Nat.le_of_ble_eq_true rfl) (Nat.le_of_ble_eq_true rfl) ?_
        rfl
      · exact absurd (show pN u ≤ nI m by rw [hn]; exact nI_le (Nat.le_refl _) (by omega)) c_26
    | succ k ih =>
      intro i hi
      refine ko_iload_n (i := 3) dX4_whose_18 rfl rfl ?_
      refine ko_aload_n (i := 0) dX4_whose_19 rfl rfl ?_
      refine ko_get fl_X4_19 dX4_whose_20 s1 rfl ?_
      refine ko_get fl_X4_74 dX4_whose_23 s5.1 rfl ?_
      refine ko_icmp_ge (tgt := 53) dX4_whose_26 (by decide) (fun c_26 => ?_) (fun c_26 => ?_)
      · exact absurd (show nI m ≤ nI i from by rw [← hn]; exact c_26) (nI_ge (by omega) (by omega))
      · refine ko_aload_n (i := 0) dX4_whose_29 rfl rfl ?_
        refine ko_get fl_X4_19 dX4_whose_30 s1 rfl ?_
        refine ko_iload_n (i := 3) dX4_whose_33 rfl rfl ?_
        refine ko_callVr lk_X4_106 dX4_whose_34 (fn_ounces (d := d - 1) s5 (by omega)) rfl rfl s5.1 rfl rfl (by omega) (by omega) (by omega) (Nat.le_of_ble_eq_true rfl) ?_
        refine ko_iload_n (i := 1) dX4_whose_37 rfl rfl ?_
        refine ko_icmp_ne (tgt := 47) dX4_whose_38 (by decide) (fun c_38 => ?_) (fun c_38 => ?_)
        · refine ko_inc1 (i := 3) (lv' := [(0, _), (1, _), (2, _), (3, _)]) dX4_whose_47 rfl (by decide) rfl rfl rfl ?_
          refine ko_goto (tgt := 18) dX4_whose_50 (by decide) ?_
          exact ko_lv (by simp [whI, nI_succ, c_26, c_38]) (ih (i + 1) (by omega))
        · refine ko_iload_n (i := 2) dX4_whose_41 rfl rfl ?_
          refine ko_iconst (v := 1) dX4_whose_42 (by decide) ?_
          refine ko_iload_n (i := 3) dX4_whose_43 rfl rfl ?_
          refine ko_ishl dX4_whose_44 ?_
          refine ko_ior dX4_whose_45 ?_
          refine ko_istore_n (i := 2) (lv' := [(0, _), (1, _), (2, _), (3, _)]) dX4_whose_46 rfl (by decide) rfl rfl rfl ?_
          refine ko_inc1 (i := 3) (lv' := [(0, _), (1, _), (2, _), (3, _)]) dX4_whose_47 rfl (by decide) rfl rfl rfl ?_
          refine ko_goto (tgt := 18) dX4_whose_50 (by decide) ?_
          exact ko_lv (by simp [whI, nI_succ, c_26, c_38]) (ih (i + 1) (by omega))
  refine ko_iload_n (i := 1) dX4_whose_0 rfl rfl ?_
  refine ko_iconst (v := 1) dX4_whose_1 (by decide) ?_
  refine ko_icmp_lt (tgt := 11) dX4_whose_2 (by decide) (fun c_2 => ?_) (fun c_2 => ?_)
  · refine ko_bipush (v := (-2)) dX4_whose_11 (by decide) ?_
    refine ko_iret dX4_whose_13 rfl (Nat.le_of_ble_eq_true rfl) (Nat.le_of_ble_eq_true rfl) ?_
    simp [c_2]
  · refine ko_iload_n (i := 1) dX4_whose_5 rfl rfl ?_
    refine ko_bipush (v := 9) dX4_whose_6 (by decide) ?_
    refine ko_icmp_le (tgt := 14) dX4_whose_8 (by decide) (fun c_8 => ?_) (fun c_8 => ?_)
    · refine ko_iconst (v := 0) dX4_whose_14 (by decide) ?_
      refine ko_istore_n (i := 2) (lv' := [(0, _), (1, _), (2, _)]) dX4_whose_15 rfl (by decide) rfl rfl rfl ?_
      refine ko_iconst (v := 0) dX4_whose_16 (by decide) ?_
      refine ko_istore_n (i := 3) (lv' := [(0, _), (1, _), (2, _), (3, _)]) dX4_whose_17 rfl (by decide) rfl rfl rfl ?_
      rw [if_neg c_2, if_neg (by simp [c_8])]
      exact LOOP m 0 (by omega)
    · refine ko_bipush (v := (-2)) dX4_whose_11 (by decide) ?_
      refine ko_iret dX4_whose_13 rfl (Nat.le_of_ble_eq_true rfl) (Nat.le_of_ble_eq_true rfl) ?_
      simp [c_2, c_8]
set_option maxRecDepth 20000 in
theorem x_fault {G : kx_G} {d N x : Nat} {h : kx_H} {T : Nat → Int32} {L : Nat} {u : PU} {C : Nat} {Ac K : Nat → PU} {kf : Nat → Int32} {sd : Int64}  (hS : kS h x T L u C Ac K kf sd)  (hd : 20 ≤ d) : ∃ g, kx_Fn mX4_fault d 0 0 G [.ref x] N h (some (.int (rlR T (nI L)).1), N, g) ∧ kS g x T L u C Ac K kf sd ∧ kFr h g x 121 := by
  obtain ⟨told, trial, F, B, s, f, hi, hf, hF, hC, hB, hL⟩ := id hS
  obtain ⟨s1, s2, s3, s4, s5, s6, s7, s8, s9, s10, s11⟩ := id hi
  have fr : kFr h (kp_put h (x + 3) (rlR T (nI L)).2) x 121 := kFr.put (by omega)
  refine ⟨(kp_put h (x + 3) (rlR T (nI L)).2), kx_Fn_of rfl (Nat.le_of_ble_eq_true rfl) rfl ?_ (kS_dom hS fr), ⟨_, trial, F, B, s, f, kSi_told hi _, hf, hF, hC, hB, hL⟩, fr⟩
  · refine ko_aload_n (i := 0) dX4_fault_0 rfl rfl ?_
    refine ko_get fl_X4_10 dX4_fault_1 s1 rfl ?_
    refine ko_callVr lk_X4_60 dX4_fault_4 (fn_readLand (d := d - 1) s2 s3 s4 rfl hL (by omega)) rfl rfl s2 rfl rfl (by omega) (by omega) (by omega) (Nat.le_of_ble_eq_true rfl) ?_
    refine ko_iret dX4_fault_7 rfl (Nat.le_of_ble_eq_true rfl) (Nat.le_of_ble_eq_true rfl) ?_
    rfl
set_option maxRecDepth 20000 in
theorem x_wipe {G : kx_G} {d N x : Nat} {h : kx_H} {T : Nat → Int32} {L : Nat} {u : PU} {C : Nat} {Ac K : Nat → PU} {kf : Nat → Int32} {sd : Int64}  (hS : kS h x T L u C Ac K kf sd)  (hd : 20 ≤ d) : ∃ g, kx_Fn mX4_wipe d 0 0 G [.ref x] N h (some (.int (nI L)), N, g) ∧ kS g x T 0 u C Ac K kf sd ∧ kFr h g x 121 := by
  obtain ⟨told, trial, F, B, s, f, hi, hf, hF, hC, hB, hL⟩ := id hS
  obtain ⟨s1, s2, s3, s4, s5, s6, s7, s8, s9, s10, s11⟩ := id hi
  have fr : kFr h (kx_up (kx_up h (x + 2) (kl_a T)) (x + 1) (klo (x + 1) (nI 0))) x 121 := (kFr.up (by omega)).tr (kFr.up (by omega))
  refine ⟨(kx_up (kx_up h (x + 2) (kl_a T)) (x + 1) (klo (x + 1) (nI 0))), kx_Fn_of rfl (Nat.le_of_ble_eq_true rfl) rfl ?_ (kS_dom hS fr), ⟨told, trial, F, B, s, f, kSi_text hi T 0, hf, hF, hC, hB, by omega⟩, fr⟩
  · refine ko_aload_n (i := 0) dX4_wipe_0 rfl rfl ?_
    refine ko_get fl_X4_10 dX4_wipe_1 s1 rfl ?_
    refine ko_get fl_X4_56 dX4_wipe_4 s2 rfl ?_
    refine ko_istore_n (i := 1) (lv' := [(0, _), (1, _)]) dX4_wipe_7 rfl (by decide) rfl rfl rfl ?_
    refine ko_aload_n (i := 0) dX4_wipe_8 rfl rfl ?_
    refine ko_get fl_X4_10 dX4_wipe_9 s1 rfl ?_
    refine ko_iconst (v := 0) dX4_wipe_12 (by decide) ?_
    refine ko_put fl_X4_56 dX4_wipe_13 s2 rfl rfl (Nat.le_of_ble_eq_true rfl) ?_
    refine ko_iload_n (i := 1) dX4_wipe_16 rfl rfl ?_
    refine ko_iret dX4_wipe_17 rfl (Nat.le_of_ble_eq_true rfl) (Nat.le_of_ble_eq_true rfl) ?_
    rw [ku_same (show h (x + 2) = some (kl_a T) from s3)]
    rfl
set_option maxRecDepth 20000 in
theorem x_seed {G : kx_G} {d N x : Nat} {h : kx_H} {T : Nat → Int32} {L : Nat} {u : PU} {C : Nat} {Ac K : Nat → PU} {kf : Nat → Int32} {sd : Int64} {v : Int64} (hS : kS h x T L u C Ac K kf sd)  (hd : 20 ≤ d) : ∃ g, kx_Fn mX4_seed d 0 0 G [.ref x, .long v] N h (some (.long sd), N, g) ∧ kS g x T L u C Ac K kf v ∧ kFr h g x 121 := by
  obtain ⟨told, trial, F, B, s, f, hi, hf, hF, hC, hB, hL⟩ := id hS
  obtain ⟨s1, s2, s3, s4, s5, s6, s7, s8, s9, s10, s11⟩ := id hi
  have fr : kFr h (kx_up h x (kxo x v)) x 121 := kFr.up (by omega)
  refine ⟨(kx_up h x (kxo x v)), kx_Fn_of rfl (Nat.le_of_ble_eq_true rfl) rfl ?_ (kS_dom hS fr), ⟨told, trial, F, B, s, f, kSi_seed hi v, hf, hF, hC, hB, hL⟩, fr⟩
  · refine ko_aload_n (i := 0) dX4_seed_0 rfl rfl ?_
    refine ko_get fl_X4_48 dX4_seed_1 s1 rfl ?_
    refine ko_lstore_n (i := 3) (lv' := [(3, _), (0, _), (1, _)]) dX4_seed_4 rfl (by decide) rfl ?_
    refine ko_aload_n (i := 0) dX4_seed_5 rfl rfl ?_
    refine ko_lload_n (i := 1) dX4_seed_6 rfl rfl ?_
    refine ko_put fl_X4_48 dX4_seed_7 s1 rfl rfl (Nat.le_of_ble_eq_true rfl) ?_
    refine ko_lload_n (i := 3) dX4_seed_10 rfl rfl ?_
    refine ko_lret dX4_seed_11 rfl (Nat.le_of_ble_eq_true rfl) (Nat.le_of_ble_eq_true rfl) ?_
    rfl
theorem fn_searchS {G : kx_G} {d N a b : Nat} {h : kx_H} {u : PU} {s S : SU} {op fr : Int32} (hP : kP h a u) (hb : h b = some (kso s)) (hab : b < a ∨ a + 5 < b) (hd : 9 ≤ d) (e : seU u op fr = S) : kx_Fn mX3_search d 0 0 G [.ref b, .ref a, .int op, .int fr] N h (some (.int S.2.1), N, kx_up h b (kso S)) := by
  subst e
  exact fn_search hP hb hab hd
def svI (S : SU) (w : Int32) : Int32 := if w = 0 then S.2.1 else if ¬ w = 1 then S.2.2.2 else S.2.2.1
set_option maxRecDepth 20000 in
theorem x_served {G : kx_G} {d N x : Nat} {h : kx_H} {T : Nat → Int32} {L : Nat} {u : PU} {C : Nat} {Ac K : Nat → PU} {kf : Nat → Int32} {sd : Int64} {w : Int32} {S : SU} (hS9 : seU u (pOp u) (unbI u) = S) (hS : kS h x T L u C Ac K kf sd) (hw : ¬ w < 0 ∧ w ≤ 2) (hd : 20 ≤ d) : ∃ g, kx_Fn mX4_served d 0 0 G [.ref x, .int w] N h (some (.int (svI S w)), N, g) ∧ kS g x T L u C Ac K kf sd ∧ kFr h g x 121 := by
  obtain ⟨told, trial, F, B, s, f, hi, hf, hF, hC, hB, hL⟩ := id hS
  obtain ⟨s1, s2, s3, s4, s5, s6, s7, s8, s9, s10, s11⟩ := id hi
  have fr : kFr h (kx_up h (x + 121) (kso S)) x 121 := kFr.up (by omega)
  refine ⟨(kx_up h (x + 121) (kso S)), kx_Fn_of rfl (Nat.le_of_ble_eq_true rfl) rfl ?_ (kS_dom hS fr), ⟨told, trial, F, B, _, f, kSi_serv hi _, hf, hF, hC, hB, hL⟩, fr⟩
  · refine ko_iload_n (i := 1) dX4_served_0 rfl rfl ?_
    refine ko_if_lt (tgt := 9) dX4_served_1 (by decide) (fun c_1 => ?_) (fun c_1 => ?_)
    · exact absurd hw (by simp [c_1])
    · refine ko_iload_n (i := 1) dX4_served_4 rfl rfl ?_
      refine ko_iconst (v := 2) dX4_served_5 (by decide) ?_
      refine ko_icmp_le (tgt := 12) dX4_served_6 (by decide) (fun c_6 => ?_) (fun c_6 => ?_)
      · refine ko_aload_n (i := 0) dX4_served_12 rfl rfl ?_
        first | refine ko_get fl_X4_44 dX4_served_13 s1 rfl ?_ | refine ko_get fl_X4_44 dX4_served_13 ((ku_n (by omega)).trans s1) rfl ?_
        refine ko_aload_n (i := 0) dX4_served_16 rfl rfl ?_
        first | refine ko_get fl_X4_19 dX4_served_17 s1 rfl ?_ | refine ko_get fl_X4_19 dX4_served_17 ((ku_n (by omega)).trans s1) rfl ?_
        refine ko_aload_n (i := 0) dX4_served_20 rfl rfl ?_
        first | refine ko_get fl_X4_19 dX4_served_21 s1 rfl ?_ | refine ko_get fl_X4_19 dX4_served_21 ((ku_n (by omega)).trans s1) rfl ?_
        refine ko_get fl_X4_77 dX4_served_24 s5.1 rfl ?_
        refine ko_aload_n (i := 0) dX4_served_27 rfl rfl ?_
        first | refine ko_get fl_X4_19 dX4_served_28 s1 rfl ?_ | refine ko_get fl_X4_19 dX4_served_28 ((ku_n (by omega)).trans s1) rfl ?_
        refine ko_callVr lk_X4_152 dX4_served_31 (fn_unbereaved (d := d - 1) s5 (by omega)) rfl rfl s5.1 rfl rfl (by omega) (by omega) (by omega) (Nat.le_of_ble_eq_true rfl) ?_
        first | refine ko_callVr lk_X4_155 dX4_served_34 (fn_searchS (d := d - 1) s5 s11 (by omega) (by omega) hS9) rfl rfl s11 rfl rfl (by omega) (by omega) (by omega) (Nat.le_of_ble_eq_true rfl) ?_ | refine ko_callVr lk_X4_155 dX4_served_34 (fn_searchS (d := d - 1) s5 s11 (by omega) (by omega) hS9) rfl rfl ku_s rfl rfl (by omega) (by omega) (by omega) (Nat.le_of_ble_eq_true rfl) ?_
        refine ko_pop dX4_served_37 rfl ?_
        refine ko_iload_n (i := 1) dX4_served_38 rfl rfl ?_
        refine ko_if_ne (tgt := 50) dX4_served_39 (by decide) (fun c_39 => ?_) (fun c_39 => ?_)
        · refine ko_iload_n (i := 1) dX4_served_50 rfl rfl ?_
          refine ko_iconst (v := 1) dX4_served_51 (by decide) ?_
          refine ko_icmp_ne (tgt := 65) dX4_served_52 (by decide) (fun c_52 => ?_) (fun c_52 => ?_)
          · refine ko_aload_n (i := 0) dX4_served_65 rfl rfl ?_
            refine ko_get fl_X4_44 dX4_served_66 ((ku_n (by omega)).trans s1) rfl ?_
            first | refine ko_get fl_X4_164 dX4_served_69 s11 rfl ?_ | refine ko_get fl_X4_164 dX4_served_69 ku_s rfl ?_
            refine ko_iret dX4_served_72 rfl (Nat.le_of_ble_eq_true rfl) (Nat.le_of_ble_eq_true rfl) ?_
            simp [svI, c_1, c_6, c_39, c_52]
          · refine ko_aload_n (i := 0) dX4_served_55 rfl rfl ?_
            refine ko_get fl_X4_44 dX4_served_56 ((ku_n (by omega)).trans s1) rfl ?_
            first | refine ko_get fl_X4_162 dX4_served_59 s11 rfl ?_ | refine ko_get fl_X4_162 dX4_served_59 ku_s rfl ?_
            refine ko_goto (tgt := 72) dX4_served_62 (by decide) ?_
            refine ko_iret dX4_served_72 rfl (Nat.le_of_ble_eq_true rfl) (Nat.le_of_ble_eq_true rfl) ?_
            simp [svI, c_1, c_6, c_39, c_52]
        · refine ko_aload_n (i := 0) dX4_served_42 rfl rfl ?_
          refine ko_get fl_X4_44 dX4_served_43 ((ku_n (by omega)).trans s1) rfl ?_
          first | refine ko_get fl_X4_159 dX4_served_46 s11 rfl ?_ | refine ko_get fl_X4_159 dX4_served_46 ku_s rfl ?_
          refine ko_iret dX4_served_49 rfl (Nat.le_of_ble_eq_true rfl) (Nat.le_of_ble_eq_true rfl) ?_
          simp [svI, c_1, c_6, c_39]
      · exact absurd hw (by simp [c_1, c_6])
set_option maxRecDepth 20000 in
theorem x_served0 {G : kx_G} {d N x : Nat} {h : kx_H} {T : Nat → Int32} {L : Nat} {u : PU} {C : Nat} {Ac K : Nat → PU} {kf : Nat → Int32} {sd : Int64} {w : Int32} (hw : w < 0 ∨ ¬ w ≤ 2) (hS : kS h x T L u C Ac K kf sd) (hd : 20 ≤ d) : kx_Fn mX4_served d 0 0 G [.ref x, .int w] N h (some (.int (-2)), N, h) := by
  refine kx_Fn_of rfl (Nat.le_of_ble_eq_true rfl) rfl ?_ (kx_self)
  obtain ⟨told, trial, F, B, s, f, hi, hf, hF, hC, hB, hL⟩ := id hS
  obtain ⟨s1, s2, s3, s4, s5, s6, s7, s8, s9, s10, s11⟩ := id hi
  refine ko_iload_n (i := 1) dX4_served_0 rfl rfl ?_
  refine ko_if_lt (tgt := 9) dX4_served_1 (by decide) (fun c_1 => ?_) (fun c_1 => ?_)
  · refine ko_bipush (v := (-2)) dX4_served_9 (by decide) ?_
    refine ko_iret dX4_served_11 rfl (Nat.le_of_ble_eq_true rfl) (Nat.le_of_ble_eq_true rfl) ?_
    rfl
  · refine ko_iload_n (i := 1) dX4_served_4 rfl rfl ?_
    refine ko_iconst (v := 2) dX4_served_5 (by decide) ?_
    refine ko_icmp_le (tgt := 12) dX4_served_6 (by decide) (fun c_6 => ?_) (fun c_6 => ?_)
    · exact absurd hw (by simp [c_1, c_6])
    · refine ko_bipush (v := (-2)) dX4_served_9 (by decide) ?_
      refine ko_iret dX4_served_11 rfl (Nat.le_of_ble_eq_true rfl) (Nat.le_of_ble_eq_true rfl) ?_
      rfl
end
