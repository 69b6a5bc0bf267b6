-- ===== PART A: goes FIRST, ahead of the names: the tables' words, and 'selects' of the private methods out of them =====
/-- a private method of a class that the tables say can be made, by its rows of tables_1 -/
def lw_okq (q : MethodName × Nat) : Prop := (q.1.cls ≠ "java/lang/invoke/MethodHandle" ∧ q.1.cls ≠ "java/lang/invoke/VarHandle") ∧ Cond.instantiable q.1.cls q.2 ∈ tables_1 ∧ Cond.privateMethod q.1 ∈ tables_1 ∧ Cond.instanceMethod q.1 ∈ tables_1
theorem lw_p0 : lw_okq (⟨"BorrowedTears$LandText", "letterAt", "(I)I"⟩, 3) := ⟨⟨by decide +kernel, by decide +kernel⟩, List.mem_of_getElem? (i := 19) (by decide +kernel), List.mem_of_getElem? (i := 175) (by decide +kernel), List.mem_of_getElem? (i := 176) (by decide +kernel)⟩
theorem lw_p1 : lw_okq (⟨"BorrowedTears$LandText", "readPerson", "(I)I"⟩, 3) := ⟨⟨by decide +kernel, by decide +kernel⟩, List.mem_of_getElem? (i := 19) (by decide +kernel), List.mem_of_getElem? (i := 179) (by decide +kernel), List.mem_of_getElem? (i := 180) (by decide +kernel)⟩
theorem lw_p2 : lw_okq (⟨"BorrowedTears$LandText", "digitAt", "(I)I"⟩, 3) := ⟨⟨by decide +kernel, by decide +kernel⟩, List.mem_of_getElem? (i := 19) (by decide +kernel), List.mem_of_getElem? (i := 183) (by decide +kernel), List.mem_of_getElem? (i := 184) (by decide +kernel)⟩
theorem lw_p3 : lw_okq (⟨"BorrowedTears$LandText", "readKin", "(I)I"⟩, 3) := ⟨⟨by decide +kernel, by decide +kernel⟩, List.mem_of_getElem? (i := 19) (by decide +kernel), List.mem_of_getElem? (i := 191) (by decide +kernel), List.mem_of_getElem? (i := 192) (by decide +kernel)⟩
theorem lw_p4 : lw_okq (⟨"BorrowedTears$LandText", "isPairLeft", "()Z"⟩, 3) := ⟨⟨by decide +kernel, by decide +kernel⟩, List.mem_of_getElem? (i := 19) (by decide +kernel), List.mem_of_getElem? (i := 195) (by decide +kernel), List.mem_of_getElem? (i := 196) (by decide +kernel)⟩
theorem lw_p5 : lw_okq (⟨"BorrowedTears$People", "settle", "(II)V"⟩, 9) := ⟨⟨by decide +kernel, by decide +kernel⟩, List.mem_of_getElem? (i := 25) (by decide +kernel), List.mem_of_getElem? (i := 315) (by decide +kernel), List.mem_of_getElem? (i := 316) (by decide +kernel)⟩
theorem lw_p6 : lw_okq (⟨"BorrowedTears$Service", "compare", "(III)V"⟩, 4) := ⟨⟨by decide +kernel, by decide +kernel⟩, List.mem_of_getElem? (i := 103) (by decide +kernel), List.mem_of_getElem? (i := 370) (by decide +kernel), List.mem_of_getElem? (i := 371) (by decide +kernel)⟩
theorem lw_p7 : lw_okq (⟨"BorrowedTears$People", "creditors", "(I)I"⟩, 9) := ⟨⟨by decide +kernel, by decide +kernel⟩, List.mem_of_getElem? (i := 25) (by decide +kernel), List.mem_of_getElem? (i := 406) (by decide +kernel), List.mem_of_getElem? (i := 407) (by decide +kernel)⟩
theorem lw_p8 : lw_okq (⟨"BorrowedTears", "gain", "(II)I"⟩, 8) := ⟨⟨by decide +kernel, by decide +kernel⟩, List.mem_of_getElem? (i := 11) (by decide +kernel), List.mem_of_getElem? (i := 423) (by decide +kernel), List.mem_of_getElem? (i := 424) (by decide +kernel)⟩
theorem lw_p9 : lw_okq (⟨"BorrowedTears", "weight", "(II)I"⟩, 8) := ⟨⟨by decide +kernel, by decide +kernel⟩, List.mem_of_getElem? (i := 11) (by decide +kernel), List.mem_of_getElem? (i := 432) (by decide +kernel), List.mem_of_getElem? (i := 433) (by decide +kernel)⟩
theorem lw_p10 : lw_okq (⟨"BorrowedTears", "allServed", "(I)Z"⟩, 8) := ⟨⟨by decide +kernel, by decide +kernel⟩, List.mem_of_getElem? (i := 11) (by decide +kernel), List.mem_of_getElem? (i := 464) (by decide +kernel), List.mem_of_getElem? (i := 465) (by decide +kernel)⟩
theorem lw_p11 : lw_okq (⟨"BorrowedTearsModel", "readLand", "()I"⟩, 22) := ⟨⟨by decide +kernel, by decide +kernel⟩, List.mem_of_getElem? (i := 490) (by decide +kernel), List.mem_of_getElem? (i := 579) (by decide +kernel), List.mem_of_getElem? (i := 580) (by decide +kernel)⟩
theorem lw_p12 : lw_okq (⟨"BorrowedTearsModel", "readPart", "()Z"⟩, 22) := ⟨⟨by decide +kernel, by decide +kernel⟩, List.mem_of_getElem? (i := 490) (by decide +kernel), List.mem_of_getElem? (i := 583) (by decide +kernel), List.mem_of_getElem? (i := 584) (by decide +kernel)⟩
theorem lw_p13 : lw_okq (⟨"BorrowedTearsModel", "readPerson", "()Z"⟩, 22) := ⟨⟨by decide +kernel, by decide +kernel⟩, List.mem_of_getElem? (i := 490) (by decide +kernel), List.mem_of_getElem? (i := 587) (by decide +kernel), List.mem_of_getElem? (i := 588) (by decide +kernel)⟩
theorem lw_p14 : lw_okq (⟨"BorrowedTearsModel", "figure", "(II)I"⟩, 22) := ⟨⟨by decide +kernel, by decide +kernel⟩, List.mem_of_getElem? (i := 490) (by decide +kernel), List.mem_of_getElem? (i := 591) (by decide +kernel), List.mem_of_getElem? (i := 592) (by decide +kernel)⟩
theorem lw_p15 : lw_okq (⟨"BorrowedTearsModel", "arePairs", "()Z"⟩, 22) := ⟨⟨by decide +kernel, by decide +kernel⟩, List.mem_of_getElem? (i := 490) (by decide +kernel), List.mem_of_getElem? (i := 595) (by decide +kernel), List.mem_of_getElem? (i := 596) (by decide +kernel)⟩
def lw_privs_1 : List (MethodName × Nat) := [(⟨"BorrowedTears$LandText", "letterAt", "(I)I"⟩, 3), (⟨"BorrowedTears$LandText", "readPerson", "(I)I"⟩, 3), (⟨"BorrowedTears$LandText", "digitAt", "(I)I"⟩, 3), (⟨"BorrowedTears$LandText", "readKin", "(I)I"⟩, 3), (⟨"BorrowedTears$LandText", "isPairLeft", "()Z"⟩, 3), (⟨"BorrowedTears$People", "settle", "(II)V"⟩, 9), (⟨"BorrowedTears$Service", "compare", "(III)V"⟩, 4), (⟨"BorrowedTears$People", "creditors", "(I)I"⟩, 9), (⟨"BorrowedTears", "gain", "(II)I"⟩, 8), (⟨"BorrowedTears", "weight", "(II)I"⟩, 8), (⟨"BorrowedTears", "allServed", "(I)Z"⟩, 8), (⟨"BorrowedTearsModel", "readLand", "()I"⟩, 22), (⟨"BorrowedTearsModel", "readPart", "()Z"⟩, 22), (⟨"BorrowedTearsModel", "readPerson", "()Z"⟩, 22), (⟨"BorrowedTearsModel", "figure", "(II)I"⟩, 22), (⟨"BorrowedTearsModel", "arePairs", "()Z"⟩, 22)]
theorem lw_r1 : ∀ q ∈ lw_privs_1, lw_okq q := List.forall_mem_cons.mpr ⟨lw_p0, List.forall_mem_cons.mpr ⟨lw_p1, List.forall_mem_cons.mpr ⟨lw_p2, List.forall_mem_cons.mpr ⟨lw_p3, List.forall_mem_cons.mpr ⟨lw_p4, List.forall_mem_cons.mpr ⟨lw_p5, List.forall_mem_cons.mpr ⟨lw_p6, List.forall_mem_cons.mpr ⟨lw_p7, List.forall_mem_cons.mpr ⟨lw_p8, List.forall_mem_cons.mpr ⟨lw_p9, List.forall_mem_cons.mpr ⟨lw_p10, List.forall_mem_cons.mpr ⟨lw_p11, List.forall_mem_cons.mpr ⟨lw_p12, List.forall_mem_cons.mpr ⟨lw_p13, List.forall_mem_cons.mpr ⟨lw_p14, List.forall_mem_cons.mpr ⟨lw_p15, fun _ h => absurd h List.not_mem_nil⟩⟩⟩⟩⟩⟩⟩⟩⟩⟩⟩⟩⟩⟩⟩⟩
theorem lw_p16 : lw_okq (⟨"BorrowedTearsModel", "pairsOf", "(I)I"⟩, 22) := ⟨⟨by decide +kernel, by decide +kernel⟩, List.mem_of_getElem? (i := 490) (by decide +kernel), List.mem_of_getElem? (i := 599) (by decide +kernel), List.mem_of_getElem? (i := 600) (by decide +kernel)⟩
theorem lw_p17 : lw_okq (⟨"BorrowedTearsModel", "readKin", "()Z"⟩, 22) := ⟨⟨by decide +kernel, by decide +kernel⟩, List.mem_of_getElem? (i := 490) (by decide +kernel), List.mem_of_getElem? (i := 606) (by decide +kernel), List.mem_of_getElem? (i := 607) (by decide +kernel)⟩
theorem lw_p18 : lw_okq (⟨"BorrowedTearsModel", "noPerson", "(I)Z"⟩, 22) := ⟨⟨by decide +kernel, by decide +kernel⟩, List.mem_of_getElem? (i := 490) (by decide +kernel), List.mem_of_getElem? (i := 622) (by decide +kernel), List.mem_of_getElem? (i := 623) (by decide +kernel)⟩
theorem lw_p19 : lw_okq (⟨"BorrowedTearsModel", "ouncesOf", "([II)I"⟩, 22) := ⟨⟨by decide +kernel, by decide +kernel⟩, List.mem_of_getElem? (i := 490) (by decide +kernel), List.mem_of_getElem? (i := 626) (by decide +kernel), List.mem_of_getElem? (i := 627) (by decide +kernel)⟩
theorem lw_p20 : lw_okq (⟨"BorrowedTearsModel", "mayFor", "(I)I"⟩, 22) := ⟨⟨by decide +kernel, by decide +kernel⟩, List.mem_of_getElem? (i := 490) (by decide +kernel), List.mem_of_getElem? (i := 630) (by decide +kernel), List.mem_of_getElem? (i := 631) (by decide +kernel)⟩
theorem lw_p21 : lw_okq (⟨"BorrowedTearsModel", "mayWeep", "([III)Z"⟩, 22) := ⟨⟨by decide +kernel, by decide +kernel⟩, List.mem_of_getElem? (i := 490) (by decide +kernel), List.mem_of_getElem? (i := 634) (by decide +kernel), List.mem_of_getElem? (i := 635) (by decide +kernel)⟩
theorem lw_p22 : lw_okq (⟨"BorrowedTearsModel", "isFree", "([III)Z"⟩, 22) := ⟨⟨by decide +kernel, by decide +kernel⟩, List.mem_of_getElem? (i := 490) (by decide +kernel), List.mem_of_getElem? (i := 638) (by decide +kernel), List.mem_of_getElem? (i := 639) (by decide +kernel)⟩
theorem lw_p23 : lw_okq (⟨"BorrowedTearsModel", "note", "()V"⟩, 22) := ⟨⟨by decide +kernel, by decide +kernel⟩, List.mem_of_getElem? (i := 490) (by decide +kernel), List.mem_of_getElem? (i := 650) (by decide +kernel), List.mem_of_getElem? (i := 651) (by decide +kernel)⟩
theorem lw_p24 : lw_okq (⟨"BorrowedTearsModel", "open", "([II)V"⟩, 22) := ⟨⟨by decide +kernel, by decide +kernel⟩, List.mem_of_getElem? (i := 490) (by decide +kernel), List.mem_of_getElem? (i := 654) (by decide +kernel), List.mem_of_getElem? (i := 655) (by decide +kernel)⟩
theorem lw_p25 : lw_okq (⟨"BorrowedTearsModel", "goWeep", "([III)I"⟩, 22) := ⟨⟨by decide +kernel, by decide +kernel⟩, List.mem_of_getElem? (i := 490) (by decide +kernel), List.mem_of_getElem? (i := 665) (by decide +kernel), List.mem_of_getElem? (i := 666) (by decide +kernel)⟩
theorem lw_p26 : lw_okq (⟨"BorrowedTearsModel", "close", "([III)V"⟩, 22) := ⟨⟨by decide +kernel, by decide +kernel⟩, List.mem_of_getElem? (i := 490) (by decide +kernel), List.mem_of_getElem? (i := 669) (by decide +kernel), List.mem_of_getElem? (i := 670) (by decide +kernel)⟩
theorem lw_p27 : lw_okq (⟨"BorrowedTearsModel", "goWeek", "([I)V"⟩, 22) := ⟨⟨by decide +kernel, by decide +kernel⟩, List.mem_of_getElem? (i := 490) (by decide +kernel), List.mem_of_getElem? (i := 681) (by decide +kernel), List.mem_of_getElem? (i := 682) (by decide +kernel)⟩
theorem lw_p28 : lw_okq (⟨"BorrowedTearsModel", "everyone", "()I"⟩, 22) := ⟨⟨by decide +kernel, by decide +kernel⟩, List.mem_of_getElem? (i := 490) (by decide +kernel), List.mem_of_getElem? (i := 694) (by decide +kernel), List.mem_of_getElem? (i := 695) (by decide +kernel)⟩
theorem lw_p29 : lw_okq (⟨"BorrowedTearsModel", "findServed", "([II)V"⟩, 22) := ⟨⟨by decide +kernel, by decide +kernel⟩, List.mem_of_getElem? (i := 490) (by decide +kernel), List.mem_of_getElem? (i := 698) (by decide +kernel), List.mem_of_getElem? (i := 699) (by decide +kernel)⟩
theorem lw_p30 : lw_okq (⟨"BorrowedTearsModel", "begin", "()V"⟩, 22) := ⟨⟨by decide +kernel, by decide +kernel⟩, List.mem_of_getElem? (i := 490) (by decide +kernel), List.mem_of_getElem? (i := 713) (by decide +kernel), List.mem_of_getElem? (i := 714) (by decide +kernel)⟩
theorem lw_p31 : lw_okq (⟨"BorrowedTearsModel", "findRests", "(III)V"⟩, 22) := ⟨⟨by decide +kernel, by decide +kernel⟩, List.mem_of_getElem? (i := 490) (by decide +kernel), List.mem_of_getElem? (i := 752) (by decide +kernel), List.mem_of_getElem? (i := 753) (by decide +kernel)⟩
def lw_privs_2 : List (MethodName × Nat) := [(⟨"BorrowedTearsModel", "pairsOf", "(I)I"⟩, 22), (⟨"BorrowedTearsModel", "readKin", "()Z"⟩, 22), (⟨"BorrowedTearsModel", "noPerson", "(I)Z"⟩, 22), (⟨"BorrowedTearsModel", "ouncesOf", "([II)I"⟩, 22), (⟨"BorrowedTearsModel", "mayFor", "(I)I"⟩, 22), (⟨"BorrowedTearsModel", "mayWeep", "([III)Z"⟩, 22), (⟨"BorrowedTearsModel", "isFree", "([III)Z"⟩, 22), (⟨"BorrowedTearsModel", "note", "()V"⟩, 22), (⟨"BorrowedTearsModel", "open", "([II)V"⟩, 22), (⟨"BorrowedTearsModel", "goWeep", "([III)I"⟩, 22), (⟨"BorrowedTearsModel", "close", "([III)V"⟩, 22), (⟨"BorrowedTearsModel", "goWeek", "([I)V"⟩, 22), (⟨"BorrowedTearsModel", "everyone", "()I"⟩, 22), (⟨"BorrowedTearsModel", "findServed", "([II)V"⟩, 22), (⟨"BorrowedTearsModel", "begin", "()V"⟩, 22), (⟨"BorrowedTearsModel", "findRests", "(III)V"⟩, 22)]
theorem lw_r2 : ∀ q ∈ lw_privs_2, lw_okq q := List.forall_mem_cons.mpr ⟨lw_p16, List.forall_mem_cons.mpr ⟨lw_p17, List.forall_mem_cons.mpr ⟨lw_p18, List.forall_mem_cons.mpr ⟨lw_p19, List.forall_mem_cons.mpr ⟨lw_p20, List.forall_mem_cons.mpr ⟨lw_p21, List.forall_mem_cons.mpr ⟨lw_p22, List.forall_mem_cons.mpr ⟨lw_p23, List.forall_mem_cons.mpr ⟨lw_p24, List.forall_mem_cons.mpr ⟨lw_p25, List.forall_mem_cons.mpr ⟨lw_p26, List.forall_mem_cons.mpr ⟨lw_p27, List.forall_mem_cons.mpr ⟨lw_p28, List.forall_mem_cons.mpr ⟨lw_p29, List.forall_mem_cons.mpr ⟨lw_p30, List.forall_mem_cons.mpr ⟨lw_p31, fun _ h => absurd h List.not_mem_nil⟩⟩⟩⟩⟩⟩⟩⟩⟩⟩⟩⟩⟩⟩⟩⟩
theorem lw_p32 : lw_okq (⟨"BorrowedTearsModel", "gainOf", "(IIIIIZ)I"⟩, 22) := ⟨⟨by decide +kernel, by decide +kernel⟩, List.mem_of_getElem? (i := 490) (by decide +kernel), List.mem_of_getElem? (i := 756) (by decide +kernel), List.mem_of_getElem? (i := 757) (by decide +kernel)⟩
def lw_privs_3 : List (MethodName × Nat) := [(⟨"BorrowedTearsModel", "gainOf", "(IIIIIZ)I"⟩, 22)]
theorem lw_r3 : ∀ q ∈ lw_privs_3, lw_okq q := List.forall_mem_cons.mpr ⟨lw_p32, fun _ h => absurd h List.not_mem_nil⟩
def lw_privs : List (MethodName × Nat) := lw_privs_1 ++ (lw_privs_2 ++ (lw_privs_3))
def lw_tbl : List Cond := k2_sels lw_privs ++ tables_1
theorem lw_privs_ok : ∀ q ∈ lw_privs, lw_okq q := by
  show ∀ q ∈ lw_privs_1 ++ (lw_privs_2 ++ (lw_privs_3)), lw_okq q
  exact List.forall_mem_append.mpr ⟨lw_r1, List.forall_mem_append.mpr ⟨lw_r2, lw_r3⟩⟩
-- names
def RX0 : String := "BorrowedTears$Acts"
def TX0 : u_T := fun k => match k with
  | 0 => ("BorrowedTears$Acts", "before", "[LBorrowedTears$People;", true)
  | 1 => ("BorrowedTears$Acts", "first", "I", false)
  | _ => ("BorrowedTears$Acts", "count", "I", false)
def tyX0 : Nat → FieldType := fun k => match k with
  | 0 => .array (.object "BorrowedTears$People")
  | 1 => .int
  | _ => .int
abbrev wsX00 : List Cond := u_ws RX0 TX0 3
theorem nmX0 : ∀ a, a < 3 → ∀ b, b < 3 → a ≠ b → (TX0 a).2.1 ≠ (TX0 b).2.1 := by decide +kernel
theorem tyX0_ok : ∀ k, k < 3 → parseFieldDescriptor (TX0 k).2.2.1 = some (tyX0 k) := by decide +kernel
abbrev cX0_init : ByteArray := prog_2_method_1_code
def yX0_init : MethodName := ⟨RX0, "<init>", "()V"⟩
abbrev cX0_forgetAll : ByteArray := prog_2_method_2_code
def yX0_forgetAll : MethodName := ⟨RX0, "forgetAll", "()V"⟩
abbrev cX0_remember : ByteArray := prog_2_method_3_code
def yX0_remember : MethodName := ⟨RX0, "remember", "(LBorrowedTears$People;)V"⟩
abbrev cX0_takeLast : ByteArray := prog_2_method_4_code
def yX0_takeLast : MethodName := ⟨RX0, "takeLast", "(LBorrowedTears$People;)V"⟩
abbrev cX0_inRing : ByteArray := prog_2_method_5_code
def yX0_inRing : MethodName := ⟨RX0, "inRing", "(I)I"⟩
def RX1 : String := "BorrowedTears$LandText"
def TX1 : u_T := fun k => match k with
  | 0 => ("BorrowedTears$LandText", "letters", "[I", true)
  | 1 => ("BorrowedTears$LandText", "told", "LBorrowedTears$People;", true)
  | _ => ("BorrowedTears$LandText", "length", "I", false)
def tyX1 : Nat → FieldType := fun k => match k with
  | 0 => .array .int
  | 1 => .object "BorrowedTears$People"
  | _ => .int
abbrev wsX10 : List Cond := u_ws RX1 TX1 3
theorem nmX1 : ∀ a, a < 3 → ∀ b, b < 3 → a ≠ b → (TX1 a).2.1 ≠ (TX1 b).2.1 := by decide +kernel
theorem tyX1_ok : ∀ k, k < 3 → parseFieldDescriptor (TX1 k).2.2.1 = some (tyX1 k) := by decide +kernel
abbrev cX1_init : ByteArray := prog_3_method_1_code
def yX1_init : MethodName := ⟨RX1, "<init>", "()V"⟩
abbrev cX1_append : ByteArray := prog_3_method_2_code
def yX1_append : MethodName := ⟨RX1, "append", "(I)Z"⟩
abbrev cX1_readLand : ByteArray := prog_3_method_3_code
def yX1_readLand : MethodName := ⟨RX1, "readLand", "()I"⟩
abbrev cX1_letterAt : ByteArray := prog_3_method_4_code
def yX1_letterAt : MethodName := ⟨RX1, "letterAt", "(I)I"⟩
abbrev cX1_digitAt : ByteArray := prog_3_method_5_code
def yX1_digitAt : MethodName := ⟨RX1, "digitAt", "(I)I"⟩
abbrev cX1_readPerson : ByteArray := prog_3_method_6_code
def yX1_readPerson : MethodName := ⟨RX1, "readPerson", "(I)I"⟩
abbrev cX1_readKin : ByteArray := prog_3_method_7_code
def yX1_readKin : MethodName := ⟨RX1, "readKin", "(I)I"⟩
abbrev cX1_isPairLeft : ByteArray := prog_3_method_8_code
def yX1_isPairLeft : MethodName := ⟨RX1, "isPairLeft", "()Z"⟩
def RX2 : String := "BorrowedTears$People"
def TX2 : u_T := fun k => match k with
  | 0 => ("BorrowedTears$People", "sorrow", "[I", true)
  | 1 => ("BorrowedTears$People", "age", "[I", true)
  | 2 => ("BorrowedTears$People", "kind", "[I", true)
  | 3 => ("BorrowedTears$People", "kin", "[I", true)
  | 4 => ("BorrowedTears$People", "owed", "[I", true)
  | 5 => ("BorrowedTears$People", "count", "I", false)
  | 6 => ("BorrowedTears$People", "open", "I", false)
  | 7 => ("BorrowedTears$People", "onionUsers", "I", false)
  | _ => ("BorrowedTears$People", "weeks", "I", false)
def tyX2 : Nat → FieldType := fun k => match k with
  | 0 => .array .int
  | 1 => .array .int
  | 2 => .array .int
  | 3 => .array .int
  | 4 => .array .int
  | 5 => .int
  | 6 => .int
  | 7 => .int
  | _ => .int
abbrev wsX20 : List Cond := u_ws RX2 TX2 9
theorem nmX2 : ∀ a, a < 9 → ∀ b, b < 9 → a ≠ b → (TX2 a).2.1 ≠ (TX2 b).2.1 := by decide +kernel
theorem tyX2_ok : ∀ k, k < 9 → parseFieldDescriptor (TX2 k).2.2.1 = some (tyX2 k) := by decide +kernel
abbrev cX2_init : ByteArray := prog_4_method_1_code
def yX2_init : MethodName := ⟨RX2, "<init>", "()V"⟩
abbrev cX2_copyFrom : ByteArray := prog_4_method_2_code
def yX2_copyFrom : MethodName := ⟨RX2, "copyFrom", "(LBorrowedTears$People;)V"⟩
abbrev cX2_clear : ByteArray := prog_4_method_3_code
def yX2_clear : MethodName := ⟨RX2, "clear", "()V"⟩
abbrev cX2_add : ByteArray := prog_4_method_4_code
def yX2_add : MethodName := ⟨RX2, "add", "(III)V"⟩
abbrev cX2_has : ByteArray := prog_4_method_5_code
def yX2_has : MethodName := ⟨RX2, "has", "(I)Z"⟩
abbrev cX2_everyone : ByteArray := prog_4_method_6_code
def yX2_everyone : MethodName := ⟨RX2, "everyone", "()I"⟩
abbrev cX2_unbereaved : ByteArray := prog_4_method_7_code
def yX2_unbereaved : MethodName := ⟨RX2, "unbereaved", "()I"⟩
abbrev cX2_isOpen : ByteArray := prog_4_method_8_code
def yX2_isOpen : MethodName := ⟨RX2, "isOpen", "(I)Z"⟩
abbrev cX2_areKin : ByteArray := prog_4_method_9_code
def yX2_areKin : MethodName := ⟨RX2, "areKin", "(II)Z"⟩
abbrev cX2_makeKin : ByteArray := prog_4_method_10_code
def yX2_makeKin : MethodName := ⟨RX2, "makeKin", "(II)V"⟩
abbrev cX2_laterStrangers : ByteArray := prog_4_method_11_code
def yX2_laterStrangers : MethodName := ⟨RX2, "laterStrangers", "(I)I"⟩
abbrev cX2_ounces : ByteArray := prog_4_method_12_code
def yX2_ounces : MethodName := ⟨RX2, "ounces", "(I)I"⟩
abbrev cX2_allSorrow : ByteArray := prog_4_method_13_code
def yX2_allSorrow : MethodName := ⟨RX2, "allSorrow", "()I"⟩
abbrev cX2_isFitFor : ByteArray := prog_4_method_14_code
def yX2_isFitFor : MethodName := ⟨RX2, "isFitFor", "(II)Z"⟩
abbrev cX2_mayWeep : ByteArray := prog_4_method_15_code
def yX2_mayWeep : MethodName := ⟨RX2, "mayWeep", "(II)Z"⟩
abbrev cX2_mayUseOnions : ByteArray := prog_4_method_16_code
def yX2_mayUseOnions : MethodName := ⟨RX2, "mayUseOnions", "(II)Z"⟩
abbrev cX2_thoseToWeepFor : ByteArray := prog_4_method_17_code
def yX2_thoseToWeepFor : MethodName := ⟨RX2, "thoseToWeepFor", "(I)I"⟩
abbrev cX2_unweptBits : ByteArray := prog_4_method_18_code
def yX2_unweptBits : MethodName := ⟨RX2, "unweptBits", "()I"⟩
abbrev cX2_kinToAllBits : ByteArray := prog_4_method_19_code
def yX2_kinToAllBits : MethodName := ⟨RX2, "kinToAllBits", "()I"⟩
abbrev cX2_debt : ByteArray := prog_4_method_20_code
def yX2_debt : MethodName := ⟨RX2, "debt", "(II)I"⟩
abbrev cX2_reachedByDebts : ByteArray := prog_4_method_21_code
def yX2_reachedByDebts : MethodName := ⟨RX2, "reachedByDebts", "(I)I"⟩
abbrev cX2_creditors : ByteArray := prog_4_method_22_code
def yX2_creditors : MethodName := ⟨RX2, "creditors", "(I)I"⟩
abbrev cX2_bereave : ByteArray := prog_4_method_23_code
def yX2_bereave : MethodName := ⟨RX2, "bereave", "(I)V"⟩
abbrev cX2_weepFor : ByteArray := prog_4_method_24_code
def yX2_weepFor : MethodName := ⟨RX2, "weepFor", "(II)I"⟩
abbrev cX2_useOnions : ByteArray := prog_4_method_25_code
def yX2_useOnions : MethodName := ⟨RX2, "useOnions", "(II)V"⟩
abbrev cX2_settle : ByteArray := prog_4_method_26_code
def yX2_settle : MethodName := ⟨RX2, "settle", "(II)V"⟩
abbrev cX2_passWeek : ByteArray := prog_4_method_27_code
def yX2_passWeek : MethodName := ⟨RX2, "passWeek", "()V"⟩
def RX3 : String := "BorrowedTears$Service"
def TX3 : u_T := fun k => match k with
  | 0 => ("BorrowedTears$Service", "bereaved", "I", false)
  | 1 => ("BorrowedTears$Service", "most", "I", false)
  | 2 => ("BorrowedTears$Service", "ounces", "I", false)
  | _ => ("BorrowedTears$Service", "way", "I", false)
def tyX3 : Nat → FieldType := fun k => match k with
  | 0 => .int
  | 1 => .int
  | 2 => .int
  | _ => .int
abbrev wsX30 : List Cond := u_ws RX3 TX3 4
theorem nmX3 : ∀ a, a < 4 → ∀ b, b < 4 → a ≠ b → (TX3 a).2.1 ≠ (TX3 b).2.1 := by decide +kernel
theorem tyX3_ok : ∀ k, k < 4 → parseFieldDescriptor (TX3 k).2.2.1 = some (tyX3 k) := by decide +kernel
abbrev cX3_init : ByteArray := prog_5_method_1_code
def yX3_init : MethodName := ⟨RX3, "<init>", "()V"⟩
abbrev cX3_search : ByteArray := prog_5_method_2_code
def yX3_search : MethodName := ⟨RX3, "search", "(LBorrowedTears$People;II)I"⟩
abbrev cX3_give : ByteArray := prog_5_method_3_code
def yX3_give : MethodName := ⟨RX3, "give", "(LBorrowedTears$Service;LBorrowedTears$People;IIIII)V"⟩
abbrev cX3_compare : ByteArray := prog_5_method_4_code
def yX3_compare : MethodName := ⟨RX3, "compare", "(III)V"⟩
def RX4 : String := "BorrowedTears"
def TX4 : u_T := fun k => match k with
  | 0 => ("BorrowedTears", "text", "LBorrowedTears$LandText;", true)
  | 1 => ("BorrowedTears", "now", "LBorrowedTears$People;", true)
  | 2 => ("BorrowedTears", "trial", "LBorrowedTears$People;", true)
  | 3 => ("BorrowedTears", "acts", "LBorrowedTears$Acts;", true)
  | 4 => ("BorrowedTears", "kept", "[LBorrowedTears$People;", true)
  | 5 => ("BorrowedTears", "isKept", "[Z", true)
  | 6 => ("BorrowedTears", "service", "LBorrowedTears$Service;", true)
  | _ => ("BorrowedTears", "theSeed", "J", false)
def tyX4 : Nat → FieldType := fun k => match k with
  | 0 => .object "BorrowedTears$LandText"
  | 1 => .object "BorrowedTears$People"
  | 2 => .object "BorrowedTears$People"
  | 3 => .object "BorrowedTears$Acts"
  | 4 => .array (.object "BorrowedTears$People")
  | 5 => .array .boolean
  | 6 => .object "BorrowedTears$Service"
  | _ => .long
abbrev wsX40 : List Cond := u_ws RX4 TX4 8
theorem nmX4 : ∀ a, a < 8 → ∀ b, b < 8 → a ≠ b → (TX4 a).2.1 ≠ (TX4 b).2.1 := by decide +kernel
theorem tyX4_ok : ∀ k, k < 8 → parseFieldDescriptor (TX4 k).2.2.1 = some (tyX4 k) := by decide +kernel
abbrev cX4_init : ByteArray := prog_1_method_1_code
def yX4_init : MethodName := ⟨RX4, "<init>", "()V"⟩
abbrev cX4_write : ByteArray := prog_1_method_2_code
def yX4_write : MethodName := ⟨RX4, "write", "(I)I"⟩
abbrev cX4_wipe : ByteArray := prog_1_method_3_code
def yX4_wipe : MethodName := ⟨RX4, "wipe", "()I"⟩
abbrev cX4_fault : ByteArray := prog_1_method_4_code
def yX4_fault : MethodName := ⟨RX4, "fault", "()I"⟩
abbrev cX4_land : ByteArray := prog_1_method_5_code
def yX4_land : MethodName := ⟨RX4, "land", "()I"⟩
abbrev cX4_about : ByteArray := prog_1_method_6_code
def yX4_about : MethodName := ⟨RX4, "about", "(I)I"⟩
abbrev cX4_person : ByteArray := prog_1_method_7_code
def yX4_person : MethodName := ⟨RX4, "person", "(II)I"⟩
abbrev cX4_owes : ByteArray := prog_1_method_8_code
def yX4_owes : MethodName := ⟨RX4, "owes", "(II)I"⟩
abbrev cX4_funeral : ByteArray := prog_1_method_9_code
def yX4_funeral : MethodName := ⟨RX4, "funeral", "(I)I"⟩
abbrev cX4_weep : ByteArray := prog_1_method_10_code
def yX4_weep : MethodName := ⟨RX4, "weep", "(II)I"⟩
abbrev cX4_onions : ByteArray := prog_1_method_11_code
def yX4_onions : MethodName := ⟨RX4, "onions", "(II)I"⟩
abbrev cX4_week : ByteArray := prog_1_method_12_code
def yX4_week : MethodName := ⟨RX4, "week", "()I"⟩
abbrev cX4_undo : ByteArray := prog_1_method_13_code
def yX4_undo : MethodName := ⟨RX4, "undo", "()I"⟩
abbrev cX4_served : ByteArray := prog_1_method_14_code
def yX4_served : MethodName := ⟨RX4, "served", "(I)I"⟩
abbrev cX4_nobody : ByteArray := prog_1_method_15_code
def yX4_nobody : MethodName := ⟨RX4, "nobody", "(I)I"⟩
abbrev cX4_till : ByteArray := prog_1_method_16_code
def yX4_till : MethodName := ⟨RX4, "till", "(II)I"⟩
abbrev cX4_net : ByteArray := prog_1_method_17_code
def yX4_net : MethodName := ⟨RX4, "net", "(I)I"⟩
abbrev cX4_ring : ByteArray := prog_1_method_18_code
def yX4_ring : MethodName := ⟨RX4, "ring", "()I"⟩
abbrev cX4_share : ByteArray := prog_1_method_19_code
def yX4_share : MethodName := ⟨RX4, "share", "(IZ)I"⟩
abbrev cX4_weighed : ByteArray := prog_1_method_20_code
def yX4_weighed : MethodName := ⟨RX4, "weighed", "(III)I"⟩
abbrev cX4_whose : ByteArray := prog_1_method_21_code
def yX4_whose : MethodName := ⟨RX4, "whose", "(I)I"⟩
abbrev cX4_rests : ByteArray := prog_1_method_22_code
def yX4_rests : MethodName := ⟨RX4, "rests", "(IIII)I"⟩
abbrev cX4_chance : ByteArray := prog_1_method_23_code
def yX4_chance : MethodName := ⟨RX4, "chance", "(IZ)I"⟩
abbrev cX4_seed : ByteArray := prog_1_method_24_code
def yX4_seed : MethodName := ⟨RX4, "seed", "(J)J"⟩
abbrev cX4_years : ByteArray := prog_1_method_25_code
def yX4_years : MethodName := ⟨RX4, "years", "(I)I"⟩
abbrev cX4_keep : ByteArray := prog_1_method_26_code
def yX4_keep : MethodName := ⟨RX4, "keep", "(I)I"⟩
abbrev cX4_again : ByteArray := prog_1_method_27_code
def yX4_again : MethodName := ⟨RX4, "again", "(I)I"⟩
abbrev cX4_gain : ByteArray := prog_1_method_28_code
def yX4_gain : MethodName := ⟨RX4, "gain", "(II)I"⟩
abbrev cX4_allServed : ByteArray := prog_1_method_29_code
def yX4_allServed : MethodName := ⟨RX4, "allServed", "(I)Z"⟩
abbrev cX4_weight : ByteArray := prog_1_method_30_code
def yX4_weight : MethodName := ⟨RX4, "weight", "(II)I"⟩
abbrev cX4_isAtRest : ByteArray := prog_1_method_31_code
def yX4_isAtRest : MethodName := ⟨RX4, "isAtRest", "(IIZZ)Z"⟩
abbrev cX4_oneWeeps : ByteArray := prog_1_method_32_code
def yX4_oneWeeps : MethodName := ⟨RX4, "oneWeeps", "(IIZZ)Z"⟩
abbrev cX4_gotByOne : ByteArray := prog_1_method_33_code
def yX4_gotByOne : MethodName := ⟨RX4, "gotByOne", "(IIZZ)I"⟩
abbrev cX4_gotByOther : ByteArray := prog_1_method_34_code
def yX4_gotByOther : MethodName := ⟨RX4, "gotByOther", "(IIZZ)I"⟩
abbrev cX4_got : ByteArray := prog_1_method_35_code
def yX4_got : MethodName := ⟨RX4, "got", "(IZZ)I"⟩
abbrev cX4_hasBit : ByteArray := prog_1_method_36_code
def yX4_hasBit : MethodName := ⟨RX4, "hasBit", "(II)Z"⟩
abbrev cX4_factorial : ByteArray := prog_1_method_37_code
def yX4_factorial : MethodName := ⟨RX4, "factorial", "(I)I"⟩
abbrev cX4_power : ByteArray := prog_1_method_38_code
def yX4_power : MethodName := ⟨RX4, "power", "(II)I"⟩
abbrev cX4_fraction : ByteArray := prog_1_method_39_code
def yX4_fraction : MethodName := ⟨RX4, "fraction", "(IIZ)I"⟩
def RX5 : String := "BorrowedTearsModel"
def TX5 : u_T := fun k => match k with
  | 0 => ("BorrowedTearsModel", "thrown", "I", false)
  | 1 => ("BorrowedTearsModel", "text", "[I", true)
  | 2 => ("BorrowedTearsModel", "textSize", "I", false)
  | 3 => ("BorrowedTearsModel", "place", "I", false)
  | 4 => ("BorrowedTearsModel", "people", "I", false)
  | 5 => ("BorrowedTearsModel", "kind", "[I", true)
  | 6 => ("BorrowedTearsModel", "readPeople", "I", false)
  | 7 => ("BorrowedTearsModel", "readPerson", "[I", true)
  | 8 => ("BorrowedTearsModel", "readKin", "[I", true)
  | 9 => ("BorrowedTearsModel", "page", "[I", true)
  | 10 => ("BorrowedTearsModel", "trial", "[I", true)
  | 11 => ("BorrowedTearsModel", "book", "[I", true)
  | 12 => ("BorrowedTearsModel", "acts", "I", false)
  | 13 => ("BorrowedTearsModel", "kept", "[I", true)
  | 14 => ("BorrowedTearsModel", "isKept", "[Z", true)
  | 15 => ("BorrowedTearsModel", "seed", "J", false)
  | 16 => ("BorrowedTearsModel", "servedMost", "I", false)
  | 17 => ("BorrowedTearsModel", "servedOunces", "I", false)
  | 18 => ("BorrowedTearsModel", "servedWay", "I", false)
  | 19 => ("BorrowedTearsModel", "value", "[I", true)
  | 20 => ("BorrowedTearsModel", "restMany", "I", false)
  | _ => ("BorrowedTearsModel", "restFirst", "I", false)
def tyX5 : Nat → FieldType := fun k => match k with
  | 0 => .int
  | 1 => .array .int
  | 2 => .int
  | 3 => .int
  | 4 => .int
  | 5 => .array .int
  | 6 => .int
  | 7 => .array .int
  | 8 => .array .int
  | 9 => .array .int
  | 10 => .array .int
  | 11 => .array .int
  | 12 => .int
  | 13 => .array .int
  | 14 => .array .boolean
  | 15 => .long
  | 16 => .int
  | 17 => .int
  | 18 => .int
  | 19 => .array .int
  | 20 => .int
  | _ => .int
abbrev wsX50 : List Cond := u_ws RX5 TX5 22
theorem nmX5 : ∀ a, a < 22 → ∀ b, b < 22 → a ≠ b → (TX5 a).2.1 ≠ (TX5 b).2.1 := by decide +kernel
theorem tyX5_ok : ∀ k, k < 22 → parseFieldDescriptor (TX5 k).2.2.1 = some (tyX5 k) := by decide +kernel
abbrev cX5_init : ByteArray := prog_7_method_1_code
def yX5_init : MethodName := ⟨RX5, "<init>", "()V"⟩
abbrev cX5_in : ByteArray := prog_7_method_3_code
def yX5_in : MethodName := ⟨RX5, "in", "(JJJ)Z"⟩
abbrev cX5_has : ByteArray := prog_7_method_4_code
def yX5_has : MethodName := ⟨RX5, "has", "(II)Z"⟩
abbrev cX5_many : ByteArray := prog_7_method_5_code
def yX5_many : MethodName := ⟨RX5, "many", "(I)I"⟩
abbrev cX5_noPerson : ByteArray := prog_7_method_6_code
def yX5_noPerson : MethodName := ⟨RX5, "noPerson", "(I)Z"⟩
abbrev cX5_everyone : ByteArray := prog_7_method_7_code
def yX5_everyone : MethodName := ⟨RX5, "everyone", "()I"⟩
abbrev cX5_write : ByteArray := prog_7_method_8_code
def yX5_write : MethodName := ⟨RX5, "write", "(I)I"⟩
abbrev cX5_wipe : ByteArray := prog_7_method_9_code
def yX5_wipe : MethodName := ⟨RX5, "wipe", "()I"⟩
abbrev cX5_figure : ByteArray := prog_7_method_10_code
def yX5_figure : MethodName := ⟨RX5, "figure", "(II)I"⟩
abbrev cX5_pairsOf : ByteArray := prog_7_method_11_code
def yX5_pairsOf : MethodName := ⟨RX5, "pairsOf", "(I)I"⟩
abbrev cX5_arePairs : ByteArray := prog_7_method_12_code
def yX5_arePairs : MethodName := ⟨RX5, "arePairs", "()Z"⟩
abbrev cX5_readPerson : ByteArray := prog_7_method_13_code
def yX5_readPerson : MethodName := ⟨RX5, "readPerson", "()Z"⟩
abbrev cX5_readKin : ByteArray := prog_7_method_14_code
def yX5_readKin : MethodName := ⟨RX5, "readKin", "()Z"⟩
abbrev cX5_readPart : ByteArray := prog_7_method_15_code
def yX5_readPart : MethodName := ⟨RX5, "readPart", "()Z"⟩
abbrev cX5_readLand : ByteArray := prog_7_method_16_code
def yX5_readLand : MethodName := ⟨RX5, "readLand", "()I"⟩
abbrev cX5_fault : ByteArray := prog_7_method_17_code
def yX5_fault : MethodName := ⟨RX5, "fault", "()I"⟩
abbrev cX5_land : ByteArray := prog_7_method_18_code
def yX5_land : MethodName := ⟨RX5, "land", "()I"⟩
abbrev cX5_ouncesOf : ByteArray := prog_7_method_19_code
def yX5_ouncesOf : MethodName := ⟨RX5, "ouncesOf", "([II)I"⟩
abbrev cX5_isFree : ByteArray := prog_7_method_20_code
def yX5_isFree : MethodName := ⟨RX5, "isFree", "([III)Z"⟩
abbrev cX5_mayWeep : ByteArray := prog_7_method_21_code
def yX5_mayWeep : MethodName := ⟨RX5, "mayWeep", "([III)Z"⟩
abbrev cX5_open : ByteArray := prog_7_method_22_code
def yX5_open : MethodName := ⟨RX5, "open", "([II)V"⟩
abbrev cX5_close : ByteArray := prog_7_method_23_code
def yX5_close : MethodName := ⟨RX5, "close", "([III)V"⟩
abbrev cX5_goWeep : ByteArray := prog_7_method_24_code
def yX5_goWeep : MethodName := ⟨RX5, "goWeep", "([III)I"⟩
abbrev cX5_goWeek : ByteArray := prog_7_method_25_code
def yX5_goWeek : MethodName := ⟨RX5, "goWeek", "([I)V"⟩
abbrev cX5_about : ByteArray := prog_7_method_26_code
def yX5_about : MethodName := ⟨RX5, "about", "(I)I"⟩
abbrev cX5_mayFor : ByteArray := prog_7_method_27_code
def yX5_mayFor : MethodName := ⟨RX5, "mayFor", "(I)I"⟩
abbrev cX5_person : ByteArray := prog_7_method_28_code
def yX5_person : MethodName := ⟨RX5, "person", "(II)I"⟩
abbrev cX5_owes : ByteArray := prog_7_method_29_code
def yX5_owes : MethodName := ⟨RX5, "owes", "(II)I"⟩
abbrev cX5_note : ByteArray := prog_7_method_30_code
def yX5_note : MethodName := ⟨RX5, "note", "()V"⟩
abbrev cX5_funeral : ByteArray := prog_7_method_31_code
def yX5_funeral : MethodName := ⟨RX5, "funeral", "(I)I"⟩
abbrev cX5_weep : ByteArray := prog_7_method_32_code
def yX5_weep : MethodName := ⟨RX5, "weep", "(II)I"⟩
abbrev cX5_onions : ByteArray := prog_7_method_33_code
def yX5_onions : MethodName := ⟨RX5, "onions", "(II)I"⟩
abbrev cX5_week : ByteArray := prog_7_method_34_code
def yX5_week : MethodName := ⟨RX5, "week", "()I"⟩
abbrev cX5_undo : ByteArray := prog_7_method_35_code
def yX5_undo : MethodName := ⟨RX5, "undo", "()I"⟩
abbrev cX5_begin : ByteArray := prog_7_method_36_code
def yX5_begin : MethodName := ⟨RX5, "begin", "()V"⟩
abbrev cX5_power : ByteArray := prog_7_method_37_code
def yX5_power : MethodName := ⟨RX5, "power", "(II)I"⟩
abbrev cX5_findServed : ByteArray := prog_7_method_38_code
def yX5_findServed : MethodName := ⟨RX5, "findServed", "([II)V"⟩
abbrev cX5_served : ByteArray := prog_7_method_39_code
def yX5_served : MethodName := ⟨RX5, "served", "(I)I"⟩
abbrev cX5_nobody : ByteArray := prog_7_method_40_code
def yX5_nobody : MethodName := ⟨RX5, "nobody", "(I)I"⟩
abbrev cX5_till : ByteArray := prog_7_method_41_code
def yX5_till : MethodName := ⟨RX5, "till", "(II)I"⟩
abbrev cX5_net : ByteArray := prog_7_method_42_code
def yX5_net : MethodName := ⟨RX5, "net", "(I)I"⟩
abbrev cX5_ring : ByteArray := prog_7_method_43_code
def yX5_ring : MethodName := ⟨RX5, "ring", "()I"⟩
abbrev cX5_orders : ByteArray := prog_7_method_44_code
def yX5_orders : MethodName := ⟨RX5, "orders", "(I)I"⟩
abbrev cX5_divisor : ByteArray := prog_7_method_45_code
def yX5_divisor : MethodName := ⟨RX5, "divisor", "(II)I"⟩
abbrev cX5_fraction : ByteArray := prog_7_method_46_code
def yX5_fraction : MethodName := ⟨RX5, "fraction", "(IIZ)I"⟩
abbrev cX5_share : ByteArray := prog_7_method_47_code
def yX5_share : MethodName := ⟨RX5, "share", "(IZ)I"⟩
abbrev cX5_weighed : ByteArray := prog_7_method_48_code
def yX5_weighed : MethodName := ⟨RX5, "weighed", "(III)I"⟩
abbrev cX5_whose : ByteArray := prog_7_method_49_code
def yX5_whose : MethodName := ⟨RX5, "whose", "(I)I"⟩
abbrev cX5_gainOf : ByteArray := prog_7_method_50_code
def yX5_gainOf : MethodName := ⟨RX5, "gainOf", "(IIIIIZ)I"⟩
abbrev cX5_findRests : ByteArray := prog_7_method_51_code
def yX5_findRests : MethodName := ⟨RX5, "findRests", "(III)V"⟩
abbrev cX5_rests : ByteArray := prog_7_method_52_code
def yX5_rests : MethodName := ⟨RX5, "rests", "(IIII)I"⟩
abbrev cX5_chance : ByteArray := prog_7_method_53_code
def yX5_chance : MethodName := ⟨RX5, "chance", "(IZ)I"⟩
abbrev cX5_seed : ByteArray := prog_7_method_54_code
def yX5_seed : MethodName := ⟨RX5, "seed", "(J)J"⟩
abbrev cX5_years : ByteArray := prog_7_method_55_code
def yX5_years : MethodName := ⟨RX5, "years", "(I)I"⟩
abbrev cX5_keep : ByteArray := prog_7_method_56_code
def yX5_keep : MethodName := ⟨RX5, "keep", "(I)I"⟩
abbrev cX5_again : ByteArray := prog_7_method_57_code
def yX5_again : MethodName := ⟨RX5, "again", "(I)I"⟩
def RL : String := "BorrowedTearsLaw"
abbrev cL_law : ByteArray := code
def yL_law : MethodName := ⟨RL, "law", "([I)Z"⟩
abbrev vwCl : List vw_C := [(RX0, TX0, 3), (RX1, TX1, 3), (RX2, TX2, 9), (RX3, TX3, 4), (RX4, TX4, 8), (RX5, TX5, 22)]
